theorem dX11_comes_0 : decode cX11_comes 0 = .ok (.aload_n 0, 1) := by decide +kernel
theorem dX11_comes_1 : decode cX11_comes 1 = .ok (.iload_n 1, 1) := by decide +kernel
theorem dX11_comes_2 : decode cX11_comes 2 = .ok (.invokevirtual 174, 3) := by decide +kernel
theorem dX11_comes_5 : decode cX11_comes 5 = .ok (.ifCond .ne 5, 3) := by decide +kernel
theorem dX11_comes_8 : decode cX11_comes 8 = .ok (.iconst (-1), 1) := by decide +kernel
theorem dX11_comes_9 : decode cX11_comes 9 = .ok (.ireturn, 1) := by decide +kernel
theorem dX11_comes_10 : decode cX11_comes 10 = .ok (.aload_n 0, 1) := by decide +kernel
theorem dX11_comes_11 : decode cX11_comes 11 = .ok (.getfield 9, 3) := by decide +kernel
theorem dX11_comes_14 : decode cX11_comes 14 = .ok (.aload_n 0, 1) := by decide +kernel
theorem dX11_comes_15 : decode cX11_comes 15 = .ok (.getfield 16, 3) := by decide +kernel
theorem dX11_comes_18 : decode cX11_comes 18 = .ok (.invokestatic 158, 3) := by decide +kernel
theorem dX11_comes_21 : decode cX11_comes 21 = .ok (.aload_n 0, 1) := by decide +kernel
theorem dX11_comes_22 : decode cX11_comes 22 = .ok (.iload_n 1, 1) := by decide +kernel
theorem dX11_comes_23 : decode cX11_comes 23 = .ok (.invokevirtual 196, 3) := by decide +kernel
theorem dX11_comes_26 : decode cX11_comes 26 = .ok (.istore_n 2, 1) := by decide +kernel
theorem dX11_comes_27 : decode cX11_comes 27 = .ok (.aload_n 0, 1) := by decide +kernel
theorem dX11_comes_28 : decode cX11_comes 28 = .ok (.getfield 16, 3) := by decide +kernel
theorem dX11_comes_31 : decode cX11_comes 31 = .ok (.aload_n 0, 1) := by decide +kernel
theorem dX11_comes_32 : decode cX11_comes 32 = .ok (.getfield 9, 3) := by decide +kernel
theorem dX11_comes_35 : decode cX11_comes 35 = .ok (.invokestatic 158, 3) := by decide +kernel
theorem dX11_comes_38 : decode cX11_comes 38 = .ok (.iload_n 2, 1) := by decide +kernel
theorem dX11_comes_39 : decode cX11_comes 39 = .ok (.ireturn, 1) := by decide +kernel
set_option maxRecDepth 20000 in
theorem ggX11_firstTo_X11_copies : GoodIn wsX11_firstTo wsX11_copies := goodIn_r _ [7] (by decide +kernel) (by decide +kernel)
set_option maxRecDepth 20000 in
theorem gX11_firstTo_X11_copies : GoodIn wsX11_firstTo (va_wsS RX11 158 yX11_copies wsX11_copies) := goodIn_app (goodIn_of _ (by decide +kernel)) ggX11_firstTo_X11_copies
set_option maxRecDepth 20000 in
theorem ggX11_firstTo_X11_step1 : GoodIn wsX11_firstTo wsX11_step1 := goodIn_r _ [11, 1, 3, 12, 13, 14, 6, 15, 16, 17, 18, 19, 20, 21, 22, 23, 24, 25, 26, 27, 28, 29, 30, 31, 32, 33, 34, 35, 36, 37, 38, 39, 40, 41, 42, 43, 44, 45, 46, 47, 48, 49, 50, 51, 52, 53, 54, 55, 56, 57, 58, 59, 60, 61, 62, 63, 64, 65, 66, 67, 68, 69, 70, 71, 72, 73, 74, 75, 76, 77, 78, 79, 80, 81, 82] (by decide +kernel) (by decide +kernel)
set_option maxRecDepth 20000 in
theorem gX11_firstTo_X11_step1 : GoodIn wsX11_firstTo (wsV RX11 103 RX11 yX11_step1 wsX11_step1) := goodIn_app (goodIn_of _ (by decide +kernel)) ggX11_firstTo_X11_step1
theorem dX11_firstTo_0 : decode cX11_firstTo 0 = .ok (.aload_n 0, 1) := by decide +kernel
theorem dX11_firstTo_1 : decode cX11_firstTo 1 = .ok (.getfield 9, 3) := by decide +kernel
theorem dX11_firstTo_4 : decode cX11_firstTo 4 = .ok (.aload_n 0, 1) := by decide +kernel
theorem dX11_firstTo_5 : decode cX11_firstTo 5 = .ok (.getfield 16, 3) := by decide +kernel
theorem dX11_firstTo_8 : decode cX11_firstTo 8 = .ok (.invokestatic 158, 3) := by decide +kernel
theorem dX11_firstTo_11 : decode cX11_firstTo 11 = .ok (.bipush (-3), 2) := by decide +kernel
theorem dX11_firstTo_13 : decode cX11_firstTo 13 = .ok (.istore_n 3, 1) := by decide +kernel
theorem dX11_firstTo_14 : decode cX11_firstTo 14 = .ok (.iconst 1, 1) := by decide +kernel
theorem dX11_firstTo_15 : decode cX11_firstTo 15 = .ok (.istore 4, 2) := by decide +kernel
theorem dX11_firstTo_17 : decode cX11_firstTo 17 = .ok (.iload 4, 2) := by decide +kernel
theorem dX11_firstTo_19 : decode cX11_firstTo 19 = .ok (.bipush 60, 2) := by decide +kernel
theorem dX11_firstTo_21 : decode cX11_firstTo 21 = .ok (.if_icmp .gt 37, 3) := by decide +kernel
theorem dX11_firstTo_24 : decode cX11_firstTo 24 = .ok (.iload_n 3, 1) := by decide +kernel
theorem dX11_firstTo_25 : decode cX11_firstTo 25 = .ok (.bipush (-3), 2) := by decide +kernel
theorem dX11_firstTo_27 : decode cX11_firstTo 27 = .ok (.if_icmp .ne 31, 3) := by decide +kernel
theorem dX11_firstTo_30 : decode cX11_firstTo 30 = .ok (.aload_n 0, 1) := by decide +kernel
theorem dX11_firstTo_31 : decode cX11_firstTo 31 = .ok (.invokevirtual 103, 3) := by decide +kernel
theorem dX11_firstTo_34 : decode cX11_firstTo 34 = .ok (.aload_n 0, 1) := by decide +kernel
theorem dX11_firstTo_35 : decode cX11_firstTo 35 = .ok (.getfield 22, 3) := by decide +kernel
theorem dX11_firstTo_38 : decode cX11_firstTo 38 = .ok (.iload_n 1, 1) := by decide +kernel
theorem dX11_firstTo_39 : decode cX11_firstTo 39 = .ok (.iaload, 1) := by decide +kernel
theorem dX11_firstTo_40 : decode cX11_firstTo 40 = .ok (.iload_n 2, 1) := by decide +kernel
theorem dX11_firstTo_41 : decode cX11_firstTo 41 = .ok (.if_icmp .ne 8, 3) := by decide +kernel
theorem dX11_firstTo_44 : decode cX11_firstTo 44 = .ok (.iload 4, 2) := by decide +kernel
theorem dX11_firstTo_46 : decode cX11_firstTo 46 = .ok (.goto 5, 3) := by decide +kernel
theorem dX11_firstTo_49 : decode cX11_firstTo 49 = .ok (.bipush (-3), 2) := by decide +kernel
theorem dX11_firstTo_51 : decode cX11_firstTo 51 = .ok (.istore_n 3, 1) := by decide +kernel
theorem dX11_firstTo_52 : decode cX11_firstTo 52 = .ok (.iinc 4 1, 3) := by decide +kernel
theorem dX11_firstTo_55 : decode cX11_firstTo 55 = .ok (.goto (-38), 3) := by decide +kernel
theorem dX11_firstTo_58 : decode cX11_firstTo 58 = .ok (.aload_n 0, 1) := by decide +kernel
theorem dX11_firstTo_59 : decode cX11_firstTo 59 = .ok (.getfield 16, 3) := by decide +kernel
theorem dX11_firstTo_62 : decode cX11_firstTo 62 = .ok (.aload_n 0, 1) := by decide +kernel
theorem dX11_firstTo_63 : decode cX11_firstTo 63 = .ok (.getfield 9, 3) := by decide +kernel
theorem dX11_firstTo_66 : decode cX11_firstTo 66 = .ok (.invokestatic 158, 3) := by decide +kernel
theorem dX11_firstTo_69 : decode cX11_firstTo 69 = .ok (.iload_n 3, 1) := by decide +kernel
theorem dX11_firstTo_70 : decode cX11_firstTo 70 = .ok (.ireturn, 1) := by decide +kernel
set_option maxRecDepth 20000 in
theorem ggX11_sits_X11_isGoer : GoodIn wsX11_sits wsX11_isGoer := goodIn_r _ [5, 6, 7, 8, 4, 9, 70, 71, 72, 73, 74, 75, 76, 77, 78, 79, 80, 81, 82, 83, 84, 85, 86, 87, 88, 89, 90, 91, 92, 93] (by decide +kernel) (by decide +kernel)
set_option maxRecDepth 20000 in
theorem gX11_sits_X11_isGoer : GoodIn wsX11_sits (wsV RX11 174 RX11 yX11_isGoer wsX11_isGoer) := goodIn_app (goodIn_of _ (by decide +kernel)) ggX11_sits_X11_isGoer
set_option maxRecDepth 20000 in
theorem ggX11_sits_X11_firstTo : GoodIn wsX11_sits wsX11_firstTo := goodIn_r _ [13, 6, 14, 15, 16, 17, 4, 18, 19, 20, 21, 22, 23, 24, 25, 26, 27, 28, 29, 30, 31, 32, 33, 34, 35, 36, 37, 38, 39, 40, 41, 42, 43, 44, 45, 46, 47, 48, 49, 50, 51, 52, 53, 54, 55, 56, 57, 58, 59, 60, 61, 62, 63, 64, 65, 66, 67, 68, 69, 70, 71, 72, 73, 74, 75, 76, 77, 78, 79, 80, 81, 82, 83, 84, 85, 86, 87, 88, 89, 90, 91, 92, 93] (by decide +kernel) (by decide +kernel)
set_option maxRecDepth 20000 in
theorem gX11_sits_X11_firstTo : GoodIn wsX11_sits (wsV RX11 199 RX11 yX11_firstTo wsX11_firstTo) := goodIn_app (goodIn_of _ (by decide +kernel)) ggX11_sits_X11_firstTo
theorem dX11_sits_0 : decode cX11_sits 0 = .ok (.aload_n 0, 1) := by decide +kernel
theorem dX11_sits_1 : decode cX11_sits 1 = .ok (.iload_n 1, 1) := by decide +kernel
theorem dX11_sits_2 : decode cX11_sits 2 = .ok (.invokevirtual 174, 3) := by decide +kernel
theorem dX11_sits_5 : decode cX11_sits 5 = .ok (.ifCond .eq 12, 3) := by decide +kernel
theorem dX11_sits_8 : decode cX11_sits 8 = .ok (.aload_n 0, 1) := by decide +kernel
theorem dX11_sits_9 : decode cX11_sits 9 = .ok (.iload_n 1, 1) := by decide +kernel
theorem dX11_sits_10 : decode cX11_sits 10 = .ok (.iconst 1, 1) := by decide +kernel
theorem dX11_sits_11 : decode cX11_sits 11 = .ok (.invokevirtual 199, 3) := by decide +kernel
theorem dX11_sits_14 : decode cX11_sits 14 = .ok (.goto 4, 3) := by decide +kernel
theorem dX11_sits_17 : decode cX11_sits 17 = .ok (.iconst (-1), 1) := by decide +kernel
theorem dX11_sits_18 : decode cX11_sits 18 = .ok (.ireturn, 1) := by decide +kernel
set_option maxRecDepth 20000 in
theorem ggX11_back_X11_isGoer : GoodIn wsX11_back wsX11_isGoer := goodIn_r _ [5, 6, 7, 8, 4, 9, 70, 71, 72, 73, 74, 75, 76, 77, 78, 79, 80, 81, 82, 83, 84, 85, 86, 87, 88, 89, 90, 91, 92, 93] (by decide +kernel) (by decide +kernel)
set_option maxRecDepth 20000 in
theorem gX11_back_X11_isGoer : GoodIn wsX11_back (wsV RX11 174 RX11 yX11_isGoer wsX11_isGoer) := goodIn_app (goodIn_of _ (by decide +kernel)) ggX11_back_X11_isGoer
set_option maxRecDepth 20000 in
theorem ggX11_back_X11_firstTo : GoodIn wsX11_back wsX11_firstTo := goodIn_r _ [13, 6, 14, 15, 16, 17, 4, 18, 19, 20, 21, 22, 23, 24, 25, 26, 27, 28, 29, 30, 31, 32, 33, 34, 35, 36, 37, 38, 39, 40, 41, 42, 43, 44, 45, 46, 47, 48, 49, 50, 51, 52, 53, 54, 55, 56, 57, 58, 59, 60, 61, 62, 63, 64, 65, 66, 67, 68, 69, 70, 71, 72, 73, 74, 75, 76, 77, 78, 79, 80, 81, 82, 83, 84, 85, 86, 87, 88, 89, 90, 91, 92, 93] (by decide +kernel) (by decide +kernel)
set_option maxRecDepth 20000 in
theorem gX11_back_X11_firstTo : GoodIn wsX11_back (wsV RX11 199 RX11 yX11_firstTo wsX11_firstTo) := goodIn_app (goodIn_of _ (by decide +kernel)) ggX11_back_X11_firstTo
theorem dX11_back_0 : decode cX11_back 0 = .ok (.aload_n 0, 1) := by decide +kernel
theorem dX11_back_1 : decode cX11_back 1 = .ok (.iload_n 1, 1) := by decide +kernel
theorem dX11_back_2 : decode cX11_back 2 = .ok (.invokevirtual 174, 3) := by decide +kernel
theorem dX11_back_5 : decode cX11_back 5 = .ok (.ifCond .eq 12, 3) := by decide +kernel
theorem dX11_back_8 : decode cX11_back 8 = .ok (.aload_n 0, 1) := by decide +kernel
theorem dX11_back_9 : decode cX11_back 9 = .ok (.iload_n 1, 1) := by decide +kernel
theorem dX11_back_10 : decode cX11_back 10 = .ok (.iconst 2, 1) := by decide +kernel
theorem dX11_back_11 : decode cX11_back 11 = .ok (.invokevirtual 199, 3) := by decide +kernel
theorem dX11_back_14 : decode cX11_back 14 = .ok (.goto 4, 3) := by decide +kernel
theorem dX11_back_17 : decode cX11_back 17 = .ok (.iconst (-1), 1) := by decide +kernel
theorem dX11_back_18 : decode cX11_back 18 = .ok (.ireturn, 1) := by decide +kernel
set_option maxRecDepth 20000 in
theorem ggX11_passedBy_X11_goes : GoodIn wsX11_passedBy wsX11_goes := goodIn_r _ [7, 8, 9, 10, 6, 11, 2, 12, 13, 14, 15, 16, 17, 18, 19, 20, 21, 22, 23, 24, 25, 26, 27, 28, 29, 30, 31, 32, 33, 34, 35, 36, 37, 38, 39, 40, 41, 42, 43, 44, 45, 46, 47, 48, 49, 50, 51, 52, 53, 54, 55, 56, 57, 58, 59, 70, 71, 72, 73, 74, 75, 76, 77, 78, 79, 80, 81, 82, 83, 84, 85, 86, 87, 88, 89, 90, 91, 92, 93] (by decide +kernel) (by decide +kernel)
set_option maxRecDepth 20000 in
theorem gX11_passedBy_X11_goes : GoodIn wsX11_passedBy (wsV RX11 177 RX11 yX11_goes wsX11_goes) := goodIn_app (goodIn_of _ (by decide +kernel)) ggX11_passedBy_X11_goes
set_option maxRecDepth 20000 in
theorem ggX11_passedBy_X11_setOf : GoodIn wsX11_passedBy wsX11_setOf := goodIn_r _ [63, 2, 13, 14, 15, 6, 16, 17, 18, 19, 20, 29, 30, 31, 32, 33, 34, 35, 36, 37, 38, 39, 40, 41, 42, 43, 44, 70, 71, 72, 73, 74, 75, 76, 77, 78, 79, 80, 81, 82, 83, 84, 85, 86, 87, 88, 89, 90, 91, 92, 93] (by decide +kernel) (by decide +kernel)
set_option maxRecDepth 20000 in
theorem gX11_passedBy_X11_setOf : GoodIn wsX11_passedBy (wsV RX11 180 RX11 yX11_setOf wsX11_setOf) := goodIn_app (goodIn_of _ (by decide +kernel)) ggX11_passedBy_X11_setOf
set_option maxRecDepth 20000 in
theorem ggX11_passedBy_X11_ones : GoodIn wsX11_passedBy wsX11_ones := goodIn_r _ [66] (by decide +kernel) (by decide +kernel)
set_option maxRecDepth 20000 in
theorem gX11_passedBy_X11_ones : GoodIn wsX11_passedBy (va_wsS RX11 183 yX11_ones wsX11_ones) := goodIn_app (goodIn_of _ (by decide +kernel)) ggX11_passedBy_X11_ones
set_option maxRecDepth 20000 in
theorem ggX11_passedBy_X11_copies : GoodIn wsX11_passedBy wsX11_copies := goodIn_r _ [69] (by decide +kernel) (by decide +kernel)
set_option maxRecDepth 20000 in
theorem gX11_passedBy_X11_copies : GoodIn wsX11_passedBy (va_wsS RX11 158 yX11_copies wsX11_copies) := goodIn_app (goodIn_of _ (by decide +kernel)) ggX11_passedBy_X11_copies
theorem dX11_passedBy_0 : decode cX11_passedBy 0 = .ok (.aload_n 0, 1) := by decide +kernel
theorem dX11_passedBy_1 : decode cX11_passedBy 1 = .ok (.iload_n 1, 1) := by decide +kernel
theorem dX11_passedBy_2 : decode cX11_passedBy 2 = .ok (.invokevirtual 177, 3) := by decide +kernel
theorem dX11_passedBy_5 : decode cX11_passedBy 5 = .ok (.aload_n 0, 1) := by decide +kernel
theorem dX11_passedBy_6 : decode cX11_passedBy 6 = .ok (.iconst 1, 1) := by decide +kernel
theorem dX11_passedBy_7 : decode cX11_passedBy 7 = .ok (.invokevirtual 180, 3) := by decide +kernel
theorem dX11_passedBy_10 : decode cX11_passedBy 10 = .ok (.invokestatic 183, 3) := by decide +kernel
theorem dX11_passedBy_13 : decode cX11_passedBy 13 = .ok (.istore_n 2, 1) := by decide +kernel
theorem dX11_passedBy_14 : decode cX11_passedBy 14 = .ok (.aload_n 0, 1) := by decide +kernel
theorem dX11_passedBy_15 : decode cX11_passedBy 15 = .ok (.getfield 16, 3) := by decide +kernel
theorem dX11_passedBy_18 : decode cX11_passedBy 18 = .ok (.aload_n 0, 1) := by decide +kernel
theorem dX11_passedBy_19 : decode cX11_passedBy 19 = .ok (.getfield 9, 3) := by decide +kernel
theorem dX11_passedBy_22 : decode cX11_passedBy 22 = .ok (.invokestatic 158, 3) := by decide +kernel
theorem dX11_passedBy_25 : decode cX11_passedBy 25 = .ok (.iload_n 2, 1) := by decide +kernel
theorem dX11_passedBy_26 : decode cX11_passedBy 26 = .ok (.ireturn, 1) := by decide +kernel
set_option maxRecDepth 20000 in
theorem ggX11_passed_X11_in1 : GoodIn wsX11_passed wsX11_in1 := goodIn_r _ [6] (by decide +kernel) (by decide +kernel)
set_option maxRecDepth 20000 in
theorem gX11_passed_X11_in1 : GoodIn wsX11_passed (va_wsS RX11 57 yX11_in1 wsX11_in1) := goodIn_app (goodIn_of _ (by decide +kernel)) ggX11_passed_X11_in1
set_option maxRecDepth 20000 in
theorem ggX11_passed_X11_copies : GoodIn wsX11_passed wsX11_copies := goodIn_r _ [9] (by decide +kernel) (by decide +kernel)
set_option maxRecDepth 20000 in
theorem gX11_passed_X11_copies : GoodIn wsX11_passed (va_wsS RX11 158 yX11_copies wsX11_copies) := goodIn_app (goodIn_of _ (by decide +kernel)) ggX11_passed_X11_copies
set_option maxRecDepth 20000 in
theorem ggX11_passed_X11_passedBy : GoodIn wsX11_passed wsX11_passedBy := goodIn_r _ [13, 2, 1, 14, 15, 16, 5, 17, 18, 19, 20, 21, 22, 23, 24, 25, 26, 27, 28, 29, 30, 31, 32, 33, 34, 35, 36, 37, 38, 39, 40, 41, 42, 43, 44, 45, 46, 47, 48, 49, 50, 51, 52, 53, 54, 55, 56, 57, 58, 59, 60, 61, 62, 63, 64, 65, 66, 67, 68, 69, 70, 71, 72, 73, 74, 75, 76, 7, 8, 9, 77, 78, 79, 80, 81, 82, 83, 84, 85, 86, 87, 88, 89, 90, 91, 92, 93, 94, 95, 96, 97, 98, 99, 100] (by decide +kernel) (by decide +kernel)
set_option maxRecDepth 20000 in
theorem gX11_passed_X11_passedBy : GoodIn wsX11_passed (wsV RX11 202 RX11 yX11_passedBy wsX11_passedBy) := goodIn_app (goodIn_of _ (by decide +kernel)) ggX11_passed_X11_passedBy
theorem dX11_passed_0 : decode cX11_passed 0 = .ok (.iload_n 1, 1) := by decide +kernel
theorem dX11_passed_1 : decode cX11_passed 1 = .ok (.iconst 0, 1) := by decide +kernel
theorem dX11_passed_2 : decode cX11_passed 2 = .ok (.bipush 60, 2) := by decide +kernel
theorem dX11_passed_4 : decode cX11_passed 4 = .ok (.invokestatic 57, 3) := by decide +kernel
theorem dX11_passed_7 : decode cX11_passed 7 = .ok (.ifCond .ne 5, 3) := by decide +kernel
theorem dX11_passed_10 : decode cX11_passed 10 = .ok (.iconst (-1), 1) := by decide +kernel
theorem dX11_passed_11 : decode cX11_passed 11 = .ok (.ireturn, 1) := by decide +kernel
theorem dX11_passed_12 : decode cX11_passed 12 = .ok (.aload_n 0, 1) := by decide +kernel
theorem dX11_passed_13 : decode cX11_passed 13 = .ok (.getfield 9, 3) := by decide +kernel
theorem dX11_passed_16 : decode cX11_passed 16 = .ok (.aload_n 0, 1) := by decide +kernel
theorem dX11_passed_17 : decode cX11_passed 17 = .ok (.getfield 16, 3) := by decide +kernel
theorem dX11_passed_20 : decode cX11_passed 20 = .ok (.invokestatic 158, 3) := by decide +kernel
theorem dX11_passed_23 : decode cX11_passed 23 = .ok (.aload_n 0, 1) := by decide +kernel
theorem dX11_passed_24 : decode cX11_passed 24 = .ok (.iload_n 1, 1) := by decide +kernel
theorem dX11_passed_25 : decode cX11_passed 25 = .ok (.invokevirtual 202, 3) := by decide +kernel
theorem dX11_passed_28 : decode cX11_passed 28 = .ok (.ireturn, 1) := by decide +kernel
set_option maxRecDepth 20000 in
theorem ggX11_armsFor_X11_isRest : GoodIn wsX11_armsFor wsX11_isRest := goodIn_r _ [6, 7, 8, 5, 9] (by decide +kernel) (by decide +kernel)
set_option maxRecDepth 20000 in
theorem gX11_armsFor_X11_isRest : GoodIn wsX11_armsFor (va_wsS RX11 171 yX11_isRest wsX11_isRest) := goodIn_app (goodIn_of _ (by decide +kernel)) ggX11_armsFor_X11_isRest
set_option maxRecDepth 20000 in
theorem ggX11_armsFor_X11_in1 : GoodIn wsX11_armsFor wsX11_in1 := goodIn_r _ [9] (by decide +kernel) (by decide +kernel)
set_option maxRecDepth 20000 in
theorem gX11_armsFor_X11_in1 : GoodIn wsX11_armsFor (va_wsS RX11 57 yX11_in1 wsX11_in1) := goodIn_app (goodIn_of _ (by decide +kernel)) ggX11_armsFor_X11_in1
set_option maxRecDepth 20000 in
theorem ggX11_armsFor_X11_copies : GoodIn wsX11_armsFor wsX11_copies := goodIn_r _ [12] (by decide +kernel) (by decide +kernel)
set_option maxRecDepth 20000 in
theorem gX11_armsFor_X11_copies : GoodIn wsX11_armsFor (va_wsS RX11 158 yX11_copies wsX11_copies) := goodIn_app (goodIn_of _ (by decide +kernel)) ggX11_armsFor_X11_copies
set_option maxRecDepth 20000 in
theorem ggX11_armsFor_X11_passedBy : GoodIn wsX11_armsFor wsX11_passedBy := goodIn_r _ [16, 2, 1, 17, 18, 19, 5, 20, 21, 22, 23, 24, 25, 26, 27, 28, 29, 30, 31, 32, 33, 34, 35, 36, 37, 38, 39, 40, 41, 42, 43, 44, 45, 46, 47, 48, 49, 50, 51, 52, 53, 54, 55, 56, 57, 58, 59, 60, 61, 62, 63, 64, 65, 66, 67, 68, 69, 70, 71, 72, 73, 74, 75, 76, 77, 78, 79, 10, 11, 12, 80, 81, 82, 83, 84, 85, 86, 87, 88, 89, 90, 91, 92, 93, 94, 95, 96, 97, 98, 99, 100, 101, 102, 103] (by decide +kernel) (by decide +kernel)
set_option maxRecDepth 20000 in
theorem gX11_armsFor_X11_passedBy : GoodIn wsX11_armsFor (wsV RX11 202 RX11 yX11_passedBy wsX11_passedBy) := goodIn_app (goodIn_of _ (by decide +kernel)) ggX11_armsFor_X11_passedBy
theorem dX11_armsFor_0 : decode cX11_armsFor 0 = .ok (.iload_n 1, 1) := by decide +kernel
theorem dX11_armsFor_1 : decode cX11_armsFor 1 = .ok (.invokestatic 171, 3) := by decide +kernel
theorem dX11_armsFor_4 : decode cX11_armsFor 4 = .ok (.ifCond .eq 13, 3) := by decide +kernel
theorem dX11_armsFor_7 : decode cX11_armsFor 7 = .ok (.iload_n 2, 1) := by decide +kernel
theorem dX11_armsFor_8 : decode cX11_armsFor 8 = .ok (.iconst 1, 1) := by decide +kernel
theorem dX11_armsFor_9 : decode cX11_armsFor 9 = .ok (.bipush 40, 2) := by decide +kernel
theorem dX11_armsFor_11 : decode cX11_armsFor 11 = .ok (.invokestatic 57, 3) := by decide +kernel
theorem dX11_armsFor_14 : decode cX11_armsFor 14 = .ok (.ifCond .ne 5, 3) := by decide +kernel
theorem dX11_armsFor_17 : decode cX11_armsFor 17 = .ok (.iconst (-1), 1) := by decide +kernel
theorem dX11_armsFor_18 : decode cX11_armsFor 18 = .ok (.ireturn, 1) := by decide +kernel
theorem dX11_armsFor_19 : decode cX11_armsFor 19 = .ok (.aload_n 0, 1) := by decide +kernel
theorem dX11_armsFor_20 : decode cX11_armsFor 20 = .ok (.getfield 9, 3) := by decide +kernel
theorem dX11_armsFor_23 : decode cX11_armsFor 23 = .ok (.aload_n 0, 1) := by decide +kernel
theorem dX11_armsFor_24 : decode cX11_armsFor 24 = .ok (.getfield 16, 3) := by decide +kernel
theorem dX11_armsFor_27 : decode cX11_armsFor 27 = .ok (.invokestatic 158, 3) := by decide +kernel
theorem dX11_armsFor_30 : decode cX11_armsFor 30 = .ok (.iconst 0, 1) := by decide +kernel
theorem dX11_armsFor_31 : decode cX11_armsFor 31 = .ok (.istore_n 3, 1) := by decide +kernel
theorem dX11_armsFor_32 : decode cX11_armsFor 32 = .ok (.iconst (-1), 1) := by decide +kernel
theorem dX11_armsFor_33 : decode cX11_armsFor 33 = .ok (.istore 4, 2) := by decide +kernel
theorem dX11_armsFor_35 : decode cX11_armsFor 35 = .ok (.iconst 0, 1) := by decide +kernel
theorem dX11_armsFor_36 : decode cX11_armsFor 36 = .ok (.istore 5, 2) := by decide +kernel
theorem dX11_armsFor_38 : decode cX11_armsFor 38 = .ok (.iload 5, 2) := by decide +kernel
theorem dX11_armsFor_40 : decode cX11_armsFor 40 = .ok (.bipush 9, 2) := by decide +kernel
theorem dX11_armsFor_42 : decode cX11_armsFor 42 = .ok (.if_icmp .gt 57, 3) := by decide +kernel
theorem dX11_armsFor_45 : decode cX11_armsFor 45 = .ok (.aload_n 0, 1) := by decide +kernel
theorem dX11_armsFor_46 : decode cX11_armsFor 46 = .ok (.getfield 9, 3) := by decide +kernel
theorem dX11_armsFor_49 : decode cX11_armsFor 49 = .ok (.bipush 13, 2) := by decide +kernel
theorem dX11_armsFor_51 : decode cX11_armsFor 51 = .ok (.iload_n 1, 1) := by decide +kernel
theorem dX11_armsFor_52 : decode cX11_armsFor 52 = .ok (.iadd, 1) := by decide +kernel
theorem dX11_armsFor_53 : decode cX11_armsFor 53 = .ok (.iload 5, 2) := by decide +kernel
theorem dX11_armsFor_55 : decode cX11_armsFor 55 = .ok (.iastore, 1) := by decide +kernel
theorem dX11_armsFor_56 : decode cX11_armsFor 56 = .ok (.aload_n 0, 1) := by decide +kernel
theorem dX11_armsFor_57 : decode cX11_armsFor 57 = .ok (.iload_n 2, 1) := by decide +kernel
theorem dX11_armsFor_58 : decode cX11_armsFor 58 = .ok (.invokevirtual 202, 3) := by decide +kernel
theorem dX11_armsFor_61 : decode cX11_armsFor 61 = .ok (.istore 6, 2) := by decide +kernel
theorem dX11_armsFor_63 : decode cX11_armsFor 63 = .ok (.iload 6, 2) := by decide +kernel
theorem dX11_armsFor_65 : decode cX11_armsFor 65 = .ok (.iload 4, 2) := by decide +kernel
theorem dX11_armsFor_67 : decode cX11_armsFor 67 = .ok (.if_icmp .le 8, 3) := by decide +kernel
theorem dX11_armsFor_70 : decode cX11_armsFor 70 = .ok (.iload 5, 2) := by decide +kernel
theorem dX11_armsFor_72 : decode cX11_armsFor 72 = .ok (.goto 4, 3) := by decide +kernel
theorem dX11_armsFor_75 : decode cX11_armsFor 75 = .ok (.iload_n 3, 1) := by decide +kernel
theorem dX11_armsFor_76 : decode cX11_armsFor 76 = .ok (.istore_n 3, 1) := by decide +kernel
theorem dX11_armsFor_77 : decode cX11_armsFor 77 = .ok (.iload 6, 2) := by decide +kernel
theorem dX11_armsFor_79 : decode cX11_armsFor 79 = .ok (.iload 4, 2) := by decide +kernel
theorem dX11_armsFor_81 : decode cX11_armsFor 81 = .ok (.if_icmp .le 8, 3) := by decide +kernel
theorem dX11_armsFor_84 : decode cX11_armsFor 84 = .ok (.iload 6, 2) := by decide +kernel
theorem dX11_armsFor_86 : decode cX11_armsFor 86 = .ok (.goto 5, 3) := by decide +kernel
theorem dX11_armsFor_89 : decode cX11_armsFor 89 = .ok (.iload 4, 2) := by decide +kernel
theorem dX11_armsFor_91 : decode cX11_armsFor 91 = .ok (.istore 4, 2) := by decide +kernel
theorem dX11_armsFor_93 : decode cX11_armsFor 93 = .ok (.iinc 5 1, 3) := by decide +kernel
theorem dX11_armsFor_96 : decode cX11_armsFor 96 = .ok (.goto (-58), 3) := by decide +kernel
theorem dX11_armsFor_99 : decode cX11_armsFor 99 = .ok (.iload_n 3, 1) := by decide +kernel
theorem dX11_armsFor_100 : decode cX11_armsFor 100 = .ok (.ireturn, 1) := by decide +kernel
set_option maxRecDepth 20000 in
theorem ggX11_comesWithin_X11_goes : GoodIn wsX11_comesWithin wsX11_goes := goodIn_r _ [7, 8, 9, 10, 6, 11, 2, 12, 13, 14, 15, 16, 17, 18, 19, 20, 21, 22, 23, 24, 25, 26, 27, 28, 29, 30, 31, 32, 33, 34, 35, 36, 37, 38, 39, 40, 41, 42, 43, 44, 45, 46, 47, 48, 49, 50, 51, 52, 53, 54, 55, 56, 57, 58, 59, 63, 64, 65, 66, 67, 68, 69, 70, 71, 72, 73, 74, 75, 76, 77, 78, 79, 80, 81, 82, 83, 84, 85, 86] (by decide +kernel) (by decide +kernel)
set_option maxRecDepth 20000 in
theorem gX11_comesWithin_X11_goes : GoodIn wsX11_comesWithin (wsV RX11 177 RX11 yX11_goes wsX11_goes) := goodIn_app (goodIn_of _ (by decide +kernel)) ggX11_comesWithin_X11_goes
set_option maxRecDepth 20000 in
theorem ggX11_comesWithin_X11_isThrough : GoodIn wsX11_comesWithin wsX11_isThrough := goodIn_r _ [16, 17, 18, 19, 6, 20, 2, 63, 64, 65, 66, 67, 68, 69, 70, 71, 72, 73, 74, 75, 76, 77, 78, 79, 80, 81, 82, 83, 84, 85, 86] (by decide +kernel) (by decide +kernel)
set_option maxRecDepth 20000 in
theorem gX11_comesWithin_X11_isThrough : GoodIn wsX11_comesWithin (wsV RX11 96 RX11 yX11_isThrough wsX11_isThrough) := goodIn_app (goodIn_of _ (by decide +kernel)) ggX11_comesWithin_X11_isThrough
set_option maxRecDepth 20000 in
theorem ggX11_comesWithin_X11_copies : GoodIn wsX11_comesWithin wsX11_copies := goodIn_r _ [62] (by decide +kernel) (by decide +kernel)
set_option maxRecDepth 20000 in
theorem gX11_comesWithin_X11_copies : GoodIn wsX11_comesWithin (va_wsS RX11 158 yX11_copies wsX11_copies) := goodIn_app (goodIn_of _ (by decide +kernel)) ggX11_comesWithin_X11_copies
theorem dX11_comesWithin_0 : decode cX11_comesWithin 0 = .ok (.aload_n 0, 1) := by decide +kernel
theorem dX11_comesWithin_1 : decode cX11_comesWithin 1 = .ok (.iload_n 2, 1) := by decide +kernel
theorem dX11_comesWithin_2 : decode cX11_comesWithin 2 = .ok (.invokevirtual 177, 3) := by decide +kernel
theorem dX11_comesWithin_5 : decode cX11_comesWithin 5 = .ok (.aload_n 0, 1) := by decide +kernel
theorem dX11_comesWithin_6 : decode cX11_comesWithin 6 = .ok (.iload_n 1, 1) := by decide +kernel
theorem dX11_comesWithin_7 : decode cX11_comesWithin 7 = .ok (.invokevirtual 96, 3) := by decide +kernel
theorem dX11_comesWithin_10 : decode cX11_comesWithin 10 = .ok (.istore_n 3, 1) := by decide +kernel
theorem dX11_comesWithin_11 : decode cX11_comesWithin 11 = .ok (.aload_n 0, 1) := by decide +kernel
theorem dX11_comesWithin_12 : decode cX11_comesWithin 12 = .ok (.getfield 16, 3) := by decide +kernel
theorem dX11_comesWithin_15 : decode cX11_comesWithin 15 = .ok (.aload_n 0, 1) := by decide +kernel
theorem dX11_comesWithin_16 : decode cX11_comesWithin 16 = .ok (.getfield 9, 3) := by decide +kernel
theorem dX11_comesWithin_19 : decode cX11_comesWithin 19 = .ok (.invokestatic 158, 3) := by decide +kernel
theorem dX11_comesWithin_22 : decode cX11_comesWithin 22 = .ok (.iload_n 3, 1) := by decide +kernel
theorem dX11_comesWithin_23 : decode cX11_comesWithin 23 = .ok (.ireturn, 1) := by decide +kernel
set_option maxRecDepth 20000 in
theorem ggX11_fogFor_X11_isRest : GoodIn wsX11_fogFor wsX11_isRest := goodIn_r _ [6, 7, 8, 5, 9] (by decide +kernel) (by decide +kernel)
set_option maxRecDepth 20000 in
theorem gX11_fogFor_X11_isRest : GoodIn wsX11_fogFor (va_wsS RX11 171 yX11_isRest wsX11_isRest) := goodIn_app (goodIn_of _ (by decide +kernel)) ggX11_fogFor_X11_isRest
set_option maxRecDepth 20000 in
theorem ggX11_fogFor_X11_isGoer : GoodIn wsX11_fogFor wsX11_isGoer := goodIn_r _ [13, 1, 7, 8, 5, 9, 77, 78, 79, 80, 81, 82, 83, 84, 85, 86, 87, 88, 89, 90, 91, 92, 93, 94, 95, 96, 97, 98, 99, 100] (by decide +kernel) (by decide +kernel)
set_option maxRecDepth 20000 in
theorem gX11_fogFor_X11_isGoer : GoodIn wsX11_fogFor (wsV RX11 174 RX11 yX11_isGoer wsX11_isGoer) := goodIn_app (goodIn_of _ (by decide +kernel)) ggX11_fogFor_X11_isGoer
set_option maxRecDepth 20000 in
theorem ggX11_fogFor_X11_in1 : GoodIn wsX11_fogFor wsX11_in1 := goodIn_r _ [9] (by decide +kernel) (by decide +kernel)
set_option maxRecDepth 20000 in
theorem gX11_fogFor_X11_in1 : GoodIn wsX11_fogFor (va_wsS RX11 57 yX11_in1 wsX11_in1) := goodIn_app (goodIn_of _ (by decide +kernel)) ggX11_fogFor_X11_in1
set_option maxRecDepth 20000 in
theorem ggX11_fogFor_X11_copies : GoodIn wsX11_fogFor wsX11_copies := goodIn_r _ [16] (by decide +kernel) (by decide +kernel)
set_option maxRecDepth 20000 in
theorem gX11_fogFor_X11_copies : GoodIn wsX11_fogFor (va_wsS RX11 158 yX11_copies wsX11_copies) := goodIn_app (goodIn_of _ (by decide +kernel)) ggX11_fogFor_X11_copies
set_option maxRecDepth 20000 in
theorem ggX11_fogFor_X11_comesWithin : GoodIn wsX11_fogFor wsX11_comesWithin := goodIn_r _ [20, 2, 1, 21, 22, 23, 5, 24, 25, 26, 27, 28, 29, 30, 31, 32, 33, 34, 35, 36, 37, 38, 39, 40, 41, 42, 43, 44, 45, 46, 47, 48, 49, 50, 51, 52, 53, 54, 55, 56, 57, 58, 59, 60, 61, 62, 63, 64, 65, 66, 67, 68, 69, 70, 71, 72, 73, 74, 75, 76, 14, 15, 16, 77, 78, 79, 80, 81, 82, 83, 84, 85, 86, 87, 88, 89, 90, 91, 92, 93, 94, 95, 96, 97, 98, 99, 100] (by decide +kernel) (by decide +kernel)
set_option maxRecDepth 20000 in
theorem gX11_fogFor_X11_comesWithin : GoodIn wsX11_fogFor (wsV RX11 205 RX11 yX11_comesWithin wsX11_comesWithin) := goodIn_app (goodIn_of _ (by decide +kernel)) ggX11_fogFor_X11_comesWithin
theorem dX11_fogFor_0 : decode cX11_fogFor 0 = .ok (.iload_n 1, 1) := by decide +kernel
theorem dX11_fogFor_1 : decode cX11_fogFor 1 = .ok (.invokestatic 171, 3) := by decide +kernel
theorem dX11_fogFor_4 : decode cX11_fogFor 4 = .ok (.ifCond .eq 21, 3) := by decide +kernel
theorem dX11_fogFor_7 : decode cX11_fogFor 7 = .ok (.aload_n 0, 1) := by decide +kernel
theorem dX11_fogFor_8 : decode cX11_fogFor 8 = .ok (.iload_n 2, 1) := by decide +kernel
theorem dX11_fogFor_9 : decode cX11_fogFor 9 = .ok (.invokevirtual 174, 3) := by decide +kernel
theorem dX11_fogFor_12 : decode cX11_fogFor 12 = .ok (.ifCond .eq 13, 3) := by decide +kernel
theorem dX11_fogFor_15 : decode cX11_fogFor 15 = .ok (.iload_n 3, 1) := by decide +kernel
theorem dX11_fogFor_16 : decode cX11_fogFor 16 = .ok (.iconst 0, 1) := by decide +kernel
theorem dX11_fogFor_17 : decode cX11_fogFor 17 = .ok (.bipush 40, 2) := by decide +kernel
theorem dX11_fogFor_19 : decode cX11_fogFor 19 = .ok (.invokestatic 57, 3) := by decide +kernel
theorem dX11_fogFor_22 : decode cX11_fogFor 22 = .ok (.ifCond .ne 5, 3) := by decide +kernel
theorem dX11_fogFor_25 : decode cX11_fogFor 25 = .ok (.iconst (-1), 1) := by decide +kernel
theorem dX11_fogFor_26 : decode cX11_fogFor 26 = .ok (.ireturn, 1) := by decide +kernel
theorem dX11_fogFor_27 : decode cX11_fogFor 27 = .ok (.aload_n 0, 1) := by decide +kernel
theorem dX11_fogFor_28 : decode cX11_fogFor 28 = .ok (.getfield 9, 3) := by decide +kernel
theorem dX11_fogFor_31 : decode cX11_fogFor 31 = .ok (.aload_n 0, 1) := by decide +kernel
theorem dX11_fogFor_32 : decode cX11_fogFor 32 = .ok (.getfield 16, 3) := by decide +kernel
theorem dX11_fogFor_35 : decode cX11_fogFor 35 = .ok (.invokestatic 158, 3) := by decide +kernel
theorem dX11_fogFor_38 : decode cX11_fogFor 38 = .ok (.bipush 9, 2) := by decide +kernel
theorem dX11_fogFor_40 : decode cX11_fogFor 40 = .ok (.istore 4, 2) := by decide +kernel
theorem dX11_fogFor_42 : decode cX11_fogFor 42 = .ok (.iload 4, 2) := by decide +kernel
theorem dX11_fogFor_44 : decode cX11_fogFor 44 = .ok (.ifCond .lt 32, 3) := by decide +kernel
theorem dX11_fogFor_47 : decode cX11_fogFor 47 = .ok (.aload_n 0, 1) := by decide +kernel
theorem dX11_fogFor_48 : decode cX11_fogFor 48 = .ok (.getfield 9, 3) := by decide +kernel
theorem dX11_fogFor_51 : decode cX11_fogFor 51 = .ok (.bipush 7, 2) := by decide +kernel
theorem dX11_fogFor_53 : decode cX11_fogFor 53 = .ok (.iload_n 1, 1) := by decide +kernel
theorem dX11_fogFor_54 : decode cX11_fogFor 54 = .ok (.iadd, 1) := by decide +kernel
theorem dX11_fogFor_55 : decode cX11_fogFor 55 = .ok (.iload 4, 2) := by decide +kernel
theorem dX11_fogFor_57 : decode cX11_fogFor 57 = .ok (.iastore, 1) := by decide +kernel
theorem dX11_fogFor_58 : decode cX11_fogFor 58 = .ok (.aload_n 0, 1) := by decide +kernel
theorem dX11_fogFor_59 : decode cX11_fogFor 59 = .ok (.iload_n 2, 1) := by decide +kernel
theorem dX11_fogFor_60 : decode cX11_fogFor 60 = .ok (.iload_n 3, 1) := by decide +kernel
theorem dX11_fogFor_61 : decode cX11_fogFor 61 = .ok (.invokevirtual 205, 3) := by decide +kernel
theorem dX11_fogFor_64 : decode cX11_fogFor 64 = .ok (.ifCond .eq 6, 3) := by decide +kernel
theorem dX11_fogFor_67 : decode cX11_fogFor 67 = .ok (.iload 4, 2) := by decide +kernel
theorem dX11_fogFor_69 : decode cX11_fogFor 69 = .ok (.ireturn, 1) := by decide +kernel
theorem dX11_fogFor_70 : decode cX11_fogFor 70 = .ok (.iinc 4 (-1), 3) := by decide +kernel
theorem dX11_fogFor_73 : decode cX11_fogFor 73 = .ok (.goto (-31), 3) := by decide +kernel
theorem dX11_fogFor_76 : decode cX11_fogFor 76 = .ok (.bipush (-3), 2) := by decide +kernel
theorem dX11_fogFor_78 : decode cX11_fogFor 78 = .ok (.ireturn, 1) := by decide +kernel
set_option maxRecDepth 20000 in
theorem ggX11_faithFor_X11_isGoer : GoodIn wsX11_faithFor wsX11_isGoer := goodIn_r _ [7, 1, 8, 9, 6, 10, 74, 75, 76, 77, 78, 79, 80, 81, 82, 83, 84, 85, 86, 87, 88, 89, 90, 91, 92, 93, 94, 95, 96, 97] (by decide +kernel) (by decide +kernel)
set_option maxRecDepth 20000 in
theorem gX11_faithFor_X11_isGoer : GoodIn wsX11_faithFor (wsV RX11 174 RX11 yX11_isGoer wsX11_isGoer) := goodIn_app (goodIn_of _ (by decide +kernel)) ggX11_faithFor_X11_isGoer
set_option maxRecDepth 20000 in
theorem ggX11_faithFor_X11_in1 : GoodIn wsX11_faithFor wsX11_in1 := goodIn_r _ [10] (by decide +kernel) (by decide +kernel)
set_option maxRecDepth 20000 in
theorem gX11_faithFor_X11_in1 : GoodIn wsX11_faithFor (va_wsS RX11 57 yX11_in1 wsX11_in1) := goodIn_app (goodIn_of _ (by decide +kernel)) ggX11_faithFor_X11_in1
set_option maxRecDepth 20000 in
theorem ggX11_faithFor_X11_copies : GoodIn wsX11_faithFor wsX11_copies := goodIn_r _ [13] (by decide +kernel) (by decide +kernel)
set_option maxRecDepth 20000 in
theorem gX11_faithFor_X11_copies : GoodIn wsX11_faithFor (va_wsS RX11 158 yX11_copies wsX11_copies) := goodIn_app (goodIn_of _ (by decide +kernel)) ggX11_faithFor_X11_copies
set_option maxRecDepth 20000 in
theorem ggX11_faithFor_X11_puts : GoodIn wsX11_faithFor wsX11_puts := goodIn_r _ [17, 1, 74, 75, 76, 77, 78, 79, 80, 81, 82, 83, 84, 85, 86, 87, 88, 89, 90, 91, 92, 93, 94, 95, 96, 97] (by decide +kernel) (by decide +kernel)
set_option maxRecDepth 20000 in
theorem gX11_faithFor_X11_puts : GoodIn wsX11_faithFor (wsV RX11 92 RX11 yX11_puts wsX11_puts) := goodIn_app (goodIn_of _ (by decide +kernel)) ggX11_faithFor_X11_puts
set_option maxRecDepth 20000 in
theorem ggX11_faithFor_X11_comesWithin : GoodIn wsX11_faithFor wsX11_comesWithin := goodIn_r _ [21, 2, 1, 22, 23, 24, 6, 25, 26, 27, 28, 29, 30, 31, 32, 33, 34, 35, 36, 37, 38, 39, 40, 41, 42, 43, 44, 45, 46, 47, 48, 49, 50, 51, 52, 53, 54, 55, 56, 57, 58, 59, 60, 61, 62, 63, 64, 65, 66, 67, 68, 69, 70, 71, 72, 73, 14, 15, 16, 17, 11, 12, 13, 74, 75, 76, 77, 78, 79, 80, 81, 82, 83, 84, 85, 86, 87, 88, 89, 90, 91, 92, 93, 94, 95, 96, 97] (by decide +kernel) (by decide +kernel)
set_option maxRecDepth 20000 in
theorem gX11_faithFor_X11_comesWithin : GoodIn wsX11_faithFor (wsV RX11 205 RX11 yX11_comesWithin wsX11_comesWithin) := goodIn_app (goodIn_of _ (by decide +kernel)) ggX11_faithFor_X11_comesWithin
theorem dX11_faithFor_0 : decode cX11_faithFor 0 = .ok (.aload_n 0, 1) := by decide +kernel
theorem dX11_faithFor_1 : decode cX11_faithFor 1 = .ok (.iload_n 1, 1) := by decide +kernel
theorem dX11_faithFor_2 : decode cX11_faithFor 2 = .ok (.invokevirtual 174, 3) := by decide +kernel
theorem dX11_faithFor_5 : decode cX11_faithFor 5 = .ok (.ifCond .eq 13, 3) := by decide +kernel
theorem dX11_faithFor_8 : decode cX11_faithFor 8 = .ok (.iload_n 2, 1) := by decide +kernel
theorem dX11_faithFor_9 : decode cX11_faithFor 9 = .ok (.iconst 0, 1) := by decide +kernel
theorem dX11_faithFor_10 : decode cX11_faithFor 10 = .ok (.bipush 40, 2) := by decide +kernel
theorem dX11_faithFor_12 : decode cX11_faithFor 12 = .ok (.invokestatic 57, 3) := by decide +kernel
theorem dX11_faithFor_15 : decode cX11_faithFor 15 = .ok (.ifCond .ne 5, 3) := by decide +kernel
theorem dX11_faithFor_18 : decode cX11_faithFor 18 = .ok (.iconst (-1), 1) := by decide +kernel
theorem dX11_faithFor_19 : decode cX11_faithFor 19 = .ok (.ireturn, 1) := by decide +kernel
theorem dX11_faithFor_20 : decode cX11_faithFor 20 = .ok (.aload_n 0, 1) := by decide +kernel
theorem dX11_faithFor_21 : decode cX11_faithFor 21 = .ok (.getfield 9, 3) := by decide +kernel
theorem dX11_faithFor_24 : decode cX11_faithFor 24 = .ok (.aload_n 0, 1) := by decide +kernel
theorem dX11_faithFor_25 : decode cX11_faithFor 25 = .ok (.getfield 16, 3) := by decide +kernel
theorem dX11_faithFor_28 : decode cX11_faithFor 28 = .ok (.invokestatic 158, 3) := by decide +kernel
theorem dX11_faithFor_31 : decode cX11_faithFor 31 = .ok (.iconst 0, 1) := by decide +kernel
theorem dX11_faithFor_32 : decode cX11_faithFor 32 = .ok (.istore_n 3, 1) := by decide +kernel
theorem dX11_faithFor_33 : decode cX11_faithFor 33 = .ok (.iload_n 3, 1) := by decide +kernel
theorem dX11_faithFor_34 : decode cX11_faithFor 34 = .ok (.bipush 99, 2) := by decide +kernel
theorem dX11_faithFor_36 : decode cX11_faithFor 36 = .ok (.if_icmp .gt 27, 3) := by decide +kernel
theorem dX11_faithFor_39 : decode cX11_faithFor 39 = .ok (.aload_n 0, 1) := by decide +kernel
theorem dX11_faithFor_40 : decode cX11_faithFor 40 = .ok (.iload_n 1, 1) := by decide +kernel
theorem dX11_faithFor_41 : decode cX11_faithFor 41 = .ok (.iconst 1, 1) := by decide +kernel
theorem dX11_faithFor_42 : decode cX11_faithFor 42 = .ok (.iload_n 3, 1) := by decide +kernel
theorem dX11_faithFor_43 : decode cX11_faithFor 43 = .ok (.invokevirtual 92, 3) := by decide +kernel
theorem dX11_faithFor_46 : decode cX11_faithFor 46 = .ok (.aload_n 0, 1) := by decide +kernel
theorem dX11_faithFor_47 : decode cX11_faithFor 47 = .ok (.iload_n 1, 1) := by decide +kernel
theorem dX11_faithFor_48 : decode cX11_faithFor 48 = .ok (.iload_n 2, 1) := by decide +kernel
theorem dX11_faithFor_49 : decode cX11_faithFor 49 = .ok (.invokevirtual 205, 3) := by decide +kernel
theorem dX11_faithFor_52 : decode cX11_faithFor 52 = .ok (.ifCond .eq 5, 3) := by decide +kernel
theorem dX11_faithFor_55 : decode cX11_faithFor 55 = .ok (.iload_n 3, 1) := by decide +kernel
theorem dX11_faithFor_56 : decode cX11_faithFor 56 = .ok (.ireturn, 1) := by decide +kernel
theorem dX11_faithFor_57 : decode cX11_faithFor 57 = .ok (.iinc 3 1, 3) := by decide +kernel
theorem dX11_faithFor_60 : decode cX11_faithFor 60 = .ok (.goto (-27), 3) := by decide +kernel
theorem dX11_faithFor_63 : decode cX11_faithFor 63 = .ok (.bipush (-3), 2) := by decide +kernel
theorem dX11_faithFor_65 : decode cX11_faithFor 65 = .ok (.ireturn, 1) := by decide +kernel
set_option maxRecDepth 20000 in
theorem ggX11_kindFor_X11_isGoer : GoodIn wsX11_kindFor wsX11_isGoer := goodIn_r _ [7, 1, 8, 9, 6, 10, 70, 71, 72, 73, 74, 75, 76, 77, 78, 79, 80, 81, 82, 83, 84, 85, 86, 87, 88, 89, 90, 91, 92, 93] (by decide +kernel) (by decide +kernel)
set_option maxRecDepth 20000 in
theorem gX11_kindFor_X11_isGoer : GoodIn wsX11_kindFor (wsV RX11 174 RX11 yX11_isGoer wsX11_isGoer) := goodIn_app (goodIn_of _ (by decide +kernel)) ggX11_kindFor_X11_isGoer
set_option maxRecDepth 20000 in
theorem ggX11_kindFor_X11_copies : GoodIn wsX11_kindFor wsX11_copies := goodIn_r _ [13] (by decide +kernel) (by decide +kernel)
set_option maxRecDepth 20000 in
theorem gX11_kindFor_X11_copies : GoodIn wsX11_kindFor (va_wsS RX11 158 yX11_copies wsX11_copies) := goodIn_app (goodIn_of _ (by decide +kernel)) ggX11_kindFor_X11_copies
set_option maxRecDepth 20000 in
theorem ggX11_kindFor_X11_puts : GoodIn wsX11_kindFor wsX11_puts := goodIn_r _ [17, 1, 70, 71, 72, 73, 74, 75, 76, 77, 78, 79, 80, 81, 82, 83, 84, 85, 86, 87, 88, 89, 90, 91, 92, 93] (by decide +kernel) (by decide +kernel)
set_option maxRecDepth 20000 in
theorem gX11_kindFor_X11_puts : GoodIn wsX11_kindFor (wsV RX11 92 RX11 yX11_puts wsX11_puts) := goodIn_app (goodIn_of _ (by decide +kernel)) ggX11_kindFor_X11_puts
set_option maxRecDepth 20000 in
theorem ggX11_kindFor_X11_comesBy : GoodIn wsX11_kindFor wsX11_comesBy := goodIn_r _ [21, 22, 23, 24, 6, 25, 26, 27, 28, 29, 1, 30, 31, 32, 33, 34, 35, 36, 37, 38, 39, 40, 41, 42, 43, 44, 45, 46, 47, 48, 49, 50, 51, 52, 53, 54, 55, 56, 57, 58, 59, 60, 61, 62, 63, 64, 65, 66, 67, 68, 69, 14, 15, 16, 17, 70, 71, 72, 73, 74, 75, 76, 77, 78, 79, 80, 81, 82, 83, 84, 85, 86, 87, 88, 89, 90, 91, 92, 93] (by decide +kernel) (by decide +kernel)
set_option maxRecDepth 20000 in
theorem gX11_kindFor_X11_comesBy : GoodIn wsX11_kindFor (wsV RX11 196 RX11 yX11_comesBy wsX11_comesBy) := goodIn_app (goodIn_of _ (by decide +kernel)) ggX11_kindFor_X11_comesBy
theorem dX11_kindFor_0 : decode cX11_kindFor 0 = .ok (.aload_n 0, 1) := by decide +kernel
theorem dX11_kindFor_1 : decode cX11_kindFor 1 = .ok (.iload_n 1, 1) := by decide +kernel
theorem dX11_kindFor_2 : decode cX11_kindFor 2 = .ok (.invokevirtual 174, 3) := by decide +kernel
theorem dX11_kindFor_5 : decode cX11_kindFor 5 = .ok (.ifCond .ne 5, 3) := by decide +kernel
theorem dX11_kindFor_8 : decode cX11_kindFor 8 = .ok (.iconst (-1), 1) := by decide +kernel
theorem dX11_kindFor_9 : decode cX11_kindFor 9 = .ok (.ireturn, 1) := by decide +kernel
theorem dX11_kindFor_10 : decode cX11_kindFor 10 = .ok (.aload_n 0, 1) := by decide +kernel
theorem dX11_kindFor_11 : decode cX11_kindFor 11 = .ok (.getfield 9, 3) := by decide +kernel
theorem dX11_kindFor_14 : decode cX11_kindFor 14 = .ok (.aload_n 0, 1) := by decide +kernel
theorem dX11_kindFor_15 : decode cX11_kindFor 15 = .ok (.getfield 16, 3) := by decide +kernel
theorem dX11_kindFor_18 : decode cX11_kindFor 18 = .ok (.invokestatic 158, 3) := by decide +kernel
theorem dX11_kindFor_21 : decode cX11_kindFor 21 = .ok (.iconst 0, 1) := by decide +kernel
theorem dX11_kindFor_22 : decode cX11_kindFor 22 = .ok (.istore_n 2, 1) := by decide +kernel
theorem dX11_kindFor_23 : decode cX11_kindFor 23 = .ok (.bipush 62, 2) := by decide +kernel
theorem dX11_kindFor_25 : decode cX11_kindFor 25 = .ok (.istore_n 3, 1) := by decide +kernel
theorem dX11_kindFor_26 : decode cX11_kindFor 26 = .ok (.iconst 0, 1) := by decide +kernel
theorem dX11_kindFor_27 : decode cX11_kindFor 27 = .ok (.istore 4, 2) := by decide +kernel
theorem dX11_kindFor_29 : decode cX11_kindFor 29 = .ok (.iload 4, 2) := by decide +kernel
theorem dX11_kindFor_31 : decode cX11_kindFor 31 = .ok (.bipush 6, 2) := by decide +kernel
theorem dX11_kindFor_33 : decode cX11_kindFor 33 = .ok (.if_icmp .ge 75, 3) := by decide +kernel
theorem dX11_kindFor_36 : decode cX11_kindFor 36 = .ok (.aload_n 0, 1) := by decide +kernel
theorem dX11_kindFor_37 : decode cX11_kindFor 37 = .ok (.iload_n 1, 1) := by decide +kernel
theorem dX11_kindFor_38 : decode cX11_kindFor 38 = .ok (.iconst 0, 1) := by decide +kernel
theorem dX11_kindFor_39 : decode cX11_kindFor 39 = .ok (.iload 4, 2) := by decide +kernel
theorem dX11_kindFor_41 : decode cX11_kindFor 41 = .ok (.invokevirtual 92, 3) := by decide +kernel
theorem dX11_kindFor_44 : decode cX11_kindFor 44 = .ok (.aload_n 0, 1) := by decide +kernel
theorem dX11_kindFor_45 : decode cX11_kindFor 45 = .ok (.iload_n 1, 1) := by decide +kernel
theorem dX11_kindFor_46 : decode cX11_kindFor 46 = .ok (.invokevirtual 196, 3) := by decide +kernel
theorem dX11_kindFor_49 : decode cX11_kindFor 49 = .ok (.istore 5, 2) := by decide +kernel
theorem dX11_kindFor_51 : decode cX11_kindFor 51 = .ok (.aload_n 0, 1) := by decide +kernel
theorem dX11_kindFor_52 : decode cX11_kindFor 52 = .ok (.getfield 16, 3) := by decide +kernel
theorem dX11_kindFor_55 : decode cX11_kindFor 55 = .ok (.aload_n 0, 1) := by decide +kernel
theorem dX11_kindFor_56 : decode cX11_kindFor 56 = .ok (.getfield 9, 3) := by decide +kernel
theorem dX11_kindFor_59 : decode cX11_kindFor 59 = .ok (.invokestatic 158, 3) := by decide +kernel
theorem dX11_kindFor_62 : decode cX11_kindFor 62 = .ok (.iload 5, 2) := by decide +kernel
theorem dX11_kindFor_64 : decode cX11_kindFor 64 = .ok (.ifCond .ge 8, 3) := by decide +kernel
theorem dX11_kindFor_67 : decode cX11_kindFor 67 = .ok (.bipush 61, 2) := by decide +kernel
theorem dX11_kindFor_69 : decode cX11_kindFor 69 = .ok (.goto 5, 3) := by decide +kernel
theorem dX11_kindFor_72 : decode cX11_kindFor 72 = .ok (.iload 5, 2) := by decide +kernel
theorem dX11_kindFor_74 : decode cX11_kindFor 74 = .ok (.istore 5, 2) := by decide +kernel
theorem dX11_kindFor_76 : decode cX11_kindFor 76 = .ok (.iload 5, 2) := by decide +kernel
theorem dX11_kindFor_78 : decode cX11_kindFor 78 = .ok (.iload_n 3, 1) := by decide +kernel
theorem dX11_kindFor_79 : decode cX11_kindFor 79 = .ok (.if_icmp .ge 8, 3) := by decide +kernel
theorem dX11_kindFor_82 : decode cX11_kindFor 82 = .ok (.iload 4, 2) := by decide +kernel
theorem dX11_kindFor_84 : decode cX11_kindFor 84 = .ok (.goto 4, 3) := by decide +kernel
theorem dX11_kindFor_87 : decode cX11_kindFor 87 = .ok (.iload_n 2, 1) := by decide +kernel
theorem dX11_kindFor_88 : decode cX11_kindFor 88 = .ok (.istore_n 2, 1) := by decide +kernel
theorem dX11_kindFor_89 : decode cX11_kindFor 89 = .ok (.iload 5, 2) := by decide +kernel
theorem dX11_kindFor_91 : decode cX11_kindFor 91 = .ok (.iload_n 3, 1) := by decide +kernel
theorem dX11_kindFor_92 : decode cX11_kindFor 92 = .ok (.if_icmp .ge 8, 3) := by decide +kernel
theorem dX11_kindFor_95 : decode cX11_kindFor 95 = .ok (.iload 5, 2) := by decide +kernel
theorem dX11_kindFor_97 : decode cX11_kindFor 97 = .ok (.goto 4, 3) := by decide +kernel
theorem dX11_kindFor_100 : decode cX11_kindFor 100 = .ok (.iload_n 3, 1) := by decide +kernel
theorem dX11_kindFor_101 : decode cX11_kindFor 101 = .ok (.istore_n 3, 1) := by decide +kernel
theorem dX11_kindFor_102 : decode cX11_kindFor 102 = .ok (.iinc 4 1, 3) := by decide +kernel
theorem dX11_kindFor_105 : decode cX11_kindFor 105 = .ok (.goto (-76), 3) := by decide +kernel
theorem dX11_kindFor_108 : decode cX11_kindFor 108 = .ok (.iload_n 2, 1) := by decide +kernel
theorem dX11_kindFor_109 : decode cX11_kindFor 109 = .ok (.ireturn, 1) := by decide +kernel
set_option maxRecDepth 20000 in
theorem ggX11_liftedFor_X11_in1 : GoodIn wsX11_liftedFor wsX11_in1 := goodIn_r _ [6] (by decide +kernel) (by decide +kernel)
set_option maxRecDepth 20000 in
theorem gX11_liftedFor_X11_in1 : GoodIn wsX11_liftedFor (va_wsS RX11 57 yX11_in1 wsX11_in1) := goodIn_app (goodIn_of _ (by decide +kernel)) ggX11_liftedFor_X11_in1
set_option maxRecDepth 20000 in
theorem ggX11_liftedFor_X11_copies : GoodIn wsX11_liftedFor wsX11_copies := goodIn_r _ [9] (by decide +kernel) (by decide +kernel)
set_option maxRecDepth 20000 in
theorem gX11_liftedFor_X11_copies : GoodIn wsX11_liftedFor (va_wsS RX11 158 yX11_copies wsX11_copies) := goodIn_app (goodIn_of _ (by decide +kernel)) ggX11_liftedFor_X11_copies
set_option maxRecDepth 20000 in
theorem ggX11_liftedFor_X11_ones : GoodIn wsX11_liftedFor wsX11_ones := goodIn_r _ [12] (by decide +kernel) (by decide +kernel)
set_option maxRecDepth 20000 in
theorem gX11_liftedFor_X11_ones : GoodIn wsX11_liftedFor (va_wsS RX11 183 yX11_ones wsX11_ones) := goodIn_app (goodIn_of _ (by decide +kernel)) ggX11_liftedFor_X11_ones
set_option maxRecDepth 20000 in
theorem ggX11_liftedFor_X11_passedBy : GoodIn wsX11_liftedFor wsX11_passedBy := goodIn_r _ [16, 2, 1, 17, 18, 19, 5, 20, 21, 22, 23, 24, 25, 26, 27, 28, 29, 30, 31, 32, 33, 34, 35, 36, 37, 38, 39, 40, 41, 42, 43, 44, 45, 46, 47, 48, 49, 50, 51, 52, 53, 54, 55, 56, 57, 58, 59, 60, 61, 62, 63, 64, 65, 66, 67, 68, 69, 70, 71, 72, 73, 74, 75, 76, 10, 11, 12, 7, 8, 9, 77, 78, 79, 80, 81, 82, 83, 84, 85, 86, 87, 88, 89, 90, 91, 92, 93, 94, 95, 96, 97, 98, 99, 100] (by decide +kernel) (by decide +kernel)
set_option maxRecDepth 20000 in
theorem gX11_liftedFor_X11_passedBy : GoodIn wsX11_liftedFor (wsV RX11 202 RX11 yX11_passedBy wsX11_passedBy) := goodIn_app (goodIn_of _ (by decide +kernel)) ggX11_liftedFor_X11_passedBy
theorem dX11_liftedFor_0 : decode cX11_liftedFor 0 = .ok (.iload_n 1, 1) := by decide +kernel
theorem dX11_liftedFor_1 : decode cX11_liftedFor 1 = .ok (.iconst 0, 1) := by decide +kernel
theorem dX11_liftedFor_2 : decode cX11_liftedFor 2 = .ok (.bipush 40, 2) := by decide +kernel
theorem dX11_liftedFor_4 : decode cX11_liftedFor 4 = .ok (.invokestatic 57, 3) := by decide +kernel
theorem dX11_liftedFor_7 : decode cX11_liftedFor 7 = .ok (.ifCond .eq 13, 3) := by decide +kernel
theorem dX11_liftedFor_10 : decode cX11_liftedFor 10 = .ok (.iload_n 2, 1) := by decide +kernel
theorem dX11_liftedFor_11 : decode cX11_liftedFor 11 = .ok (.iconst 0, 1) := by decide +kernel
theorem dX11_liftedFor_12 : decode cX11_liftedFor 12 = .ok (.bipush 8, 2) := by decide +kernel
theorem dX11_liftedFor_14 : decode cX11_liftedFor 14 = .ok (.invokestatic 57, 3) := by decide +kernel
theorem dX11_liftedFor_17 : decode cX11_liftedFor 17 = .ok (.ifCond .ne 5, 3) := by decide +kernel
theorem dX11_liftedFor_20 : decode cX11_liftedFor 20 = .ok (.iconst (-1), 1) := by decide +kernel
theorem dX11_liftedFor_21 : decode cX11_liftedFor 21 = .ok (.ireturn, 1) := by decide +kernel
theorem dX11_liftedFor_22 : decode cX11_liftedFor 22 = .ok (.aload_n 0, 1) := by decide +kernel
theorem dX11_liftedFor_23 : decode cX11_liftedFor 23 = .ok (.getfield 9, 3) := by decide +kernel
theorem dX11_liftedFor_26 : decode cX11_liftedFor 26 = .ok (.aload_n 0, 1) := by decide +kernel
theorem dX11_liftedFor_27 : decode cX11_liftedFor 27 = .ok (.getfield 16, 3) := by decide +kernel
theorem dX11_liftedFor_30 : decode cX11_liftedFor 30 = .ok (.invokestatic 158, 3) := by decide +kernel
theorem dX11_liftedFor_33 : decode cX11_liftedFor 33 = .ok (.bipush (-3), 2) := by decide +kernel
theorem dX11_liftedFor_35 : decode cX11_liftedFor 35 = .ok (.istore_n 3, 1) := by decide +kernel
theorem dX11_liftedFor_36 : decode cX11_liftedFor 36 = .ok (.iconst 0, 1) := by decide +kernel
theorem dX11_liftedFor_37 : decode cX11_liftedFor 37 = .ok (.istore 4, 2) := by decide +kernel
theorem dX11_liftedFor_39 : decode cX11_liftedFor 39 = .ok (.iload 4, 2) := by decide +kernel
theorem dX11_liftedFor_41 : decode cX11_liftedFor 41 = .ok (.bipush 64, 2) := by decide +kernel
theorem dX11_liftedFor_43 : decode cX11_liftedFor 43 = .ok (.if_icmp .ge 96, 3) := by decide +kernel
theorem dX11_liftedFor_46 : decode cX11_liftedFor 46 = .ok (.iconst 0, 1) := by decide +kernel
theorem dX11_liftedFor_47 : decode cX11_liftedFor 47 = .ok (.istore 5, 2) := by decide +kernel
theorem dX11_liftedFor_49 : decode cX11_liftedFor 49 = .ok (.iload 5, 2) := by decide +kernel
theorem dX11_liftedFor_51 : decode cX11_liftedFor 51 = .ok (.bipush 6, 2) := by decide +kernel
theorem dX11_liftedFor_53 : decode cX11_liftedFor 53 = .ok (.if_icmp .ge 36, 3) := by decide +kernel
theorem dX11_liftedFor_56 : decode cX11_liftedFor 56 = .ok (.aload_n 0, 1) := by decide +kernel
theorem dX11_liftedFor_57 : decode cX11_liftedFor 57 = .ok (.getfield 9, 3) := by decide +kernel
theorem dX11_liftedFor_60 : decode cX11_liftedFor 60 = .ok (.bipush 13, 2) := by decide +kernel
theorem dX11_liftedFor_62 : decode cX11_liftedFor 62 = .ok (.iload 5, 2) := by decide +kernel
theorem dX11_liftedFor_64 : decode cX11_liftedFor 64 = .ok (.iadd, 1) := by decide +kernel
theorem dX11_liftedFor_65 : decode cX11_liftedFor 65 = .ok (.iload 4, 2) := by decide +kernel
theorem dX11_liftedFor_67 : decode cX11_liftedFor 67 = .ok (.iload 5, 2) := by decide +kernel
theorem dX11_liftedFor_69 : decode cX11_liftedFor 69 = .ok (.ishr, 1) := by decide +kernel
theorem dX11_liftedFor_70 : decode cX11_liftedFor 70 = .ok (.iconst 1, 1) := by decide +kernel
theorem dX11_liftedFor_71 : decode cX11_liftedFor 71 = .ok (.iand, 1) := by decide +kernel
theorem dX11_liftedFor_72 : decode cX11_liftedFor 72 = .ok (.iconst 1, 1) := by decide +kernel
theorem dX11_liftedFor_73 : decode cX11_liftedFor 73 = .ok (.if_icmp .ne 8, 3) := by decide +kernel
theorem dX11_liftedFor_76 : decode cX11_liftedFor 76 = .ok (.bipush 9, 2) := by decide +kernel
theorem dX11_liftedFor_78 : decode cX11_liftedFor 78 = .ok (.goto 4, 3) := by decide +kernel
theorem dX11_liftedFor_81 : decode cX11_liftedFor 81 = .ok (.iconst 0, 1) := by decide +kernel
theorem dX11_liftedFor_82 : decode cX11_liftedFor 82 = .ok (.iastore, 1) := by decide +kernel
theorem dX11_liftedFor_83 : decode cX11_liftedFor 83 = .ok (.iinc 5 1, 3) := by decide +kernel
theorem dX11_liftedFor_86 : decode cX11_liftedFor 86 = .ok (.goto (-37), 3) := by decide +kernel
theorem dX11_liftedFor_89 : decode cX11_liftedFor 89 = .ok (.iload_n 3, 1) := by decide +kernel
theorem dX11_liftedFor_90 : decode cX11_liftedFor 90 = .ok (.ifCond .lt 15, 3) := by decide +kernel
theorem dX11_liftedFor_93 : decode cX11_liftedFor 93 = .ok (.iload 4, 2) := by decide +kernel
theorem dX11_liftedFor_95 : decode cX11_liftedFor 95 = .ok (.invokestatic 183, 3) := by decide +kernel
theorem dX11_liftedFor_98 : decode cX11_liftedFor 98 = .ok (.iload_n 3, 1) := by decide +kernel
theorem dX11_liftedFor_99 : decode cX11_liftedFor 99 = .ok (.invokestatic 183, 3) := by decide +kernel
theorem dX11_liftedFor_102 : decode cX11_liftedFor 102 = .ok (.if_icmp .ge 7, 3) := by decide +kernel
theorem dX11_liftedFor_105 : decode cX11_liftedFor 105 = .ok (.iconst 1, 1) := by decide +kernel
theorem dX11_liftedFor_106 : decode cX11_liftedFor 106 = .ok (.goto 4, 3) := by decide +kernel
theorem dX11_liftedFor_109 : decode cX11_liftedFor 109 = .ok (.iconst 0, 1) := by decide +kernel
theorem dX11_liftedFor_110 : decode cX11_liftedFor 110 = .ok (.istore 5, 2) := by decide +kernel
theorem dX11_liftedFor_112 : decode cX11_liftedFor 112 = .ok (.aload_n 0, 1) := by decide +kernel
theorem dX11_liftedFor_113 : decode cX11_liftedFor 113 = .ok (.iload_n 1, 1) := by decide +kernel
theorem dX11_liftedFor_114 : decode cX11_liftedFor 114 = .ok (.invokevirtual 202, 3) := by decide +kernel
theorem dX11_liftedFor_117 : decode cX11_liftedFor 117 = .ok (.iload_n 2, 1) := by decide +kernel
theorem dX11_liftedFor_118 : decode cX11_liftedFor 118 = .ok (.if_icmp .lt 13, 3) := by decide +kernel
theorem dX11_liftedFor_121 : decode cX11_liftedFor 121 = .ok (.iload 5, 2) := by decide +kernel
theorem dX11_liftedFor_123 : decode cX11_liftedFor 123 = .ok (.ifCond .eq 8, 3) := by decide +kernel
theorem dX11_liftedFor_126 : decode cX11_liftedFor 126 = .ok (.iload 4, 2) := by decide +kernel
theorem dX11_liftedFor_128 : decode cX11_liftedFor 128 = .ok (.goto 4, 3) := by decide +kernel
theorem dX11_liftedFor_131 : decode cX11_liftedFor 131 = .ok (.iload_n 3, 1) := by decide +kernel
theorem dX11_liftedFor_132 : decode cX11_liftedFor 132 = .ok (.istore_n 3, 1) := by decide +kernel
theorem dX11_liftedFor_133 : decode cX11_liftedFor 133 = .ok (.iinc 4 1, 3) := by decide +kernel
theorem dX11_liftedFor_136 : decode cX11_liftedFor 136 = .ok (.goto (-97), 3) := by decide +kernel
theorem dX11_liftedFor_139 : decode cX11_liftedFor 139 = .ok (.iload_n 3, 1) := by decide +kernel
theorem dX11_liftedFor_140 : decode cX11_liftedFor 140 = .ok (.ireturn, 1) := by decide +kernel
set_option maxRecDepth 20000 in
theorem ggX11_fitsWith_X11_puts : GoodIn wsX11_fitsWith wsX11_puts := goodIn_r _ [9, 4, 61, 62, 63, 64, 65, 66, 67, 68, 69, 70, 71, 72, 73, 74, 75, 76, 77, 78, 79, 80, 81, 82, 83, 84] (by decide +kernel) (by decide +kernel)
set_option maxRecDepth 20000 in
theorem gX11_fitsWith_X11_puts : GoodIn wsX11_fitsWith (wsV RX11 92 RX11 yX11_puts wsX11_puts) := goodIn_app (goodIn_of _ (by decide +kernel)) ggX11_fitsWith_X11_puts
set_option maxRecDepth 20000 in
theorem ggX11_fitsWith_X11_step1 : GoodIn wsX11_fitsWith wsX11_step1 := goodIn_r _ [13, 4, 14, 15, 16, 17, 8, 18, 19, 20, 21, 22, 23, 24, 25, 26, 27, 28, 29, 30, 31, 32, 33, 34, 35, 36, 37, 38, 39, 40, 41, 42, 43, 44, 45, 46, 47, 48, 49, 50, 51, 52, 53, 54, 55, 56, 57, 5, 6, 7, 9, 61, 62, 63, 64, 65, 66, 67, 68, 69, 70, 71, 72, 73, 74, 75, 76, 77, 78, 79, 80, 81, 82, 83, 84] (by decide +kernel) (by decide +kernel)
set_option maxRecDepth 20000 in
theorem gX11_fitsWith_X11_step1 : GoodIn wsX11_fitsWith (wsV RX11 103 RX11 yX11_step1 wsX11_step1) := goodIn_app (goodIn_of _ (by decide +kernel)) ggX11_fitsWith_X11_step1
set_option maxRecDepth 20000 in
theorem ggX11_fitsWith_X11_get : GoodIn wsX11_fitsWith wsX11_get := goodIn_r _ [22, 4, 61, 62, 63, 64, 65, 66, 67, 68, 69, 70, 71, 72, 73, 74, 75, 76, 77, 78, 79, 80, 81, 82, 83, 84] (by decide +kernel) (by decide +kernel)
set_option maxRecDepth 20000 in
theorem gX11_fitsWith_X11_get : GoodIn wsX11_fitsWith (wsV RX11 61 RX11 yX11_get wsX11_get) := goodIn_app (goodIn_of _ (by decide +kernel)) ggX11_fitsWith_X11_get
set_option maxRecDepth 20000 in
theorem ggX11_fitsWith_X11_copies : GoodIn wsX11_fitsWith wsX11_copies := goodIn_r _ [60] (by decide +kernel) (by decide +kernel)
set_option maxRecDepth 20000 in
theorem gX11_fitsWith_X11_copies : GoodIn wsX11_fitsWith (va_wsS RX11 158 yX11_copies wsX11_copies) := goodIn_app (goodIn_of _ (by decide +kernel)) ggX11_fitsWith_X11_copies
theorem dX11_fitsWith_0 : decode cX11_fitsWith 0 = .ok (.aload_n 0, 1) := by decide +kernel
theorem dX11_fitsWith_1 : decode cX11_fitsWith 1 = .ok (.iload_n 2, 1) := by decide +kernel
theorem dX11_fitsWith_2 : decode cX11_fitsWith 2 = .ok (.iconst 1, 1) := by decide +kernel
theorem dX11_fitsWith_3 : decode cX11_fitsWith 3 = .ok (.iload_n 3, 1) := by decide +kernel
theorem dX11_fitsWith_4 : decode cX11_fitsWith 4 = .ok (.invokevirtual 92, 3) := by decide +kernel
theorem dX11_fitsWith_7 : decode cX11_fitsWith 7 = .ok (.iconst 1, 1) := by decide +kernel
theorem dX11_fitsWith_8 : decode cX11_fitsWith 8 = .ok (.istore 4, 2) := by decide +kernel
theorem dX11_fitsWith_10 : decode cX11_fitsWith 10 = .ok (.iconst 0, 1) := by decide +kernel
theorem dX11_fitsWith_11 : decode cX11_fitsWith 11 = .ok (.istore 5, 2) := by decide +kernel
theorem dX11_fitsWith_13 : decode cX11_fitsWith 13 = .ok (.iload 5, 2) := by decide +kernel
theorem dX11_fitsWith_15 : decode cX11_fitsWith 15 = .ok (.aload_n 0, 1) := by decide +kernel
theorem dX11_fitsWith_16 : decode cX11_fitsWith 16 = .ok (.getfield 38, 3) := by decide +kernel
theorem dX11_fitsWith_19 : decode cX11_fitsWith 19 = .ok (.iload_n 1, 1) := by decide +kernel
theorem dX11_fitsWith_20 : decode cX11_fitsWith 20 = .ok (.iaload, 1) := by decide +kernel
theorem dX11_fitsWith_21 : decode cX11_fitsWith 21 = .ok (.if_icmp .ge 56, 3) := by decide +kernel
theorem dX11_fitsWith_24 : decode cX11_fitsWith 24 = .ok (.iload 4, 2) := by decide +kernel
theorem dX11_fitsWith_26 : decode cX11_fitsWith 26 = .ok (.ifCond .eq 51, 3) := by decide +kernel
theorem dX11_fitsWith_29 : decode cX11_fitsWith 29 = .ok (.aload_n 0, 1) := by decide +kernel
theorem dX11_fitsWith_30 : decode cX11_fitsWith 30 = .ok (.invokevirtual 103, 3) := by decide +kernel
theorem dX11_fitsWith_33 : decode cX11_fitsWith 33 = .ok (.aload_n 0, 1) := by decide +kernel
theorem dX11_fitsWith_34 : decode cX11_fitsWith 34 = .ok (.getfield 41, 3) := by decide +kernel
theorem dX11_fitsWith_37 : decode cX11_fitsWith 37 = .ok (.bipush 40, 2) := by decide +kernel
theorem dX11_fitsWith_39 : decode cX11_fitsWith 39 = .ok (.iload_n 1, 1) := by decide +kernel
theorem dX11_fitsWith_40 : decode cX11_fitsWith 40 = .ok (.imul, 1) := by decide +kernel
theorem dX11_fitsWith_41 : decode cX11_fitsWith 41 = .ok (.iload 5, 2) := by decide +kernel
theorem dX11_fitsWith_43 : decode cX11_fitsWith 43 = .ok (.iadd, 1) := by decide +kernel
theorem dX11_fitsWith_44 : decode cX11_fitsWith 44 = .ok (.iaload, 1) := by decide +kernel
theorem dX11_fitsWith_45 : decode cX11_fitsWith 45 = .ok (.istore 6, 2) := by decide +kernel
theorem dX11_fitsWith_47 : decode cX11_fitsWith 47 = .ok (.iload 6, 2) := by decide +kernel
theorem dX11_fitsWith_49 : decode cX11_fitsWith 49 = .ok (.iconst (-1), 1) := by decide +kernel
theorem dX11_fitsWith_50 : decode cX11_fitsWith 50 = .ok (.if_icmp .eq 14, 3) := by decide +kernel
theorem dX11_fitsWith_53 : decode cX11_fitsWith 53 = .ok (.iload 6, 2) := by decide +kernel
theorem dX11_fitsWith_55 : decode cX11_fitsWith 55 = .ok (.aload_n 0, 1) := by decide +kernel
theorem dX11_fitsWith_56 : decode cX11_fitsWith 56 = .ok (.iload_n 2, 1) := by decide +kernel
theorem dX11_fitsWith_57 : decode cX11_fitsWith 57 = .ok (.iconst 2, 1) := by decide +kernel
theorem dX11_fitsWith_58 : decode cX11_fitsWith 58 = .ok (.invokevirtual 61, 3) := by decide +kernel
theorem dX11_fitsWith_61 : decode cX11_fitsWith 61 = .ok (.if_icmp .ne 7, 3) := by decide +kernel
theorem dX11_fitsWith_64 : decode cX11_fitsWith 64 = .ok (.iconst 1, 1) := by decide +kernel
theorem dX11_fitsWith_65 : decode cX11_fitsWith 65 = .ok (.goto 4, 3) := by decide +kernel
theorem dX11_fitsWith_68 : decode cX11_fitsWith 68 = .ok (.iconst 0, 1) := by decide +kernel
theorem dX11_fitsWith_69 : decode cX11_fitsWith 69 = .ok (.istore 4, 2) := by decide +kernel
theorem dX11_fitsWith_71 : decode cX11_fitsWith 71 = .ok (.iinc 5 1, 3) := by decide +kernel
theorem dX11_fitsWith_74 : decode cX11_fitsWith 74 = .ok (.goto (-61), 3) := by decide +kernel
theorem dX11_fitsWith_77 : decode cX11_fitsWith 77 = .ok (.aload_n 0, 1) := by decide +kernel
theorem dX11_fitsWith_78 : decode cX11_fitsWith 78 = .ok (.getfield 16, 3) := by decide +kernel
theorem dX11_fitsWith_81 : decode cX11_fitsWith 81 = .ok (.aload_n 0, 1) := by decide +kernel
theorem dX11_fitsWith_82 : decode cX11_fitsWith 82 = .ok (.getfield 9, 3) := by decide +kernel
theorem dX11_fitsWith_85 : decode cX11_fitsWith 85 = .ok (.invokestatic 158, 3) := by decide +kernel
theorem dX11_fitsWith_88 : decode cX11_fitsWith 88 = .ok (.iload 4, 2) := by decide +kernel
theorem dX11_fitsWith_90 : decode cX11_fitsWith 90 = .ok (.ireturn, 1) := by decide +kernel
set_option maxRecDepth 20000 in
theorem ggX11_fits_X11_isSheet : GoodIn wsX11_fits wsX11_isSheet := goodIn_r _ [7, 8, 9, 6, 10] (by decide +kernel) (by decide +kernel)
set_option maxRecDepth 20000 in
theorem gX11_fits_X11_isSheet : GoodIn wsX11_fits (va_wsS RX11 209 yX11_isSheet wsX11_isSheet) := goodIn_app (goodIn_of _ (by decide +kernel)) ggX11_fits_X11_isSheet
set_option maxRecDepth 20000 in
theorem ggX11_fits_X11_isGoer : GoodIn wsX11_fits wsX11_isGoer := goodIn_r _ [14, 2, 8, 9, 6, 10, 76, 77, 78, 79, 80, 81, 82, 83, 84, 85, 86, 87, 88, 89, 90, 91, 92, 93, 94, 95, 96, 97, 98, 99] (by decide +kernel) (by decide +kernel)
set_option maxRecDepth 20000 in
theorem gX11_fits_X11_isGoer : GoodIn wsX11_fits (wsV RX11 174 RX11 yX11_isGoer wsX11_isGoer) := goodIn_app (goodIn_of _ (by decide +kernel)) ggX11_fits_X11_isGoer
set_option maxRecDepth 20000 in
theorem ggX11_fits_X11_in1 : GoodIn wsX11_fits wsX11_in1 := goodIn_r _ [10] (by decide +kernel) (by decide +kernel)
set_option maxRecDepth 20000 in
theorem gX11_fits_X11_in1 : GoodIn wsX11_fits (va_wsS RX11 57 yX11_in1 wsX11_in1) := goodIn_app (goodIn_of _ (by decide +kernel)) ggX11_fits_X11_in1
set_option maxRecDepth 20000 in
theorem ggX11_fits_X11_copies : GoodIn wsX11_fits wsX11_copies := goodIn_r _ [17] (by decide +kernel) (by decide +kernel)
set_option maxRecDepth 20000 in
theorem gX11_fits_X11_copies : GoodIn wsX11_fits (va_wsS RX11 158 yX11_copies wsX11_copies) := goodIn_app (goodIn_of _ (by decide +kernel)) ggX11_fits_X11_copies
set_option maxRecDepth 20000 in
theorem ggX11_fits_X11_fitsWith : GoodIn wsX11_fits wsX11_fitsWith := goodIn_r _ [21, 22, 23, 3, 2, 24, 25, 26, 6, 27, 28, 29, 30, 31, 32, 33, 34, 35, 36, 37, 38, 39, 40, 41, 42, 43, 44, 45, 46, 47, 48, 49, 50, 51, 52, 53, 54, 55, 56, 57, 58, 59, 60, 61, 62, 63, 64, 65, 66, 67, 68, 69, 70, 71, 72, 73, 74, 75, 15, 16, 17, 76, 77, 78, 79, 80, 81, 82, 83, 84, 85, 86, 87, 88, 89, 90, 91, 92, 93, 94, 95, 96, 97, 98, 99] (by decide +kernel) (by decide +kernel)
set_option maxRecDepth 20000 in
theorem gX11_fits_X11_fitsWith : GoodIn wsX11_fits (wsV RX11 212 RX11 yX11_fitsWith wsX11_fitsWith) := goodIn_app (goodIn_of _ (by decide +kernel)) ggX11_fits_X11_fitsWith
theorem dX11_fits_0 : decode cX11_fits 0 = .ok (.iload_n 1, 1) := by decide +kernel
theorem dX11_fits_1 : decode cX11_fits 1 = .ok (.invokestatic 209, 3) := by decide +kernel
theorem dX11_fits_4 : decode cX11_fits 4 = .ok (.ifCond .eq 20, 3) := by decide +kernel
theorem dX11_fits_7 : decode cX11_fits 7 = .ok (.aload_n 0, 1) := by decide +kernel
theorem dX11_fits_8 : decode cX11_fits 8 = .ok (.iload_n 2, 1) := by decide +kernel
theorem dX11_fits_9 : decode cX11_fits 9 = .ok (.invokevirtual 174, 3) := by decide +kernel
theorem dX11_fits_12 : decode cX11_fits 12 = .ok (.ifCond .eq 12, 3) := by decide +kernel
theorem dX11_fits_15 : decode cX11_fits 15 = .ok (.iload_n 3, 1) := by decide +kernel
theorem dX11_fits_16 : decode cX11_fits 16 = .ok (.iconst 0, 1) := by decide +kernel
theorem dX11_fits_17 : decode cX11_fits 17 = .ok (.iconst 1, 1) := by decide +kernel
theorem dX11_fits_18 : decode cX11_fits 18 = .ok (.invokestatic 57, 3) := by decide +kernel
theorem dX11_fits_21 : decode cX11_fits 21 = .ok (.ifCond .ne 5, 3) := by decide +kernel
theorem dX11_fits_24 : decode cX11_fits 24 = .ok (.iconst (-1), 1) := by decide +kernel
theorem dX11_fits_25 : decode cX11_fits 25 = .ok (.ireturn, 1) := by decide +kernel
theorem dX11_fits_26 : decode cX11_fits 26 = .ok (.aload_n 0, 1) := by decide +kernel
theorem dX11_fits_27 : decode cX11_fits 27 = .ok (.getfield 35, 3) := by decide +kernel
theorem dX11_fits_30 : decode cX11_fits 30 = .ok (.iload_n 1, 1) := by decide +kernel
theorem dX11_fits_31 : decode cX11_fits 31 = .ok (.iaload, 1) := by decide +kernel
theorem dX11_fits_32 : decode cX11_fits 32 = .ok (.ifCond .ge 6, 3) := by decide +kernel
theorem dX11_fits_35 : decode cX11_fits 35 = .ok (.bipush (-11), 2) := by decide +kernel
theorem dX11_fits_37 : decode cX11_fits 37 = .ok (.ireturn, 1) := by decide +kernel
theorem dX11_fits_38 : decode cX11_fits 38 = .ok (.aload_n 0, 1) := by decide +kernel
theorem dX11_fits_39 : decode cX11_fits 39 = .ok (.getfield 9, 3) := by decide +kernel
theorem dX11_fits_42 : decode cX11_fits 42 = .ok (.aload_n 0, 1) := by decide +kernel
theorem dX11_fits_43 : decode cX11_fits 43 = .ok (.getfield 16, 3) := by decide +kernel
theorem dX11_fits_46 : decode cX11_fits 46 = .ok (.invokestatic 158, 3) := by decide +kernel
theorem dX11_fits_49 : decode cX11_fits 49 = .ok (.iconst 0, 1) := by decide +kernel
theorem dX11_fits_50 : decode cX11_fits 50 = .ok (.istore 4, 2) := by decide +kernel
theorem dX11_fits_52 : decode cX11_fits 52 = .ok (.bipush (-3), 2) := by decide +kernel
theorem dX11_fits_54 : decode cX11_fits 54 = .ok (.istore 5, 2) := by decide +kernel
theorem dX11_fits_56 : decode cX11_fits 56 = .ok (.bipush 99, 2) := by decide +kernel
theorem dX11_fits_58 : decode cX11_fits 58 = .ok (.istore 6, 2) := by decide +kernel
theorem dX11_fits_60 : decode cX11_fits 60 = .ok (.iload 6, 2) := by decide +kernel
theorem dX11_fits_62 : decode cX11_fits 62 = .ok (.ifCond .lt 48, 3) := by decide +kernel
theorem dX11_fits_65 : decode cX11_fits 65 = .ok (.aload_n 0, 1) := by decide +kernel
theorem dX11_fits_66 : decode cX11_fits 66 = .ok (.iload_n 1, 1) := by decide +kernel
theorem dX11_fits_67 : decode cX11_fits 67 = .ok (.iload_n 2, 1) := by decide +kernel
theorem dX11_fits_68 : decode cX11_fits 68 = .ok (.iload 6, 2) := by decide +kernel
theorem dX11_fits_70 : decode cX11_fits 70 = .ok (.invokevirtual 212, 3) := by decide +kernel
theorem dX11_fits_73 : decode cX11_fits 73 = .ok (.istore 7, 2) := by decide +kernel
theorem dX11_fits_75 : decode cX11_fits 75 = .ok (.iload 4, 2) := by decide +kernel
theorem dX11_fits_77 : decode cX11_fits 77 = .ok (.iload 7, 2) := by decide +kernel
theorem dX11_fits_79 : decode cX11_fits 79 = .ok (.ifCond .eq 7, 3) := by decide +kernel
theorem dX11_fits_82 : decode cX11_fits 82 = .ok (.iconst 1, 1) := by decide +kernel
theorem dX11_fits_83 : decode cX11_fits 83 = .ok (.goto 4, 3) := by decide +kernel
theorem dX11_fits_86 : decode cX11_fits 86 = .ok (.iconst 0, 1) := by decide +kernel
theorem dX11_fits_87 : decode cX11_fits 87 = .ok (.iadd, 1) := by decide +kernel
theorem dX11_fits_88 : decode cX11_fits 88 = .ok (.istore 4, 2) := by decide +kernel
theorem dX11_fits_90 : decode cX11_fits 90 = .ok (.iload 7, 2) := by decide +kernel
theorem dX11_fits_92 : decode cX11_fits 92 = .ok (.ifCond .eq 8, 3) := by decide +kernel
theorem dX11_fits_95 : decode cX11_fits 95 = .ok (.iload 6, 2) := by decide +kernel
theorem dX11_fits_97 : decode cX11_fits 97 = .ok (.goto 5, 3) := by decide +kernel
theorem dX11_fits_100 : decode cX11_fits 100 = .ok (.iload 5, 2) := by decide +kernel
theorem dX11_fits_102 : decode cX11_fits 102 = .ok (.istore 5, 2) := by decide +kernel
theorem dX11_fits_104 : decode cX11_fits 104 = .ok (.iinc 6 (-1), 3) := by decide +kernel
theorem dX11_fits_107 : decode cX11_fits 107 = .ok (.goto (-47), 3) := by decide +kernel
theorem dX11_fits_110 : decode cX11_fits 110 = .ok (.iload_n 3, 1) := by decide +kernel
theorem dX11_fits_111 : decode cX11_fits 111 = .ok (.ifCond .ne 8, 3) := by decide +kernel
theorem dX11_fits_114 : decode cX11_fits 114 = .ok (.iload 4, 2) := by decide +kernel
theorem dX11_fits_116 : decode cX11_fits 116 = .ok (.goto 5, 3) := by decide +kernel
theorem dX11_fits_119 : decode cX11_fits 119 = .ok (.iload 5, 2) := by decide +kernel
theorem dX11_fits_121 : decode cX11_fits 121 = .ok (.ireturn, 1) := by decide +kernel
theorem dX11_partOf_0 : decode cX11_partOf 0 = .ok (.lload_n 0, 1) := by decide +kernel
theorem dX11_partOf_1 : decode cX11_partOf 1 = .ok (.lstore 5, 2) := by decide +kernel
theorem dX11_partOf_3 : decode cX11_partOf 3 = .ok (.lload_n 2, 1) := by decide +kernel
theorem dX11_partOf_4 : decode cX11_partOf 4 = .ok (.lstore 7, 2) := by decide +kernel
theorem dX11_partOf_6 : decode cX11_partOf 6 = .ok (.lload 7, 2) := by decide +kernel
theorem dX11_partOf_8 : decode cX11_partOf 8 = .ok (.lconst 0, 1) := by decide +kernel
theorem dX11_partOf_9 : decode cX11_partOf 9 = .ok (.lcmp, 1) := by decide +kernel
theorem dX11_partOf_10 : decode cX11_partOf 10 = .ok (.ifCond .eq 21, 3) := by decide +kernel
theorem dX11_partOf_13 : decode cX11_partOf 13 = .ok (.lload 5, 2) := by decide +kernel
theorem dX11_partOf_15 : decode cX11_partOf 15 = .ok (.lload 7, 2) := by decide +kernel
theorem dX11_partOf_17 : decode cX11_partOf 17 = .ok (.lrem, 1) := by decide +kernel
theorem dX11_partOf_18 : decode cX11_partOf 18 = .ok (.lstore 9, 2) := by decide +kernel
theorem dX11_partOf_20 : decode cX11_partOf 20 = .ok (.lload 7, 2) := by decide +kernel
theorem dX11_partOf_22 : decode cX11_partOf 22 = .ok (.lstore 5, 2) := by decide +kernel
theorem dX11_partOf_24 : decode cX11_partOf 24 = .ok (.lload 9, 2) := by decide +kernel
theorem dX11_partOf_26 : decode cX11_partOf 26 = .ok (.lstore 7, 2) := by decide +kernel
theorem dX11_partOf_28 : decode cX11_partOf 28 = .ok (.goto (-22), 3) := by decide +kernel
theorem dX11_partOf_31 : decode cX11_partOf 31 = .ok (.iload 4, 2) := by decide +kernel
theorem dX11_partOf_33 : decode cX11_partOf 33 = .ok (.ifCond .ne 10, 3) := by decide +kernel
theorem dX11_partOf_36 : decode cX11_partOf 36 = .ok (.lload_n 0, 1) := by decide +kernel
theorem dX11_partOf_37 : decode cX11_partOf 37 = .ok (.lload 5, 2) := by decide +kernel
theorem dX11_partOf_39 : decode cX11_partOf 39 = .ok (.ldiv, 1) := by decide +kernel
theorem dX11_partOf_40 : decode cX11_partOf 40 = .ok (.goto 7, 3) := by decide +kernel
theorem dX11_partOf_43 : decode cX11_partOf 43 = .ok (.lload_n 2, 1) := by decide +kernel
theorem dX11_partOf_44 : decode cX11_partOf 44 = .ok (.lload 5, 2) := by decide +kernel
theorem dX11_partOf_46 : decode cX11_partOf 46 = .ok (.ldiv, 1) := by decide +kernel
theorem dX11_partOf_47 : decode cX11_partOf 47 = .ok (.lreturn, 1) := by decide +kernel
set_option maxRecDepth 20000 in
theorem ggX11_odds_X11_in1 : GoodIn wsX11_odds wsX11_in1 := goodIn_r _ [7] (by decide +kernel) (by decide +kernel)
set_option maxRecDepth 20000 in
theorem gX11_odds_X11_in1 : GoodIn wsX11_odds (va_wsS RX11 57 yX11_in1 wsX11_in1) := goodIn_app (goodIn_of _ (by decide +kernel)) ggX11_odds_X11_in1
set_option maxRecDepth 20000 in
theorem ggX11_odds_X11_partOf : GoodIn wsX11_odds wsX11_partOf := goodIn_r _ [10] (by decide +kernel) (by decide +kernel)
set_option maxRecDepth 20000 in
theorem gX11_odds_X11_partOf : GoodIn wsX11_odds (va_wsS RX11 219 yX11_partOf wsX11_partOf) := goodIn_app (goodIn_of _ (by decide +kernel)) ggX11_odds_X11_partOf
theorem dX11_odds_0 : decode cX11_odds 0 = .ok (.iload_n 1, 1) := by decide +kernel
theorem dX11_odds_1 : decode cX11_odds 1 = .ok (.iconst 0, 1) := by decide +kernel
theorem dX11_odds_2 : decode cX11_odds 2 = .ok (.bipush 8, 2) := by decide +kernel
theorem dX11_odds_4 : decode cX11_odds 4 = .ok (.invokestatic 57, 3) := by decide +kernel
theorem dX11_odds_7 : decode cX11_odds 7 = .ok (.ifCond .eq 21, 3) := by decide +kernel
theorem dX11_odds_10 : decode cX11_odds 10 = .ok (.iload_n 2, 1) := by decide +kernel
theorem dX11_odds_11 : decode cX11_odds 11 = .ok (.iconst 0, 1) := by decide +kernel
theorem dX11_odds_12 : decode cX11_odds 12 = .ok (.iload_n 1, 1) := by decide +kernel
theorem dX11_odds_13 : decode cX11_odds 13 = .ok (.invokestatic 57, 3) := by decide +kernel
theorem dX11_odds_16 : decode cX11_odds 16 = .ok (.ifCond .eq 12, 3) := by decide +kernel
theorem dX11_odds_19 : decode cX11_odds 19 = .ok (.iload_n 3, 1) := by decide +kernel
theorem dX11_odds_20 : decode cX11_odds 20 = .ok (.iconst 0, 1) := by decide +kernel
theorem dX11_odds_21 : decode cX11_odds 21 = .ok (.iconst 1, 1) := by decide +kernel
theorem dX11_odds_22 : decode cX11_odds 22 = .ok (.invokestatic 57, 3) := by decide +kernel
theorem dX11_odds_25 : decode cX11_odds 25 = .ok (.ifCond .ne 7, 3) := by decide +kernel
theorem dX11_odds_28 : decode cX11_odds 28 = .ok (.ldc2_w 215, 3) := by decide +kernel
theorem dX11_odds_31 : decode cX11_odds 31 = .ok (.lreturn, 1) := by decide +kernel
theorem dX11_odds_32 : decode cX11_odds 32 = .ok (.lconst 1, 1) := by decide +kernel
theorem dX11_odds_33 : decode cX11_odds 33 = .ok (.lstore 4, 2) := by decide +kernel
theorem dX11_odds_35 : decode cX11_odds 35 = .ok (.lconst 1, 1) := by decide +kernel
theorem dX11_odds_36 : decode cX11_odds 36 = .ok (.lstore 6, 2) := by decide +kernel
theorem dX11_odds_38 : decode cX11_odds 38 = .ok (.iconst 0, 1) := by decide +kernel
theorem dX11_odds_39 : decode cX11_odds 39 = .ok (.istore 8, 2) := by decide +kernel
theorem dX11_odds_41 : decode cX11_odds 41 = .ok (.iload 8, 2) := by decide +kernel
theorem dX11_odds_43 : decode cX11_odds 43 = .ok (.iload_n 2, 1) := by decide +kernel
theorem dX11_odds_44 : decode cX11_odds 44 = .ok (.if_icmp .ge 25, 3) := by decide +kernel
theorem dX11_odds_47 : decode cX11_odds 47 = .ok (.lload 4, 2) := by decide +kernel
theorem dX11_odds_49 : decode cX11_odds 49 = .ok (.iload_n 1, 1) := by decide +kernel
theorem dX11_odds_50 : decode cX11_odds 50 = .ok (.iload 8, 2) := by decide +kernel
theorem dX11_odds_52 : decode cX11_odds 52 = .ok (.isub, 1) := by decide +kernel
theorem dX11_odds_53 : decode cX11_odds 53 = .ok (.i2l, 1) := by decide +kernel
theorem dX11_odds_54 : decode cX11_odds 54 = .ok (.lmul, 1) := by decide +kernel
theorem dX11_odds_55 : decode cX11_odds 55 = .ok (.iload 8, 2) := by decide +kernel
theorem dX11_odds_57 : decode cX11_odds 57 = .ok (.iconst 1, 1) := by decide +kernel
theorem dX11_odds_58 : decode cX11_odds 58 = .ok (.iadd, 1) := by decide +kernel
theorem dX11_odds_59 : decode cX11_odds 59 = .ok (.i2l, 1) := by decide +kernel
theorem dX11_odds_60 : decode cX11_odds 60 = .ok (.ldiv, 1) := by decide +kernel
theorem dX11_odds_61 : decode cX11_odds 61 = .ok (.lstore 4, 2) := by decide +kernel
theorem dX11_odds_63 : decode cX11_odds 63 = .ok (.iinc 8 1, 3) := by decide +kernel
theorem dX11_odds_66 : decode cX11_odds 66 = .ok (.goto (-25), 3) := by decide +kernel
theorem dX11_odds_69 : decode cX11_odds 69 = .ok (.iconst 0, 1) := by decide +kernel
theorem dX11_odds_70 : decode cX11_odds 70 = .ok (.istore 8, 2) := by decide +kernel
theorem dX11_odds_72 : decode cX11_odds 72 = .ok (.iload 8, 2) := by decide +kernel
theorem dX11_odds_74 : decode cX11_odds 74 = .ok (.iload_n 1, 1) := by decide +kernel
theorem dX11_odds_75 : decode cX11_odds 75 = .ok (.if_icmp .ge 48, 3) := by decide +kernel
theorem dX11_odds_78 : decode cX11_odds 78 = .ok (.lload 4, 2) := by decide +kernel
theorem dX11_odds_80 : decode cX11_odds 80 = .ok (.iload 8, 2) := by decide +kernel
theorem dX11_odds_82 : decode cX11_odds 82 = .ok (.iload_n 2, 1) := by decide +kernel
theorem dX11_odds_83 : decode cX11_odds 83 = .ok (.if_icmp .ge 13, 3) := by decide +kernel
theorem dX11_odds_86 : decode cX11_odds 86 = .ok (.aload_n 0, 1) := by decide +kernel
theorem dX11_odds_87 : decode cX11_odds 87 = .ok (.getfield 9, 3) := by decide +kernel
theorem dX11_odds_90 : decode cX11_odds 90 = .ok (.iconst 4, 1) := by decide +kernel
theorem dX11_odds_91 : decode cX11_odds 91 = .ok (.iaload, 1) := by decide +kernel
theorem dX11_odds_92 : decode cX11_odds 92 = .ok (.i2l, 1) := by decide +kernel
theorem dX11_odds_93 : decode cX11_odds 93 = .ok (.goto 13, 3) := by decide +kernel
theorem dX11_odds_96 : decode cX11_odds 96 = .ok (.bipush 100, 2) := by decide +kernel
theorem dX11_odds_98 : decode cX11_odds 98 = .ok (.aload_n 0, 1) := by decide +kernel
theorem dX11_odds_99 : decode cX11_odds 99 = .ok (.getfield 9, 3) := by decide +kernel
theorem dX11_odds_102 : decode cX11_odds 102 = .ok (.iconst 4, 1) := by decide +kernel
theorem dX11_odds_103 : decode cX11_odds 103 = .ok (.iaload, 1) := by decide +kernel
theorem dX11_odds_104 : decode cX11_odds 104 = .ok (.isub, 1) := by decide +kernel
theorem dX11_odds_105 : decode cX11_odds 105 = .ok (.i2l, 1) := by decide +kernel
theorem dX11_odds_106 : decode cX11_odds 106 = .ok (.lmul, 1) := by decide +kernel
theorem dX11_odds_107 : decode cX11_odds 107 = .ok (.lstore 4, 2) := by decide +kernel
theorem dX11_odds_109 : decode cX11_odds 109 = .ok (.lload 6, 2) := by decide +kernel
theorem dX11_odds_111 : decode cX11_odds 111 = .ok (.ldc2_w 217, 3) := by decide +kernel
theorem dX11_odds_114 : decode cX11_odds 114 = .ok (.lmul, 1) := by decide +kernel
theorem dX11_odds_115 : decode cX11_odds 115 = .ok (.lstore 6, 2) := by decide +kernel
theorem dX11_odds_117 : decode cX11_odds 117 = .ok (.iinc 8 1, 3) := by decide +kernel
theorem dX11_odds_120 : decode cX11_odds 120 = .ok (.goto (-48), 3) := by decide +kernel
theorem dX11_odds_123 : decode cX11_odds 123 = .ok (.lload 4, 2) := by decide +kernel
theorem dX11_odds_125 : decode cX11_odds 125 = .ok (.lload 6, 2) := by decide +kernel
theorem dX11_odds_127 : decode cX11_odds 127 = .ok (.iload_n 3, 1) := by decide +kernel
theorem dX11_odds_128 : decode cX11_odds 128 = .ok (.invokestatic 219, 3) := by decide +kernel
theorem dX11_odds_131 : decode cX11_odds 131 = .ok (.lreturn, 1) := by decide +kernel
set_option maxRecDepth 20000 in
theorem ggX11_hope_X11_in1 : GoodIn wsX11_hope wsX11_in1 := goodIn_r _ [7] (by decide +kernel) (by decide +kernel)
set_option maxRecDepth 20000 in
theorem gX11_hope_X11_in1 : GoodIn wsX11_hope (va_wsS RX11 57 yX11_in1 wsX11_in1) := goodIn_app (goodIn_of _ (by decide +kernel)) ggX11_hope_X11_in1
set_option maxRecDepth 20000 in
theorem ggX11_hope_X11_partOf : GoodIn wsX11_hope wsX11_partOf := goodIn_r _ [10] (by decide +kernel) (by decide +kernel)
set_option maxRecDepth 20000 in
theorem gX11_hope_X11_partOf : GoodIn wsX11_hope (va_wsS RX11 219 yX11_partOf wsX11_partOf) := goodIn_app (goodIn_of _ (by decide +kernel)) ggX11_hope_X11_partOf
theorem dX11_hope_0 : decode cX11_hope 0 = .ok (.iload_n 1, 1) := by decide +kernel
theorem dX11_hope_1 : decode cX11_hope 1 = .ok (.iconst 0, 1) := by decide +kernel
theorem dX11_hope_2 : decode cX11_hope 2 = .ok (.bipush 99, 2) := by decide +kernel
theorem dX11_hope_4 : decode cX11_hope 4 = .ok (.invokestatic 57, 3) := by decide +kernel
theorem dX11_hope_7 : decode cX11_hope 7 = .ok (.ifCond .eq 32, 3) := by decide +kernel
theorem dX11_hope_10 : decode cX11_hope 10 = .ok (.iload_n 2, 1) := by decide +kernel
theorem dX11_hope_11 : decode cX11_hope 11 = .ok (.iconst 0, 1) := by decide +kernel
theorem dX11_hope_12 : decode cX11_hope 12 = .ok (.iconst 1, 1) := by decide +kernel
theorem dX11_hope_13 : decode cX11_hope 13 = .ok (.invokestatic 57, 3) := by decide +kernel
theorem dX11_hope_16 : decode cX11_hope 16 = .ok (.ifCond .eq 23, 3) := by decide +kernel
theorem dX11_hope_19 : decode cX11_hope 19 = .ok (.iload_n 1, 1) := by decide +kernel
theorem dX11_hope_20 : decode cX11_hope 20 = .ok (.i2l, 1) := by decide +kernel
theorem dX11_hope_21 : decode cX11_hope 21 = .ok (.aload_n 0, 1) := by decide +kernel
theorem dX11_hope_22 : decode cX11_hope 22 = .ok (.getfield 9, 3) := by decide +kernel
theorem dX11_hope_25 : decode cX11_hope 25 = .ok (.iconst 4, 1) := by decide +kernel
theorem dX11_hope_26 : decode cX11_hope 26 = .ok (.iaload, 1) := by decide +kernel
theorem dX11_hope_27 : decode cX11_hope 27 = .ok (.i2l, 1) := by decide +kernel
theorem dX11_hope_28 : decode cX11_hope 28 = .ok (.lmul, 1) := by decide +kernel
theorem dX11_hope_29 : decode cX11_hope 29 = .ok (.ldc2_w 217, 3) := by decide +kernel
theorem dX11_hope_32 : decode cX11_hope 32 = .ok (.iload_n 2, 1) := by decide +kernel
theorem dX11_hope_33 : decode cX11_hope 33 = .ok (.invokestatic 219, 3) := by decide +kernel
theorem dX11_hope_36 : decode cX11_hope 36 = .ok (.goto 6, 3) := by decide +kernel
theorem dX11_hope_39 : decode cX11_hope 39 = .ok (.ldc2_w 215, 3) := by decide +kernel
theorem dX11_hope_42 : decode cX11_hope 42 = .ok (.lreturn, 1) := by decide +kernel
set_option maxRecDepth 20000 in
theorem ggX11_rowNow_X11_get : GoodIn wsX11_rowNow wsX11_get := goodIn_r _ [5, 6, 31, 32, 33, 34, 35, 36, 37, 38, 39, 40, 41, 42, 43, 44, 45, 46, 47, 48, 49, 50, 51, 52, 53, 54] (by decide +kernel) (by decide +kernel)
set_option maxRecDepth 20000 in
theorem gX11_rowNow_X11_get : GoodIn wsX11_rowNow (wsV RX11 61 RX11 yX11_get wsX11_get) := goodIn_app (goodIn_of _ (by decide +kernel)) ggX11_rowNow_X11_get
set_option maxRecDepth 20000 in
theorem ggX11_rowNow_X11_setOf : GoodIn wsX11_rowNow wsX11_setOf := goodIn_r _ [10, 6, 11, 12, 13, 4, 14, 1, 2, 3, 5, 15, 16, 17, 18, 19, 20, 21, 22, 23, 24, 25, 26, 27, 28, 29, 30, 31, 32, 33, 34, 35, 36, 37, 38, 39, 40, 41, 42, 43, 44, 45, 46, 47, 48, 49, 50, 51, 52, 53, 54] (by decide +kernel) (by decide +kernel)
set_option maxRecDepth 20000 in
theorem gX11_rowNow_X11_setOf : GoodIn wsX11_rowNow (wsV RX11 180 RX11 yX11_setOf wsX11_setOf) := goodIn_app (goodIn_of _ (by decide +kernel)) ggX11_rowNow_X11_setOf
theorem dX11_rowNow_0 : decode cX11_rowNow 0 = .ok (.iload_n 2, 1) := by decide +kernel
theorem dX11_rowNow_1 : decode cX11_rowNow 1 = .ok (.ifCond .ne 12, 3) := by decide +kernel
theorem dX11_rowNow_4 : decode cX11_rowNow 4 = .ok (.aload_n 0, 1) := by decide +kernel
theorem dX11_rowNow_5 : decode cX11_rowNow 5 = .ok (.iload_n 1, 1) := by decide +kernel
theorem dX11_rowNow_6 : decode cX11_rowNow 6 = .ok (.iconst 2, 1) := by decide +kernel
theorem dX11_rowNow_7 : decode cX11_rowNow 7 = .ok (.invokevirtual 61, 3) := by decide +kernel
theorem dX11_rowNow_10 : decode cX11_rowNow 10 = .ok (.goto 22, 3) := by decide +kernel
theorem dX11_rowNow_13 : decode cX11_rowNow 13 = .ok (.iload_n 2, 1) := by decide +kernel
theorem dX11_rowNow_14 : decode cX11_rowNow 14 = .ok (.iconst 1, 1) := by decide +kernel
theorem dX11_rowNow_15 : decode cX11_rowNow 15 = .ok (.if_icmp .ne 12, 3) := by decide +kernel
theorem dX11_rowNow_18 : decode cX11_rowNow 18 = .ok (.aload_n 0, 1) := by decide +kernel
theorem dX11_rowNow_19 : decode cX11_rowNow 19 = .ok (.iload_n 1, 1) := by decide +kernel
theorem dX11_rowNow_20 : decode cX11_rowNow 20 = .ok (.iconst 1, 1) := by decide +kernel
theorem dX11_rowNow_21 : decode cX11_rowNow 21 = .ok (.invokevirtual 61, 3) := by decide +kernel
theorem dX11_rowNow_24 : decode cX11_rowNow 24 = .ok (.goto 8, 3) := by decide +kernel
theorem dX11_rowNow_27 : decode cX11_rowNow 27 = .ok (.aload_n 0, 1) := by decide +kernel
theorem dX11_rowNow_28 : decode cX11_rowNow 28 = .ok (.iconst 1, 1) := by decide +kernel
theorem dX11_rowNow_29 : decode cX11_rowNow 29 = .ok (.invokevirtual 180, 3) := by decide +kernel
theorem dX11_rowNow_32 : decode cX11_rowNow 32 = .ok (.ireturn, 1) := by decide +kernel
set_option maxRecDepth 20000 in
theorem ggX11_prove_X11_isGoer : GoodIn wsX11_prove wsX11_isGoer := goodIn_r _ [9, 1, 10, 11, 8, 12, 76, 77, 78, 79, 80, 81, 82, 83, 84, 85, 86, 87, 88, 89, 90, 91, 92, 93, 94, 95, 96, 97, 98, 99] (by decide +kernel) (by decide +kernel)
set_option maxRecDepth 20000 in
theorem gX11_prove_X11_isGoer : GoodIn wsX11_prove (wsV RX11 174 RX11 yX11_isGoer wsX11_isGoer) := goodIn_app (goodIn_of _ (by decide +kernel)) ggX11_prove_X11_isGoer
set_option maxRecDepth 20000 in
theorem ggX11_prove_X11_in1 : GoodIn wsX11_prove wsX11_in1 := goodIn_r _ [12] (by decide +kernel) (by decide +kernel)
set_option maxRecDepth 20000 in
theorem gX11_prove_X11_in1 : GoodIn wsX11_prove (va_wsS RX11 57 yX11_in1 wsX11_in1) := goodIn_app (goodIn_of _ (by decide +kernel)) ggX11_prove_X11_in1
set_option maxRecDepth 20000 in
theorem ggX11_prove_X11_copies : GoodIn wsX11_prove wsX11_copies := goodIn_r _ [15] (by decide +kernel) (by decide +kernel)
set_option maxRecDepth 20000 in
theorem gX11_prove_X11_copies : GoodIn wsX11_prove (va_wsS RX11 158 yX11_copies wsX11_copies) := goodIn_app (goodIn_of _ (by decide +kernel)) ggX11_prove_X11_copies
set_option maxRecDepth 20000 in
theorem ggX11_prove_X11_step1 : GoodIn wsX11_prove wsX11_step1 := goodIn_r _ [19, 1, 20, 21, 22, 23, 8, 24, 25, 26, 27, 28, 29, 30, 31, 32, 33, 34, 35, 36, 37, 38, 39, 40, 41, 42, 43, 44, 45, 46, 47, 48, 49, 50, 51, 52, 53, 54, 55, 56, 57, 58, 59, 60, 61, 62, 63, 64, 65, 66, 67, 76, 77, 78, 79, 80, 81, 82, 83, 84, 85, 86, 87, 88, 89, 90, 91, 92, 93, 94, 95, 96, 97, 98, 99] (by decide +kernel) (by decide +kernel)
set_option maxRecDepth 20000 in
theorem gX11_prove_X11_step1 : GoodIn wsX11_prove (wsV RX11 103 RX11 yX11_step1 wsX11_step1) := goodIn_app (goodIn_of _ (by decide +kernel)) ggX11_prove_X11_step1
set_option maxRecDepth 20000 in
theorem ggX11_prove_X11_rowNow : GoodIn wsX11_prove wsX11_rowNow := goodIn_r _ [71, 25, 26, 27, 8, 28, 1, 72, 73, 74, 75, 21, 22, 23, 24, 37, 38, 39, 40, 41, 42, 43, 44, 45, 46, 47, 48, 49, 50, 51, 52, 76, 77, 78, 79, 80, 81, 82, 83, 84, 85, 86, 87, 88, 89, 90, 91, 92, 93, 94, 95, 96, 97, 98, 99] (by decide +kernel) (by decide +kernel)
set_option maxRecDepth 20000 in
theorem gX11_prove_X11_rowNow : GoodIn wsX11_prove (wsV RX11 223 RX11 yX11_rowNow wsX11_rowNow) := goodIn_app (goodIn_of _ (by decide +kernel)) ggX11_prove_X11_rowNow
theorem dX11_prove_0 : decode cX11_prove 0 = .ok (.aload_n 0, 1) := by decide +kernel
theorem dX11_prove_1 : decode cX11_prove 1 = .ok (.iload_n 1, 1) := by decide +kernel
theorem dX11_prove_2 : decode cX11_prove 2 = .ok (.invokevirtual 174, 3) := by decide +kernel
theorem dX11_prove_5 : decode cX11_prove 5 = .ok (.ifCond .eq 13, 3) := by decide +kernel
theorem dX11_prove_8 : decode cX11_prove 8 = .ok (.iload_n 2, 1) := by decide +kernel
theorem dX11_prove_9 : decode cX11_prove 9 = .ok (.iconst 1, 1) := by decide +kernel
theorem dX11_prove_10 : decode cX11_prove 10 = .ok (.bipush 10, 2) := by decide +kernel
theorem dX11_prove_12 : decode cX11_prove 12 = .ok (.invokestatic 57, 3) := by decide +kernel
theorem dX11_prove_15 : decode cX11_prove 15 = .ok (.ifCond .ne 5, 3) := by decide +kernel
theorem dX11_prove_18 : decode cX11_prove 18 = .ok (.iconst (-1), 1) := by decide +kernel
theorem dX11_prove_19 : decode cX11_prove 19 = .ok (.ireturn, 1) := by decide +kernel
theorem dX11_prove_20 : decode cX11_prove 20 = .ok (.aload_n 0, 1) := by decide +kernel
theorem dX11_prove_21 : decode cX11_prove 21 = .ok (.getfield 9, 3) := by decide +kernel
theorem dX11_prove_24 : decode cX11_prove 24 = .ok (.aload_n 0, 1) := by decide +kernel
theorem dX11_prove_25 : decode cX11_prove 25 = .ok (.getfield 16, 3) := by decide +kernel
theorem dX11_prove_28 : decode cX11_prove 28 = .ok (.invokestatic 158, 3) := by decide +kernel
theorem dX11_prove_31 : decode cX11_prove 31 = .ok (.iconst 0, 1) := by decide +kernel
theorem dX11_prove_32 : decode cX11_prove 32 = .ok (.istore_n 3, 1) := by decide +kernel
theorem dX11_prove_33 : decode cX11_prove 33 = .ok (.iload_n 3, 1) := by decide +kernel
theorem dX11_prove_34 : decode cX11_prove 34 = .ok (.iload_n 2, 1) := by decide +kernel
theorem dX11_prove_35 : decode cX11_prove 35 = .ok (.if_icmp .ge 46, 3) := by decide +kernel
theorem dX11_prove_38 : decode cX11_prove 38 = .ok (.aload_n 0, 1) := by decide +kernel
theorem dX11_prove_39 : decode cX11_prove 39 = .ok (.invokevirtual 103, 3) := by decide +kernel
theorem dX11_prove_42 : decode cX11_prove 42 = .ok (.iconst 0, 1) := by decide +kernel
theorem dX11_prove_43 : decode cX11_prove 43 = .ok (.istore 4, 2) := by decide +kernel
theorem dX11_prove_45 : decode cX11_prove 45 = .ok (.iload 4, 2) := by decide +kernel
theorem dX11_prove_47 : decode cX11_prove 47 = .ok (.iconst 3, 1) := by decide +kernel
theorem dX11_prove_48 : decode cX11_prove 48 = .ok (.if_icmp .ge 27, 3) := by decide +kernel
theorem dX11_prove_51 : decode cX11_prove 51 = .ok (.aload_n 0, 1) := by decide +kernel
theorem dX11_prove_52 : decode cX11_prove 52 = .ok (.getfield 32, 3) := by decide +kernel
theorem dX11_prove_55 : decode cX11_prove 55 = .ok (.iconst 3, 1) := by decide +kernel
theorem dX11_prove_56 : decode cX11_prove 56 = .ok (.iload_n 3, 1) := by decide +kernel
theorem dX11_prove_57 : decode cX11_prove 57 = .ok (.imul, 1) := by decide +kernel
theorem dX11_prove_58 : decode cX11_prove 58 = .ok (.iload 4, 2) := by decide +kernel
theorem dX11_prove_60 : decode cX11_prove 60 = .ok (.iadd, 1) := by decide +kernel
theorem dX11_prove_61 : decode cX11_prove 61 = .ok (.aload_n 0, 1) := by decide +kernel
theorem dX11_prove_62 : decode cX11_prove 62 = .ok (.iload_n 1, 1) := by decide +kernel
theorem dX11_prove_63 : decode cX11_prove 63 = .ok (.iload 4, 2) := by decide +kernel
theorem dX11_prove_65 : decode cX11_prove 65 = .ok (.invokevirtual 223, 3) := by decide +kernel
theorem dX11_prove_68 : decode cX11_prove 68 = .ok (.iastore, 1) := by decide +kernel
theorem dX11_prove_69 : decode cX11_prove 69 = .ok (.iinc 4 1, 3) := by decide +kernel
theorem dX11_prove_72 : decode cX11_prove 72 = .ok (.goto (-27), 3) := by decide +kernel
theorem dX11_prove_75 : decode cX11_prove 75 = .ok (.iinc 3 1, 3) := by decide +kernel
theorem dX11_prove_78 : decode cX11_prove 78 = .ok (.goto (-45), 3) := by decide +kernel
theorem dX11_prove_81 : decode cX11_prove 81 = .ok (.aload_n 0, 1) := by decide +kernel
theorem dX11_prove_82 : decode cX11_prove 82 = .ok (.getfield 16, 3) := by decide +kernel
theorem dX11_prove_85 : decode cX11_prove 85 = .ok (.aload_n 0, 1) := by decide +kernel
theorem dX11_prove_86 : decode cX11_prove 86 = .ok (.getfield 9, 3) := by decide +kernel
theorem dX11_prove_89 : decode cX11_prove 89 = .ok (.invokestatic 158, 3) := by decide +kernel
theorem dX11_prove_92 : decode cX11_prove 92 = .ok (.aload_n 0, 1) := by decide +kernel
theorem dX11_prove_93 : decode cX11_prove 93 = .ok (.iload_n 2, 1) := by decide +kernel
theorem dX11_prove_94 : decode cX11_prove 94 = .ok (.putfield 162, 3) := by decide +kernel
theorem dX11_prove_97 : decode cX11_prove 97 = .ok (.iload_n 2, 1) := by decide +kernel
theorem dX11_prove_98 : decode cX11_prove 98 = .ok (.ireturn, 1) := by decide +kernel
set_option maxRecDepth 20000 in
theorem ggX11_isRow_X11_in1 : GoodIn wsX11_isRow wsX11_in1 := goodIn_r _ [5] (by decide +kernel) (by decide +kernel)
set_option maxRecDepth 20000 in
theorem gX11_isRow_X11_in1 : GoodIn wsX11_isRow (va_wsS RX11 57 yX11_in1 wsX11_in1) := goodIn_app (goodIn_of _ (by decide +kernel)) ggX11_isRow_X11_in1
theorem dX11_isRow_0 : decode cX11_isRow 0 = .ok (.iload_n 1, 1) := by decide +kernel
theorem dX11_isRow_1 : decode cX11_isRow 1 = .ok (.iconst 0, 1) := by decide +kernel
theorem dX11_isRow_2 : decode cX11_isRow 2 = .ok (.aload_n 0, 1) := by decide +kernel
theorem dX11_isRow_3 : decode cX11_isRow 3 = .ok (.getfield 162, 3) := by decide +kernel
theorem dX11_isRow_6 : decode cX11_isRow 6 = .ok (.iconst 1, 1) := by decide +kernel
theorem dX11_isRow_7 : decode cX11_isRow 7 = .ok (.isub, 1) := by decide +kernel
theorem dX11_isRow_8 : decode cX11_isRow 8 = .ok (.invokestatic 57, 3) := by decide +kernel
theorem dX11_isRow_11 : decode cX11_isRow 11 = .ok (.ifCond .eq 16, 3) := by decide +kernel
theorem dX11_isRow_14 : decode cX11_isRow 14 = .ok (.iload_n 2, 1) := by decide +kernel
theorem dX11_isRow_15 : decode cX11_isRow 15 = .ok (.iconst 0, 1) := by decide +kernel
theorem dX11_isRow_16 : decode cX11_isRow 16 = .ok (.iconst 2, 1) := by decide +kernel
theorem dX11_isRow_17 : decode cX11_isRow 17 = .ok (.invokestatic 57, 3) := by decide +kernel
theorem dX11_isRow_20 : decode cX11_isRow 20 = .ok (.ifCond .eq 7, 3) := by decide +kernel
theorem dX11_isRow_23 : decode cX11_isRow 23 = .ok (.iconst 1, 1) := by decide +kernel
theorem dX11_isRow_24 : decode cX11_isRow 24 = .ok (.goto 4, 3) := by decide +kernel
theorem dX11_isRow_27 : decode cX11_isRow 27 = .ok (.iconst 0, 1) := by decide +kernel
theorem dX11_isRow_28 : decode cX11_isRow 28 = .ok (.ireturn, 1) := by decide +kernel
set_option maxRecDepth 20000 in
theorem ggX11_row_X11_isRow : GoodIn wsX11_row wsX11_isRow := goodIn_r _ [6, 7, 8, 9, 5, 10, 11, 12, 13, 14, 15, 16, 17, 18, 19, 20, 21, 22, 23, 24, 25, 26, 27, 28, 29, 30, 31, 32, 33, 34] (by decide +kernel) (by decide +kernel)
set_option maxRecDepth 20000 in
theorem gX11_row_X11_isRow : GoodIn wsX11_row (wsV RX11 226 RX11 yX11_isRow wsX11_isRow) := goodIn_app (goodIn_of _ (by decide +kernel)) ggX11_row_X11_isRow
theorem dX11_row_0 : decode cX11_row 0 = .ok (.aload_n 0, 1) := by decide +kernel
theorem dX11_row_1 : decode cX11_row 1 = .ok (.iload_n 1, 1) := by decide +kernel
theorem dX11_row_2 : decode cX11_row 2 = .ok (.iload_n 2, 1) := by decide +kernel
theorem dX11_row_3 : decode cX11_row 3 = .ok (.invokevirtual 226, 3) := by decide +kernel
theorem dX11_row_6 : decode cX11_row 6 = .ok (.ifCond .eq 16, 3) := by decide +kernel
theorem dX11_row_9 : decode cX11_row 9 = .ok (.aload_n 0, 1) := by decide +kernel
theorem dX11_row_10 : decode cX11_row 10 = .ok (.getfield 32, 3) := by decide +kernel
theorem dX11_row_13 : decode cX11_row 13 = .ok (.iconst 3, 1) := by decide +kernel
theorem dX11_row_14 : decode cX11_row 14 = .ok (.iload_n 1, 1) := by decide +kernel
theorem dX11_row_15 : decode cX11_row 15 = .ok (.imul, 1) := by decide +kernel
theorem dX11_row_16 : decode cX11_row 16 = .ok (.iload_n 2, 1) := by decide +kernel
theorem dX11_row_17 : decode cX11_row 17 = .ok (.iadd, 1) := by decide +kernel
theorem dX11_row_18 : decode cX11_row 18 = .ok (.iaload, 1) := by decide +kernel
theorem dX11_row_19 : decode cX11_row 19 = .ok (.goto 5, 3) := by decide +kernel
theorem dX11_row_22 : decode cX11_row 22 = .ok (.bipush (-9), 2) := by decide +kernel
theorem dX11_row_24 : decode cX11_row 24 = .ok (.ireturn, 1) := by decide +kernel
set_option maxRecDepth 20000 in
theorem ggX11_alterRow_X11_isRow : GoodIn wsX11_alterRow wsX11_isRow := goodIn_r _ [6, 7, 8, 9, 5, 10, 11, 12, 13, 14, 15, 16, 17, 18, 19, 20, 21, 22, 23, 24, 25, 26, 27, 28, 29, 30, 31, 32, 33, 34] (by decide +kernel) (by decide +kernel)
set_option maxRecDepth 20000 in
theorem gX11_alterRow_X11_isRow : GoodIn wsX11_alterRow (wsV RX11 226 RX11 yX11_isRow wsX11_isRow) := goodIn_app (goodIn_of _ (by decide +kernel)) ggX11_alterRow_X11_isRow
theorem dX11_alterRow_0 : decode cX11_alterRow 0 = .ok (.aload_n 0, 1) := by decide +kernel
theorem dX11_alterRow_1 : decode cX11_alterRow 1 = .ok (.iload_n 1, 1) := by decide +kernel
theorem dX11_alterRow_2 : decode cX11_alterRow 2 = .ok (.iload_n 2, 1) := by decide +kernel
theorem dX11_alterRow_3 : decode cX11_alterRow 3 = .ok (.invokevirtual 226, 3) := by decide +kernel
theorem dX11_alterRow_6 : decode cX11_alterRow 6 = .ok (.ifCond .ne 6, 3) := by decide +kernel
theorem dX11_alterRow_9 : decode cX11_alterRow 9 = .ok (.bipush (-9), 2) := by decide +kernel
theorem dX11_alterRow_11 : decode cX11_alterRow 11 = .ok (.ireturn, 1) := by decide +kernel
theorem dX11_alterRow_12 : decode cX11_alterRow 12 = .ok (.aload_n 0, 1) := by decide +kernel
theorem dX11_alterRow_13 : decode cX11_alterRow 13 = .ok (.getfield 32, 3) := by decide +kernel
theorem dX11_alterRow_16 : decode cX11_alterRow 16 = .ok (.iconst 3, 1) := by decide +kernel
theorem dX11_alterRow_17 : decode cX11_alterRow 17 = .ok (.iload_n 1, 1) := by decide +kernel
theorem dX11_alterRow_18 : decode cX11_alterRow 18 = .ok (.imul, 1) := by decide +kernel
theorem dX11_alterRow_19 : decode cX11_alterRow 19 = .ok (.iload_n 2, 1) := by decide +kernel
theorem dX11_alterRow_20 : decode cX11_alterRow 20 = .ok (.iadd, 1) := by decide +kernel
theorem dX11_alterRow_21 : decode cX11_alterRow 21 = .ok (.iaload, 1) := by decide +kernel
theorem dX11_alterRow_22 : decode cX11_alterRow 22 = .ok (.istore 4, 2) := by decide +kernel
theorem dX11_alterRow_24 : decode cX11_alterRow 24 = .ok (.aload_n 0, 1) := by decide +kernel
theorem dX11_alterRow_25 : decode cX11_alterRow 25 = .ok (.getfield 32, 3) := by decide +kernel
theorem dX11_alterRow_28 : decode cX11_alterRow 28 = .ok (.iconst 3, 1) := by decide +kernel
theorem dX11_alterRow_29 : decode cX11_alterRow 29 = .ok (.iload_n 1, 1) := by decide +kernel
theorem dX11_alterRow_30 : decode cX11_alterRow 30 = .ok (.imul, 1) := by decide +kernel
theorem dX11_alterRow_31 : decode cX11_alterRow 31 = .ok (.iload_n 2, 1) := by decide +kernel
theorem dX11_alterRow_32 : decode cX11_alterRow 32 = .ok (.iadd, 1) := by decide +kernel
theorem dX11_alterRow_33 : decode cX11_alterRow 33 = .ok (.iload_n 3, 1) := by decide +kernel
theorem dX11_alterRow_34 : decode cX11_alterRow 34 = .ok (.iastore, 1) := by decide +kernel
theorem dX11_alterRow_35 : decode cX11_alterRow 35 = .ok (.iload 4, 2) := by decide +kernel
theorem dX11_alterRow_37 : decode cX11_alterRow 37 = .ok (.ireturn, 1) := by decide +kernel
set_option maxRecDepth 20000 in
theorem ggX11_judge_X11_isGoer : GoodIn wsX11_judge wsX11_isGoer := goodIn_r _ [9, 1, 10, 11, 8, 12, 76, 77, 78, 79, 80, 81, 82, 83, 84, 85, 86, 87, 88, 89, 90, 91, 92, 93, 94, 95, 96, 97, 98, 99] (by decide +kernel) (by decide +kernel)
set_option maxRecDepth 20000 in
theorem gX11_judge_X11_isGoer : GoodIn wsX11_judge (wsV RX11 174 RX11 yX11_isGoer wsX11_isGoer) := goodIn_app (goodIn_of _ (by decide +kernel)) ggX11_judge_X11_isGoer
set_option maxRecDepth 20000 in
theorem ggX11_judge_X11_copies : GoodIn wsX11_judge wsX11_copies := goodIn_r _ [15] (by decide +kernel) (by decide +kernel)
set_option maxRecDepth 20000 in
theorem gX11_judge_X11_copies : GoodIn wsX11_judge (va_wsS RX11 158 yX11_copies wsX11_copies) := goodIn_app (goodIn_of _ (by decide +kernel)) ggX11_judge_X11_copies
set_option maxRecDepth 20000 in
theorem ggX11_judge_X11_step1 : GoodIn wsX11_judge wsX11_step1 := goodIn_r _ [19, 1, 20, 21, 22, 23, 8, 24, 25, 26, 27, 28, 29, 30, 31, 32, 33, 34, 35, 36, 37, 38, 39, 40, 41, 42, 43, 44, 45, 46, 47, 48, 49, 50, 51, 52, 53, 54, 55, 56, 57, 58, 59, 60, 61, 62, 63, 64, 65, 66, 67, 76, 77, 78, 79, 80, 81, 82, 83, 84, 85, 86, 87, 88, 89, 90, 91, 92, 93, 94, 95, 96, 97, 98, 99] (by decide +kernel) (by decide +kernel)
set_option maxRecDepth 20000 in
theorem gX11_judge_X11_step1 : GoodIn wsX11_judge (wsV RX11 103 RX11 yX11_step1 wsX11_step1) := goodIn_app (goodIn_of _ (by decide +kernel)) ggX11_judge_X11_step1
set_option maxRecDepth 20000 in
theorem ggX11_judge_X11_rowNow : GoodIn wsX11_judge wsX11_rowNow := goodIn_r _ [71, 25, 26, 27, 8, 28, 1, 72, 73, 74, 75, 21, 22, 23, 24, 37, 38, 39, 40, 41, 42, 43, 44, 45, 46, 47, 48, 49, 50, 51, 52, 76, 77, 78, 79, 80, 81, 82, 83, 84, 85, 86, 87, 88, 89, 90, 91, 92, 93, 94, 95, 96, 97, 98, 99] (by decide +kernel) (by decide +kernel)
set_option maxRecDepth 20000 in
theorem gX11_judge_X11_rowNow : GoodIn wsX11_judge (wsV RX11 223 RX11 yX11_rowNow wsX11_rowNow) := goodIn_app (goodIn_of _ (by decide +kernel)) ggX11_judge_X11_rowNow
theorem dX11_judge_0 : decode cX11_judge 0 = .ok (.aload_n 0, 1) := by decide +kernel
theorem dX11_judge_1 : decode cX11_judge 1 = .ok (.iload_n 1, 1) := by decide +kernel
theorem dX11_judge_2 : decode cX11_judge 2 = .ok (.invokevirtual 174, 3) := by decide +kernel
theorem dX11_judge_5 : decode cX11_judge 5 = .ok (.ifCond .ne 5, 3) := by decide +kernel
theorem dX11_judge_8 : decode cX11_judge 8 = .ok (.iconst (-1), 1) := by decide +kernel
theorem dX11_judge_9 : decode cX11_judge 9 = .ok (.ireturn, 1) := by decide +kernel
theorem dX11_judge_10 : decode cX11_judge 10 = .ok (.aload_n 0, 1) := by decide +kernel
theorem dX11_judge_11 : decode cX11_judge 11 = .ok (.getfield 9, 3) := by decide +kernel
theorem dX11_judge_14 : decode cX11_judge 14 = .ok (.aload_n 0, 1) := by decide +kernel
theorem dX11_judge_15 : decode cX11_judge 15 = .ok (.getfield 16, 3) := by decide +kernel
theorem dX11_judge_18 : decode cX11_judge 18 = .ok (.invokestatic 158, 3) := by decide +kernel
theorem dX11_judge_21 : decode cX11_judge 21 = .ok (.iconst 0, 1) := by decide +kernel
theorem dX11_judge_22 : decode cX11_judge 22 = .ok (.istore_n 2, 1) := by decide +kernel
theorem dX11_judge_23 : decode cX11_judge 23 = .ok (.iconst 0, 1) := by decide +kernel
theorem dX11_judge_24 : decode cX11_judge 24 = .ok (.istore_n 3, 1) := by decide +kernel
theorem dX11_judge_25 : decode cX11_judge 25 = .ok (.iload_n 3, 1) := by decide +kernel
theorem dX11_judge_26 : decode cX11_judge 26 = .ok (.aload_n 0, 1) := by decide +kernel
theorem dX11_judge_27 : decode cX11_judge 27 = .ok (.getfield 162, 3) := by decide +kernel
theorem dX11_judge_30 : decode cX11_judge 30 = .ok (.if_icmp .ge 81, 3) := by decide +kernel
theorem dX11_judge_33 : decode cX11_judge 33 = .ok (.iload_n 2, 1) := by decide +kernel
theorem dX11_judge_34 : decode cX11_judge 34 = .ok (.ifCond .ne 77, 3) := by decide +kernel
theorem dX11_judge_37 : decode cX11_judge 37 = .ok (.aload_n 0, 1) := by decide +kernel
theorem dX11_judge_38 : decode cX11_judge 38 = .ok (.invokevirtual 103, 3) := by decide +kernel
theorem dX11_judge_41 : decode cX11_judge 41 = .ok (.iconst 1, 1) := by decide +kernel
theorem dX11_judge_42 : decode cX11_judge 42 = .ok (.istore 4, 2) := by decide +kernel
theorem dX11_judge_44 : decode cX11_judge 44 = .ok (.iconst 0, 1) := by decide +kernel
theorem dX11_judge_45 : decode cX11_judge 45 = .ok (.istore 5, 2) := by decide +kernel
theorem dX11_judge_47 : decode cX11_judge 47 = .ok (.iload 5, 2) := by decide +kernel
theorem dX11_judge_49 : decode cX11_judge 49 = .ok (.iconst 3, 1) := by decide +kernel
theorem dX11_judge_50 : decode cX11_judge 50 = .ok (.if_icmp .ge 42, 3) := by decide +kernel
theorem dX11_judge_53 : decode cX11_judge 53 = .ok (.iload 4, 2) := by decide +kernel
theorem dX11_judge_55 : decode cX11_judge 55 = .ok (.ifCond .eq 28, 3) := by decide +kernel
theorem dX11_judge_58 : decode cX11_judge 58 = .ok (.aload_n 0, 1) := by decide +kernel
theorem dX11_judge_59 : decode cX11_judge 59 = .ok (.getfield 32, 3) := by decide +kernel
theorem dX11_judge_62 : decode cX11_judge 62 = .ok (.iconst 3, 1) := by decide +kernel
theorem dX11_judge_63 : decode cX11_judge 63 = .ok (.iload_n 3, 1) := by decide +kernel
theorem dX11_judge_64 : decode cX11_judge 64 = .ok (.imul, 1) := by decide +kernel
theorem dX11_judge_65 : decode cX11_judge 65 = .ok (.iload 5, 2) := by decide +kernel
theorem dX11_judge_67 : decode cX11_judge 67 = .ok (.iadd, 1) := by decide +kernel
theorem dX11_judge_68 : decode cX11_judge 68 = .ok (.iaload, 1) := by decide +kernel
theorem dX11_judge_69 : decode cX11_judge 69 = .ok (.aload_n 0, 1) := by decide +kernel
theorem dX11_judge_70 : decode cX11_judge 70 = .ok (.iload_n 1, 1) := by decide +kernel
theorem dX11_judge_71 : decode cX11_judge 71 = .ok (.iload 5, 2) := by decide +kernel
theorem dX11_judge_73 : decode cX11_judge 73 = .ok (.invokevirtual 223, 3) := by decide +kernel
theorem dX11_judge_76 : decode cX11_judge 76 = .ok (.if_icmp .ne 7, 3) := by decide +kernel
theorem dX11_judge_79 : decode cX11_judge 79 = .ok (.iconst 1, 1) := by decide +kernel
theorem dX11_judge_80 : decode cX11_judge 80 = .ok (.goto 4, 3) := by decide +kernel
theorem dX11_judge_83 : decode cX11_judge 83 = .ok (.iconst 0, 1) := by decide +kernel
theorem dX11_judge_84 : decode cX11_judge 84 = .ok (.istore 4, 2) := by decide +kernel
theorem dX11_judge_86 : decode cX11_judge 86 = .ok (.iinc 5 1, 3) := by decide +kernel
theorem dX11_judge_89 : decode cX11_judge 89 = .ok (.goto (-42), 3) := by decide +kernel
theorem dX11_judge_92 : decode cX11_judge 92 = .ok (.iload 4, 2) := by decide +kernel
theorem dX11_judge_94 : decode cX11_judge 94 = .ok (.ifCond .eq 7, 3) := by decide +kernel
theorem dX11_judge_97 : decode cX11_judge 97 = .ok (.iconst 0, 1) := by decide +kernel
theorem dX11_judge_98 : decode cX11_judge 98 = .ok (.goto 6, 3) := by decide +kernel
theorem dX11_judge_101 : decode cX11_judge 101 = .ok (.iconst 1, 1) := by decide +kernel
theorem dX11_judge_102 : decode cX11_judge 102 = .ok (.iload_n 3, 1) := by decide +kernel
theorem dX11_judge_103 : decode cX11_judge 103 = .ok (.iadd, 1) := by decide +kernel
theorem dX11_judge_104 : decode cX11_judge 104 = .ok (.istore_n 2, 1) := by decide +kernel
theorem dX11_judge_105 : decode cX11_judge 105 = .ok (.iinc 3 1, 3) := by decide +kernel
theorem dX11_judge_108 : decode cX11_judge 108 = .ok (.goto (-83), 3) := by decide +kernel
theorem dX11_judge_111 : decode cX11_judge 111 = .ok (.aload_n 0, 1) := by decide +kernel
theorem dX11_judge_112 : decode cX11_judge 112 = .ok (.getfield 16, 3) := by decide +kernel
theorem dX11_judge_115 : decode cX11_judge 115 = .ok (.aload_n 0, 1) := by decide +kernel
theorem dX11_judge_116 : decode cX11_judge 116 = .ok (.getfield 9, 3) := by decide +kernel
theorem dX11_judge_119 : decode cX11_judge 119 = .ok (.invokestatic 158, 3) := by decide +kernel
theorem dX11_judge_122 : decode cX11_judge 122 = .ok (.iload_n 2, 1) := by decide +kernel
theorem dX11_judge_123 : decode cX11_judge 123 = .ok (.ireturn, 1) := by decide +kernel
set_option maxRecDepth 20000 in
theorem ggX11_isSheet_X11_in1 : GoodIn wsX11_isSheet wsX11_in1 := goodIn_r _ [4] (by decide +kernel) (by decide +kernel)
set_option maxRecDepth 20000 in
theorem gX11_isSheet_X11_in1 : GoodIn wsX11_isSheet (va_wsS RX11 57 yX11_in1 wsX11_in1) := goodIn_app (goodIn_of _ (by decide +kernel)) ggX11_isSheet_X11_in1
theorem dX11_isSheet_0 : decode cX11_isSheet 0 = .ok (.iload_n 0, 1) := by decide +kernel
theorem dX11_isSheet_1 : decode cX11_isSheet 1 = .ok (.iconst 0, 1) := by decide +kernel
theorem dX11_isSheet_2 : decode cX11_isSheet 2 = .ok (.iconst 3, 1) := by decide +kernel
theorem dX11_isSheet_3 : decode cX11_isSheet 3 = .ok (.invokestatic 57, 3) := by decide +kernel
theorem dX11_isSheet_6 : decode cX11_isSheet 6 = .ok (.ireturn, 1) := by decide +kernel
set_option maxRecDepth 20000 in
theorem ggX11_minds_X11_isSheet : GoodIn wsX11_minds wsX11_isSheet := goodIn_r _ [8, 9, 10, 7, 11] (by decide +kernel) (by decide +kernel)
set_option maxRecDepth 20000 in
theorem gX11_minds_X11_isSheet : GoodIn wsX11_minds (va_wsS RX11 209 yX11_isSheet wsX11_isSheet) := goodIn_app (goodIn_of _ (by decide +kernel)) ggX11_minds_X11_isSheet
set_option maxRecDepth 20000 in
theorem ggX11_minds_X11_isGoer : GoodIn wsX11_minds wsX11_isGoer := goodIn_r _ [15, 1, 9, 10, 7, 11, 23, 24, 25, 26, 27, 28, 29, 30, 31, 32, 33, 34, 35, 36, 37, 38, 39, 40, 41, 42, 43, 44, 45, 46] (by decide +kernel) (by decide +kernel)
set_option maxRecDepth 20000 in
theorem gX11_minds_X11_isGoer : GoodIn wsX11_minds (wsV RX11 174 RX11 yX11_isGoer wsX11_isGoer) := goodIn_app (goodIn_of _ (by decide +kernel)) ggX11_minds_X11_isGoer
set_option maxRecDepth 20000 in
theorem ggX11_minds_X11_in1 : GoodIn wsX11_minds wsX11_in1 := goodIn_r _ [11] (by decide +kernel) (by decide +kernel)
set_option maxRecDepth 20000 in
theorem gX11_minds_X11_in1 : GoodIn wsX11_minds (va_wsS RX11 57 yX11_in1 wsX11_in1) := goodIn_app (goodIn_of _ (by decide +kernel)) ggX11_minds_X11_in1
set_option maxRecDepth 20000 in
theorem ggX11_minds_X11_held : GoodIn wsX11_minds wsX11_held := goodIn_r _ [18] (by decide +kernel) (by decide +kernel)
set_option maxRecDepth 20000 in
theorem gX11_minds_X11_held : GoodIn wsX11_minds (va_wsS RX11 89 yX11_held wsX11_held) := goodIn_app (goodIn_of _ (by decide +kernel)) ggX11_minds_X11_held
set_option maxRecDepth 20000 in
theorem ggX11_minds_X11_puts : GoodIn wsX11_minds wsX11_puts := goodIn_r _ [22, 1, 23, 24, 25, 26, 27, 28, 29, 30, 31, 32, 33, 34, 35, 36, 37, 38, 39, 40, 41, 42, 43, 44, 45, 46] (by decide +kernel) (by decide +kernel)
set_option maxRecDepth 20000 in
theorem gX11_minds_X11_puts : GoodIn wsX11_minds (wsV RX11 92 RX11 yX11_puts wsX11_puts) := goodIn_app (goodIn_of _ (by decide +kernel)) ggX11_minds_X11_puts
theorem dX11_minds_0 : decode cX11_minds 0 = .ok (.iload_n 1, 1) := by decide +kernel
theorem dX11_minds_1 : decode cX11_minds 1 = .ok (.invokestatic 209, 3) := by decide +kernel
theorem dX11_minds_4 : decode cX11_minds 4 = .ok (.ifCond .eq 36, 3) := by decide +kernel
theorem dX11_minds_7 : decode cX11_minds 7 = .ok (.aload_n 0, 1) := by decide +kernel
theorem dX11_minds_8 : decode cX11_minds 8 = .ok (.iload_n 3, 1) := by decide +kernel
theorem dX11_minds_9 : decode cX11_minds 9 = .ok (.invokevirtual 174, 3) := by decide +kernel
theorem dX11_minds_12 : decode cX11_minds 12 = .ok (.ifCond .eq 28, 3) := by decide +kernel
theorem dX11_minds_15 : decode cX11_minds 15 = .ok (.iload 4, 2) := by decide +kernel
theorem dX11_minds_17 : decode cX11_minds 17 = .ok (.iconst 0, 1) := by decide +kernel
theorem dX11_minds_18 : decode cX11_minds 18 = .ok (.bipush 8, 2) := by decide +kernel
theorem dX11_minds_20 : decode cX11_minds 20 = .ok (.invokestatic 57, 3) := by decide +kernel
theorem dX11_minds_23 : decode cX11_minds 23 = .ok (.ifCond .eq 17, 3) := by decide +kernel
theorem dX11_minds_26 : decode cX11_minds 26 = .ok (.iload_n 3, 1) := by decide +kernel
theorem dX11_minds_27 : decode cX11_minds 27 = .ok (.iload 4, 2) := by decide +kernel
theorem dX11_minds_29 : decode cX11_minds 29 = .ok (.iadd, 1) := by decide +kernel
theorem dX11_minds_30 : decode cX11_minds 30 = .ok (.aload_n 0, 1) := by decide +kernel
theorem dX11_minds_31 : decode cX11_minds 31 = .ok (.getfield 9, 3) := by decide +kernel
theorem dX11_minds_34 : decode cX11_minds 34 = .ok (.bipush 6, 2) := by decide +kernel
theorem dX11_minds_36 : decode cX11_minds 36 = .ok (.iaload, 1) := by decide +kernel
theorem dX11_minds_37 : decode cX11_minds 37 = .ok (.if_icmp .le 5, 3) := by decide +kernel
theorem dX11_minds_40 : decode cX11_minds 40 = .ok (.iconst (-1), 1) := by decide +kernel
theorem dX11_minds_41 : decode cX11_minds 41 = .ok (.ireturn, 1) := by decide +kernel
theorem dX11_minds_42 : decode cX11_minds 42 = .ok (.aload_n 0, 1) := by decide +kernel
theorem dX11_minds_43 : decode cX11_minds 43 = .ok (.getfield 35, 3) := by decide +kernel
theorem dX11_minds_46 : decode cX11_minds 46 = .ok (.iload_n 1, 1) := by decide +kernel
theorem dX11_minds_47 : decode cX11_minds 47 = .ok (.iaload, 1) := by decide +kernel
theorem dX11_minds_48 : decode cX11_minds 48 = .ok (.ifCond .ge 6, 3) := by decide +kernel
theorem dX11_minds_51 : decode cX11_minds 51 = .ok (.bipush (-11), 2) := by decide +kernel
theorem dX11_minds_53 : decode cX11_minds 53 = .ok (.ireturn, 1) := by decide +kernel
theorem dX11_minds_54 : decode cX11_minds 54 = .ok (.aload_n 0, 1) := by decide +kernel
theorem dX11_minds_55 : decode cX11_minds 55 = .ok (.getfield 35, 3) := by decide +kernel
theorem dX11_minds_58 : decode cX11_minds 58 = .ok (.iload_n 1, 1) := by decide +kernel
theorem dX11_minds_59 : decode cX11_minds 59 = .ok (.iaload, 1) := by decide +kernel
theorem dX11_minds_60 : decode cX11_minds 60 = .ok (.ifCond .eq 6, 3) := by decide +kernel
theorem dX11_minds_63 : decode cX11_minds 63 = .ok (.bipush (-13), 2) := by decide +kernel
theorem dX11_minds_65 : decode cX11_minds 65 = .ok (.ireturn, 1) := by decide +kernel
theorem dX11_minds_66 : decode cX11_minds 66 = .ok (.iload_n 2, 1) := by decide +kernel
theorem dX11_minds_67 : decode cX11_minds 67 = .ok (.iconst 0, 1) := by decide +kernel
theorem dX11_minds_68 : decode cX11_minds 68 = .ok (.aload_n 0, 1) := by decide +kernel
theorem dX11_minds_69 : decode cX11_minds 69 = .ok (.getfield 38, 3) := by decide +kernel
theorem dX11_minds_72 : decode cX11_minds 72 = .ok (.iload_n 1, 1) := by decide +kernel
theorem dX11_minds_73 : decode cX11_minds 73 = .ok (.iaload, 1) := by decide +kernel
theorem dX11_minds_74 : decode cX11_minds 74 = .ok (.invokestatic 57, 3) := by decide +kernel
theorem dX11_minds_77 : decode cX11_minds 77 = .ok (.ifCond .eq 16, 3) := by decide +kernel
theorem dX11_minds_80 : decode cX11_minds 80 = .ok (.iload 4, 2) := by decide +kernel
theorem dX11_minds_82 : decode cX11_minds 82 = .ok (.aload_n 0, 1) := by decide +kernel
theorem dX11_minds_83 : decode cX11_minds 83 = .ok (.getfield 38, 3) := by decide +kernel
theorem dX11_minds_86 : decode cX11_minds 86 = .ok (.iload_n 1, 1) := by decide +kernel
theorem dX11_minds_87 : decode cX11_minds 87 = .ok (.iaload, 1) := by decide +kernel
theorem dX11_minds_88 : decode cX11_minds 88 = .ok (.iload_n 2, 1) := by decide +kernel
theorem dX11_minds_89 : decode cX11_minds 89 = .ok (.isub, 1) := by decide +kernel
theorem dX11_minds_90 : decode cX11_minds 90 = .ok (.if_icmp .le 6, 3) := by decide +kernel
theorem dX11_minds_93 : decode cX11_minds 93 = .ok (.bipush (-12), 2) := by decide +kernel
theorem dX11_minds_95 : decode cX11_minds 95 = .ok (.ireturn, 1) := by decide +kernel
theorem dX11_minds_96 : decode cX11_minds 96 = .ok (.iconst 0, 1) := by decide +kernel
theorem dX11_minds_97 : decode cX11_minds 97 = .ok (.istore 5, 2) := by decide +kernel
theorem dX11_minds_99 : decode cX11_minds 99 = .ok (.iload 5, 2) := by decide +kernel
theorem dX11_minds_101 : decode cX11_minds 101 = .ok (.iload 4, 2) := by decide +kernel
theorem dX11_minds_103 : decode cX11_minds 103 = .ok (.if_icmp .ge 37, 3) := by decide +kernel
theorem dX11_minds_106 : decode cX11_minds 106 = .ok (.aload_n 0, 1) := by decide +kernel
theorem dX11_minds_107 : decode cX11_minds 107 = .ok (.iload_n 3, 1) := by decide +kernel
theorem dX11_minds_108 : decode cX11_minds 108 = .ok (.iload 5, 2) := by decide +kernel
theorem dX11_minds_110 : decode cX11_minds 110 = .ok (.iadd, 1) := by decide +kernel
theorem dX11_minds_111 : decode cX11_minds 111 = .ok (.iconst 1, 1) := by decide +kernel
theorem dX11_minds_112 : decode cX11_minds 112 = .ok (.aload_n 0, 1) := by decide +kernel
theorem dX11_minds_113 : decode cX11_minds 113 = .ok (.getfield 41, 3) := by decide +kernel
theorem dX11_minds_116 : decode cX11_minds 116 = .ok (.bipush 40, 2) := by decide +kernel
theorem dX11_minds_118 : decode cX11_minds 118 = .ok (.iload_n 1, 1) := by decide +kernel
theorem dX11_minds_119 : decode cX11_minds 119 = .ok (.imul, 1) := by decide +kernel
theorem dX11_minds_120 : decode cX11_minds 120 = .ok (.iload_n 2, 1) := by decide +kernel
theorem dX11_minds_121 : decode cX11_minds 121 = .ok (.iadd, 1) := by decide +kernel
theorem dX11_minds_122 : decode cX11_minds 122 = .ok (.iload 5, 2) := by decide +kernel
theorem dX11_minds_124 : decode cX11_minds 124 = .ok (.iadd, 1) := by decide +kernel
theorem dX11_minds_125 : decode cX11_minds 125 = .ok (.iaload, 1) := by decide +kernel
theorem dX11_minds_126 : decode cX11_minds 126 = .ok (.bipush 99, 2) := by decide +kernel
theorem dX11_minds_128 : decode cX11_minds 128 = .ok (.invokestatic 89, 3) := by decide +kernel
theorem dX11_minds_131 : decode cX11_minds 131 = .ok (.invokevirtual 92, 3) := by decide +kernel
theorem dX11_minds_134 : decode cX11_minds 134 = .ok (.iinc 5 1, 3) := by decide +kernel
theorem dX11_minds_137 : decode cX11_minds 137 = .ok (.goto (-38), 3) := by decide +kernel
theorem dX11_minds_140 : decode cX11_minds 140 = .ok (.iload 4, 2) := by decide +kernel
theorem dX11_minds_142 : decode cX11_minds 142 = .ok (.ireturn, 1) := by decide +kernel
set_option maxRecDepth 20000 in
theorem ggX11_sheet_X11_isSheet : GoodIn wsX11_sheet wsX11_isSheet := goodIn_r _ [7, 8, 9, 6, 10] (by decide +kernel) (by decide +kernel)
set_option maxRecDepth 20000 in
theorem gX11_sheet_X11_isSheet : GoodIn wsX11_sheet (va_wsS RX11 209 yX11_isSheet wsX11_isSheet) := goodIn_app (goodIn_of _ (by decide +kernel)) ggX11_sheet_X11_isSheet
set_option maxRecDepth 20000 in
theorem ggX11_sheet_X11_in1 : GoodIn wsX11_sheet wsX11_in1 := goodIn_r _ [10] (by decide +kernel) (by decide +kernel)
set_option maxRecDepth 20000 in
theorem gX11_sheet_X11_in1 : GoodIn wsX11_sheet (va_wsS RX11 57 yX11_in1 wsX11_in1) := goodIn_app (goodIn_of _ (by decide +kernel)) ggX11_sheet_X11_in1
theorem dX11_sheet_0 : decode cX11_sheet 0 = .ok (.iload_n 1, 1) := by decide +kernel
theorem dX11_sheet_1 : decode cX11_sheet 1 = .ok (.invokestatic 209, 3) := by decide +kernel
theorem dX11_sheet_4 : decode cX11_sheet 4 = .ok (.ifCond .eq 22, 3) := by decide +kernel
theorem dX11_sheet_7 : decode cX11_sheet 7 = .ok (.iload_n 2, 1) := by decide +kernel
theorem dX11_sheet_8 : decode cX11_sheet 8 = .ok (.iconst (-1), 1) := by decide +kernel
theorem dX11_sheet_9 : decode cX11_sheet 9 = .ok (.iconst 3, 1) := by decide +kernel
theorem dX11_sheet_10 : decode cX11_sheet 10 = .ok (.invokestatic 57, 3) := by decide +kernel
theorem dX11_sheet_13 : decode cX11_sheet 13 = .ok (.ifCond .eq 13, 3) := by decide +kernel
theorem dX11_sheet_16 : decode cX11_sheet 16 = .ok (.iload_n 2, 1) := by decide +kernel
theorem dX11_sheet_17 : decode cX11_sheet 17 = .ok (.ifCond .lt 11, 3) := by decide +kernel
theorem dX11_sheet_20 : decode cX11_sheet 20 = .ok (.iload_n 3, 1) := by decide +kernel
theorem dX11_sheet_21 : decode cX11_sheet 21 = .ok (.bipush 40, 2) := by decide +kernel
theorem dX11_sheet_23 : decode cX11_sheet 23 = .ok (.if_icmp .le 5, 3) := by decide +kernel
theorem dX11_sheet_26 : decode cX11_sheet 26 = .ok (.iconst (-1), 1) := by decide +kernel
theorem dX11_sheet_27 : decode cX11_sheet 27 = .ok (.ireturn, 1) := by decide +kernel
theorem dX11_sheet_28 : decode cX11_sheet 28 = .ok (.iload_n 2, 1) := by decide +kernel
theorem dX11_sheet_29 : decode cX11_sheet 29 = .ok (.ifCond .lt 10, 3) := by decide +kernel
theorem dX11_sheet_32 : decode cX11_sheet 32 = .ok (.iload_n 3, 1) := by decide +kernel
theorem dX11_sheet_33 : decode cX11_sheet 33 = .ok (.ifCond .ge 6, 3) := by decide +kernel
theorem dX11_sheet_36 : decode cX11_sheet 36 = .ok (.bipush (-14), 2) := by decide +kernel
theorem dX11_sheet_38 : decode cX11_sheet 38 = .ok (.ireturn, 1) := by decide +kernel
theorem dX11_sheet_39 : decode cX11_sheet 39 = .ok (.aload_n 0, 1) := by decide +kernel
theorem dX11_sheet_40 : decode cX11_sheet 40 = .ok (.getfield 35, 3) := by decide +kernel
theorem dX11_sheet_43 : decode cX11_sheet 43 = .ok (.iload_n 1, 1) := by decide +kernel
theorem dX11_sheet_44 : decode cX11_sheet 44 = .ok (.iload_n 2, 1) := by decide +kernel
theorem dX11_sheet_45 : decode cX11_sheet 45 = .ok (.iastore, 1) := by decide +kernel
theorem dX11_sheet_46 : decode cX11_sheet 46 = .ok (.aload_n 0, 1) := by decide +kernel
theorem dX11_sheet_47 : decode cX11_sheet 47 = .ok (.getfield 38, 3) := by decide +kernel
theorem dX11_sheet_50 : decode cX11_sheet 50 = .ok (.iload_n 1, 1) := by decide +kernel
theorem dX11_sheet_51 : decode cX11_sheet 51 = .ok (.iload_n 2, 1) := by decide +kernel
theorem dX11_sheet_52 : decode cX11_sheet 52 = .ok (.ifCond .ge 7, 3) := by decide +kernel
theorem dX11_sheet_55 : decode cX11_sheet 55 = .ok (.iconst 0, 1) := by decide +kernel
theorem dX11_sheet_56 : decode cX11_sheet 56 = .ok (.goto 4, 3) := by decide +kernel
theorem dX11_sheet_59 : decode cX11_sheet 59 = .ok (.iload_n 3, 1) := by decide +kernel
theorem dX11_sheet_60 : decode cX11_sheet 60 = .ok (.iastore, 1) := by decide +kernel
theorem dX11_sheet_61 : decode cX11_sheet 61 = .ok (.iconst 0, 1) := by decide +kernel
theorem dX11_sheet_62 : decode cX11_sheet 62 = .ok (.istore 4, 2) := by decide +kernel
theorem dX11_sheet_64 : decode cX11_sheet 64 = .ok (.iload 4, 2) := by decide +kernel
theorem dX11_sheet_66 : decode cX11_sheet 66 = .ok (.bipush 40, 2) := by decide +kernel
theorem dX11_sheet_68 : decode cX11_sheet 68 = .ok (.if_icmp .ge 22, 3) := by decide +kernel
theorem dX11_sheet_71 : decode cX11_sheet 71 = .ok (.aload_n 0, 1) := by decide +kernel
theorem dX11_sheet_72 : decode cX11_sheet 72 = .ok (.getfield 41, 3) := by decide +kernel
theorem dX11_sheet_75 : decode cX11_sheet 75 = .ok (.bipush 40, 2) := by decide +kernel
theorem dX11_sheet_77 : decode cX11_sheet 77 = .ok (.iload_n 1, 1) := by decide +kernel
theorem dX11_sheet_78 : decode cX11_sheet 78 = .ok (.imul, 1) := by decide +kernel
theorem dX11_sheet_79 : decode cX11_sheet 79 = .ok (.iload 4, 2) := by decide +kernel
theorem dX11_sheet_81 : decode cX11_sheet 81 = .ok (.iadd, 1) := by decide +kernel
theorem dX11_sheet_82 : decode cX11_sheet 82 = .ok (.iconst 0, 1) := by decide +kernel
theorem dX11_sheet_83 : decode cX11_sheet 83 = .ok (.iastore, 1) := by decide +kernel
theorem dX11_sheet_84 : decode cX11_sheet 84 = .ok (.iinc 4 1, 3) := by decide +kernel
theorem dX11_sheet_87 : decode cX11_sheet 87 = .ok (.goto (-23), 3) := by decide +kernel
theorem dX11_sheet_90 : decode cX11_sheet 90 = .ok (.iconst 1, 1) := by decide +kernel
theorem dX11_sheet_91 : decode cX11_sheet 91 = .ok (.ireturn, 1) := by decide +kernel
set_option maxRecDepth 20000 in
theorem ggX11_put_X11_isSheet : GoodIn wsX11_put wsX11_isSheet := goodIn_r _ [7, 8, 9, 6, 10] (by decide +kernel) (by decide +kernel)
set_option maxRecDepth 20000 in
theorem gX11_put_X11_isSheet : GoodIn wsX11_put (va_wsS RX11 209 yX11_isSheet wsX11_isSheet) := goodIn_app (goodIn_of _ (by decide +kernel)) ggX11_put_X11_isSheet
set_option maxRecDepth 20000 in
theorem ggX11_put_X11_in1 : GoodIn wsX11_put wsX11_in1 := goodIn_r _ [10] (by decide +kernel) (by decide +kernel)
set_option maxRecDepth 20000 in
theorem gX11_put_X11_in1 : GoodIn wsX11_put (va_wsS RX11 57 yX11_in1 wsX11_in1) := goodIn_app (goodIn_of _ (by decide +kernel)) ggX11_put_X11_in1
theorem dX11_put_0 : decode cX11_put 0 = .ok (.iload_n 1, 1) := by decide +kernel
theorem dX11_put_1 : decode cX11_put 1 = .ok (.invokestatic 209, 3) := by decide +kernel
theorem dX11_put_4 : decode cX11_put 4 = .ok (.ifCond .ne 5, 3) := by decide +kernel
theorem dX11_put_7 : decode cX11_put 7 = .ok (.iconst (-1), 1) := by decide +kernel
theorem dX11_put_8 : decode cX11_put 8 = .ok (.ireturn, 1) := by decide +kernel
theorem dX11_put_9 : decode cX11_put 9 = .ok (.aload_n 0, 1) := by decide +kernel
theorem dX11_put_10 : decode cX11_put 10 = .ok (.getfield 35, 3) := by decide +kernel
theorem dX11_put_13 : decode cX11_put 13 = .ok (.iload_n 1, 1) := by decide +kernel
theorem dX11_put_14 : decode cX11_put 14 = .ok (.iaload, 1) := by decide +kernel
theorem dX11_put_15 : decode cX11_put 15 = .ok (.ifCond .ge 6, 3) := by decide +kernel
theorem dX11_put_18 : decode cX11_put 18 = .ok (.bipush (-11), 2) := by decide +kernel
theorem dX11_put_20 : decode cX11_put 20 = .ok (.ireturn, 1) := by decide +kernel
theorem dX11_put_21 : decode cX11_put 21 = .ok (.iload_n 2, 1) := by decide +kernel
theorem dX11_put_22 : decode cX11_put 22 = .ok (.iconst 0, 1) := by decide +kernel
theorem dX11_put_23 : decode cX11_put 23 = .ok (.aload_n 0, 1) := by decide +kernel
theorem dX11_put_24 : decode cX11_put 24 = .ok (.getfield 38, 3) := by decide +kernel
theorem dX11_put_27 : decode cX11_put 27 = .ok (.iload_n 1, 1) := by decide +kernel
theorem dX11_put_28 : decode cX11_put 28 = .ok (.iaload, 1) := by decide +kernel
theorem dX11_put_29 : decode cX11_put 29 = .ok (.iconst 1, 1) := by decide +kernel
theorem dX11_put_30 : decode cX11_put 30 = .ok (.isub, 1) := by decide +kernel
theorem dX11_put_31 : decode cX11_put 31 = .ok (.invokestatic 57, 3) := by decide +kernel
theorem dX11_put_34 : decode cX11_put 34 = .ok (.ifCond .ne 6, 3) := by decide +kernel
theorem dX11_put_37 : decode cX11_put 37 = .ok (.bipush (-12), 2) := by decide +kernel
theorem dX11_put_39 : decode cX11_put 39 = .ok (.ireturn, 1) := by decide +kernel
theorem dX11_put_40 : decode cX11_put 40 = .ok (.aload_n 0, 1) := by decide +kernel
theorem dX11_put_41 : decode cX11_put 41 = .ok (.getfield 41, 3) := by decide +kernel
theorem dX11_put_44 : decode cX11_put 44 = .ok (.bipush 40, 2) := by decide +kernel
theorem dX11_put_46 : decode cX11_put 46 = .ok (.iload_n 1, 1) := by decide +kernel
theorem dX11_put_47 : decode cX11_put 47 = .ok (.imul, 1) := by decide +kernel
theorem dX11_put_48 : decode cX11_put 48 = .ok (.iload_n 2, 1) := by decide +kernel
theorem dX11_put_49 : decode cX11_put 49 = .ok (.iadd, 1) := by decide +kernel
theorem dX11_put_50 : decode cX11_put 50 = .ok (.aload_n 0, 1) := by decide +kernel
theorem dX11_put_51 : decode cX11_put 51 = .ok (.getfield 35, 3) := by decide +kernel
theorem dX11_put_54 : decode cX11_put 54 = .ok (.iload_n 1, 1) := by decide +kernel
theorem dX11_put_55 : decode cX11_put 55 = .ok (.iaload, 1) := by decide +kernel
theorem dX11_put_56 : decode cX11_put 56 = .ok (.ifCond .ne 8, 3) := by decide +kernel
theorem dX11_put_59 : decode cX11_put 59 = .ok (.iload_n 3, 1) := by decide +kernel
theorem dX11_put_60 : decode cX11_put 60 = .ok (.i2b, 1) := by decide +kernel
theorem dX11_put_61 : decode cX11_put 61 = .ok (.goto 19, 3) := by decide +kernel
theorem dX11_put_64 : decode cX11_put 64 = .ok (.aload_n 0, 1) := by decide +kernel
theorem dX11_put_65 : decode cX11_put 65 = .ok (.getfield 35, 3) := by decide +kernel
theorem dX11_put_68 : decode cX11_put 68 = .ok (.iload_n 1, 1) := by decide +kernel
theorem dX11_put_69 : decode cX11_put 69 = .ok (.iaload, 1) := by decide +kernel
theorem dX11_put_70 : decode cX11_put 70 = .ok (.iconst 1, 1) := by decide +kernel
theorem dX11_put_71 : decode cX11_put 71 = .ok (.if_icmp .ne 8, 3) := by decide +kernel
theorem dX11_put_74 : decode cX11_put 74 = .ok (.iload_n 3, 1) := by decide +kernel
theorem dX11_put_75 : decode cX11_put 75 = .ok (.i2s, 1) := by decide +kernel
theorem dX11_put_76 : decode cX11_put 76 = .ok (.goto 4, 3) := by decide +kernel
theorem dX11_put_79 : decode cX11_put 79 = .ok (.iload_n 3, 1) := by decide +kernel
theorem dX11_put_80 : decode cX11_put 80 = .ok (.iastore, 1) := by decide +kernel
theorem dX11_put_81 : decode cX11_put 81 = .ok (.iconst 1, 1) := by decide +kernel
theorem dX11_put_82 : decode cX11_put 82 = .ok (.ireturn, 1) := by decide +kernel
set_option maxRecDepth 20000 in
theorem ggX11_item_X11_isSheet : GoodIn wsX11_item wsX11_isSheet := goodIn_r _ [7, 8, 9, 6, 10] (by decide +kernel) (by decide +kernel)
set_option maxRecDepth 20000 in
theorem gX11_item_X11_isSheet : GoodIn wsX11_item (va_wsS RX11 209 yX11_isSheet wsX11_isSheet) := goodIn_app (goodIn_of _ (by decide +kernel)) ggX11_item_X11_isSheet
set_option maxRecDepth 20000 in
theorem ggX11_item_X11_in1 : GoodIn wsX11_item wsX11_in1 := goodIn_r _ [10] (by decide +kernel) (by decide +kernel)
set_option maxRecDepth 20000 in
theorem gX11_item_X11_in1 : GoodIn wsX11_item (va_wsS RX11 57 yX11_in1 wsX11_in1) := goodIn_app (goodIn_of _ (by decide +kernel)) ggX11_item_X11_in1
theorem dX11_item_0 : decode cX11_item 0 = .ok (.iload_n 1, 1) := by decide +kernel
theorem dX11_item_1 : decode cX11_item 1 = .ok (.invokestatic 209, 3) := by decide +kernel
theorem dX11_item_4 : decode cX11_item 4 = .ok (.ifCond .eq 12, 3) := by decide +kernel
theorem dX11_item_7 : decode cX11_item 7 = .ok (.iload_n 2, 1) := by decide +kernel
theorem dX11_item_8 : decode cX11_item 8 = .ok (.iconst 0, 1) := by decide +kernel
theorem dX11_item_9 : decode cX11_item 9 = .ok (.iconst 3, 1) := by decide +kernel
theorem dX11_item_10 : decode cX11_item 10 = .ok (.invokestatic 57, 3) := by decide +kernel
theorem dX11_item_13 : decode cX11_item 13 = .ok (.ifCond .ne 5, 3) := by decide +kernel
theorem dX11_item_16 : decode cX11_item 16 = .ok (.iconst (-1), 1) := by decide +kernel
theorem dX11_item_17 : decode cX11_item 17 = .ok (.ireturn, 1) := by decide +kernel
theorem dX11_item_18 : decode cX11_item 18 = .ok (.aload_n 0, 1) := by decide +kernel
theorem dX11_item_19 : decode cX11_item 19 = .ok (.getfield 35, 3) := by decide +kernel
theorem dX11_item_22 : decode cX11_item 22 = .ok (.iload_n 1, 1) := by decide +kernel
theorem dX11_item_23 : decode cX11_item 23 = .ok (.iaload, 1) := by decide +kernel
theorem dX11_item_24 : decode cX11_item 24 = .ok (.ifCond .ge 6, 3) := by decide +kernel
theorem dX11_item_27 : decode cX11_item 27 = .ok (.bipush (-11), 2) := by decide +kernel
theorem dX11_item_29 : decode cX11_item 29 = .ok (.ireturn, 1) := by decide +kernel
theorem dX11_item_30 : decode cX11_item 30 = .ok (.aload_n 0, 1) := by decide +kernel
theorem dX11_item_31 : decode cX11_item 31 = .ok (.getfield 35, 3) := by decide +kernel
theorem dX11_item_34 : decode cX11_item 34 = .ok (.iload_n 1, 1) := by decide +kernel
theorem dX11_item_35 : decode cX11_item 35 = .ok (.iaload, 1) := by decide +kernel
theorem dX11_item_36 : decode cX11_item 36 = .ok (.iload_n 2, 1) := by decide +kernel
theorem dX11_item_37 : decode cX11_item 37 = .ok (.if_icmp .eq 6, 3) := by decide +kernel
theorem dX11_item_40 : decode cX11_item 40 = .ok (.bipush (-13), 2) := by decide +kernel
theorem dX11_item_42 : decode cX11_item 42 = .ok (.ireturn, 1) := by decide +kernel
theorem dX11_item_43 : decode cX11_item 43 = .ok (.iload_n 3, 1) := by decide +kernel
theorem dX11_item_44 : decode cX11_item 44 = .ok (.iconst 0, 1) := by decide +kernel
theorem dX11_item_45 : decode cX11_item 45 = .ok (.aload_n 0, 1) := by decide +kernel
theorem dX11_item_46 : decode cX11_item 46 = .ok (.getfield 38, 3) := by decide +kernel
theorem dX11_item_49 : decode cX11_item 49 = .ok (.iload_n 1, 1) := by decide +kernel
theorem dX11_item_50 : decode cX11_item 50 = .ok (.iaload, 1) := by decide +kernel
theorem dX11_item_51 : decode cX11_item 51 = .ok (.iconst 1, 1) := by decide +kernel
theorem dX11_item_52 : decode cX11_item 52 = .ok (.isub, 1) := by decide +kernel
theorem dX11_item_53 : decode cX11_item 53 = .ok (.invokestatic 57, 3) := by decide +kernel
theorem dX11_item_56 : decode cX11_item 56 = .ok (.ifCond .eq 17, 3) := by decide +kernel
theorem dX11_item_59 : decode cX11_item 59 = .ok (.aload_n 0, 1) := by decide +kernel
theorem dX11_item_60 : decode cX11_item 60 = .ok (.getfield 41, 3) := by decide +kernel
theorem dX11_item_63 : decode cX11_item 63 = .ok (.bipush 40, 2) := by decide +kernel
theorem dX11_item_65 : decode cX11_item 65 = .ok (.iload_n 1, 1) := by decide +kernel
theorem dX11_item_66 : decode cX11_item 66 = .ok (.imul, 1) := by decide +kernel
theorem dX11_item_67 : decode cX11_item 67 = .ok (.iload_n 3, 1) := by decide +kernel
theorem dX11_item_68 : decode cX11_item 68 = .ok (.iadd, 1) := by decide +kernel
theorem dX11_item_69 : decode cX11_item 69 = .ok (.iaload, 1) := by decide +kernel
theorem dX11_item_70 : decode cX11_item 70 = .ok (.goto 5, 3) := by decide +kernel
theorem dX11_item_73 : decode cX11_item 73 = .ok (.bipush (-12), 2) := by decide +kernel
theorem dX11_item_75 : decode cX11_item 75 = .ok (.ireturn, 1) := by decide +kernel
set_option maxRecDepth 20000 in
theorem ggX11_shelf_X11_isSheet : GoodIn wsX11_shelf wsX11_isSheet := goodIn_r _ [8, 9, 10, 7, 11] (by decide +kernel) (by decide +kernel)
set_option maxRecDepth 20000 in
theorem gX11_shelf_X11_isSheet : GoodIn wsX11_shelf (va_wsS RX11 209 yX11_isSheet wsX11_isSheet) := goodIn_app (goodIn_of _ (by decide +kernel)) ggX11_shelf_X11_isSheet
set_option maxRecDepth 20000 in
theorem ggX11_shelf_X11_in1 : GoodIn wsX11_shelf wsX11_in1 := goodIn_r _ [11] (by decide +kernel) (by decide +kernel)
set_option maxRecDepth 20000 in
theorem gX11_shelf_X11_in1 : GoodIn wsX11_shelf (va_wsS RX11 57 yX11_in1 wsX11_in1) := goodIn_app (goodIn_of _ (by decide +kernel)) ggX11_shelf_X11_in1
set_option maxRecDepth 20000 in
theorem ggX11_shelf_X11_isGoer : GoodIn wsX11_shelf wsX11_isGoer := goodIn_r _ [15, 16, 9, 10, 7, 11, 17, 18, 19, 20, 21, 22, 23, 24, 25, 26, 27, 28, 29, 30, 31, 32, 33, 34, 35, 36, 37, 38, 39, 40] (by decide +kernel) (by decide +kernel)
set_option maxRecDepth 20000 in
theorem gX11_shelf_X11_isGoer : GoodIn wsX11_shelf (wsV RX11 174 RX11 yX11_isGoer wsX11_isGoer) := goodIn_app (goodIn_of _ (by decide +kernel)) ggX11_shelf_X11_isGoer
theorem dX11_shelf_0 : decode cX11_shelf 0 = .ok (.iload_n 1, 1) := by decide +kernel
theorem dX11_shelf_1 : decode cX11_shelf 1 = .ok (.invokestatic 209, 3) := by decide +kernel
theorem dX11_shelf_4 : decode cX11_shelf 4 = .ok (.ifCond .eq 36, 3) := by decide +kernel
theorem dX11_shelf_7 : decode cX11_shelf 7 = .ok (.iload_n 2, 1) := by decide +kernel
theorem dX11_shelf_8 : decode cX11_shelf 8 = .ok (.iconst 0, 1) := by decide +kernel
theorem dX11_shelf_9 : decode cX11_shelf 9 = .ok (.iconst 2, 1) := by decide +kernel
theorem dX11_shelf_10 : decode cX11_shelf 10 = .ok (.invokestatic 57, 3) := by decide +kernel
theorem dX11_shelf_13 : decode cX11_shelf 13 = .ok (.ifCond .eq 27, 3) := by decide +kernel
theorem dX11_shelf_16 : decode cX11_shelf 16 = .ok (.iload_n 2, 1) := by decide +kernel
theorem dX11_shelf_17 : decode cX11_shelf 17 = .ok (.ifCond .ne 11, 3) := by decide +kernel
theorem dX11_shelf_20 : decode cX11_shelf 20 = .ok (.aload_n 0, 1) := by decide +kernel
theorem dX11_shelf_21 : decode cX11_shelf 21 = .ok (.iload_n 3, 1) := by decide +kernel
theorem dX11_shelf_22 : decode cX11_shelf 22 = .ok (.invokevirtual 174, 3) := by decide +kernel
theorem dX11_shelf_25 : decode cX11_shelf 25 = .ok (.ifCond .eq 15, 3) := by decide +kernel
theorem dX11_shelf_28 : decode cX11_shelf 28 = .ok (.iload_n 2, 1) := by decide +kernel
theorem dX11_shelf_29 : decode cX11_shelf 29 = .ok (.iconst 1, 1) := by decide +kernel
theorem dX11_shelf_30 : decode cX11_shelf 30 = .ok (.if_icmp .ne 12, 3) := by decide +kernel
theorem dX11_shelf_33 : decode cX11_shelf 33 = .ok (.iload_n 3, 1) := by decide +kernel
theorem dX11_shelf_34 : decode cX11_shelf 34 = .ok (.invokestatic 209, 3) := by decide +kernel
theorem dX11_shelf_37 : decode cX11_shelf 37 = .ok (.ifCond .ne 5, 3) := by decide +kernel
theorem dX11_shelf_40 : decode cX11_shelf 40 = .ok (.iconst (-1), 1) := by decide +kernel
theorem dX11_shelf_41 : decode cX11_shelf 41 = .ok (.ireturn, 1) := by decide +kernel
theorem dX11_shelf_42 : decode cX11_shelf 42 = .ok (.aload_n 0, 1) := by decide +kernel
theorem dX11_shelf_43 : decode cX11_shelf 43 = .ok (.getfield 44, 3) := by decide +kernel
theorem dX11_shelf_46 : decode cX11_shelf 46 = .ok (.iload_n 1, 1) := by decide +kernel
theorem dX11_shelf_47 : decode cX11_shelf 47 = .ok (.iload_n 2, 1) := by decide +kernel
theorem dX11_shelf_48 : decode cX11_shelf 48 = .ok (.ifCond .ne 7, 3) := by decide +kernel
theorem dX11_shelf_51 : decode cX11_shelf 51 = .ok (.iconst 0, 1) := by decide +kernel
theorem dX11_shelf_52 : decode cX11_shelf 52 = .ok (.goto 30, 3) := by decide +kernel
theorem dX11_shelf_55 : decode cX11_shelf 55 = .ok (.iload_n 2, 1) := by decide +kernel
theorem dX11_shelf_56 : decode cX11_shelf 56 = .ok (.iconst 1, 1) := by decide +kernel
theorem dX11_shelf_57 : decode cX11_shelf 57 = .ok (.if_icmp .ne 24, 3) := by decide +kernel
theorem dX11_shelf_60 : decode cX11_shelf 60 = .ok (.aload_n 0, 1) := by decide +kernel
theorem dX11_shelf_61 : decode cX11_shelf 61 = .ok (.getfield 35, 3) := by decide +kernel
theorem dX11_shelf_64 : decode cX11_shelf 64 = .ok (.iload_n 3, 1) := by decide +kernel
theorem dX11_shelf_65 : decode cX11_shelf 65 = .ok (.iaload, 1) := by decide +kernel
theorem dX11_shelf_66 : decode cX11_shelf 66 = .ok (.ifCond .lt 15, 3) := by decide +kernel
theorem dX11_shelf_69 : decode cX11_shelf 69 = .ok (.bipush 10, 2) := by decide +kernel
theorem dX11_shelf_71 : decode cX11_shelf 71 = .ok (.aload_n 0, 1) := by decide +kernel
theorem dX11_shelf_72 : decode cX11_shelf 72 = .ok (.getfield 35, 3) := by decide +kernel
theorem dX11_shelf_75 : decode cX11_shelf 75 = .ok (.iload_n 3, 1) := by decide +kernel
theorem dX11_shelf_76 : decode cX11_shelf 76 = .ok (.iaload, 1) := by decide +kernel
theorem dX11_shelf_77 : decode cX11_shelf 77 = .ok (.iadd, 1) := by decide +kernel
theorem dX11_shelf_78 : decode cX11_shelf 78 = .ok (.goto 4, 3) := by decide +kernel
theorem dX11_shelf_81 : decode cX11_shelf 81 = .ok (.iconst (-1), 1) := by decide +kernel
theorem dX11_shelf_82 : decode cX11_shelf 82 = .ok (.iastore, 1) := by decide +kernel
theorem dX11_shelf_83 : decode cX11_shelf 83 = .ok (.aload_n 0, 1) := by decide +kernel
theorem dX11_shelf_84 : decode cX11_shelf 84 = .ok (.getfield 47, 3) := by decide +kernel
theorem dX11_shelf_87 : decode cX11_shelf 87 = .ok (.iload_n 1, 1) := by decide +kernel
theorem dX11_shelf_88 : decode cX11_shelf 88 = .ok (.iload_n 2, 1) := by decide +kernel
theorem dX11_shelf_89 : decode cX11_shelf 89 = .ok (.ifCond .ne 7, 3) := by decide +kernel
theorem dX11_shelf_92 : decode cX11_shelf 92 = .ok (.iload_n 3, 1) := by decide +kernel
theorem dX11_shelf_93 : decode cX11_shelf 93 = .ok (.goto 18, 3) := by decide +kernel
theorem dX11_shelf_96 : decode cX11_shelf 96 = .ok (.iload_n 2, 1) := by decide +kernel
theorem dX11_shelf_97 : decode cX11_shelf 97 = .ok (.iconst 1, 1) := by decide +kernel
theorem dX11_shelf_98 : decode cX11_shelf 98 = .ok (.if_icmp .ne 12, 3) := by decide +kernel
theorem dX11_shelf_101 : decode cX11_shelf 101 = .ok (.aload_n 0, 1) := by decide +kernel
theorem dX11_shelf_102 : decode cX11_shelf 102 = .ok (.getfield 38, 3) := by decide +kernel
theorem dX11_shelf_105 : decode cX11_shelf 105 = .ok (.iload_n 3, 1) := by decide +kernel
theorem dX11_shelf_106 : decode cX11_shelf 106 = .ok (.iaload, 1) := by decide +kernel
theorem dX11_shelf_107 : decode cX11_shelf 107 = .ok (.goto 4, 3) := by decide +kernel
theorem dX11_shelf_110 : decode cX11_shelf 110 = .ok (.iconst 0, 1) := by decide +kernel
theorem dX11_shelf_111 : decode cX11_shelf 111 = .ok (.iastore, 1) := by decide +kernel
theorem dX11_shelf_112 : decode cX11_shelf 112 = .ok (.iconst 1, 1) := by decide +kernel
theorem dX11_shelf_113 : decode cX11_shelf 113 = .ok (.ireturn, 1) := by decide +kernel
set_option maxRecDepth 20000 in
theorem ggX11_heldOn_X11_isGoer : GoodIn wsX11_heldOn wsX11_isGoer := goodIn_r _ [7, 8, 9, 10, 6, 11, 12, 13, 14, 15, 16, 17, 18, 19, 20, 21, 22, 23, 24, 25, 26, 27, 28, 29, 30, 31, 32, 33, 34, 35] (by decide +kernel) (by decide +kernel)
set_option maxRecDepth 20000 in
theorem gX11_heldOn_X11_isGoer : GoodIn wsX11_heldOn (wsV RX11 174 RX11 yX11_isGoer wsX11_isGoer) := goodIn_app (goodIn_of _ (by decide +kernel)) ggX11_heldOn_X11_isGoer
theorem dX11_heldOn_0 : decode cX11_heldOn 0 = .ok (.aload_n 0, 1) := by decide +kernel
theorem dX11_heldOn_1 : decode cX11_heldOn 1 = .ok (.getfield 44, 3) := by decide +kernel
theorem dX11_heldOn_4 : decode cX11_heldOn 4 = .ok (.iload_n 1, 1) := by decide +kernel
theorem dX11_heldOn_5 : decode cX11_heldOn 5 = .ok (.iaload, 1) := by decide +kernel
theorem dX11_heldOn_6 : decode cX11_heldOn 6 = .ok (.ifCond .ne 20, 3) := by decide +kernel
theorem dX11_heldOn_9 : decode cX11_heldOn 9 = .ok (.aload_n 0, 1) := by decide +kernel
theorem dX11_heldOn_10 : decode cX11_heldOn 10 = .ok (.aload_n 0, 1) := by decide +kernel
theorem dX11_heldOn_11 : decode cX11_heldOn 11 = .ok (.getfield 47, 3) := by decide +kernel
theorem dX11_heldOn_14 : decode cX11_heldOn 14 = .ok (.iload_n 1, 1) := by decide +kernel
theorem dX11_heldOn_15 : decode cX11_heldOn 15 = .ok (.iaload, 1) := by decide +kernel
theorem dX11_heldOn_16 : decode cX11_heldOn 16 = .ok (.invokevirtual 174, 3) := by decide +kernel
theorem dX11_heldOn_19 : decode cX11_heldOn 19 = .ok (.ifCond .ne 7, 3) := by decide +kernel
theorem dX11_heldOn_22 : decode cX11_heldOn 22 = .ok (.iconst (-1), 1) := by decide +kernel
theorem dX11_heldOn_23 : decode cX11_heldOn 23 = .ok (.goto 9, 3) := by decide +kernel
theorem dX11_heldOn_26 : decode cX11_heldOn 26 = .ok (.aload_n 0, 1) := by decide +kernel
theorem dX11_heldOn_27 : decode cX11_heldOn 27 = .ok (.getfield 44, 3) := by decide +kernel
theorem dX11_heldOn_30 : decode cX11_heldOn 30 = .ok (.iload_n 1, 1) := by decide +kernel
theorem dX11_heldOn_31 : decode cX11_heldOn 31 = .ok (.iaload, 1) := by decide +kernel
theorem dX11_heldOn_32 : decode cX11_heldOn 32 = .ok (.ireturn, 1) := by decide +kernel
theorem dX11_isUnder_0 : decode cX11_isUnder 0 = .ok (.iload_n 1, 1) := by decide +kernel
theorem dX11_isUnder_1 : decode cX11_isUnder 1 = .ok (.ifCond .eq 28, 3) := by decide +kernel
theorem dX11_isUnder_4 : decode cX11_isUnder 4 = .ok (.iload_n 0, 1) := by decide +kernel
theorem dX11_isUnder_5 : decode cX11_isUnder 5 = .ok (.iload_n 1, 1) := by decide +kernel
theorem dX11_isUnder_6 : decode cX11_isUnder 6 = .ok (.if_icmp .eq 23, 3) := by decide +kernel
theorem dX11_isUnder_9 : decode cX11_isUnder 9 = .ok (.iload_n 1, 1) := by decide +kernel
theorem dX11_isUnder_10 : decode cX11_isUnder 10 = .ok (.iconst 1, 1) := by decide +kernel
theorem dX11_isUnder_11 : decode cX11_isUnder 11 = .ok (.if_icmp .ne 8, 3) := by decide +kernel
theorem dX11_isUnder_14 : decode cX11_isUnder 14 = .ok (.iload_n 0, 1) := by decide +kernel
theorem dX11_isUnder_15 : decode cX11_isUnder 15 = .ok (.iconst 3, 1) := by decide +kernel
theorem dX11_isUnder_16 : decode cX11_isUnder 16 = .ok (.if_icmp .eq 13, 3) := by decide +kernel
theorem dX11_isUnder_19 : decode cX11_isUnder 19 = .ok (.iload_n 1, 1) := by decide +kernel
theorem dX11_isUnder_20 : decode cX11_isUnder 20 = .ok (.iconst 2, 1) := by decide +kernel
theorem dX11_isUnder_21 : decode cX11_isUnder 21 = .ok (.if_icmp .ne 12, 3) := by decide +kernel
theorem dX11_isUnder_24 : decode cX11_isUnder 24 = .ok (.iload_n 0, 1) := by decide +kernel
theorem dX11_isUnder_25 : decode cX11_isUnder 25 = .ok (.iconst 4, 1) := by decide +kernel
theorem dX11_isUnder_26 : decode cX11_isUnder 26 = .ok (.if_icmp .ne 7, 3) := by decide +kernel
theorem dX11_isUnder_29 : decode cX11_isUnder 29 = .ok (.iconst 1, 1) := by decide +kernel
theorem dX11_isUnder_30 : decode cX11_isUnder 30 = .ok (.goto 4, 3) := by decide +kernel
theorem dX11_isUnder_33 : decode cX11_isUnder 33 = .ok (.iconst 0, 1) := by decide +kernel
theorem dX11_isUnder_34 : decode cX11_isUnder 34 = .ok (.ireturn, 1) := by decide +kernel
set_option maxRecDepth 20000 in
theorem ggX11_taken_X11_isSheet : GoodIn wsX11_taken wsX11_isSheet := goodIn_r _ [5, 6, 7, 4, 8] (by decide +kernel) (by decide +kernel)
set_option maxRecDepth 20000 in
theorem gX11_taken_X11_isSheet : GoodIn wsX11_taken (va_wsS RX11 209 yX11_isSheet wsX11_isSheet) := goodIn_app (goodIn_of _ (by decide +kernel)) ggX11_taken_X11_isSheet
set_option maxRecDepth 20000 in
theorem ggX11_taken_X11_in1 : GoodIn wsX11_taken wsX11_in1 := goodIn_r _ [8] (by decide +kernel) (by decide +kernel)
set_option maxRecDepth 20000 in
theorem gX11_taken_X11_in1 : GoodIn wsX11_taken (va_wsS RX11 57 yX11_in1 wsX11_in1) := goodIn_app (goodIn_of _ (by decide +kernel)) ggX11_taken_X11_in1
set_option maxRecDepth 20000 in
theorem ggX11_taken_X11_heldOn : GoodIn wsX11_taken wsX11_heldOn := goodIn_r _ [12, 13, 1, 14, 15, 16, 4, 17, 18, 6, 7, 8, 26, 27, 28, 29, 30, 31, 32, 33, 34, 35, 36, 37, 38, 39, 40, 41, 42, 43, 44, 45, 46, 47, 48, 49] (by decide +kernel) (by decide +kernel)
set_option maxRecDepth 20000 in
theorem gX11_taken_X11_heldOn : GoodIn wsX11_taken (wsV RX11 229 RX11 yX11_heldOn wsX11_heldOn) := goodIn_app (goodIn_of _ (by decide +kernel)) ggX11_taken_X11_heldOn
set_option maxRecDepth 20000 in
theorem ggX11_taken_X11_get : GoodIn wsX11_taken wsX11_get := goodIn_r _ [22, 18, 26, 27, 28, 29, 30, 31, 32, 33, 34, 35, 36, 37, 38, 39, 40, 41, 42, 43, 44, 45, 46, 47, 48, 49] (by decide +kernel) (by decide +kernel)
set_option maxRecDepth 20000 in
theorem gX11_taken_X11_get : GoodIn wsX11_taken (wsV RX11 61 RX11 yX11_get wsX11_get) := goodIn_app (goodIn_of _ (by decide +kernel)) ggX11_taken_X11_get
set_option maxRecDepth 20000 in
theorem ggX11_taken_X11_isUnder : GoodIn wsX11_taken wsX11_isUnder := goodIn_r _ [25] (by decide +kernel) (by decide +kernel)
set_option maxRecDepth 20000 in
theorem gX11_taken_X11_isUnder : GoodIn wsX11_taken (va_wsS RX11 232 yX11_isUnder wsX11_isUnder) := goodIn_app (goodIn_of _ (by decide +kernel)) ggX11_taken_X11_isUnder
theorem dX11_taken_0 : decode cX11_taken 0 = .ok (.iload_n 1, 1) := by decide +kernel
theorem dX11_taken_1 : decode cX11_taken 1 = .ok (.invokestatic 209, 3) := by decide +kernel
theorem dX11_taken_4 : decode cX11_taken 4 = .ok (.ifCond .eq 23, 3) := by decide +kernel
theorem dX11_taken_7 : decode cX11_taken 7 = .ok (.iload_n 2, 1) := by decide +kernel
theorem dX11_taken_8 : decode cX11_taken 8 = .ok (.iconst 0, 1) := by decide +kernel
theorem dX11_taken_9 : decode cX11_taken 9 = .ok (.iconst 5, 1) := by decide +kernel
theorem dX11_taken_10 : decode cX11_taken 10 = .ok (.invokestatic 57, 3) := by decide +kernel
theorem dX11_taken_13 : decode cX11_taken 13 = .ok (.ifCond .ne 16, 3) := by decide +kernel
theorem dX11_taken_16 : decode cX11_taken 16 = .ok (.iload_n 2, 1) := by decide +kernel
theorem dX11_taken_17 : decode cX11_taken 17 = .ok (.bipush 10, 2) := by decide +kernel
theorem dX11_taken_19 : decode cX11_taken 19 = .ok (.bipush 13, 2) := by decide +kernel
theorem dX11_taken_21 : decode cX11_taken 21 = .ok (.invokestatic 57, 3) := by decide +kernel
theorem dX11_taken_24 : decode cX11_taken 24 = .ok (.ifCond .ne 5, 3) := by decide +kernel
theorem dX11_taken_27 : decode cX11_taken 27 = .ok (.iconst (-1), 1) := by decide +kernel
theorem dX11_taken_28 : decode cX11_taken 28 = .ok (.ireturn, 1) := by decide +kernel
theorem dX11_taken_29 : decode cX11_taken 29 = .ok (.aload_n 0, 1) := by decide +kernel
theorem dX11_taken_30 : decode cX11_taken 30 = .ok (.iload_n 1, 1) := by decide +kernel
theorem dX11_taken_31 : decode cX11_taken 31 = .ok (.invokevirtual 229, 3) := by decide +kernel
theorem dX11_taken_34 : decode cX11_taken 34 = .ok (.istore_n 3, 1) := by decide +kernel
theorem dX11_taken_35 : decode cX11_taken 35 = .ok (.iload_n 3, 1) := by decide +kernel
theorem dX11_taken_36 : decode cX11_taken 36 = .ok (.ifCond .ge 6, 3) := by decide +kernel
theorem dX11_taken_39 : decode cX11_taken 39 = .ok (.bipush (-11), 2) := by decide +kernel
theorem dX11_taken_41 : decode cX11_taken 41 = .ok (.ireturn, 1) := by decide +kernel
theorem dX11_taken_42 : decode cX11_taken 42 = .ok (.iload_n 3, 1) := by decide +kernel
theorem dX11_taken_43 : decode cX11_taken 43 = .ok (.ifCond .ne 35, 3) := by decide +kernel
theorem dX11_taken_46 : decode cX11_taken 46 = .ok (.iload_n 2, 1) := by decide +kernel
theorem dX11_taken_47 : decode cX11_taken 47 = .ok (.bipush 10, 2) := by decide +kernel
theorem dX11_taken_49 : decode cX11_taken 49 = .ok (.if_icmp .ge 25, 3) := by decide +kernel
theorem dX11_taken_52 : decode cX11_taken 52 = .ok (.aload_n 0, 1) := by decide +kernel
theorem dX11_taken_53 : decode cX11_taken 53 = .ok (.aload_n 0, 1) := by decide +kernel
theorem dX11_taken_54 : decode cX11_taken 54 = .ok (.getfield 47, 3) := by decide +kernel
theorem dX11_taken_57 : decode cX11_taken 57 = .ok (.iload_n 1, 1) := by decide +kernel
theorem dX11_taken_58 : decode cX11_taken 58 = .ok (.iaload, 1) := by decide +kernel
theorem dX11_taken_59 : decode cX11_taken 59 = .ok (.iconst 0, 1) := by decide +kernel
theorem dX11_taken_60 : decode cX11_taken 60 = .ok (.invokevirtual 61, 3) := by decide +kernel
theorem dX11_taken_63 : decode cX11_taken 63 = .ok (.iload_n 2, 1) := by decide +kernel
theorem dX11_taken_64 : decode cX11_taken 64 = .ok (.invokestatic 232, 3) := by decide +kernel
theorem dX11_taken_67 : decode cX11_taken 67 = .ok (.ifCond .eq 7, 3) := by decide +kernel
theorem dX11_taken_70 : decode cX11_taken 70 = .ok (.iconst 1, 1) := by decide +kernel
theorem dX11_taken_71 : decode cX11_taken 71 = .ok (.goto 17, 3) := by decide +kernel
theorem dX11_taken_74 : decode cX11_taken 74 = .ok (.iconst 0, 1) := by decide +kernel
theorem dX11_taken_75 : decode cX11_taken 75 = .ok (.goto 13, 3) := by decide +kernel
theorem dX11_taken_78 : decode cX11_taken 78 = .ok (.iload_n 3, 1) := by decide +kernel
theorem dX11_taken_79 : decode cX11_taken 79 = .ok (.iload_n 2, 1) := by decide +kernel
theorem dX11_taken_80 : decode cX11_taken 80 = .ok (.if_icmp .ne 7, 3) := by decide +kernel
theorem dX11_taken_83 : decode cX11_taken 83 = .ok (.iconst 1, 1) := by decide +kernel
theorem dX11_taken_84 : decode cX11_taken 84 = .ok (.goto 4, 3) := by decide +kernel
theorem dX11_taken_87 : decode cX11_taken 87 = .ok (.iconst 0, 1) := by decide +kernel
theorem dX11_taken_88 : decode cX11_taken 88 = .ok (.istore 4, 2) := by decide +kernel
theorem dX11_taken_90 : decode cX11_taken 90 = .ok (.iload 4, 2) := by decide +kernel
theorem dX11_taken_92 : decode cX11_taken 92 = .ok (.ifCond .eq 12, 3) := by decide +kernel
theorem dX11_taken_95 : decode cX11_taken 95 = .ok (.aload_n 0, 1) := by decide +kernel
theorem dX11_taken_96 : decode cX11_taken 96 = .ok (.getfield 47, 3) := by decide +kernel
theorem dX11_taken_99 : decode cX11_taken 99 = .ok (.iload_n 1, 1) := by decide +kernel
theorem dX11_taken_100 : decode cX11_taken 100 = .ok (.iaload, 1) := by decide +kernel
theorem dX11_taken_101 : decode cX11_taken 101 = .ok (.goto 5, 3) := by decide +kernel
theorem dX11_taken_104 : decode cX11_taken 104 = .ok (.bipush (-13), 2) := by decide +kernel
theorem dX11_taken_106 : decode cX11_taken 106 = .ok (.ireturn, 1) := by decide +kernel
theorem dX11_starts_0 : decode cX11_starts 0 = .ok (.aload_n 0, 1) := by decide +kernel
theorem dX11_starts_1 : decode cX11_starts 1 = .ok (.getfield 235, 3) := by decide +kernel
theorem dX11_starts_4 : decode cX11_starts 4 = .ok (.bipush 30, 2) := by decide +kernel
theorem dX11_starts_6 : decode cX11_starts 6 = .ok (.if_icmp .ge 23, 3) := by decide +kernel
theorem dX11_starts_9 : decode cX11_starts 9 = .ok (.aload_n 0, 1) := by decide +kernel
theorem dX11_starts_10 : decode cX11_starts 10 = .ok (.getfield 50, 3) := by decide +kernel
theorem dX11_starts_13 : decode cX11_starts 13 = .ok (.aload_n 0, 1) := by decide +kernel
theorem dX11_starts_14 : decode cX11_starts 14 = .ok (.getfield 235, 3) := by decide +kernel
theorem dX11_starts_17 : decode cX11_starts 17 = .ok (.iload_n 1, 1) := by decide +kernel
theorem dX11_starts_18 : decode cX11_starts 18 = .ok (.iastore, 1) := by decide +kernel
theorem dX11_starts_19 : decode cX11_starts 19 = .ok (.aload_n 0, 1) := by decide +kernel
theorem dX11_starts_20 : decode cX11_starts 20 = .ok (.dup, 1) := by decide +kernel
theorem dX11_starts_21 : decode cX11_starts 21 = .ok (.getfield 235, 3) := by decide +kernel
theorem dX11_starts_24 : decode cX11_starts 24 = .ok (.iconst 1, 1) := by decide +kernel
theorem dX11_starts_25 : decode cX11_starts 25 = .ok (.iadd, 1) := by decide +kernel
theorem dX11_starts_26 : decode cX11_starts 26 = .ok (.putfield 235, 3) := by decide +kernel
theorem dX11_starts_29 : decode cX11_starts 29 = .ok (.return_, 1) := by decide +kernel
set_option maxRecDepth 20000 in
theorem ggX11_looksAs_X11_starts : GoodIn wsX11_looksAs wsX11_starts := goodIn_r _ [6, 7, 8, 12, 13, 14, 15, 16, 17, 18, 19, 20, 21, 22, 23, 24, 25, 26, 27, 28, 29, 30, 31, 32, 33, 34, 35] (by decide +kernel) (by decide +kernel)
set_option maxRecDepth 20000 in
theorem gX11_looksAs_X11_starts : GoodIn wsX11_looksAs (wsV RX11 238 RX11 yX11_starts wsX11_starts) := goodIn_app (goodIn_of _ (by decide +kernel)) ggX11_looksAs_X11_starts
set_option maxRecDepth 20000 in
theorem ggX11_looksAs_X11_looksAs : GoodIn wsX11_looksAs wsX11_looksAs := goodIn_r _ [0, 1, 2, 3, 4, 5, 6, 7, 8, 9, 10, 11, 12, 13, 14, 15, 16, 17, 18, 19, 20, 21, 22, 23, 24, 25, 26, 27, 28, 29, 30, 31, 32, 33, 34, 35] (by decide +kernel) (by decide +kernel)
set_option maxRecDepth 20000 in
theorem gX11_looksAs_X11_looksAs : GoodIn wsX11_looksAs (wsV RX11 241 RX11 yX11_looksAs wsX11_looksAs) := goodIn_app (goodIn_of _ (by decide +kernel)) ggX11_looksAs_X11_looksAs
theorem dX11_looksAs_0 : decode cX11_looksAs 0 = .ok (.iload_n 1, 1) := by decide +kernel
theorem dX11_looksAs_1 : decode cX11_looksAs 1 = .ok (.tableswitch 73 2 4 #[27, 42, 57], 27) := by decide +kernel
theorem dX11_looksAs_28 : decode cX11_looksAs 28 = .ok (.aload_n 0, 1) := by decide +kernel
theorem dX11_looksAs_29 : decode cX11_looksAs 29 = .ok (.bipush 30, 2) := by decide +kernel
theorem dX11_looksAs_31 : decode cX11_looksAs 31 = .ok (.invokevirtual 238, 3) := by decide +kernel
theorem dX11_looksAs_34 : decode cX11_looksAs 34 = .ok (.aload_n 0, 1) := by decide +kernel
theorem dX11_looksAs_35 : decode cX11_looksAs 35 = .ok (.iconst 0, 1) := by decide +kernel
theorem dX11_looksAs_36 : decode cX11_looksAs 36 = .ok (.iload_n 2, 1) := by decide +kernel
theorem dX11_looksAs_37 : decode cX11_looksAs 37 = .ok (.invokevirtual 241, 3) := by decide +kernel
theorem dX11_looksAs_40 : decode cX11_looksAs 40 = .ok (.iconst 2, 1) := by decide +kernel
theorem dX11_looksAs_41 : decode cX11_looksAs 41 = .ok (.imul, 1) := by decide +kernel
theorem dX11_looksAs_42 : decode cX11_looksAs 42 = .ok (.ireturn, 1) := by decide +kernel
theorem dX11_looksAs_43 : decode cX11_looksAs 43 = .ok (.aload_n 0, 1) := by decide +kernel
theorem dX11_looksAs_44 : decode cX11_looksAs 44 = .ok (.bipush 51, 2) := by decide +kernel
theorem dX11_looksAs_46 : decode cX11_looksAs 46 = .ok (.invokevirtual 238, 3) := by decide +kernel
theorem dX11_looksAs_49 : decode cX11_looksAs 49 = .ok (.aload_n 0, 1) := by decide +kernel
theorem dX11_looksAs_50 : decode cX11_looksAs 50 = .ok (.iconst 0, 1) := by decide +kernel
theorem dX11_looksAs_51 : decode cX11_looksAs 51 = .ok (.iload_n 2, 1) := by decide +kernel
theorem dX11_looksAs_52 : decode cX11_looksAs 52 = .ok (.invokevirtual 241, 3) := by decide +kernel
theorem dX11_looksAs_55 : decode cX11_looksAs 55 = .ok (.iconst 3, 1) := by decide +kernel
theorem dX11_looksAs_56 : decode cX11_looksAs 56 = .ok (.iadd, 1) := by decide +kernel
theorem dX11_looksAs_57 : decode cX11_looksAs 57 = .ok (.ireturn, 1) := by decide +kernel
theorem dX11_looksAs_58 : decode cX11_looksAs 58 = .ok (.aload_n 0, 1) := by decide +kernel
theorem dX11_looksAs_59 : decode cX11_looksAs 59 = .ok (.bipush 40, 2) := by decide +kernel
theorem dX11_looksAs_61 : decode cX11_looksAs 61 = .ok (.invokevirtual 238, 3) := by decide +kernel
theorem dX11_looksAs_64 : decode cX11_looksAs 64 = .ok (.aload_n 0, 1) := by decide +kernel
theorem dX11_looksAs_65 : decode cX11_looksAs 65 = .ok (.iconst 2, 1) := by decide +kernel
theorem dX11_looksAs_66 : decode cX11_looksAs 66 = .ok (.iload_n 2, 1) := by decide +kernel
theorem dX11_looksAs_67 : decode cX11_looksAs 67 = .ok (.invokevirtual 241, 3) := by decide +kernel
theorem dX11_looksAs_70 : decode cX11_looksAs 70 = .ok (.bipush 9, 2) := by decide +kernel
theorem dX11_looksAs_72 : decode cX11_looksAs 72 = .ok (.ixor, 1) := by decide +kernel
theorem dX11_looksAs_73 : decode cX11_looksAs 73 = .ok (.ireturn, 1) := by decide +kernel
theorem dX11_looksAs_74 : decode cX11_looksAs 74 = .ok (.aload_n 0, 1) := by decide +kernel
theorem dX11_looksAs_75 : decode cX11_looksAs 75 = .ok (.bipush 10, 2) := by decide +kernel
theorem dX11_looksAs_77 : decode cX11_looksAs 77 = .ok (.invokevirtual 238, 3) := by decide +kernel
theorem dX11_looksAs_80 : decode cX11_looksAs 80 = .ok (.iload_n 2, 1) := by decide +kernel
theorem dX11_looksAs_81 : decode cX11_looksAs 81 = .ok (.iconst 3, 1) := by decide +kernel
theorem dX11_looksAs_82 : decode cX11_looksAs 82 = .ok (.imul, 1) := by decide +kernel
theorem dX11_looksAs_83 : decode cX11_looksAs 83 = .ok (.aload_n 0, 1) := by decide +kernel
theorem dX11_looksAs_84 : decode cX11_looksAs 84 = .ok (.getfield 244, 3) := by decide +kernel
theorem dX11_looksAs_87 : decode cX11_looksAs 87 = .ok (.isub, 1) := by decide +kernel
theorem dX11_looksAs_88 : decode cX11_looksAs 88 = .ok (.ireturn, 1) := by decide +kernel
set_option maxRecDepth 20000 in
theorem ggX11_walksAs_X11_starts : GoodIn wsX11_walksAs wsX11_starts := goodIn_r _ [6, 7, 8, 21, 22, 23, 24, 25, 26, 27, 28, 29, 30, 31, 32, 33, 34, 35, 36, 37, 38, 39, 40, 41, 42, 43, 44] (by decide +kernel) (by decide +kernel)
set_option maxRecDepth 20000 in
theorem gX11_walksAs_X11_starts : GoodIn wsX11_walksAs (wsV RX11 238 RX11 yX11_starts wsX11_starts) := goodIn_app (goodIn_of _ (by decide +kernel)) ggX11_walksAs_X11_starts
set_option maxRecDepth 20000 in
theorem ggX11_walksAs_X11_walksAs : GoodIn wsX11_walksAs wsX11_walksAs := goodIn_r _ [0, 1, 2, 3, 4, 5, 6, 7, 8, 9, 10, 11, 12, 13, 14, 15, 16, 17, 18, 19, 20, 21, 22, 23, 24, 25, 26, 27, 28, 29, 30, 31, 32, 33, 34, 35, 36, 37, 38, 39, 40, 41, 42, 43, 44] (by decide +kernel) (by decide +kernel)
set_option maxRecDepth 20000 in
theorem gX11_walksAs_X11_walksAs : GoodIn wsX11_walksAs (wsV RX11 247 RX11 yX11_walksAs wsX11_walksAs) := goodIn_app (goodIn_of _ (by decide +kernel)) ggX11_walksAs_X11_walksAs
set_option maxRecDepth 20000 in
theorem ggX11_walksAs_X11_get : GoodIn wsX11_walksAs wsX11_get := goodIn_r _ [15, 16, 21, 22, 23, 24, 25, 26, 27, 28, 29, 30, 31, 32, 33, 34, 35, 36, 37, 38, 39, 40, 41, 42, 43, 44] (by decide +kernel) (by decide +kernel)
set_option maxRecDepth 20000 in
theorem gX11_walksAs_X11_get : GoodIn wsX11_walksAs (wsV RX11 61 RX11 yX11_get wsX11_get) := goodIn_app (goodIn_of _ (by decide +kernel)) ggX11_walksAs_X11_get
set_option maxRecDepth 20000 in
theorem ggX11_walksAs_X11_looksAs : GoodIn wsX11_walksAs wsX11_looksAs := goodIn_r _ [20, 1, 2, 3, 4, 5, 6, 7, 8, 17, 18, 19, 21, 22, 23, 24, 25, 26, 27, 28, 29, 30, 31, 32, 33, 34, 35, 36, 37, 38, 39, 40, 41, 42, 43, 44] (by decide +kernel) (by decide +kernel)
set_option maxRecDepth 20000 in
theorem gX11_walksAs_X11_looksAs : GoodIn wsX11_walksAs (wsV RX11 241 RX11 yX11_looksAs wsX11_looksAs) := goodIn_app (goodIn_of _ (by decide +kernel)) ggX11_walksAs_X11_looksAs
theorem dX11_walksAs_0 : decode cX11_walksAs 0 = .ok (.iload_n 1, 1) := by decide +kernel
theorem dX11_walksAs_1 : decode cX11_walksAs 1 = .ok (.iconst 1, 1) := by decide +kernel
theorem dX11_walksAs_2 : decode cX11_walksAs 2 = .ok (.if_icmp .eq 8, 3) := by decide +kernel
theorem dX11_walksAs_5 : decode cX11_walksAs 5 = .ok (.iload_n 1, 1) := by decide +kernel
theorem dX11_walksAs_6 : decode cX11_walksAs 6 = .ok (.iconst 3, 1) := by decide +kernel
theorem dX11_walksAs_7 : decode cX11_walksAs 7 = .ok (.if_icmp .ne 17, 3) := by decide +kernel
theorem dX11_walksAs_10 : decode cX11_walksAs 10 = .ok (.aload_n 0, 1) := by decide +kernel
theorem dX11_walksAs_11 : decode cX11_walksAs 11 = .ok (.bipush 20, 2) := by decide +kernel
theorem dX11_walksAs_13 : decode cX11_walksAs 13 = .ok (.invokevirtual 238, 3) := by decide +kernel
theorem dX11_walksAs_16 : decode cX11_walksAs 16 = .ok (.aload_n 0, 1) := by decide +kernel
theorem dX11_walksAs_17 : decode cX11_walksAs 17 = .ok (.iconst 0, 1) := by decide +kernel
theorem dX11_walksAs_18 : decode cX11_walksAs 18 = .ok (.iload_n 2, 1) := by decide +kernel
theorem dX11_walksAs_19 : decode cX11_walksAs 19 = .ok (.invokevirtual 247, 3) := by decide +kernel
theorem dX11_walksAs_22 : decode cX11_walksAs 22 = .ok (.ineg, 1) := by decide +kernel
theorem dX11_walksAs_23 : decode cX11_walksAs 23 = .ok (.ireturn, 1) := by decide +kernel
theorem dX11_walksAs_24 : decode cX11_walksAs 24 = .ok (.iload_n 1, 1) := by decide +kernel
theorem dX11_walksAs_25 : decode cX11_walksAs 25 = .ok (.iconst 4, 1) := by decide +kernel
theorem dX11_walksAs_26 : decode cX11_walksAs 26 = .ok (.if_icmp .ne 33, 3) := by decide +kernel
theorem dX11_walksAs_29 : decode cX11_walksAs 29 = .ok (.aload_n 0, 1) := by decide +kernel
theorem dX11_walksAs_30 : decode cX11_walksAs 30 = .ok (.bipush 41, 2) := by decide +kernel
theorem dX11_walksAs_32 : decode cX11_walksAs 32 = .ok (.invokevirtual 238, 3) := by decide +kernel
theorem dX11_walksAs_35 : decode cX11_walksAs 35 = .ok (.aload_n 0, 1) := by decide +kernel
theorem dX11_walksAs_36 : decode cX11_walksAs 36 = .ok (.iconst 2, 1) := by decide +kernel
theorem dX11_walksAs_37 : decode cX11_walksAs 37 = .ok (.iload_n 2, 1) := by decide +kernel
theorem dX11_walksAs_38 : decode cX11_walksAs 38 = .ok (.invokevirtual 247, 3) := by decide +kernel
theorem dX11_walksAs_41 : decode cX11_walksAs 41 = .ok (.istore_n 3, 1) := by decide +kernel
theorem dX11_walksAs_42 : decode cX11_walksAs 42 = .ok (.iload_n 3, 1) := by decide +kernel
theorem dX11_walksAs_43 : decode cX11_walksAs 43 = .ok (.aload_n 0, 1) := by decide +kernel
theorem dX11_walksAs_44 : decode cX11_walksAs 44 = .ok (.iconst 4, 1) := by decide +kernel
theorem dX11_walksAs_45 : decode cX11_walksAs 45 = .ok (.aload_n 0, 1) := by decide +kernel
theorem dX11_walksAs_46 : decode cX11_walksAs 46 = .ok (.aload_n 0, 1) := by decide +kernel
theorem dX11_walksAs_47 : decode cX11_walksAs 47 = .ok (.getfield 244, 3) := by decide +kernel
theorem dX11_walksAs_50 : decode cX11_walksAs 50 = .ok (.iconst 2, 1) := by decide +kernel
theorem dX11_walksAs_51 : decode cX11_walksAs 51 = .ok (.invokevirtual 61, 3) := by decide +kernel
theorem dX11_walksAs_54 : decode cX11_walksAs 54 = .ok (.invokevirtual 241, 3) := by decide +kernel
theorem dX11_walksAs_57 : decode cX11_walksAs 57 = .ok (.isub, 1) := by decide +kernel
theorem dX11_walksAs_58 : decode cX11_walksAs 58 = .ok (.ireturn, 1) := by decide +kernel
theorem dX11_walksAs_59 : decode cX11_walksAs 59 = .ok (.aload_n 0, 1) := by decide +kernel
theorem dX11_walksAs_60 : decode cX11_walksAs 60 = .ok (.bipush 11, 2) := by decide +kernel
theorem dX11_walksAs_62 : decode cX11_walksAs 62 = .ok (.invokevirtual 238, 3) := by decide +kernel
theorem dX11_walksAs_65 : decode cX11_walksAs 65 = .ok (.aload_n 0, 1) := by decide +kernel
theorem dX11_walksAs_66 : decode cX11_walksAs 66 = .ok (.aload_n 0, 1) := by decide +kernel
theorem dX11_walksAs_67 : decode cX11_walksAs 67 = .ok (.aload_n 0, 1) := by decide +kernel
theorem dX11_walksAs_68 : decode cX11_walksAs 68 = .ok (.getfield 244, 3) := by decide +kernel
theorem dX11_walksAs_71 : decode cX11_walksAs 71 = .ok (.iconst 0, 1) := by decide +kernel
theorem dX11_walksAs_72 : decode cX11_walksAs 72 = .ok (.invokevirtual 61, 3) := by decide +kernel
theorem dX11_walksAs_75 : decode cX11_walksAs 75 = .ok (.iload_n 2, 1) := by decide +kernel
theorem dX11_walksAs_76 : decode cX11_walksAs 76 = .ok (.invokevirtual 241, 3) := by decide +kernel
theorem dX11_walksAs_79 : decode cX11_walksAs 79 = .ok (.aload_n 0, 1) := by decide +kernel
theorem dX11_walksAs_80 : decode cX11_walksAs 80 = .ok (.aload_n 0, 1) := by decide +kernel
theorem dX11_walksAs_81 : decode cX11_walksAs 81 = .ok (.getfield 244, 3) := by decide +kernel
theorem dX11_walksAs_84 : decode cX11_walksAs 84 = .ok (.iconst 2, 1) := by decide +kernel
theorem dX11_walksAs_85 : decode cX11_walksAs 85 = .ok (.invokevirtual 61, 3) := by decide +kernel
theorem dX11_walksAs_88 : decode cX11_walksAs 88 = .ok (.bipush 6, 2) := by decide +kernel
theorem dX11_walksAs_90 : decode cX11_walksAs 90 = .ok (.imul, 1) := by decide +kernel
theorem dX11_walksAs_91 : decode cX11_walksAs 91 = .ok (.iadd, 1) := by decide +kernel
theorem dX11_walksAs_92 : decode cX11_walksAs 92 = .ok (.ireturn, 1) := by decide +kernel
set_option maxRecDepth 20000 in
theorem ggX11_partsAs_X11_starts : GoodIn wsX11_partsAs wsX11_starts := goodIn_r _ [7, 8, 9, 22, 23, 24, 25, 26, 27, 28, 29, 30, 31, 32, 33, 34, 35, 36, 37, 38, 39, 40, 41, 42, 43, 44, 45] (by decide +kernel) (by decide +kernel)
set_option maxRecDepth 20000 in
theorem gX11_partsAs_X11_starts : GoodIn wsX11_partsAs (wsV RX11 238 RX11 yX11_starts wsX11_starts) := goodIn_app (goodIn_of _ (by decide +kernel)) ggX11_partsAs_X11_starts
set_option maxRecDepth 20000 in
theorem ggX11_partsAs_X11_partsAs : GoodIn wsX11_partsAs wsX11_partsAs := goodIn_r _ [0, 1, 2, 3, 4, 5, 6, 7, 8, 9, 10, 11, 12, 13, 14, 15, 16, 17, 18, 19, 20, 21, 22, 23, 24, 25, 26, 27, 28, 29, 30, 31, 32, 33, 34, 35, 36, 37, 38, 39, 40, 41, 42, 43, 44, 45] (by decide +kernel) (by decide +kernel)
set_option maxRecDepth 20000 in
theorem gX11_partsAs_X11_partsAs : GoodIn wsX11_partsAs (wsV RX11 250 RX11 yX11_partsAs wsX11_partsAs) := goodIn_app (goodIn_of _ (by decide +kernel)) ggX11_partsAs_X11_partsAs
set_option maxRecDepth 20000 in
theorem ggX11_partsAs_X11_looksAs : GoodIn wsX11_partsAs wsX11_looksAs := goodIn_r _ [16, 1, 3, 4, 5, 6, 7, 8, 9, 13, 14, 15, 22, 23, 24, 25, 26, 27, 28, 29, 30, 31, 32, 33, 34, 35, 36, 37, 38, 39, 40, 41, 42, 43, 44, 45] (by decide +kernel) (by decide +kernel)
set_option maxRecDepth 20000 in
theorem gX11_partsAs_X11_looksAs : GoodIn wsX11_partsAs (wsV RX11 241 RX11 yX11_looksAs wsX11_looksAs) := goodIn_app (goodIn_of _ (by decide +kernel)) ggX11_partsAs_X11_looksAs
set_option maxRecDepth 20000 in
theorem ggX11_partsAs_X11_get : GoodIn wsX11_partsAs wsX11_get := goodIn_r _ [20, 21, 22, 23, 24, 25, 26, 27, 28, 29, 30, 31, 32, 33, 34, 35, 36, 37, 38, 39, 40, 41, 42, 43, 44, 45] (by decide +kernel) (by decide +kernel)
set_option maxRecDepth 20000 in
theorem gX11_partsAs_X11_get : GoodIn wsX11_partsAs (wsV RX11 61 RX11 yX11_get wsX11_get) := goodIn_app (goodIn_of _ (by decide +kernel)) ggX11_partsAs_X11_get
theorem dX11_partsAs_0 : decode cX11_partsAs 0 = .ok (.iload_n 1, 1) := by decide +kernel
theorem dX11_partsAs_1 : decode cX11_partsAs 1 = .ok (.iconst 3, 1) := by decide +kernel
theorem dX11_partsAs_2 : decode cX11_partsAs 2 = .ok (.if_icmp .ne 23, 3) := by decide +kernel
theorem dX11_partsAs_5 : decode cX11_partsAs 5 = .ok (.aload_n 0, 1) := by decide +kernel
theorem dX11_partsAs_6 : decode cX11_partsAs 6 = .ok (.bipush 50, 2) := by decide +kernel
theorem dX11_partsAs_8 : decode cX11_partsAs 8 = .ok (.invokevirtual 238, 3) := by decide +kernel
theorem dX11_partsAs_11 : decode cX11_partsAs 11 = .ok (.aload_n 0, 1) := by decide +kernel
theorem dX11_partsAs_12 : decode cX11_partsAs 12 = .ok (.iconst 1, 1) := by decide +kernel
theorem dX11_partsAs_13 : decode cX11_partsAs 13 = .ok (.iload_n 2, 1) := by decide +kernel
theorem dX11_partsAs_14 : decode cX11_partsAs 14 = .ok (.iconst 4, 1) := by decide +kernel
theorem dX11_partsAs_15 : decode cX11_partsAs 15 = .ok (.iadd, 1) := by decide +kernel
theorem dX11_partsAs_16 : decode cX11_partsAs 16 = .ok (.invokevirtual 250, 3) := by decide +kernel
theorem dX11_partsAs_19 : decode cX11_partsAs 19 = .ok (.aload_n 0, 1) := by decide +kernel
theorem dX11_partsAs_20 : decode cX11_partsAs 20 = .ok (.getfield 244, 3) := by decide +kernel
theorem dX11_partsAs_23 : decode cX11_partsAs 23 = .ok (.imul, 1) := by decide +kernel
theorem dX11_partsAs_24 : decode cX11_partsAs 24 = .ok (.ireturn, 1) := by decide +kernel
theorem dX11_partsAs_25 : decode cX11_partsAs 25 = .ok (.iload_n 1, 1) := by decide +kernel
theorem dX11_partsAs_26 : decode cX11_partsAs 26 = .ok (.iconst 5, 1) := by decide +kernel
theorem dX11_partsAs_27 : decode cX11_partsAs 27 = .ok (.if_icmp .ne 39, 3) := by decide +kernel
theorem dX11_partsAs_30 : decode cX11_partsAs 30 = .ok (.aload_n 0, 1) := by decide +kernel
theorem dX11_partsAs_31 : decode cX11_partsAs 31 = .ok (.bipush 61, 2) := by decide +kernel
theorem dX11_partsAs_33 : decode cX11_partsAs 33 = .ok (.invokevirtual 238, 3) := by decide +kernel
theorem dX11_partsAs_36 : decode cX11_partsAs 36 = .ok (.aload_n 0, 1) := by decide +kernel
theorem dX11_partsAs_37 : decode cX11_partsAs 37 = .ok (.iconst 0, 1) := by decide +kernel
theorem dX11_partsAs_38 : decode cX11_partsAs 38 = .ok (.iload_n 2, 1) := by decide +kernel
theorem dX11_partsAs_39 : decode cX11_partsAs 39 = .ok (.invokevirtual 250, 3) := by decide +kernel
theorem dX11_partsAs_42 : decode cX11_partsAs 42 = .ok (.istore_n 3, 1) := by decide +kernel
theorem dX11_partsAs_43 : decode cX11_partsAs 43 = .ok (.aload_n 0, 1) := by decide +kernel
theorem dX11_partsAs_44 : decode cX11_partsAs 44 = .ok (.getfield 253, 3) := by decide +kernel
theorem dX11_partsAs_47 : decode cX11_partsAs 47 = .ok (.ifCond .eq 7, 3) := by decide +kernel
theorem dX11_partsAs_50 : decode cX11_partsAs 50 = .ok (.iconst 0, 1) := by decide +kernel
theorem dX11_partsAs_51 : decode cX11_partsAs 51 = .ok (.goto 14, 3) := by decide +kernel
theorem dX11_partsAs_54 : decode cX11_partsAs 54 = .ok (.iload_n 3, 1) := by decide +kernel
theorem dX11_partsAs_55 : decode cX11_partsAs 55 = .ok (.aload_n 0, 1) := by decide +kernel
theorem dX11_partsAs_56 : decode cX11_partsAs 56 = .ok (.iconst 5, 1) := by decide +kernel
theorem dX11_partsAs_57 : decode cX11_partsAs 57 = .ok (.aload_n 0, 1) := by decide +kernel
theorem dX11_partsAs_58 : decode cX11_partsAs 58 = .ok (.getfield 244, 3) := by decide +kernel
theorem dX11_partsAs_61 : decode cX11_partsAs 61 = .ok (.invokevirtual 241, 3) := by decide +kernel
theorem dX11_partsAs_64 : decode cX11_partsAs 64 = .ok (.iadd, 1) := by decide +kernel
theorem dX11_partsAs_65 : decode cX11_partsAs 65 = .ok (.ireturn, 1) := by decide +kernel
theorem dX11_partsAs_66 : decode cX11_partsAs 66 = .ok (.aload_n 0, 1) := by decide +kernel
theorem dX11_partsAs_67 : decode cX11_partsAs 67 = .ok (.bipush 12, 2) := by decide +kernel
theorem dX11_partsAs_69 : decode cX11_partsAs 69 = .ok (.invokevirtual 238, 3) := by decide +kernel
theorem dX11_partsAs_72 : decode cX11_partsAs 72 = .ok (.aload_n 0, 1) := by decide +kernel
theorem dX11_partsAs_73 : decode cX11_partsAs 73 = .ok (.aload_n 0, 1) := by decide +kernel
theorem dX11_partsAs_74 : decode cX11_partsAs 74 = .ok (.getfield 244, 3) := by decide +kernel
theorem dX11_partsAs_77 : decode cX11_partsAs 77 = .ok (.iconst 2, 1) := by decide +kernel
theorem dX11_partsAs_78 : decode cX11_partsAs 78 = .ok (.invokevirtual 61, 3) := by decide +kernel
theorem dX11_partsAs_81 : decode cX11_partsAs 81 = .ok (.aload_n 0, 1) := by decide +kernel
theorem dX11_partsAs_82 : decode cX11_partsAs 82 = .ok (.getfield 244, 3) := by decide +kernel
theorem dX11_partsAs_85 : decode cX11_partsAs 85 = .ok (.isub, 1) := by decide +kernel
theorem dX11_partsAs_86 : decode cX11_partsAs 86 = .ok (.istore_n 3, 1) := by decide +kernel
theorem dX11_partsAs_87 : decode cX11_partsAs 87 = .ok (.aload_n 0, 1) := by decide +kernel
theorem dX11_partsAs_88 : decode cX11_partsAs 88 = .ok (.aload_n 0, 1) := by decide +kernel
theorem dX11_partsAs_89 : decode cX11_partsAs 89 = .ok (.getfield 253, 3) := by decide +kernel
theorem dX11_partsAs_92 : decode cX11_partsAs 92 = .ok (.ifCond .ne 7, 3) := by decide +kernel
theorem dX11_partsAs_95 : decode cX11_partsAs 95 = .ok (.iload_n 3, 1) := by decide +kernel
theorem dX11_partsAs_96 : decode cX11_partsAs 96 = .ok (.ifCond .ne 7, 3) := by decide +kernel
theorem dX11_partsAs_99 : decode cX11_partsAs 99 = .ok (.iconst 1, 1) := by decide +kernel
theorem dX11_partsAs_100 : decode cX11_partsAs 100 = .ok (.goto 4, 3) := by decide +kernel
theorem dX11_partsAs_103 : decode cX11_partsAs 103 = .ok (.iconst 0, 1) := by decide +kernel
theorem dX11_partsAs_104 : decode cX11_partsAs 104 = .ok (.putfield 253, 3) := by decide +kernel
theorem dX11_partsAs_107 : decode cX11_partsAs 107 = .ok (.aload_n 0, 1) := by decide +kernel
theorem dX11_partsAs_108 : decode cX11_partsAs 108 = .ok (.getfield 253, 3) := by decide +kernel
theorem dX11_partsAs_111 : decode cX11_partsAs 111 = .ok (.ifCond .eq 7, 3) := by decide +kernel
theorem dX11_partsAs_114 : decode cX11_partsAs 114 = .ok (.iconst 0, 1) := by decide +kernel
theorem dX11_partsAs_115 : decode cX11_partsAs 115 = .ok (.goto 16, 3) := by decide +kernel
theorem dX11_partsAs_118 : decode cX11_partsAs 118 = .ok (.iload_n 3, 1) := by decide +kernel
theorem dX11_partsAs_119 : decode cX11_partsAs 119 = .ok (.iconst (-1), 1) := by decide +kernel
theorem dX11_partsAs_120 : decode cX11_partsAs 120 = .ok (.if_icmp .ne 8, 3) := by decide +kernel
theorem dX11_partsAs_123 : decode cX11_partsAs 123 = .ok (.iload_n 2, 1) := by decide +kernel
theorem dX11_partsAs_124 : decode cX11_partsAs 124 = .ok (.ineg, 1) := by decide +kernel
theorem dX11_partsAs_125 : decode cX11_partsAs 125 = .ok (.goto 6, 3) := by decide +kernel
theorem dX11_partsAs_128 : decode cX11_partsAs 128 = .ok (.iload_n 2, 1) := by decide +kernel
theorem dX11_partsAs_129 : decode cX11_partsAs 129 = .ok (.iload_n 3, 1) := by decide +kernel
theorem dX11_partsAs_130 : decode cX11_partsAs 130 = .ok (.idiv, 1) := by decide +kernel
theorem dX11_partsAs_131 : decode cX11_partsAs 131 = .ok (.ireturn, 1) := by decide +kernel
set_option maxRecDepth 20000 in
theorem ggX11_comesAs_X11_starts : GoodIn wsX11_comesAs wsX11_starts := goodIn_r _ [6, 7, 8, 30, 31, 32, 33, 34, 35, 36, 37, 38, 39, 40, 41, 42, 43, 44, 45, 46, 47, 48, 49, 50, 51, 52, 53] (by decide +kernel) (by decide +kernel)
set_option maxRecDepth 20000 in
theorem gX11_comesAs_X11_starts : GoodIn wsX11_comesAs (wsV RX11 238 RX11 yX11_starts wsX11_starts) := goodIn_app (goodIn_of _ (by decide +kernel)) ggX11_comesAs_X11_starts
set_option maxRecDepth 20000 in
theorem ggX11_comesAs_X11_comesAs : GoodIn wsX11_comesAs wsX11_comesAs := goodIn_r _ [0, 1, 2, 3, 4, 5, 6, 7, 8, 9, 10, 11, 12, 13, 14, 15, 16, 17, 18, 19, 20, 21, 22, 23, 24, 25, 26, 27, 28, 29, 30, 31, 32, 33, 34, 35, 36, 37, 38, 39, 40, 41, 42, 43, 44, 45, 46, 47, 48, 49, 50, 51, 52, 53] (by decide +kernel) (by decide +kernel)
set_option maxRecDepth 20000 in
theorem gX11_comesAs_X11_comesAs : GoodIn wsX11_comesAs (wsV RX11 257 RX11 yX11_comesAs wsX11_comesAs) := goodIn_app (goodIn_of _ (by decide +kernel)) ggX11_comesAs_X11_comesAs
set_option maxRecDepth 20000 in
theorem ggX11_comesAs_X11_get : GoodIn wsX11_comesAs wsX11_get := goodIn_r _ [15, 16, 30, 31, 32, 33, 34, 35, 36, 37, 38, 39, 40, 41, 42, 43, 44, 45, 46, 47, 48, 49, 50, 51, 52, 53] (by decide +kernel) (by decide +kernel)
set_option maxRecDepth 20000 in
theorem gX11_comesAs_X11_get : GoodIn wsX11_comesAs (wsV RX11 61 RX11 yX11_get wsX11_get) := goodIn_app (goodIn_of _ (by decide +kernel)) ggX11_comesAs_X11_get
set_option maxRecDepth 20000 in
theorem ggX11_comesAs_X11_partsAs : GoodIn wsX11_comesAs wsX11_partsAs := goodIn_r _ [20, 1, 21, 2, 3, 4, 5, 6, 7, 8, 17, 18, 19, 22, 23, 24, 25, 12, 13, 14, 15, 16, 30, 31, 32, 33, 34, 35, 36, 37, 38, 39, 40, 41, 42, 43, 44, 45, 46, 47, 48, 49, 50, 51, 52, 53] (by decide +kernel) (by decide +kernel)
set_option maxRecDepth 20000 in
theorem gX11_comesAs_X11_partsAs : GoodIn wsX11_comesAs (wsV RX11 250 RX11 yX11_partsAs wsX11_partsAs) := goodIn_app (goodIn_of _ (by decide +kernel)) ggX11_comesAs_X11_partsAs
set_option maxRecDepth 20000 in
theorem ggX11_comesAs_X11_walksAs : GoodIn wsX11_comesAs wsX11_walksAs := goodIn_r _ [29, 1, 2, 3, 4, 5, 6, 7, 8, 26, 27, 28, 12, 13, 14, 15, 16, 22, 23, 24, 25, 30, 31, 32, 33, 34, 35, 36, 37, 38, 39, 40, 41, 42, 43, 44, 45, 46, 47, 48, 49, 50, 51, 52, 53] (by decide +kernel) (by decide +kernel)
set_option maxRecDepth 20000 in
theorem gX11_comesAs_X11_walksAs : GoodIn wsX11_comesAs (wsV RX11 247 RX11 yX11_walksAs wsX11_walksAs) := goodIn_app (goodIn_of _ (by decide +kernel)) ggX11_comesAs_X11_walksAs
theorem dX11_comesAs_0 : decode cX11_comesAs 0 = .ok (.iload_n 1, 1) := by decide +kernel
theorem dX11_comesAs_1 : decode cX11_comesAs 1 = .ok (.iconst 2, 1) := by decide +kernel
theorem dX11_comesAs_2 : decode cX11_comesAs 2 = .ok (.if_icmp .eq 8, 3) := by decide +kernel
theorem dX11_comesAs_5 : decode cX11_comesAs 5 = .ok (.iload_n 1, 1) := by decide +kernel
theorem dX11_comesAs_6 : decode cX11_comesAs 6 = .ok (.iconst 4, 1) := by decide +kernel
theorem dX11_comesAs_7 : decode cX11_comesAs 7 = .ok (.if_icmp .ne 36, 3) := by decide +kernel
theorem dX11_comesAs_10 : decode cX11_comesAs 10 = .ok (.aload_n 0, 1) := by decide +kernel
theorem dX11_comesAs_11 : decode cX11_comesAs 11 = .ok (.bipush 31, 2) := by decide +kernel
theorem dX11_comesAs_13 : decode cX11_comesAs 13 = .ok (.invokevirtual 238, 3) := by decide +kernel
theorem dX11_comesAs_16 : decode cX11_comesAs 16 = .ok (.aload_n 0, 1) := by decide +kernel
theorem dX11_comesAs_17 : decode cX11_comesAs 17 = .ok (.iconst 0, 1) := by decide +kernel
theorem dX11_comesAs_18 : decode cX11_comesAs 18 = .ok (.iload_n 2, 1) := by decide +kernel
theorem dX11_comesAs_19 : decode cX11_comesAs 19 = .ok (.invokevirtual 257, 3) := by decide +kernel
theorem dX11_comesAs_22 : decode cX11_comesAs 22 = .ok (.istore_n 3, 1) := by decide +kernel
theorem dX11_comesAs_23 : decode cX11_comesAs 23 = .ok (.iload_n 3, 1) := by decide +kernel
theorem dX11_comesAs_24 : decode cX11_comesAs 24 = .ok (.aload_n 0, 1) := by decide +kernel
theorem dX11_comesAs_25 : decode cX11_comesAs 25 = .ok (.aload_n 0, 1) := by decide +kernel
theorem dX11_comesAs_26 : decode cX11_comesAs 26 = .ok (.aload_n 0, 1) := by decide +kernel
theorem dX11_comesAs_27 : decode cX11_comesAs 27 = .ok (.getfield 244, 3) := by decide +kernel
theorem dX11_comesAs_30 : decode cX11_comesAs 30 = .ok (.iconst 0, 1) := by decide +kernel
theorem dX11_comesAs_31 : decode cX11_comesAs 31 = .ok (.invokevirtual 61, 3) := by decide +kernel
theorem dX11_comesAs_34 : decode cX11_comesAs 34 = .ok (.aload_n 0, 1) := by decide +kernel
theorem dX11_comesAs_35 : decode cX11_comesAs 35 = .ok (.getfield 244, 3) := by decide +kernel
theorem dX11_comesAs_38 : decode cX11_comesAs 38 = .ok (.invokevirtual 250, 3) := by decide +kernel
theorem dX11_comesAs_41 : decode cX11_comesAs 41 = .ok (.iadd, 1) := by decide +kernel
theorem dX11_comesAs_42 : decode cX11_comesAs 42 = .ok (.ireturn, 1) := by decide +kernel
theorem dX11_comesAs_43 : decode cX11_comesAs 43 = .ok (.iload_n 1, 1) := by decide +kernel
theorem dX11_comesAs_44 : decode cX11_comesAs 44 = .ok (.iconst 5, 1) := by decide +kernel
theorem dX11_comesAs_45 : decode cX11_comesAs 45 = .ok (.if_icmp .ne 19, 3) := by decide +kernel
theorem dX11_comesAs_48 : decode cX11_comesAs 48 = .ok (.aload_n 0, 1) := by decide +kernel
theorem dX11_comesAs_49 : decode cX11_comesAs 49 = .ok (.bipush 60, 2) := by decide +kernel
theorem dX11_comesAs_51 : decode cX11_comesAs 51 = .ok (.invokevirtual 238, 3) := by decide +kernel
theorem dX11_comesAs_54 : decode cX11_comesAs 54 = .ok (.aload_n 0, 1) := by decide +kernel
theorem dX11_comesAs_55 : decode cX11_comesAs 55 = .ok (.iconst 0, 1) := by decide +kernel
theorem dX11_comesAs_56 : decode cX11_comesAs 56 = .ok (.iload_n 2, 1) := by decide +kernel
theorem dX11_comesAs_57 : decode cX11_comesAs 57 = .ok (.invokevirtual 257, 3) := by decide +kernel
theorem dX11_comesAs_60 : decode cX11_comesAs 60 = .ok (.bipush 8, 2) := by decide +kernel
theorem dX11_comesAs_62 : decode cX11_comesAs 62 = .ok (.isub, 1) := by decide +kernel
theorem dX11_comesAs_63 : decode cX11_comesAs 63 = .ok (.ireturn, 1) := by decide +kernel
theorem dX11_comesAs_64 : decode cX11_comesAs 64 = .ok (.aload_n 0, 1) := by decide +kernel
theorem dX11_comesAs_65 : decode cX11_comesAs 65 = .ok (.bipush 13, 2) := by decide +kernel
theorem dX11_comesAs_67 : decode cX11_comesAs 67 = .ok (.invokevirtual 238, 3) := by decide +kernel
theorem dX11_comesAs_70 : decode cX11_comesAs 70 = .ok (.aload_n 0, 1) := by decide +kernel
theorem dX11_comesAs_71 : decode cX11_comesAs 71 = .ok (.aload_n 0, 1) := by decide +kernel
theorem dX11_comesAs_72 : decode cX11_comesAs 72 = .ok (.aload_n 0, 1) := by decide +kernel
theorem dX11_comesAs_73 : decode cX11_comesAs 73 = .ok (.getfield 244, 3) := by decide +kernel
theorem dX11_comesAs_76 : decode cX11_comesAs 76 = .ok (.iconst 0, 1) := by decide +kernel
theorem dX11_comesAs_77 : decode cX11_comesAs 77 = .ok (.invokevirtual 61, 3) := by decide +kernel
theorem dX11_comesAs_80 : decode cX11_comesAs 80 = .ok (.iload_n 2, 1) := by decide +kernel
theorem dX11_comesAs_81 : decode cX11_comesAs 81 = .ok (.invokevirtual 247, 3) := by decide +kernel
theorem dX11_comesAs_84 : decode cX11_comesAs 84 = .ok (.sipush 200, 3) := by decide +kernel
theorem dX11_comesAs_87 : decode cX11_comesAs 87 = .ok (.ixor, 1) := by decide +kernel
theorem dX11_comesAs_88 : decode cX11_comesAs 88 = .ok (.ireturn, 1) := by decide +kernel
set_option maxRecDepth 20000 in
theorem ggX11_act_X11_isSheet : GoodIn wsX11_act wsX11_isSheet := goodIn_r _ [8, 9, 10, 7, 11] (by decide +kernel) (by decide +kernel)
set_option maxRecDepth 20000 in
theorem gX11_act_X11_isSheet : GoodIn wsX11_act (va_wsS RX11 209 yX11_isSheet wsX11_isSheet) := goodIn_app (goodIn_of _ (by decide +kernel)) ggX11_act_X11_isSheet
set_option maxRecDepth 20000 in
theorem ggX11_act_X11_in1 : GoodIn wsX11_act wsX11_in1 := goodIn_r _ [11] (by decide +kernel) (by decide +kernel)
set_option maxRecDepth 20000 in
theorem gX11_act_X11_in1 : GoodIn wsX11_act (va_wsS RX11 57 yX11_in1 wsX11_in1) := goodIn_app (goodIn_of _ (by decide +kernel)) ggX11_act_X11_in1
set_option maxRecDepth 20000 in
theorem ggX11_act_X11_heldOn : GoodIn wsX11_act wsX11_heldOn := goodIn_r _ [15, 16, 2, 17, 18, 19, 7, 20, 21, 9, 10, 11, 47, 48, 49, 50, 51, 52, 53, 54, 55, 56, 57, 58, 59, 60, 61, 62, 63, 64, 65, 66, 67, 68, 69, 70] (by decide +kernel) (by decide +kernel)
set_option maxRecDepth 20000 in
theorem gX11_act_X11_heldOn : GoodIn wsX11_act (wsV RX11 229 RX11 yX11_heldOn wsX11_heldOn) := goodIn_app (goodIn_of _ (by decide +kernel)) ggX11_act_X11_heldOn
set_option maxRecDepth 20000 in
theorem ggX11_act_X11_get : GoodIn wsX11_act wsX11_get := goodIn_r _ [25, 21, 47, 48, 49, 50, 51, 52, 53, 54, 55, 56, 57, 58, 59, 60, 61, 62, 63, 64, 65, 66, 67, 68, 69, 70] (by decide +kernel) (by decide +kernel)
set_option maxRecDepth 20000 in
theorem gX11_act_X11_get : GoodIn wsX11_act (wsV RX11 61 RX11 yX11_get wsX11_get) := goodIn_app (goodIn_of _ (by decide +kernel)) ggX11_act_X11_get
set_option maxRecDepth 20000 in
theorem ggX11_act_X11_looksAs : GoodIn wsX11_act wsX11_looksAs := goodIn_r _ [29, 3, 30, 31, 32, 7, 33, 1, 34, 26, 27, 28, 47, 48, 49, 50, 51, 52, 53, 54, 55, 56, 57, 58, 59, 60, 61, 62, 63, 64, 65, 66, 67, 68, 69, 70] (by decide +kernel) (by decide +kernel)
set_option maxRecDepth 20000 in
theorem gX11_act_X11_looksAs : GoodIn wsX11_act (wsV RX11 241 RX11 yX11_looksAs wsX11_looksAs) := goodIn_app (goodIn_of _ (by decide +kernel)) ggX11_act_X11_looksAs
set_option maxRecDepth 20000 in
theorem ggX11_act_X11_walksAs : GoodIn wsX11_act wsX11_walksAs := goodIn_r _ [38, 3, 30, 31, 32, 7, 33, 1, 34, 35, 36, 37, 22, 23, 24, 25, 21, 26, 27, 28, 29, 47, 48, 49, 50, 51, 52, 53, 54, 55, 56, 57, 58, 59, 60, 61, 62, 63, 64, 65, 66, 67, 68, 69, 70] (by decide +kernel) (by decide +kernel)
set_option maxRecDepth 20000 in
theorem gX11_act_X11_walksAs : GoodIn wsX11_act (wsV RX11 247 RX11 yX11_walksAs wsX11_walksAs) := goodIn_app (goodIn_of _ (by decide +kernel)) ggX11_act_X11_walksAs
set_option maxRecDepth 20000 in
theorem ggX11_act_X11_partsAs : GoodIn wsX11_act wsX11_partsAs := goodIn_r _ [42, 3, 4, 30, 31, 32, 7, 33, 1, 34, 39, 40, 41, 26, 27, 28, 29, 22, 23, 24, 25, 21, 47, 48, 49, 50, 51, 52, 53, 54, 55, 56, 57, 58, 59, 60, 61, 62, 63, 64, 65, 66, 67, 68, 69, 70] (by decide +kernel) (by decide +kernel)
set_option maxRecDepth 20000 in
theorem gX11_act_X11_partsAs : GoodIn wsX11_act (wsV RX11 250 RX11 yX11_partsAs wsX11_partsAs) := goodIn_app (goodIn_of _ (by decide +kernel)) ggX11_act_X11_partsAs
set_option maxRecDepth 20000 in
theorem ggX11_act_X11_comesAs : GoodIn wsX11_act wsX11_comesAs := goodIn_r _ [46, 3, 30, 31, 32, 7, 33, 1, 34, 43, 44, 45, 22, 23, 24, 25, 21, 39, 40, 41, 42, 4, 26, 27, 28, 29, 35, 36, 37, 38, 47, 48, 49, 50, 51, 52, 53, 54, 55, 56, 57, 58, 59, 60, 61, 62, 63, 64, 65, 66, 67, 68, 69, 70] (by decide +kernel) (by decide +kernel)
set_option maxRecDepth 20000 in
theorem gX11_act_X11_comesAs : GoodIn wsX11_act (wsV RX11 257 RX11 yX11_comesAs wsX11_comesAs) := goodIn_app (goodIn_of _ (by decide +kernel)) ggX11_act_X11_comesAs
theorem dX11_act_0 : decode cX11_act 0 = .ok (.aload_n 0, 1) := by decide +kernel
theorem dX11_act_1 : decode cX11_act 1 = .ok (.iconst 0, 1) := by decide +kernel
theorem dX11_act_2 : decode cX11_act 2 = .ok (.putfield 235, 3) := by decide +kernel
theorem dX11_act_5 : decode cX11_act 5 = .ok (.iload_n 1, 1) := by decide +kernel
theorem dX11_act_6 : decode cX11_act 6 = .ok (.invokestatic 209, 3) := by decide +kernel
theorem dX11_act_9 : decode cX11_act 9 = .ok (.ifCond .eq 20, 3) := by decide +kernel
theorem dX11_act_12 : decode cX11_act 12 = .ok (.iload_n 2, 1) := by decide +kernel
theorem dX11_act_13 : decode cX11_act 13 = .ok (.iconst 0, 1) := by decide +kernel
theorem dX11_act_14 : decode cX11_act 14 = .ok (.iconst 3, 1) := by decide +kernel
theorem dX11_act_15 : decode cX11_act 15 = .ok (.invokestatic 57, 3) := by decide +kernel
theorem dX11_act_18 : decode cX11_act 18 = .ok (.ifCond .eq 11, 3) := by decide +kernel
theorem dX11_act_21 : decode cX11_act 21 = .ok (.aload_n 0, 1) := by decide +kernel
theorem dX11_act_22 : decode cX11_act 22 = .ok (.iload_n 1, 1) := by decide +kernel
theorem dX11_act_23 : decode cX11_act 23 = .ok (.invokevirtual 229, 3) := by decide +kernel
theorem dX11_act_26 : decode cX11_act 26 = .ok (.ifCond .eq 5, 3) := by decide +kernel
theorem dX11_act_29 : decode cX11_act 29 = .ok (.iconst 0, 1) := by decide +kernel
theorem dX11_act_30 : decode cX11_act 30 = .ok (.ireturn, 1) := by decide +kernel
theorem dX11_act_31 : decode cX11_act 31 = .ok (.aload_n 0, 1) := by decide +kernel
theorem dX11_act_32 : decode cX11_act 32 = .ok (.aload_n 0, 1) := by decide +kernel
theorem dX11_act_33 : decode cX11_act 33 = .ok (.getfield 47, 3) := by decide +kernel
theorem dX11_act_36 : decode cX11_act 36 = .ok (.iload_n 1, 1) := by decide +kernel
theorem dX11_act_37 : decode cX11_act 37 = .ok (.iaload, 1) := by decide +kernel
theorem dX11_act_38 : decode cX11_act 38 = .ok (.putfield 244, 3) := by decide +kernel
theorem dX11_act_41 : decode cX11_act 41 = .ok (.aload_n 0, 1) := by decide +kernel
theorem dX11_act_42 : decode cX11_act 42 = .ok (.iconst 0, 1) := by decide +kernel
theorem dX11_act_43 : decode cX11_act 43 = .ok (.putfield 253, 3) := by decide +kernel
theorem dX11_act_46 : decode cX11_act 46 = .ok (.aload_n 0, 1) := by decide +kernel
theorem dX11_act_47 : decode cX11_act 47 = .ok (.aload_n 0, 1) := by decide +kernel
theorem dX11_act_48 : decode cX11_act 48 = .ok (.getfield 244, 3) := by decide +kernel
theorem dX11_act_51 : decode cX11_act 51 = .ok (.iconst 0, 1) := by decide +kernel
theorem dX11_act_52 : decode cX11_act 52 = .ok (.invokevirtual 61, 3) := by decide +kernel
theorem dX11_act_55 : decode cX11_act 55 = .ok (.istore 4, 2) := by decide +kernel
theorem dX11_act_57 : decode cX11_act 57 = .ok (.iload_n 2, 1) := by decide +kernel
theorem dX11_act_58 : decode cX11_act 58 = .ok (.ifCond .ne 13, 3) := by decide +kernel
theorem dX11_act_61 : decode cX11_act 61 = .ok (.aload_n 0, 1) := by decide +kernel
theorem dX11_act_62 : decode cX11_act 62 = .ok (.iload 4, 2) := by decide +kernel
theorem dX11_act_64 : decode cX11_act 64 = .ok (.iload_n 3, 1) := by decide +kernel
theorem dX11_act_65 : decode cX11_act 65 = .ok (.invokevirtual 241, 3) := by decide +kernel
theorem dX11_act_68 : decode cX11_act 68 = .ok (.goto 40, 3) := by decide +kernel
theorem dX11_act_71 : decode cX11_act 71 = .ok (.iload_n 2, 1) := by decide +kernel
theorem dX11_act_72 : decode cX11_act 72 = .ok (.iconst 1, 1) := by decide +kernel
theorem dX11_act_73 : decode cX11_act 73 = .ok (.if_icmp .ne 13, 3) := by decide +kernel
theorem dX11_act_76 : decode cX11_act 76 = .ok (.aload_n 0, 1) := by decide +kernel
theorem dX11_act_77 : decode cX11_act 77 = .ok (.iload 4, 2) := by decide +kernel
theorem dX11_act_79 : decode cX11_act 79 = .ok (.iload_n 3, 1) := by decide +kernel
theorem dX11_act_80 : decode cX11_act 80 = .ok (.invokevirtual 247, 3) := by decide +kernel
theorem dX11_act_83 : decode cX11_act 83 = .ok (.goto 25, 3) := by decide +kernel
theorem dX11_act_86 : decode cX11_act 86 = .ok (.iload_n 2, 1) := by decide +kernel
theorem dX11_act_87 : decode cX11_act 87 = .ok (.iconst 2, 1) := by decide +kernel
theorem dX11_act_88 : decode cX11_act 88 = .ok (.if_icmp .ne 13, 3) := by decide +kernel
theorem dX11_act_91 : decode cX11_act 91 = .ok (.aload_n 0, 1) := by decide +kernel
theorem dX11_act_92 : decode cX11_act 92 = .ok (.iload 4, 2) := by decide +kernel
theorem dX11_act_94 : decode cX11_act 94 = .ok (.iload_n 3, 1) := by decide +kernel
theorem dX11_act_95 : decode cX11_act 95 = .ok (.invokevirtual 250, 3) := by decide +kernel
theorem dX11_act_98 : decode cX11_act 98 = .ok (.goto 10, 3) := by decide +kernel
theorem dX11_act_101 : decode cX11_act 101 = .ok (.aload_n 0, 1) := by decide +kernel
theorem dX11_act_102 : decode cX11_act 102 = .ok (.iload 4, 2) := by decide +kernel
theorem dX11_act_104 : decode cX11_act 104 = .ok (.iload_n 3, 1) := by decide +kernel
theorem dX11_act_105 : decode cX11_act 105 = .ok (.invokevirtual 257, 3) := by decide +kernel
theorem dX11_act_108 : decode cX11_act 108 = .ok (.istore 5, 2) := by decide +kernel
theorem dX11_act_110 : decode cX11_act 110 = .ok (.aload_n 0, 1) := by decide +kernel
theorem dX11_act_111 : decode cX11_act 111 = .ok (.getfield 253, 3) := by decide +kernel
theorem dX11_act_114 : decode cX11_act 114 = .ok (.ifCond .eq 8, 3) := by decide +kernel
theorem dX11_act_117 : decode cX11_act 117 = .ok (.bipush (-15), 2) := by decide +kernel
theorem dX11_act_119 : decode cX11_act 119 = .ok (.goto 5, 3) := by decide +kernel
theorem dX11_act_122 : decode cX11_act 122 = .ok (.iload 5, 2) := by decide +kernel
theorem dX11_act_124 : decode cX11_act 124 = .ok (.ireturn, 1) := by decide +kernel
set_option maxRecDepth 20000 in
theorem ggX11_trace_X11_in1 : GoodIn wsX11_trace wsX11_in1 := goodIn_r _ [6] (by decide +kernel) (by decide +kernel)
set_option maxRecDepth 20000 in
theorem gX11_trace_X11_in1 : GoodIn wsX11_trace (va_wsS RX11 57 yX11_in1 wsX11_in1) := goodIn_app (goodIn_of _ (by decide +kernel)) ggX11_trace_X11_in1
theorem dX11_trace_0 : decode cX11_trace 0 = .ok (.iload_n 1, 1) := by decide +kernel
theorem dX11_trace_1 : decode cX11_trace 1 = .ok (.iconst 0, 1) := by decide +kernel
theorem dX11_trace_2 : decode cX11_trace 2 = .ok (.aload_n 0, 1) := by decide +kernel
theorem dX11_trace_3 : decode cX11_trace 3 = .ok (.getfield 235, 3) := by decide +kernel
theorem dX11_trace_6 : decode cX11_trace 6 = .ok (.iconst 1, 1) := by decide +kernel
theorem dX11_trace_7 : decode cX11_trace 7 = .ok (.isub, 1) := by decide +kernel
theorem dX11_trace_8 : decode cX11_trace 8 = .ok (.invokestatic 57, 3) := by decide +kernel
theorem dX11_trace_11 : decode cX11_trace 11 = .ok (.ifCond .eq 12, 3) := by decide +kernel
theorem dX11_trace_14 : decode cX11_trace 14 = .ok (.aload_n 0, 1) := by decide +kernel
theorem dX11_trace_15 : decode cX11_trace 15 = .ok (.getfield 50, 3) := by decide +kernel
theorem dX11_trace_18 : decode cX11_trace 18 = .ok (.iload_n 1, 1) := by decide +kernel
theorem dX11_trace_19 : decode cX11_trace 19 = .ok (.iaload, 1) := by decide +kernel
theorem dX11_trace_20 : decode cX11_trace 20 = .ok (.goto 5, 3) := by decide +kernel
theorem dX11_trace_23 : decode cX11_trace 23 = .ok (.bipush (-3), 2) := by decide +kernel
theorem dX11_trace_25 : decode cX11_trace 25 = .ok (.ireturn, 1) := by decide +kernel
set_option maxRecDepth 20000 in
theorem ggX11_many_X11_setOf : GoodIn wsX11_many wsX11_setOf := goodIn_r _ [9, 1, 10, 11, 12, 8, 13, 14, 15, 16, 17, 18, 19, 20, 21, 22, 23, 24, 25, 26, 27, 28, 29, 30, 31, 32, 33, 37, 38, 39, 40, 41, 42, 43, 44, 45, 46, 47, 48, 49, 50, 51, 52, 53, 54, 55, 56, 57, 58, 59, 60] (by decide +kernel) (by decide +kernel)
set_option maxRecDepth 20000 in
theorem gX11_many_X11_setOf : GoodIn wsX11_many (wsV RX11 180 RX11 yX11_setOf wsX11_setOf) := goodIn_app (goodIn_of _ (by decide +kernel)) ggX11_many_X11_setOf
set_option maxRecDepth 20000 in
theorem ggX11_many_X11_ones : GoodIn wsX11_many wsX11_ones := goodIn_r _ [36] (by decide +kernel) (by decide +kernel)
set_option maxRecDepth 20000 in
theorem gX11_many_X11_ones : GoodIn wsX11_many (va_wsS RX11 183 yX11_ones wsX11_ones) := goodIn_app (goodIn_of _ (by decide +kernel)) ggX11_many_X11_ones
set_option maxRecDepth 20000 in
theorem ggX11_many_X11_get : GoodIn wsX11_many wsX11_get := goodIn_r _ [17, 1, 37, 38, 39, 40, 41, 42, 43, 44, 45, 46, 47, 48, 49, 50, 51, 52, 53, 54, 55, 56, 57, 58, 59, 60] (by decide +kernel) (by decide +kernel)
set_option maxRecDepth 20000 in
theorem gX11_many_X11_get : GoodIn wsX11_many (wsV RX11 61 RX11 yX11_get wsX11_get) := goodIn_app (goodIn_of _ (by decide +kernel)) ggX11_many_X11_get
