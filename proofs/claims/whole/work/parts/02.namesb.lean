theorem dX0_init_0 : decode cX0_init 0 = .ok (.aload_n 0, 1) := by decide +kernel
theorem dX0_init_1 : decode cX0_init 1 = .ok (.invokespecial 3, 3) := by decide +kernel
theorem dX0_init_4 : decode cX0_init 4 = .ok (.aload_n 0, 1) := by decide +kernel
theorem dX0_init_5 : decode cX0_init 5 = .ok (.iconst 0, 1) := by decide +kernel
theorem dX0_init_6 : decode cX0_init 6 = .ok (.putfield 9, 3) := by decide +kernel
theorem dX0_init_9 : decode cX0_init 9 = .ok (.aload_n 0, 1) := by decide +kernel
theorem dX0_init_10 : decode cX0_init 10 = .ok (.iconst 0, 1) := by decide +kernel
theorem dX0_init_11 : decode cX0_init 11 = .ok (.putfield 15, 3) := by decide +kernel
theorem dX0_init_14 : decode cX0_init 14 = .ok (.aload_n 0, 1) := by decide +kernel
theorem dX0_init_15 : decode cX0_init 15 = .ok (.iconst 0, 1) := by decide +kernel
theorem dX0_init_16 : decode cX0_init 16 = .ok (.putfield 18, 3) := by decide +kernel
theorem dX0_init_19 : decode cX0_init 19 = .ok (.aload_n 0, 1) := by decide +kernel
theorem dX0_init_20 : decode cX0_init 20 = .ok (.iconst 0, 1) := by decide +kernel
theorem dX0_init_21 : decode cX0_init 21 = .ok (.putfield 22, 3) := by decide +kernel
theorem dX0_init_24 : decode cX0_init 24 = .ok (.aload_n 0, 1) := by decide +kernel
theorem dX0_init_25 : decode cX0_init 25 = .ok (.bipush 30, 2) := by decide +kernel
theorem dX0_init_27 : decode cX0_init 27 = .ok (.newarray .int, 2) := by decide +kernel
theorem dX0_init_29 : decode cX0_init 29 = .ok (.putfield 25, 3) := by decide +kernel
theorem dX0_init_32 : decode cX0_init 32 = .ok (.return_, 1) := by decide +kernel
set_option maxRecDepth 20000 in
theorem ggX1_init_X4_init : GoodIn wsX1_init wsX4_init := goodIn_r _ [3, 4, 5, 6] (by decide +kernel) (by decide +kernel)
set_option maxRecDepth 20000 in
theorem gX1_init_X4_init_n3 : GoodIn wsX1_init (wsX4_init) := ggX1_init_X4_init
theorem dX1_init_0 : decode cX1_init 0 = .ok (.aload_n 0, 1) := by decide +kernel
theorem dX1_init_1 : decode cX1_init 1 = .ok (.invokespecial 3, 3) := by decide +kernel
theorem dX1_init_4 : decode cX1_init 4 = .ok (.return_, 1) := by decide +kernel
theorem dX1_sight_0 : decode cX1_sight 0 = .ok (.iload_n 3, 1) := by decide +kernel
theorem dX1_sight_1 : decode cX1_sight 1 = .ok (.iconst 2, 1) := by decide +kernel
theorem dX1_sight_2 : decode cX1_sight 2 = .ok (.imul, 1) := by decide +kernel
theorem dX1_sight_3 : decode cX1_sight 3 = .ok (.ireturn, 1) := by decide +kernel
set_option maxRecDepth 20000 in
theorem ggX1_keen_X4_keen : GoodIn wsX1_keen wsX4_keen := goodIn_r _ [6] (by decide +kernel) (by decide +kernel)
set_option maxRecDepth 20000 in
theorem gX1_keen_X4_keen_s9 : GoodIn wsX1_keen (va_wsSU RX1 9 yX4_keen wsX4_keen) := goodIn_app (goodIn_of _ (by decide +kernel)) ggX1_keen_X4_keen
theorem dX1_keen_0 : decode cX1_keen 0 = .ok (.aload_n 0, 1) := by decide +kernel
theorem dX1_keen_1 : decode cX1_keen 1 = .ok (.iload_n 1, 1) := by decide +kernel
theorem dX1_keen_2 : decode cX1_keen 2 = .ok (.iload_n 2, 1) := by decide +kernel
theorem dX1_keen_3 : decode cX1_keen 3 = .ok (.invokespecial 9, 3) := by decide +kernel
theorem dX1_keen_6 : decode cX1_keen 6 = .ok (.iload_n 2, 1) := by decide +kernel
theorem dX1_keen_7 : decode cX1_keen 7 = .ok (.iadd, 1) := by decide +kernel
theorem dX1_keen_8 : decode cX1_keen 8 = .ok (.ireturn, 1) := by decide +kernel
set_option maxRecDepth 20000 in
theorem ggX1_fears_X4_fears : GoodIn wsX1_fears wsX4_fears := goodIn_r _ [6] (by decide +kernel) (by decide +kernel)
set_option maxRecDepth 20000 in
theorem gX1_fears_X4_fears_s13 : GoodIn wsX1_fears (va_wsSU RX1 13 yX4_fears wsX4_fears) := goodIn_app (goodIn_of _ (by decide +kernel)) ggX1_fears_X4_fears
theorem dX1_fears_0 : decode cX1_fears 0 = .ok (.aload_n 0, 1) := by decide +kernel
theorem dX1_fears_1 : decode cX1_fears 1 = .ok (.iload_n 1, 1) := by decide +kernel
theorem dX1_fears_2 : decode cX1_fears 2 = .ok (.invokespecial 13, 3) := by decide +kernel
theorem dX1_fears_5 : decode cX1_fears 5 = .ok (.iconst 3, 1) := by decide +kernel
theorem dX1_fears_6 : decode cX1_fears 6 = .ok (.iadd, 1) := by decide +kernel
theorem dX1_fears_7 : decode cX1_fears 7 = .ok (.ireturn, 1) := by decide +kernel
set_option maxRecDepth 20000 in
theorem ggX1_pace_X4_pace : GoodIn wsX1_pace wsX4_pace := goodIn_r _ [6] (by decide +kernel) (by decide +kernel)
set_option maxRecDepth 20000 in
theorem gX1_pace_X4_pace_s17 : GoodIn wsX1_pace (va_wsSU RX1 17 yX4_pace wsX4_pace) := goodIn_app (goodIn_of _ (by decide +kernel)) ggX1_pace_X4_pace
theorem dX1_pace_0 : decode cX1_pace 0 = .ok (.aload_n 0, 1) := by decide +kernel
theorem dX1_pace_1 : decode cX1_pace 1 = .ok (.iload_n 1, 1) := by decide +kernel
theorem dX1_pace_2 : decode cX1_pace 2 = .ok (.iload_n 2, 1) := by decide +kernel
theorem dX1_pace_3 : decode cX1_pace 3 = .ok (.invokespecial 17, 3) := by decide +kernel
theorem dX1_pace_6 : decode cX1_pace 6 = .ok (.iload_n 2, 1) := by decide +kernel
theorem dX1_pace_7 : decode cX1_pace 7 = .ok (.ifCond .eq 7, 3) := by decide +kernel
theorem dX1_pace_10 : decode cX1_pace 10 = .ok (.iconst 1, 1) := by decide +kernel
theorem dX1_pace_11 : decode cX1_pace 11 = .ok (.goto 4, 3) := by decide +kernel
theorem dX1_pace_14 : decode cX1_pace 14 = .ok (.iconst 0, 1) := by decide +kernel
theorem dX1_pace_15 : decode cX1_pace 15 = .ok (.iadd, 1) := by decide +kernel
theorem dX1_pace_16 : decode cX1_pace 16 = .ok (.ireturn, 1) := by decide +kernel
set_option maxRecDepth 20000 in
theorem ggX1_actParts_X4_actParts : GoodIn wsX1_actParts wsX4_actParts := goodIn_r _ [10, 11, 12, 13, 14, 15, 21, 22, 23, 24, 25] (by decide +kernel) (by decide +kernel)
set_option maxRecDepth 20000 in
theorem gX1_actParts_X4_actParts_s31 : GoodIn wsX1_actParts (va_wsSU RX1 31 yX4_actParts wsX4_actParts) := goodIn_app (goodIn_of _ (by decide +kernel)) ggX1_actParts_X4_actParts
set_option maxRecDepth 20000 in
theorem ggX1_actParts_X4_actLooks : GoodIn wsX1_actParts wsX4_actLooks := goodIn_r _ [20, 11, 12, 14, 21, 22, 23, 24, 25] (by decide +kernel) (by decide +kernel)
set_option maxRecDepth 20000 in
theorem gX1_actParts_X4_actLooks_u42X1 : GoodIn wsX1_actParts (va_wsU RX1 42 RX1 "LightMan$Kind" ⟨"LightMan$Child", "actLooks", "(LLightMan$Acting;I)I"⟩ yX4_actLooks wsX4_actLooks) := goodIn_app (goodIn_of _ (by decide +kernel)) ggX1_actParts_X4_actLooks
theorem dX1_actParts_0 : decode cX1_actParts 0 = .ok (.aload_n 1, 1) := by decide +kernel
theorem dX1_actParts_1 : decode cX1_actParts 1 = .ok (.getfield 21, 3) := by decide +kernel
theorem dX1_actParts_4 : decode cX1_actParts 4 = .ok (.bipush 30, 2) := by decide +kernel
theorem dX1_actParts_6 : decode cX1_actParts 6 = .ok (.if_icmp .ge 21, 3) := by decide +kernel
theorem dX1_actParts_9 : decode cX1_actParts 9 = .ok (.aload_n 1, 1) := by decide +kernel
theorem dX1_actParts_10 : decode cX1_actParts 10 = .ok (.getfield 27, 3) := by decide +kernel
theorem dX1_actParts_13 : decode cX1_actParts 13 = .ok (.aload_n 1, 1) := by decide +kernel
theorem dX1_actParts_14 : decode cX1_actParts 14 = .ok (.dup, 1) := by decide +kernel
theorem dX1_actParts_15 : decode cX1_actParts 15 = .ok (.getfield 21, 3) := by decide +kernel
theorem dX1_actParts_18 : decode cX1_actParts 18 = .ok (.dup_x1, 1) := by decide +kernel
theorem dX1_actParts_19 : decode cX1_actParts 19 = .ok (.iconst 1, 1) := by decide +kernel
theorem dX1_actParts_20 : decode cX1_actParts 20 = .ok (.iadd, 1) := by decide +kernel
theorem dX1_actParts_21 : decode cX1_actParts 21 = .ok (.putfield 21, 3) := by decide +kernel
theorem dX1_actParts_24 : decode cX1_actParts 24 = .ok (.bipush 61, 2) := by decide +kernel
theorem dX1_actParts_26 : decode cX1_actParts 26 = .ok (.iastore, 1) := by decide +kernel
theorem dX1_actParts_27 : decode cX1_actParts 27 = .ok (.aload_n 0, 1) := by decide +kernel
theorem dX1_actParts_28 : decode cX1_actParts 28 = .ok (.aload_n 1, 1) := by decide +kernel
theorem dX1_actParts_29 : decode cX1_actParts 29 = .ok (.iload_n 2, 1) := by decide +kernel
theorem dX1_actParts_30 : decode cX1_actParts 30 = .ok (.invokespecial 31, 3) := by decide +kernel
theorem dX1_actParts_33 : decode cX1_actParts 33 = .ok (.istore_n 3, 1) := by decide +kernel
theorem dX1_actParts_34 : decode cX1_actParts 34 = .ok (.aload_n 1, 1) := by decide +kernel
theorem dX1_actParts_35 : decode cX1_actParts 35 = .ok (.getfield 35, 3) := by decide +kernel
theorem dX1_actParts_38 : decode cX1_actParts 38 = .ok (.ifCond .eq 7, 3) := by decide +kernel
theorem dX1_actParts_41 : decode cX1_actParts 41 = .ok (.iconst 0, 1) := by decide +kernel
theorem dX1_actParts_42 : decode cX1_actParts 42 = .ok (.goto 14, 3) := by decide +kernel
theorem dX1_actParts_45 : decode cX1_actParts 45 = .ok (.iload_n 3, 1) := by decide +kernel
theorem dX1_actParts_46 : decode cX1_actParts 46 = .ok (.aload_n 0, 1) := by decide +kernel
theorem dX1_actParts_47 : decode cX1_actParts 47 = .ok (.aload_n 1, 1) := by decide +kernel
theorem dX1_actParts_48 : decode cX1_actParts 48 = .ok (.aload_n 1, 1) := by decide +kernel
theorem dX1_actParts_49 : decode cX1_actParts 49 = .ok (.getfield 39, 3) := by decide +kernel
theorem dX1_actParts_52 : decode cX1_actParts 52 = .ok (.invokevirtual 42, 3) := by decide +kernel
theorem dX1_actParts_55 : decode cX1_actParts 55 = .ok (.iadd, 1) := by decide +kernel
theorem dX1_actParts_56 : decode cX1_actParts 56 = .ok (.ireturn, 1) := by decide +kernel
set_option maxRecDepth 20000 in
theorem ggX1_actComes_X4_actComes : GoodIn wsX1_actComes wsX4_actComes := goodIn_r _ [8, 9, 10, 11, 12, 13, 14, 7, 15, 16, 17, 18, 19, 20, 21, 22, 23, 24, 25, 26, 27, 28, 29, 30, 31, 32, 33, 34, 35, 36, 37, 38, 39, 40, 41, 42, 43, 44, 45, 46, 47, 48, 49, 50, 51, 52, 53, 54, 55, 56, 57, 58, 59, 60, 61, 62, 63, 64, 65, 66, 67, 68, 69, 70, 71, 72, 73] (by decide +kernel) (by decide +kernel)
set_option maxRecDepth 20000 in
theorem gX1_actComes_X4_actComes_s47 : GoodIn wsX1_actComes (va_wsSU RX1 47 yX4_actComes wsX4_actComes) := goodIn_app (goodIn_of _ (by decide +kernel)) ggX1_actComes_X4_actComes
theorem dX1_actComes_0 : decode cX1_actComes 0 = .ok (.aload_n 1, 1) := by decide +kernel
theorem dX1_actComes_1 : decode cX1_actComes 1 = .ok (.getfield 21, 3) := by decide +kernel
theorem dX1_actComes_4 : decode cX1_actComes 4 = .ok (.bipush 30, 2) := by decide +kernel
theorem dX1_actComes_6 : decode cX1_actComes 6 = .ok (.if_icmp .ge 21, 3) := by decide +kernel
theorem dX1_actComes_9 : decode cX1_actComes 9 = .ok (.aload_n 1, 1) := by decide +kernel
theorem dX1_actComes_10 : decode cX1_actComes 10 = .ok (.getfield 27, 3) := by decide +kernel
theorem dX1_actComes_13 : decode cX1_actComes 13 = .ok (.aload_n 1, 1) := by decide +kernel
theorem dX1_actComes_14 : decode cX1_actComes 14 = .ok (.dup, 1) := by decide +kernel
theorem dX1_actComes_15 : decode cX1_actComes 15 = .ok (.getfield 21, 3) := by decide +kernel
theorem dX1_actComes_18 : decode cX1_actComes 18 = .ok (.dup_x1, 1) := by decide +kernel
theorem dX1_actComes_19 : decode cX1_actComes 19 = .ok (.iconst 1, 1) := by decide +kernel
theorem dX1_actComes_20 : decode cX1_actComes 20 = .ok (.iadd, 1) := by decide +kernel
theorem dX1_actComes_21 : decode cX1_actComes 21 = .ok (.putfield 21, 3) := by decide +kernel
theorem dX1_actComes_24 : decode cX1_actComes 24 = .ok (.bipush 60, 2) := by decide +kernel
theorem dX1_actComes_26 : decode cX1_actComes 26 = .ok (.iastore, 1) := by decide +kernel
theorem dX1_actComes_27 : decode cX1_actComes 27 = .ok (.aload_n 0, 1) := by decide +kernel
theorem dX1_actComes_28 : decode cX1_actComes 28 = .ok (.aload_n 1, 1) := by decide +kernel
theorem dX1_actComes_29 : decode cX1_actComes 29 = .ok (.iload_n 2, 1) := by decide +kernel
theorem dX1_actComes_30 : decode cX1_actComes 30 = .ok (.invokespecial 47, 3) := by decide +kernel
theorem dX1_actComes_33 : decode cX1_actComes 33 = .ok (.bipush 8, 2) := by decide +kernel
theorem dX1_actComes_35 : decode cX1_actComes 35 = .ok (.isub, 1) := by decide +kernel
theorem dX1_actComes_36 : decode cX1_actComes 36 = .ok (.ireturn, 1) := by decide +kernel
set_option maxRecDepth 20000 in
theorem ggX2_init_X4_init : GoodIn wsX2_init wsX4_init := goodIn_r _ [3, 4, 5, 6] (by decide +kernel) (by decide +kernel)
set_option maxRecDepth 20000 in
theorem gX2_init_X4_init_n3 : GoodIn wsX2_init (wsX4_init) := ggX2_init_X4_init
theorem dX2_init_0 : decode cX2_init 0 = .ok (.aload_n 0, 1) := by decide +kernel
theorem dX2_init_1 : decode cX2_init 1 = .ok (.invokespecial 3, 3) := by decide +kernel
theorem dX2_init_4 : decode cX2_init 4 = .ok (.return_, 1) := by decide +kernel
set_option maxRecDepth 20000 in
theorem ggX2_sight_X4_sight : GoodIn wsX2_sight wsX4_sight := goodIn_r _ [6] (by decide +kernel) (by decide +kernel)
set_option maxRecDepth 20000 in
theorem gX2_sight_X4_sight_s9 : GoodIn wsX2_sight (va_wsSU RX2 9 yX4_sight wsX4_sight) := goodIn_app (goodIn_of _ (by decide +kernel)) ggX2_sight_X4_sight
theorem dX2_sight_0 : decode cX2_sight 0 = .ok (.aload_n 0, 1) := by decide +kernel
theorem dX2_sight_1 : decode cX2_sight 1 = .ok (.iload_n 1, 1) := by decide +kernel
theorem dX2_sight_2 : decode cX2_sight 2 = .ok (.iload_n 2, 1) := by decide +kernel
theorem dX2_sight_3 : decode cX2_sight 3 = .ok (.iload_n 3, 1) := by decide +kernel
theorem dX2_sight_4 : decode cX2_sight 4 = .ok (.invokespecial 9, 3) := by decide +kernel
theorem dX2_sight_7 : decode cX2_sight 7 = .ok (.iconst 4, 1) := by decide +kernel
theorem dX2_sight_8 : decode cX2_sight 8 = .ok (.iadd, 1) := by decide +kernel
theorem dX2_sight_9 : decode cX2_sight 9 = .ok (.ireturn, 1) := by decide +kernel
set_option maxRecDepth 20000 in
theorem ggX2_keen_X4_keen : GoodIn wsX2_keen wsX4_keen := goodIn_r _ [6] (by decide +kernel) (by decide +kernel)
set_option maxRecDepth 20000 in
theorem gX2_keen_X4_keen_s13 : GoodIn wsX2_keen (va_wsSU RX2 13 yX4_keen wsX4_keen) := goodIn_app (goodIn_of _ (by decide +kernel)) ggX2_keen_X4_keen
theorem dX2_keen_0 : decode cX2_keen 0 = .ok (.aload_n 0, 1) := by decide +kernel
theorem dX2_keen_1 : decode cX2_keen 1 = .ok (.iload_n 1, 1) := by decide +kernel
theorem dX2_keen_2 : decode cX2_keen 2 = .ok (.iload_n 2, 1) := by decide +kernel
theorem dX2_keen_3 : decode cX2_keen 3 = .ok (.invokespecial 13, 3) := by decide +kernel
theorem dX2_keen_6 : decode cX2_keen 6 = .ok (.iload_n 1, 1) := by decide +kernel
theorem dX2_keen_7 : decode cX2_keen 7 = .ok (.iadd, 1) := by decide +kernel
theorem dX2_keen_8 : decode cX2_keen 8 = .ok (.ireturn, 1) := by decide +kernel
set_option maxRecDepth 20000 in
theorem ggX2_fears_X4_fears : GoodIn wsX2_fears wsX4_fears := goodIn_r _ [6] (by decide +kernel) (by decide +kernel)
set_option maxRecDepth 20000 in
theorem gX2_fears_X4_fears_s17 : GoodIn wsX2_fears (va_wsSU RX2 17 yX4_fears wsX4_fears) := goodIn_app (goodIn_of _ (by decide +kernel)) ggX2_fears_X4_fears
theorem dX2_fears_0 : decode cX2_fears 0 = .ok (.aload_n 0, 1) := by decide +kernel
theorem dX2_fears_1 : decode cX2_fears 1 = .ok (.iload_n 1, 1) := by decide +kernel
theorem dX2_fears_2 : decode cX2_fears 2 = .ok (.invokespecial 17, 3) := by decide +kernel
theorem dX2_fears_5 : decode cX2_fears 5 = .ok (.iconst 3, 1) := by decide +kernel
theorem dX2_fears_6 : decode cX2_fears 6 = .ok (.isub, 1) := by decide +kernel
theorem dX2_fears_7 : decode cX2_fears 7 = .ok (.ireturn, 1) := by decide +kernel
set_option maxRecDepth 20000 in
theorem ggX2_pace_X4_pace : GoodIn wsX2_pace wsX4_pace := goodIn_r _ [6] (by decide +kernel) (by decide +kernel)
set_option maxRecDepth 20000 in
theorem gX2_pace_X4_pace_s21 : GoodIn wsX2_pace (va_wsSU RX2 21 yX4_pace wsX4_pace) := goodIn_app (goodIn_of _ (by decide +kernel)) ggX2_pace_X4_pace
theorem dX2_pace_0 : decode cX2_pace 0 = .ok (.aload_n 0, 1) := by decide +kernel
theorem dX2_pace_1 : decode cX2_pace 1 = .ok (.iload_n 1, 1) := by decide +kernel
theorem dX2_pace_2 : decode cX2_pace 2 = .ok (.iload_n 2, 1) := by decide +kernel
theorem dX2_pace_3 : decode cX2_pace 3 = .ok (.invokespecial 21, 3) := by decide +kernel
theorem dX2_pace_6 : decode cX2_pace 6 = .ok (.iconst 2, 1) := by decide +kernel
theorem dX2_pace_7 : decode cX2_pace 7 = .ok (.iadd, 1) := by decide +kernel
theorem dX2_pace_8 : decode cX2_pace 8 = .ok (.ireturn, 1) := by decide +kernel
set_option maxRecDepth 20000 in
theorem ggX2_actWalks_X4_actWalks : GoodIn wsX2_actWalks wsX4_actWalks := goodIn_r _ [8, 9, 10, 11, 12, 13, 14, 15, 7, 16, 17, 18, 19, 20, 21, 22, 23, 24, 25, 26, 27, 28, 29, 30, 31, 32, 33, 34, 35, 36, 37, 38, 39, 40, 41, 42, 43, 44, 45, 46, 47, 48, 49] (by decide +kernel) (by decide +kernel)
set_option maxRecDepth 20000 in
theorem gX2_actWalks_X4_actWalks_s35 : GoodIn wsX2_actWalks (va_wsSU RX2 35 yX4_actWalks wsX4_actWalks) := goodIn_app (goodIn_of _ (by decide +kernel)) ggX2_actWalks_X4_actWalks
theorem dX2_actWalks_0 : decode cX2_actWalks 0 = .ok (.aload_n 1, 1) := by decide +kernel
theorem dX2_actWalks_1 : decode cX2_actWalks 1 = .ok (.getfield 25, 3) := by decide +kernel
theorem dX2_actWalks_4 : decode cX2_actWalks 4 = .ok (.bipush 30, 2) := by decide +kernel
theorem dX2_actWalks_6 : decode cX2_actWalks 6 = .ok (.if_icmp .ge 21, 3) := by decide +kernel
theorem dX2_actWalks_9 : decode cX2_actWalks 9 = .ok (.aload_n 1, 1) := by decide +kernel
theorem dX2_actWalks_10 : decode cX2_actWalks 10 = .ok (.getfield 31, 3) := by decide +kernel
theorem dX2_actWalks_13 : decode cX2_actWalks 13 = .ok (.aload_n 1, 1) := by decide +kernel
theorem dX2_actWalks_14 : decode cX2_actWalks 14 = .ok (.dup, 1) := by decide +kernel
theorem dX2_actWalks_15 : decode cX2_actWalks 15 = .ok (.getfield 25, 3) := by decide +kernel
theorem dX2_actWalks_18 : decode cX2_actWalks 18 = .ok (.dup_x1, 1) := by decide +kernel
theorem dX2_actWalks_19 : decode cX2_actWalks 19 = .ok (.iconst 1, 1) := by decide +kernel
theorem dX2_actWalks_20 : decode cX2_actWalks 20 = .ok (.iadd, 1) := by decide +kernel
theorem dX2_actWalks_21 : decode cX2_actWalks 21 = .ok (.putfield 25, 3) := by decide +kernel
theorem dX2_actWalks_24 : decode cX2_actWalks 24 = .ok (.bipush 20, 2) := by decide +kernel
theorem dX2_actWalks_26 : decode cX2_actWalks 26 = .ok (.iastore, 1) := by decide +kernel
theorem dX2_actWalks_27 : decode cX2_actWalks 27 = .ok (.iconst 0, 1) := by decide +kernel
theorem dX2_actWalks_28 : decode cX2_actWalks 28 = .ok (.aload_n 0, 1) := by decide +kernel
theorem dX2_actWalks_29 : decode cX2_actWalks 29 = .ok (.aload_n 1, 1) := by decide +kernel
theorem dX2_actWalks_30 : decode cX2_actWalks 30 = .ok (.iload_n 2, 1) := by decide +kernel
theorem dX2_actWalks_31 : decode cX2_actWalks 31 = .ok (.invokespecial 35, 3) := by decide +kernel
theorem dX2_actWalks_34 : decode cX2_actWalks 34 = .ok (.isub, 1) := by decide +kernel
theorem dX2_actWalks_35 : decode cX2_actWalks 35 = .ok (.ireturn, 1) := by decide +kernel
theorem dX3_init_0 : decode cX3_init 0 = .ok (.aload_n 0, 1) := by decide +kernel
theorem dX3_init_1 : decode cX3_init 1 = .ok (.invokespecial 3, 3) := by decide +kernel
theorem dX3_init_4 : decode cX3_init 4 = .ok (.aload_n 0, 1) := by decide +kernel
theorem dX3_init_5 : decode cX3_init 5 = .ok (.iload_n 1, 1) := by decide +kernel
theorem dX3_init_6 : decode cX3_init 6 = .ok (.putfield 9, 3) := by decide +kernel
theorem dX3_init_9 : decode cX3_init 9 = .ok (.aload_n 0, 1) := by decide +kernel
theorem dX3_init_10 : decode cX3_init 10 = .ok (.iload_n 2, 1) := by decide +kernel
theorem dX3_init_11 : decode cX3_init 11 = .ok (.newarray .int, 2) := by decide +kernel
theorem dX3_init_13 : decode cX3_init 13 = .ok (.putfield 15, 3) := by decide +kernel
theorem dX3_init_16 : decode cX3_init 16 = .ok (.return_, 1) := by decide +kernel
theorem dX3_narrowed_0 : decode cX3_narrowed 0 = .ok (.aload_n 0, 1) := by decide +kernel
theorem dX3_narrowed_1 : decode cX3_narrowed 1 = .ok (.getfield 9, 3) := by decide +kernel
theorem dX3_narrowed_4 : decode cX3_narrowed 4 = .ok (.ifCond .ne 6, 3) := by decide +kernel
theorem dX3_narrowed_7 : decode cX3_narrowed 7 = .ok (.iload_n 1, 1) := by decide +kernel
theorem dX3_narrowed_8 : decode cX3_narrowed 8 = .ok (.i2b, 1) := by decide +kernel
theorem dX3_narrowed_9 : decode cX3_narrowed 9 = .ok (.ireturn, 1) := by decide +kernel
theorem dX3_narrowed_10 : decode cX3_narrowed 10 = .ok (.aload_n 0, 1) := by decide +kernel
theorem dX3_narrowed_11 : decode cX3_narrowed 11 = .ok (.getfield 9, 3) := by decide +kernel
theorem dX3_narrowed_14 : decode cX3_narrowed 14 = .ok (.iconst 1, 1) := by decide +kernel
theorem dX3_narrowed_15 : decode cX3_narrowed 15 = .ok (.if_icmp .ne 8, 3) := by decide +kernel
theorem dX3_narrowed_18 : decode cX3_narrowed 18 = .ok (.iload_n 1, 1) := by decide +kernel
theorem dX3_narrowed_19 : decode cX3_narrowed 19 = .ok (.i2s, 1) := by decide +kernel
theorem dX3_narrowed_20 : decode cX3_narrowed 20 = .ok (.goto 4, 3) := by decide +kernel
theorem dX3_narrowed_23 : decode cX3_narrowed 23 = .ok (.iload_n 1, 1) := by decide +kernel
theorem dX3_narrowed_24 : decode cX3_narrowed 24 = .ok (.ireturn, 1) := by decide +kernel
theorem dX4_init_0 : decode cX4_init 0 = .ok (.aload_n 0, 1) := by decide +kernel
theorem dX4_init_1 : decode cX4_init 1 = .ok (.invokespecial 3, 3) := by decide +kernel
theorem dX4_init_4 : decode cX4_init 4 = .ok (.return_, 1) := by decide +kernel
theorem dX4_sight_0 : decode cX4_sight 0 = .ok (.bipush 8, 2) := by decide +kernel
theorem dX4_sight_2 : decode cX4_sight 2 = .ok (.iload_n 2, 1) := by decide +kernel
theorem dX4_sight_3 : decode cX4_sight 3 = .ok (.iadd, 1) := by decide +kernel
theorem dX4_sight_4 : decode cX4_sight 4 = .ok (.iload_n 1, 1) := by decide +kernel
theorem dX4_sight_5 : decode cX4_sight 5 = .ok (.isub, 1) := by decide +kernel
theorem dX4_sight_6 : decode cX4_sight 6 = .ok (.ireturn, 1) := by decide +kernel
theorem dX4_keen_0 : decode cX4_keen 0 = .ok (.iconst 3, 1) := by decide +kernel
theorem dX4_keen_1 : decode cX4_keen 1 = .ok (.ireturn, 1) := by decide +kernel
theorem dX4_fears_0 : decode cX4_fears 0 = .ok (.iconst 2, 1) := by decide +kernel
theorem dX4_fears_1 : decode cX4_fears 1 = .ok (.ireturn, 1) := by decide +kernel
theorem dX4_pace_0 : decode cX4_pace 0 = .ok (.iconst 1, 1) := by decide +kernel
theorem dX4_pace_1 : decode cX4_pace 1 = .ok (.ireturn, 1) := by decide +kernel
theorem dX4_actLooks_0 : decode cX4_actLooks 0 = .ok (.aload_n 1, 1) := by decide +kernel
theorem dX4_actLooks_1 : decode cX4_actLooks 1 = .ok (.getfield 9, 3) := by decide +kernel
theorem dX4_actLooks_4 : decode cX4_actLooks 4 = .ok (.bipush 30, 2) := by decide +kernel
theorem dX4_actLooks_6 : decode cX4_actLooks 6 = .ok (.if_icmp .ge 21, 3) := by decide +kernel
theorem dX4_actLooks_9 : decode cX4_actLooks 9 = .ok (.aload_n 1, 1) := by decide +kernel
theorem dX4_actLooks_10 : decode cX4_actLooks 10 = .ok (.getfield 15, 3) := by decide +kernel
theorem dX4_actLooks_13 : decode cX4_actLooks 13 = .ok (.aload_n 1, 1) := by decide +kernel
theorem dX4_actLooks_14 : decode cX4_actLooks 14 = .ok (.dup, 1) := by decide +kernel
theorem dX4_actLooks_15 : decode cX4_actLooks 15 = .ok (.getfield 9, 3) := by decide +kernel
theorem dX4_actLooks_18 : decode cX4_actLooks 18 = .ok (.dup_x1, 1) := by decide +kernel
theorem dX4_actLooks_19 : decode cX4_actLooks 19 = .ok (.iconst 1, 1) := by decide +kernel
theorem dX4_actLooks_20 : decode cX4_actLooks 20 = .ok (.iadd, 1) := by decide +kernel
theorem dX4_actLooks_21 : decode cX4_actLooks 21 = .ok (.putfield 9, 3) := by decide +kernel
theorem dX4_actLooks_24 : decode cX4_actLooks 24 = .ok (.bipush 10, 2) := by decide +kernel
theorem dX4_actLooks_26 : decode cX4_actLooks 26 = .ok (.iastore, 1) := by decide +kernel
theorem dX4_actLooks_27 : decode cX4_actLooks 27 = .ok (.iload_n 2, 1) := by decide +kernel
theorem dX4_actLooks_28 : decode cX4_actLooks 28 = .ok (.iconst 3, 1) := by decide +kernel
theorem dX4_actLooks_29 : decode cX4_actLooks 29 = .ok (.imul, 1) := by decide +kernel
theorem dX4_actLooks_30 : decode cX4_actLooks 30 = .ok (.aload_n 1, 1) := by decide +kernel
theorem dX4_actLooks_31 : decode cX4_actLooks 31 = .ok (.getfield 19, 3) := by decide +kernel
theorem dX4_actLooks_34 : decode cX4_actLooks 34 = .ok (.isub, 1) := by decide +kernel
theorem dX4_actLooks_35 : decode cX4_actLooks 35 = .ok (.ireturn, 1) := by decide +kernel
set_option maxRecDepth 20000 in
theorem ggX4_actWalks_X4_actLooks : GoodIn wsX4_actWalks wsX4_actLooks := goodIn_r _ [9, 1, 2, 10, 38, 39, 40, 41, 42] (by decide +kernel) (by decide +kernel)
set_option maxRecDepth 20000 in
theorem gX4_actWalks_X4_actLooks_u22X1 : GoodIn wsX4_actWalks (va_wsU RX4 22 RX1 "LightMan$Kind" ⟨"LightMan$Kind", "actLooks", "(LLightMan$Acting;I)I"⟩ yX4_actLooks wsX4_actLooks) := goodIn_app (goodIn_of _ (by decide +kernel)) ggX4_actWalks_X4_actLooks
set_option maxRecDepth 20000 in
theorem gX4_actWalks_X4_actLooks_u22X2 : GoodIn wsX4_actWalks (va_wsU RX4 22 RX2 "LightMan$Kind" ⟨"LightMan$Kind", "actLooks", "(LLightMan$Acting;I)I"⟩ yX4_actLooks wsX4_actLooks) := goodIn_app (goodIn_of _ (by decide +kernel)) ggX4_actWalks_X4_actLooks
set_option maxRecDepth 20000 in
theorem gX4_actWalks_X4_actLooks : GoodIn wsX4_actWalks (wsV RX4 22 RX4 yX4_actLooks wsX4_actLooks) := goodIn_app (goodIn_of _ (by decide +kernel)) ggX4_actWalks_X4_actLooks
set_option maxRecDepth 20000 in
theorem ggX4_actWalks_X5_actLooks : GoodIn wsX4_actWalks wsX5_actLooks := goodIn_r _ [18, 19, 20, 21, 5, 22, 7, 8, 9, 1, 2, 10, 38, 39, 40, 41, 42] (by decide +kernel) (by decide +kernel)
set_option maxRecDepth 20000 in
theorem gX4_actWalks_X5_actLooks_u22X5 : GoodIn wsX4_actWalks (va_wsO RX4 22 RX5 "LightMan$Kind" ⟨"LightMan$Kind", "actLooks", "(LLightMan$Acting;I)I"⟩ yX5_actLooks wsX5_actLooks) := goodIn_app (goodIn_of _ (by decide +kernel)) ggX4_actWalks_X5_actLooks
set_option maxRecDepth 20000 in
theorem ggX4_actWalks_X6_actLooks : GoodIn wsX4_actWalks wsX6_actLooks := goodIn_r _ [26, 27, 28, 38, 39, 40, 41, 42] (by decide +kernel) (by decide +kernel)
set_option maxRecDepth 20000 in
theorem gX4_actWalks_X6_actLooks_u22X6 : GoodIn wsX4_actWalks (va_wsO RX4 22 RX6 "LightMan$Kind" ⟨"LightMan$Kind", "actLooks", "(LLightMan$Acting;I)I"⟩ yX6_actLooks wsX6_actLooks) := goodIn_app (goodIn_of _ (by decide +kernel)) ggX4_actWalks_X6_actLooks
set_option maxRecDepth 20000 in
theorem ggX4_actWalks_X9_actLooks : GoodIn wsX4_actWalks wsX9_actLooks := goodIn_r _ [32, 33, 34, 35, 36, 37, 16, 17, 18, 19, 20, 21, 5, 22, 7, 8, 9, 1, 2, 10, 38, 39, 40, 41, 42] (by decide +kernel) (by decide +kernel)
set_option maxRecDepth 20000 in
theorem gX4_actWalks_X9_actLooks_u22X9 : GoodIn wsX4_actWalks (va_wsO RX4 22 RX9 "LightMan$Kind" ⟨"LightMan$Kind", "actLooks", "(LLightMan$Acting;I)I"⟩ yX9_actLooks wsX9_actLooks) := goodIn_app (goodIn_of _ (by decide +kernel)) ggX4_actWalks_X9_actLooks
theorem dX4_actWalks_0 : decode cX4_actWalks 0 = .ok (.aload_n 1, 1) := by decide +kernel
theorem dX4_actWalks_1 : decode cX4_actWalks 1 = .ok (.getfield 9, 3) := by decide +kernel
theorem dX4_actWalks_4 : decode cX4_actWalks 4 = .ok (.bipush 30, 2) := by decide +kernel
theorem dX4_actWalks_6 : decode cX4_actWalks 6 = .ok (.if_icmp .ge 21, 3) := by decide +kernel
theorem dX4_actWalks_9 : decode cX4_actWalks 9 = .ok (.aload_n 1, 1) := by decide +kernel
theorem dX4_actWalks_10 : decode cX4_actWalks 10 = .ok (.getfield 15, 3) := by decide +kernel
theorem dX4_actWalks_13 : decode cX4_actWalks 13 = .ok (.aload_n 1, 1) := by decide +kernel
theorem dX4_actWalks_14 : decode cX4_actWalks 14 = .ok (.dup, 1) := by decide +kernel
theorem dX4_actWalks_15 : decode cX4_actWalks 15 = .ok (.getfield 9, 3) := by decide +kernel
theorem dX4_actWalks_18 : decode cX4_actWalks 18 = .ok (.dup_x1, 1) := by decide +kernel
theorem dX4_actWalks_19 : decode cX4_actWalks 19 = .ok (.iconst 1, 1) := by decide +kernel
theorem dX4_actWalks_20 : decode cX4_actWalks 20 = .ok (.iadd, 1) := by decide +kernel
theorem dX4_actWalks_21 : decode cX4_actWalks 21 = .ok (.putfield 9, 3) := by decide +kernel
theorem dX4_actWalks_24 : decode cX4_actWalks 24 = .ok (.bipush 11, 2) := by decide +kernel
theorem dX4_actWalks_26 : decode cX4_actWalks 26 = .ok (.iastore, 1) := by decide +kernel
theorem dX4_actWalks_27 : decode cX4_actWalks 27 = .ok (.aload_n 0, 1) := by decide +kernel
theorem dX4_actWalks_28 : decode cX4_actWalks 28 = .ok (.aload_n 1, 1) := by decide +kernel
theorem dX4_actWalks_29 : decode cX4_actWalks 29 = .ok (.iload_n 2, 1) := by decide +kernel
theorem dX4_actWalks_30 : decode cX4_actWalks 30 = .ok (.invokevirtual 22, 3) := by decide +kernel
theorem dX4_actWalks_33 : decode cX4_actWalks 33 = .ok (.aload_n 1, 1) := by decide +kernel
theorem dX4_actWalks_34 : decode cX4_actWalks 34 = .ok (.getfield 28, 3) := by decide +kernel
theorem dX4_actWalks_37 : decode cX4_actWalks 37 = .ok (.bipush 6, 2) := by decide +kernel
theorem dX4_actWalks_39 : decode cX4_actWalks 39 = .ok (.imul, 1) := by decide +kernel
theorem dX4_actWalks_40 : decode cX4_actWalks 40 = .ok (.iadd, 1) := by decide +kernel
theorem dX4_actWalks_41 : decode cX4_actWalks 41 = .ok (.ireturn, 1) := by decide +kernel
theorem dX4_actParts_0 : decode cX4_actParts 0 = .ok (.aload_n 1, 1) := by decide +kernel
theorem dX4_actParts_1 : decode cX4_actParts 1 = .ok (.getfield 9, 3) := by decide +kernel
theorem dX4_actParts_4 : decode cX4_actParts 4 = .ok (.bipush 30, 2) := by decide +kernel
theorem dX4_actParts_6 : decode cX4_actParts 6 = .ok (.if_icmp .ge 21, 3) := by decide +kernel
theorem dX4_actParts_9 : decode cX4_actParts 9 = .ok (.aload_n 1, 1) := by decide +kernel
theorem dX4_actParts_10 : decode cX4_actParts 10 = .ok (.getfield 15, 3) := by decide +kernel
theorem dX4_actParts_13 : decode cX4_actParts 13 = .ok (.aload_n 1, 1) := by decide +kernel
theorem dX4_actParts_14 : decode cX4_actParts 14 = .ok (.dup, 1) := by decide +kernel
theorem dX4_actParts_15 : decode cX4_actParts 15 = .ok (.getfield 9, 3) := by decide +kernel
theorem dX4_actParts_18 : decode cX4_actParts 18 = .ok (.dup_x1, 1) := by decide +kernel
theorem dX4_actParts_19 : decode cX4_actParts 19 = .ok (.iconst 1, 1) := by decide +kernel
theorem dX4_actParts_20 : decode cX4_actParts 20 = .ok (.iadd, 1) := by decide +kernel
theorem dX4_actParts_21 : decode cX4_actParts 21 = .ok (.putfield 9, 3) := by decide +kernel
theorem dX4_actParts_24 : decode cX4_actParts 24 = .ok (.bipush 12, 2) := by decide +kernel
theorem dX4_actParts_26 : decode cX4_actParts 26 = .ok (.iastore, 1) := by decide +kernel
theorem dX4_actParts_27 : decode cX4_actParts 27 = .ok (.aload_n 1, 1) := by decide +kernel
theorem dX4_actParts_28 : decode cX4_actParts 28 = .ok (.getfield 28, 3) := by decide +kernel
theorem dX4_actParts_31 : decode cX4_actParts 31 = .ok (.aload_n 1, 1) := by decide +kernel
theorem dX4_actParts_32 : decode cX4_actParts 32 = .ok (.getfield 19, 3) := by decide +kernel
theorem dX4_actParts_35 : decode cX4_actParts 35 = .ok (.isub, 1) := by decide +kernel
theorem dX4_actParts_36 : decode cX4_actParts 36 = .ok (.istore_n 3, 1) := by decide +kernel
theorem dX4_actParts_37 : decode cX4_actParts 37 = .ok (.iload_n 3, 1) := by decide +kernel
theorem dX4_actParts_38 : decode cX4_actParts 38 = .ok (.ifCond .ne 10, 3) := by decide +kernel
theorem dX4_actParts_41 : decode cX4_actParts 41 = .ok (.aload_n 1, 1) := by decide +kernel
theorem dX4_actParts_42 : decode cX4_actParts 42 = .ok (.iconst 1, 1) := by decide +kernel
theorem dX4_actParts_43 : decode cX4_actParts 43 = .ok (.putfield 31, 3) := by decide +kernel
theorem dX4_actParts_46 : decode cX4_actParts 46 = .ok (.iconst 0, 1) := by decide +kernel
theorem dX4_actParts_47 : decode cX4_actParts 47 = .ok (.ireturn, 1) := by decide +kernel
theorem dX4_actParts_48 : decode cX4_actParts 48 = .ok (.iload_n 2, 1) := by decide +kernel
theorem dX4_actParts_49 : decode cX4_actParts 49 = .ok (.iload_n 3, 1) := by decide +kernel
theorem dX4_actParts_50 : decode cX4_actParts 50 = .ok (.idiv, 1) := by decide +kernel
theorem dX4_actParts_51 : decode cX4_actParts 51 = .ok (.ireturn, 1) := by decide +kernel
set_option maxRecDepth 20000 in
theorem ggX4_actComes_X4_actWalks : GoodIn wsX4_actComes wsX4_actWalks := goodIn_r _ [8, 1, 2, 9, 10, 11, 12, 13, 7, 14, 15, 16, 17, 18, 19, 20, 21, 22, 23, 24, 25, 26, 27, 28, 29, 30, 31, 32, 33, 34, 35, 36, 37, 38, 39, 40, 41, 42, 62, 63, 64, 65, 66] (by decide +kernel) (by decide +kernel)
set_option maxRecDepth 20000 in
theorem gX4_actComes_X4_actWalks_u35X1 : GoodIn wsX4_actComes (va_wsU RX4 35 RX1 "LightMan$Kind" ⟨"LightMan$Kind", "actWalks", "(LLightMan$Acting;I)I"⟩ yX4_actWalks wsX4_actWalks) := goodIn_app (goodIn_of _ (by decide +kernel)) ggX4_actComes_X4_actWalks
set_option maxRecDepth 20000 in
theorem ggX4_actComes_X2_actWalks : GoodIn wsX4_actComes wsX2_actWalks := goodIn_r _ [47, 48, 49, 50, 4, 51, 6, 7, 8, 1, 2, 9, 10, 11, 12, 13, 14, 15, 16, 17, 18, 19, 20, 21, 22, 23, 24, 25, 26, 27, 28, 29, 30, 31, 32, 33, 34, 35, 36, 37, 38, 39, 40, 41, 42, 62, 63, 64, 65, 66] (by decide +kernel) (by decide +kernel)
set_option maxRecDepth 20000 in
theorem gX4_actComes_X2_actWalks_u35X2 : GoodIn wsX4_actComes (va_wsO RX4 35 RX2 "LightMan$Kind" ⟨"LightMan$Kind", "actWalks", "(LLightMan$Acting;I)I"⟩ yX2_actWalks wsX2_actWalks) := goodIn_app (goodIn_of _ (by decide +kernel)) ggX4_actComes_X2_actWalks
set_option maxRecDepth 20000 in
theorem gX4_actComes_X4_actWalks : GoodIn wsX4_actComes (wsV RX4 35 RX4 yX4_actWalks wsX4_actWalks) := goodIn_app (goodIn_of _ (by decide +kernel)) ggX4_actComes_X4_actWalks
set_option maxRecDepth 20000 in
theorem gX4_actComes_X4_actWalks_u35X5 : GoodIn wsX4_actComes (va_wsU RX4 35 RX5 "LightMan$Kind" ⟨"LightMan$Kind", "actWalks", "(LLightMan$Acting;I)I"⟩ yX4_actWalks wsX4_actWalks) := goodIn_app (goodIn_of _ (by decide +kernel)) ggX4_actComes_X4_actWalks
set_option maxRecDepth 20000 in
theorem gX4_actComes_X2_actWalks_u35X6 : GoodIn wsX4_actComes (va_wsO RX4 35 RX6 "LightMan$Kind" ⟨"LightMan$Kind", "actWalks", "(LLightMan$Acting;I)I"⟩ yX2_actWalks wsX2_actWalks) := goodIn_app (goodIn_of _ (by decide +kernel)) ggX4_actComes_X2_actWalks
set_option maxRecDepth 20000 in
theorem ggX4_actComes_X9_actWalks : GoodIn wsX4_actComes wsX9_actWalks := goodIn_r _ [58, 38, 39, 59, 60, 35, 61, 36, 37, 40, 41, 42, 21, 22, 23, 24, 25, 26, 11, 27, 13, 7, 14, 1, 2, 15, 62, 63, 64, 65, 66] (by decide +kernel) (by decide +kernel)
set_option maxRecDepth 20000 in
theorem gX4_actComes_X9_actWalks_u35X9 : GoodIn wsX4_actComes (va_wsO RX4 35 RX9 "LightMan$Kind" ⟨"LightMan$Kind", "actWalks", "(LLightMan$Acting;I)I"⟩ yX9_actWalks wsX9_actWalks) := goodIn_app (goodIn_of _ (by decide +kernel)) ggX4_actComes_X9_actWalks
theorem dX4_actComes_0 : decode cX4_actComes 0 = .ok (.aload_n 1, 1) := by decide +kernel
theorem dX4_actComes_1 : decode cX4_actComes 1 = .ok (.getfield 9, 3) := by decide +kernel
theorem dX4_actComes_4 : decode cX4_actComes 4 = .ok (.bipush 30, 2) := by decide +kernel
theorem dX4_actComes_6 : decode cX4_actComes 6 = .ok (.if_icmp .ge 21, 3) := by decide +kernel
theorem dX4_actComes_9 : decode cX4_actComes 9 = .ok (.aload_n 1, 1) := by decide +kernel
theorem dX4_actComes_10 : decode cX4_actComes 10 = .ok (.getfield 15, 3) := by decide +kernel
theorem dX4_actComes_13 : decode cX4_actComes 13 = .ok (.aload_n 1, 1) := by decide +kernel
theorem dX4_actComes_14 : decode cX4_actComes 14 = .ok (.dup, 1) := by decide +kernel
theorem dX4_actComes_15 : decode cX4_actComes 15 = .ok (.getfield 9, 3) := by decide +kernel
theorem dX4_actComes_18 : decode cX4_actComes 18 = .ok (.dup_x1, 1) := by decide +kernel
theorem dX4_actComes_19 : decode cX4_actComes 19 = .ok (.iconst 1, 1) := by decide +kernel
theorem dX4_actComes_20 : decode cX4_actComes 20 = .ok (.iadd, 1) := by decide +kernel
theorem dX4_actComes_21 : decode cX4_actComes 21 = .ok (.putfield 9, 3) := by decide +kernel
theorem dX4_actComes_24 : decode cX4_actComes 24 = .ok (.bipush 13, 2) := by decide +kernel
theorem dX4_actComes_26 : decode cX4_actComes 26 = .ok (.iastore, 1) := by decide +kernel
theorem dX4_actComes_27 : decode cX4_actComes 27 = .ok (.aload_n 0, 1) := by decide +kernel
theorem dX4_actComes_28 : decode cX4_actComes 28 = .ok (.aload_n 1, 1) := by decide +kernel
theorem dX4_actComes_29 : decode cX4_actComes 29 = .ok (.iload_n 2, 1) := by decide +kernel
theorem dX4_actComes_30 : decode cX4_actComes 30 = .ok (.invokevirtual 35, 3) := by decide +kernel
theorem dX4_actComes_33 : decode cX4_actComes 33 = .ok (.sipush 200, 3) := by decide +kernel
theorem dX4_actComes_36 : decode cX4_actComes 36 = .ok (.ixor, 1) := by decide +kernel
theorem dX4_actComes_37 : decode cX4_actComes 37 = .ok (.ireturn, 1) := by decide +kernel
set_option maxRecDepth 20000 in
theorem ggX5_init_X4_init : GoodIn wsX5_init wsX4_init := goodIn_r _ [3, 4, 5, 6] (by decide +kernel) (by decide +kernel)
set_option maxRecDepth 20000 in
theorem gX5_init_X4_init_n3 : GoodIn wsX5_init (wsX4_init) := ggX5_init_X4_init
theorem dX5_init_0 : decode cX5_init 0 = .ok (.aload_n 0, 1) := by decide +kernel
theorem dX5_init_1 : decode cX5_init 1 = .ok (.invokespecial 3, 3) := by decide +kernel
theorem dX5_init_4 : decode cX5_init 4 = .ok (.return_, 1) := by decide +kernel
set_option maxRecDepth 20000 in
theorem ggX5_sight_X4_sight : GoodIn wsX5_sight wsX4_sight := goodIn_r _ [6] (by decide +kernel) (by decide +kernel)
set_option maxRecDepth 20000 in
theorem gX5_sight_X4_sight_s9 : GoodIn wsX5_sight (va_wsSU RX5 9 yX4_sight wsX4_sight) := goodIn_app (goodIn_of _ (by decide +kernel)) ggX5_sight_X4_sight
theorem dX5_sight_0 : decode cX5_sight 0 = .ok (.aload_n 0, 1) := by decide +kernel
theorem dX5_sight_1 : decode cX5_sight 1 = .ok (.iload_n 1, 1) := by decide +kernel
theorem dX5_sight_2 : decode cX5_sight 2 = .ok (.iload_n 2, 1) := by decide +kernel
theorem dX5_sight_3 : decode cX5_sight 3 = .ok (.iload_n 3, 1) := by decide +kernel
theorem dX5_sight_4 : decode cX5_sight 4 = .ok (.invokespecial 9, 3) := by decide +kernel
theorem dX5_sight_7 : decode cX5_sight 7 = .ok (.iconst 2, 1) := by decide +kernel
theorem dX5_sight_8 : decode cX5_sight 8 = .ok (.isub, 1) := by decide +kernel
theorem dX5_sight_9 : decode cX5_sight 9 = .ok (.ireturn, 1) := by decide +kernel
set_option maxRecDepth 20000 in
theorem ggX5_keen_X4_keen : GoodIn wsX5_keen wsX4_keen := goodIn_r _ [6] (by decide +kernel) (by decide +kernel)
set_option maxRecDepth 20000 in
theorem gX5_keen_X4_keen_s13 : GoodIn wsX5_keen (va_wsSU RX5 13 yX4_keen wsX4_keen) := goodIn_app (goodIn_of _ (by decide +kernel)) ggX5_keen_X4_keen
theorem dX5_keen_0 : decode cX5_keen 0 = .ok (.aload_n 0, 1) := by decide +kernel
theorem dX5_keen_1 : decode cX5_keen 1 = .ok (.iload_n 1, 1) := by decide +kernel
theorem dX5_keen_2 : decode cX5_keen 2 = .ok (.iload_n 2, 1) := by decide +kernel
theorem dX5_keen_3 : decode cX5_keen 3 = .ok (.invokespecial 13, 3) := by decide +kernel
theorem dX5_keen_6 : decode cX5_keen 6 = .ok (.iconst 2, 1) := by decide +kernel
theorem dX5_keen_7 : decode cX5_keen 7 = .ok (.imul, 1) := by decide +kernel
theorem dX5_keen_8 : decode cX5_keen 8 = .ok (.ireturn, 1) := by decide +kernel
set_option maxRecDepth 20000 in
theorem ggX5_fears_X4_fears : GoodIn wsX5_fears wsX4_fears := goodIn_r _ [6] (by decide +kernel) (by decide +kernel)
set_option maxRecDepth 20000 in
theorem gX5_fears_X4_fears_s17 : GoodIn wsX5_fears (va_wsSU RX5 17 yX4_fears wsX4_fears) := goodIn_app (goodIn_of _ (by decide +kernel)) ggX5_fears_X4_fears
theorem dX5_fears_0 : decode cX5_fears 0 = .ok (.aload_n 0, 1) := by decide +kernel
theorem dX5_fears_1 : decode cX5_fears 1 = .ok (.iload_n 1, 1) := by decide +kernel
theorem dX5_fears_2 : decode cX5_fears 2 = .ok (.invokespecial 17, 3) := by decide +kernel
theorem dX5_fears_5 : decode cX5_fears 5 = .ok (.iconst 1, 1) := by decide +kernel
theorem dX5_fears_6 : decode cX5_fears 6 = .ok (.iadd, 1) := by decide +kernel
theorem dX5_fears_7 : decode cX5_fears 7 = .ok (.ireturn, 1) := by decide +kernel
set_option maxRecDepth 20000 in
theorem ggX5_actLooks_X4_actLooks : GoodIn wsX5_actLooks wsX4_actLooks := goodIn_r _ [8, 9, 10, 11, 12, 13, 14, 15, 16] (by decide +kernel) (by decide +kernel)
set_option maxRecDepth 20000 in
theorem gX5_actLooks_X4_actLooks_s31 : GoodIn wsX5_actLooks (va_wsSU RX5 31 yX4_actLooks wsX4_actLooks) := goodIn_app (goodIn_of _ (by decide +kernel)) ggX5_actLooks_X4_actLooks
theorem dX5_actLooks_0 : decode cX5_actLooks 0 = .ok (.aload_n 1, 1) := by decide +kernel
theorem dX5_actLooks_1 : decode cX5_actLooks 1 = .ok (.getfield 21, 3) := by decide +kernel
theorem dX5_actLooks_4 : decode cX5_actLooks 4 = .ok (.bipush 30, 2) := by decide +kernel
theorem dX5_actLooks_6 : decode cX5_actLooks 6 = .ok (.if_icmp .ge 21, 3) := by decide +kernel
theorem dX5_actLooks_9 : decode cX5_actLooks 9 = .ok (.aload_n 1, 1) := by decide +kernel
theorem dX5_actLooks_10 : decode cX5_actLooks 10 = .ok (.getfield 27, 3) := by decide +kernel
theorem dX5_actLooks_13 : decode cX5_actLooks 13 = .ok (.aload_n 1, 1) := by decide +kernel
theorem dX5_actLooks_14 : decode cX5_actLooks 14 = .ok (.dup, 1) := by decide +kernel
theorem dX5_actLooks_15 : decode cX5_actLooks 15 = .ok (.getfield 21, 3) := by decide +kernel
theorem dX5_actLooks_18 : decode cX5_actLooks 18 = .ok (.dup_x1, 1) := by decide +kernel
theorem dX5_actLooks_19 : decode cX5_actLooks 19 = .ok (.iconst 1, 1) := by decide +kernel
theorem dX5_actLooks_20 : decode cX5_actLooks 20 = .ok (.iadd, 1) := by decide +kernel
theorem dX5_actLooks_21 : decode cX5_actLooks 21 = .ok (.putfield 21, 3) := by decide +kernel
theorem dX5_actLooks_24 : decode cX5_actLooks 24 = .ok (.bipush 30, 2) := by decide +kernel
theorem dX5_actLooks_26 : decode cX5_actLooks 26 = .ok (.iastore, 1) := by decide +kernel
theorem dX5_actLooks_27 : decode cX5_actLooks 27 = .ok (.aload_n 0, 1) := by decide +kernel
theorem dX5_actLooks_28 : decode cX5_actLooks 28 = .ok (.aload_n 1, 1) := by decide +kernel
theorem dX5_actLooks_29 : decode cX5_actLooks 29 = .ok (.iload_n 2, 1) := by decide +kernel
theorem dX5_actLooks_30 : decode cX5_actLooks 30 = .ok (.invokespecial 31, 3) := by decide +kernel
theorem dX5_actLooks_33 : decode cX5_actLooks 33 = .ok (.iconst 2, 1) := by decide +kernel
theorem dX5_actLooks_34 : decode cX5_actLooks 34 = .ok (.imul, 1) := by decide +kernel
theorem dX5_actLooks_35 : decode cX5_actLooks 35 = .ok (.ireturn, 1) := by decide +kernel
set_option maxRecDepth 20000 in
theorem ggX5_actComes_X4_actComes : GoodIn wsX5_actComes wsX4_actComes := goodIn_r _ [9, 10, 11, 12, 13, 14, 15, 8, 16, 17, 18, 19, 20, 21, 22, 23, 24, 25, 26, 27, 28, 29, 30, 31, 1, 2, 32, 6, 33, 34, 35, 36, 37, 38, 39, 40, 41, 42, 43, 44, 45, 46, 47, 48, 49, 50, 51, 52, 53, 54, 55, 56, 57, 58, 59, 60, 61, 62, 63, 64, 65, 66, 74, 75, 76, 77, 78] (by decide +kernel) (by decide +kernel)
set_option maxRecDepth 20000 in
theorem gX5_actComes_X4_actComes_s35 : GoodIn wsX5_actComes (va_wsSU RX5 35 yX4_actComes wsX4_actComes) := goodIn_app (goodIn_of _ (by decide +kernel)) ggX5_actComes_X4_actComes
set_option maxRecDepth 20000 in
theorem ggX5_actComes_X4_actParts : GoodIn wsX5_actComes wsX4_actParts := goodIn_r _ [71, 10, 11, 17, 23, 72, 74, 75, 76, 77, 78] (by decide +kernel) (by decide +kernel)
set_option maxRecDepth 20000 in
theorem gX5_actComes_X4_actParts_u41X5 : GoodIn wsX5_actComes (va_wsU RX5 41 RX5 "LightMan$Kind" ⟨"LightMan$Mourner", "actParts", "(LLightMan$Acting;I)I"⟩ yX4_actParts wsX4_actParts) := goodIn_app (goodIn_of _ (by decide +kernel)) ggX5_actComes_X4_actParts
set_option maxRecDepth 20000 in
theorem gX5_actComes_X4_actParts_u41X9 : GoodIn wsX5_actComes (va_wsU RX5 41 RX9 "LightMan$Kind" ⟨"LightMan$Mourner", "actParts", "(LLightMan$Acting;I)I"⟩ yX4_actParts wsX4_actParts) := goodIn_app (goodIn_of _ (by decide +kernel)) ggX5_actComes_X4_actParts
theorem dX5_actComes_0 : decode cX5_actComes 0 = .ok (.aload_n 1, 1) := by decide +kernel
theorem dX5_actComes_1 : decode cX5_actComes 1 = .ok (.getfield 21, 3) := by decide +kernel
theorem dX5_actComes_4 : decode cX5_actComes 4 = .ok (.bipush 30, 2) := by decide +kernel
theorem dX5_actComes_6 : decode cX5_actComes 6 = .ok (.if_icmp .ge 21, 3) := by decide +kernel
theorem dX5_actComes_9 : decode cX5_actComes 9 = .ok (.aload_n 1, 1) := by decide +kernel
theorem dX5_actComes_10 : decode cX5_actComes 10 = .ok (.getfield 27, 3) := by decide +kernel
theorem dX5_actComes_13 : decode cX5_actComes 13 = .ok (.aload_n 1, 1) := by decide +kernel
theorem dX5_actComes_14 : decode cX5_actComes 14 = .ok (.dup, 1) := by decide +kernel
theorem dX5_actComes_15 : decode cX5_actComes 15 = .ok (.getfield 21, 3) := by decide +kernel
theorem dX5_actComes_18 : decode cX5_actComes 18 = .ok (.dup_x1, 1) := by decide +kernel
theorem dX5_actComes_19 : decode cX5_actComes 19 = .ok (.iconst 1, 1) := by decide +kernel
theorem dX5_actComes_20 : decode cX5_actComes 20 = .ok (.iadd, 1) := by decide +kernel
theorem dX5_actComes_21 : decode cX5_actComes 21 = .ok (.putfield 21, 3) := by decide +kernel
theorem dX5_actComes_24 : decode cX5_actComes 24 = .ok (.bipush 31, 2) := by decide +kernel
theorem dX5_actComes_26 : decode cX5_actComes 26 = .ok (.iastore, 1) := by decide +kernel
theorem dX5_actComes_27 : decode cX5_actComes 27 = .ok (.aload_n 0, 1) := by decide +kernel
theorem dX5_actComes_28 : decode cX5_actComes 28 = .ok (.aload_n 1, 1) := by decide +kernel
theorem dX5_actComes_29 : decode cX5_actComes 29 = .ok (.iload_n 2, 1) := by decide +kernel
theorem dX5_actComes_30 : decode cX5_actComes 30 = .ok (.invokespecial 35, 3) := by decide +kernel
theorem dX5_actComes_33 : decode cX5_actComes 33 = .ok (.aload_n 0, 1) := by decide +kernel
theorem dX5_actComes_34 : decode cX5_actComes 34 = .ok (.aload_n 1, 1) := by decide +kernel
theorem dX5_actComes_35 : decode cX5_actComes 35 = .ok (.aload_n 1, 1) := by decide +kernel
theorem dX5_actComes_36 : decode cX5_actComes 36 = .ok (.getfield 38, 3) := by decide +kernel
theorem dX5_actComes_39 : decode cX5_actComes 39 = .ok (.invokevirtual 41, 3) := by decide +kernel
theorem dX5_actComes_42 : decode cX5_actComes 42 = .ok (.iadd, 1) := by decide +kernel
theorem dX5_actComes_43 : decode cX5_actComes 43 = .ok (.ireturn, 1) := by decide +kernel
set_option maxRecDepth 20000 in
theorem ggX6_init_X2_init : GoodIn wsX6_init wsX2_init := goodIn_r _ [3, 4, 5, 6, 7, 8, 9] (by decide +kernel) (by decide +kernel)
set_option maxRecDepth 20000 in
theorem gX6_init_X2_init_n3 : GoodIn wsX6_init (wsX2_init) := ggX6_init_X2_init
theorem dX6_init_0 : decode cX6_init 0 = .ok (.aload_n 0, 1) := by decide +kernel
theorem dX6_init_1 : decode cX6_init 1 = .ok (.invokespecial 3, 3) := by decide +kernel
theorem dX6_init_4 : decode cX6_init 4 = .ok (.return_, 1) := by decide +kernel
set_option maxRecDepth 20000 in
theorem ggX6_sight_X2_sight : GoodIn wsX6_sight wsX2_sight := goodIn_r _ [6, 7, 8, 9, 10, 11, 12] (by decide +kernel) (by decide +kernel)
set_option maxRecDepth 20000 in
theorem gX6_sight_X2_sight_s9 : GoodIn wsX6_sight (va_wsSU RX6 9 yX2_sight wsX2_sight) := goodIn_app (goodIn_of _ (by decide +kernel)) ggX6_sight_X2_sight
theorem dX6_sight_0 : decode cX6_sight 0 = .ok (.aload_n 0, 1) := by decide +kernel
theorem dX6_sight_1 : decode cX6_sight 1 = .ok (.iload_n 1, 1) := by decide +kernel
theorem dX6_sight_2 : decode cX6_sight 2 = .ok (.iload_n 2, 1) := by decide +kernel
theorem dX6_sight_3 : decode cX6_sight 3 = .ok (.iload_n 3, 1) := by decide +kernel
theorem dX6_sight_4 : decode cX6_sight 4 = .ok (.invokespecial 9, 3) := by decide +kernel
theorem dX6_sight_7 : decode cX6_sight 7 = .ok (.iload_n 1, 1) := by decide +kernel
theorem dX6_sight_8 : decode cX6_sight 8 = .ok (.iconst 2, 1) := by decide +kernel
theorem dX6_sight_9 : decode cX6_sight 9 = .ok (.idiv, 1) := by decide +kernel
theorem dX6_sight_10 : decode cX6_sight 10 = .ok (.isub, 1) := by decide +kernel
theorem dX6_sight_11 : decode cX6_sight 11 = .ok (.ireturn, 1) := by decide +kernel
set_option maxRecDepth 20000 in
theorem ggX6_keen_X2_keen : GoodIn wsX6_keen wsX2_keen := goodIn_r _ [6, 7, 8, 9, 10, 11, 12] (by decide +kernel) (by decide +kernel)
set_option maxRecDepth 20000 in
theorem gX6_keen_X2_keen_s13 : GoodIn wsX6_keen (va_wsSU RX6 13 yX2_keen wsX2_keen) := goodIn_app (goodIn_of _ (by decide +kernel)) ggX6_keen_X2_keen
theorem dX6_keen_0 : decode cX6_keen 0 = .ok (.aload_n 0, 1) := by decide +kernel
theorem dX6_keen_1 : decode cX6_keen 1 = .ok (.iload_n 1, 1) := by decide +kernel
theorem dX6_keen_2 : decode cX6_keen 2 = .ok (.iload_n 2, 1) := by decide +kernel
theorem dX6_keen_3 : decode cX6_keen 3 = .ok (.invokespecial 13, 3) := by decide +kernel
theorem dX6_keen_6 : decode cX6_keen 6 = .ok (.iconst 1, 1) := by decide +kernel
theorem dX6_keen_7 : decode cX6_keen 7 = .ok (.isub, 1) := by decide +kernel
theorem dX6_keen_8 : decode cX6_keen 8 = .ok (.ireturn, 1) := by decide +kernel
set_option maxRecDepth 20000 in
theorem ggX6_fears_X2_fears : GoodIn wsX6_fears wsX2_fears := goodIn_r _ [6, 7, 8, 9, 10, 11, 12] (by decide +kernel) (by decide +kernel)
set_option maxRecDepth 20000 in
theorem gX6_fears_X2_fears_s17 : GoodIn wsX6_fears (va_wsSU RX6 17 yX2_fears wsX2_fears) := goodIn_app (goodIn_of _ (by decide +kernel)) ggX6_fears_X2_fears
theorem dX6_fears_0 : decode cX6_fears 0 = .ok (.aload_n 0, 1) := by decide +kernel
theorem dX6_fears_1 : decode cX6_fears 1 = .ok (.iload_n 1, 1) := by decide +kernel
theorem dX6_fears_2 : decode cX6_fears 2 = .ok (.invokespecial 17, 3) := by decide +kernel
theorem dX6_fears_5 : decode cX6_fears 5 = .ok (.iload_n 1, 1) := by decide +kernel
theorem dX6_fears_6 : decode cX6_fears 6 = .ok (.iadd, 1) := by decide +kernel
theorem dX6_fears_7 : decode cX6_fears 7 = .ok (.ireturn, 1) := by decide +kernel
set_option maxRecDepth 20000 in
theorem ggX6_pace_X2_pace : GoodIn wsX6_pace wsX2_pace := goodIn_r _ [6, 7, 8, 9, 10, 11, 12] (by decide +kernel) (by decide +kernel)
set_option maxRecDepth 20000 in
theorem gX6_pace_X2_pace_s21 : GoodIn wsX6_pace (va_wsSU RX6 21 yX2_pace wsX2_pace) := goodIn_app (goodIn_of _ (by decide +kernel)) ggX6_pace_X2_pace
theorem dX6_pace_0 : decode cX6_pace 0 = .ok (.aload_n 0, 1) := by decide +kernel
theorem dX6_pace_1 : decode cX6_pace 1 = .ok (.iload_n 1, 1) := by decide +kernel
theorem dX6_pace_2 : decode cX6_pace 2 = .ok (.iload_n 2, 1) := by decide +kernel
theorem dX6_pace_3 : decode cX6_pace 3 = .ok (.invokespecial 21, 3) := by decide +kernel
theorem dX6_pace_6 : decode cX6_pace 6 = .ok (.iconst 1, 1) := by decide +kernel
theorem dX6_pace_7 : decode cX6_pace 7 = .ok (.isub, 1) := by decide +kernel
theorem dX6_pace_8 : decode cX6_pace 8 = .ok (.ireturn, 1) := by decide +kernel
theorem dX6_actLooks_0 : decode cX6_actLooks 0 = .ok (.aload_n 1, 1) := by decide +kernel
theorem dX6_actLooks_1 : decode cX6_actLooks 1 = .ok (.getfield 25, 3) := by decide +kernel
theorem dX6_actLooks_4 : decode cX6_actLooks 4 = .ok (.bipush 30, 2) := by decide +kernel
theorem dX6_actLooks_6 : decode cX6_actLooks 6 = .ok (.if_icmp .ge 21, 3) := by decide +kernel
theorem dX6_actLooks_9 : decode cX6_actLooks 9 = .ok (.aload_n 1, 1) := by decide +kernel
theorem dX6_actLooks_10 : decode cX6_actLooks 10 = .ok (.getfield 31, 3) := by decide +kernel
theorem dX6_actLooks_13 : decode cX6_actLooks 13 = .ok (.aload_n 1, 1) := by decide +kernel
theorem dX6_actLooks_14 : decode cX6_actLooks 14 = .ok (.dup, 1) := by decide +kernel
theorem dX6_actLooks_15 : decode cX6_actLooks 15 = .ok (.getfield 25, 3) := by decide +kernel
theorem dX6_actLooks_18 : decode cX6_actLooks 18 = .ok (.dup_x1, 1) := by decide +kernel
theorem dX6_actLooks_19 : decode cX6_actLooks 19 = .ok (.iconst 1, 1) := by decide +kernel
theorem dX6_actLooks_20 : decode cX6_actLooks 20 = .ok (.iadd, 1) := by decide +kernel
theorem dX6_actLooks_21 : decode cX6_actLooks 21 = .ok (.putfield 25, 3) := by decide +kernel
theorem dX6_actLooks_24 : decode cX6_actLooks 24 = .ok (.bipush 51, 2) := by decide +kernel
theorem dX6_actLooks_26 : decode cX6_actLooks 26 = .ok (.iastore, 1) := by decide +kernel
theorem dX6_actLooks_27 : decode cX6_actLooks 27 = .ok (.aload_n 0, 1) := by decide +kernel
theorem dX6_actLooks_28 : decode cX6_actLooks 28 = .ok (.aload_n 1, 1) := by decide +kernel
theorem dX6_actLooks_29 : decode cX6_actLooks 29 = .ok (.iload_n 2, 1) := by decide +kernel
theorem dX6_actLooks_30 : decode cX6_actLooks 30 = .ok (.invokespecial 35, 3) := by decide +kernel
theorem dX6_actLooks_33 : decode cX6_actLooks 33 = .ok (.iconst 3, 1) := by decide +kernel
theorem dX6_actLooks_34 : decode cX6_actLooks 34 = .ok (.iadd, 1) := by decide +kernel
theorem dX6_actLooks_35 : decode cX6_actLooks 35 = .ok (.ireturn, 1) := by decide +kernel
theorem dX6_actParts_0 : decode cX6_actParts 0 = .ok (.aload_n 1, 1) := by decide +kernel
theorem dX6_actParts_1 : decode cX6_actParts 1 = .ok (.getfield 25, 3) := by decide +kernel
theorem dX6_actParts_4 : decode cX6_actParts 4 = .ok (.bipush 30, 2) := by decide +kernel
theorem dX6_actParts_6 : decode cX6_actParts 6 = .ok (.if_icmp .ge 21, 3) := by decide +kernel
theorem dX6_actParts_9 : decode cX6_actParts 9 = .ok (.aload_n 1, 1) := by decide +kernel
theorem dX6_actParts_10 : decode cX6_actParts 10 = .ok (.getfield 31, 3) := by decide +kernel
theorem dX6_actParts_13 : decode cX6_actParts 13 = .ok (.aload_n 1, 1) := by decide +kernel
theorem dX6_actParts_14 : decode cX6_actParts 14 = .ok (.dup, 1) := by decide +kernel
theorem dX6_actParts_15 : decode cX6_actParts 15 = .ok (.getfield 25, 3) := by decide +kernel
theorem dX6_actParts_18 : decode cX6_actParts 18 = .ok (.dup_x1, 1) := by decide +kernel
theorem dX6_actParts_19 : decode cX6_actParts 19 = .ok (.iconst 1, 1) := by decide +kernel
theorem dX6_actParts_20 : decode cX6_actParts 20 = .ok (.iadd, 1) := by decide +kernel
theorem dX6_actParts_21 : decode cX6_actParts 21 = .ok (.putfield 25, 3) := by decide +kernel
theorem dX6_actParts_24 : decode cX6_actParts 24 = .ok (.bipush 50, 2) := by decide +kernel
theorem dX6_actParts_26 : decode cX6_actParts 26 = .ok (.iastore, 1) := by decide +kernel
theorem dX6_actParts_27 : decode cX6_actParts 27 = .ok (.aload_n 0, 1) := by decide +kernel
theorem dX6_actParts_28 : decode cX6_actParts 28 = .ok (.aload_n 1, 1) := by decide +kernel
theorem dX6_actParts_29 : decode cX6_actParts 29 = .ok (.iload_n 2, 1) := by decide +kernel
theorem dX6_actParts_30 : decode cX6_actParts 30 = .ok (.iconst 4, 1) := by decide +kernel
theorem dX6_actParts_31 : decode cX6_actParts 31 = .ok (.iadd, 1) := by decide +kernel
theorem dX6_actParts_32 : decode cX6_actParts 32 = .ok (.invokespecial 39, 3) := by decide +kernel
theorem dX6_actParts_35 : decode cX6_actParts 35 = .ok (.aload_n 1, 1) := by decide +kernel
theorem dX6_actParts_36 : decode cX6_actParts 36 = .ok (.getfield 42, 3) := by decide +kernel
theorem dX6_actParts_39 : decode cX6_actParts 39 = .ok (.imul, 1) := by decide +kernel
theorem dX6_actParts_40 : decode cX6_actParts 40 = .ok (.ireturn, 1) := by decide +kernel
theorem dX7_init_0 : decode cX7_init 0 = .ok (.aload_n 0, 1) := by decide +kernel
theorem dX7_init_1 : decode cX7_init 1 = .ok (.invokespecial 3, 3) := by decide +kernel
theorem dX7_init_4 : decode cX7_init 4 = .ok (.aload_n 0, 1) := by decide +kernel
theorem dX7_init_5 : decode cX7_init 5 = .ok (.sipush 200, 3) := by decide +kernel
theorem dX7_init_8 : decode cX7_init 8 = .ok (.newarray .byte, 2) := by decide +kernel
theorem dX7_init_10 : decode cX7_init 10 = .ok (.putfield 9, 3) := by decide +kernel
theorem dX7_init_13 : decode cX7_init 13 = .ok (.aload_n 0, 1) := by decide +kernel
theorem dX7_init_14 : decode cX7_init 14 = .ok (.iconst 0, 1) := by decide +kernel
theorem dX7_init_15 : decode cX7_init 15 = .ok (.putfield 15, 3) := by decide +kernel
theorem dX7_init_18 : decode cX7_init 18 = .ok (.aload_n 0, 1) := by decide +kernel
theorem dX7_init_19 : decode cX7_init 19 = .ok (.iconst 0, 1) := by decide +kernel
theorem dX7_init_20 : decode cX7_init 20 = .ok (.putfield 19, 3) := by decide +kernel
theorem dX7_init_23 : decode cX7_init 23 = .ok (.aload_n 0, 1) := by decide +kernel
theorem dX7_init_24 : decode cX7_init 24 = .ok (.iconst 0, 1) := by decide +kernel
theorem dX7_init_25 : decode cX7_init 25 = .ok (.putfield 22, 3) := by decide +kernel
theorem dX7_init_28 : decode cX7_init 28 = .ok (.aload_n 0, 1) := by decide +kernel
theorem dX7_init_29 : decode cX7_init 29 = .ok (.iconst 0, 1) := by decide +kernel
theorem dX7_init_30 : decode cX7_init 30 = .ok (.putfield 25, 3) := by decide +kernel
theorem dX7_init_33 : decode cX7_init 33 = .ok (.return_, 1) := by decide +kernel
theorem dX7_take_0 : decode cX7_take 0 = .ok (.aload_n 0, 1) := by decide +kernel
theorem dX7_take_1 : decode cX7_take 1 = .ok (.getfield 15, 3) := by decide +kernel
theorem dX7_take_4 : decode cX7_take 4 = .ok (.iload_n 3, 1) := by decide +kernel
theorem dX7_take_5 : decode cX7_take 5 = .ok (.iadd, 1) := by decide +kernel
theorem dX7_take_6 : decode cX7_take 6 = .ok (.sipush 200, 3) := by decide +kernel
theorem dX7_take_9 : decode cX7_take 9 = .ok (.if_icmp .le 5, 3) := by decide +kernel
theorem dX7_take_12 : decode cX7_take 12 = .ok (.iconst 0, 1) := by decide +kernel
theorem dX7_take_13 : decode cX7_take 13 = .ok (.ireturn, 1) := by decide +kernel
theorem dX7_take_14 : decode cX7_take 14 = .ok (.iconst 0, 1) := by decide +kernel
theorem dX7_take_15 : decode cX7_take 15 = .ok (.istore 4, 2) := by decide +kernel
theorem dX7_take_17 : decode cX7_take 17 = .ok (.iload 4, 2) := by decide +kernel
theorem dX7_take_19 : decode cX7_take 19 = .ok (.iload_n 3, 1) := by decide +kernel
theorem dX7_take_20 : decode cX7_take 20 = .ok (.if_icmp .ge 30, 3) := by decide +kernel
theorem dX7_take_23 : decode cX7_take 23 = .ok (.aload_n 0, 1) := by decide +kernel
theorem dX7_take_24 : decode cX7_take 24 = .ok (.getfield 9, 3) := by decide +kernel
theorem dX7_take_27 : decode cX7_take 27 = .ok (.aload_n 0, 1) := by decide +kernel
theorem dX7_take_28 : decode cX7_take 28 = .ok (.getfield 15, 3) := by decide +kernel
theorem dX7_take_31 : decode cX7_take 31 = .ok (.iload 4, 2) := by decide +kernel
theorem dX7_take_33 : decode cX7_take 33 = .ok (.iadd, 1) := by decide +kernel
theorem dX7_take_34 : decode cX7_take 34 = .ok (.lload_n 1, 1) := by decide +kernel
theorem dX7_take_35 : decode cX7_take 35 = .ok (.bipush 8, 2) := by decide +kernel
theorem dX7_take_37 : decode cX7_take 37 = .ok (.iload 4, 2) := by decide +kernel
theorem dX7_take_39 : decode cX7_take 39 = .ok (.imul, 1) := by decide +kernel
theorem dX7_take_40 : decode cX7_take 40 = .ok (.lushr, 1) := by decide +kernel
theorem dX7_take_41 : decode cX7_take 41 = .ok (.l2i, 1) := by decide +kernel
theorem dX7_take_42 : decode cX7_take 42 = .ok (.i2b, 1) := by decide +kernel
theorem dX7_take_43 : decode cX7_take 43 = .ok (.bastore, 1) := by decide +kernel
theorem dX7_take_44 : decode cX7_take 44 = .ok (.iinc 4 1, 3) := by decide +kernel
theorem dX7_take_47 : decode cX7_take 47 = .ok (.goto (-30), 3) := by decide +kernel
theorem dX7_take_50 : decode cX7_take 50 = .ok (.aload_n 0, 1) := by decide +kernel
theorem dX7_take_51 : decode cX7_take 51 = .ok (.dup, 1) := by decide +kernel
theorem dX7_take_52 : decode cX7_take 52 = .ok (.getfield 15, 3) := by decide +kernel
theorem dX7_take_55 : decode cX7_take 55 = .ok (.iload_n 3, 1) := by decide +kernel
theorem dX7_take_56 : decode cX7_take 56 = .ok (.iadd, 1) := by decide +kernel
theorem dX7_take_57 : decode cX7_take 57 = .ok (.putfield 15, 3) := by decide +kernel
theorem dX7_take_60 : decode cX7_take 60 = .ok (.iconst 1, 1) := by decide +kernel
theorem dX7_take_61 : decode cX7_take 61 = .ok (.ireturn, 1) := by decide +kernel
set_option maxRecDepth 20000 in
theorem ggX7_readInto_X8_clear : GoodIn wsX7_readInto wsX8_clear := goodIn_r _ [8, 9, 10, 11, 12, 13, 127, 128, 129, 130, 131, 132, 133, 134, 135, 136, 137] (by decide +kernel) (by decide +kernel)
set_option maxRecDepth 20000 in
theorem gX7_readInto_X8_clear : GoodIn wsX7_readInto (wsV RX7 28 RX8 yX8_clear wsX8_clear) := goodIn_app (goodIn_of _ (by decide +kernel)) ggX7_readInto_X8_clear
set_option maxRecDepth 20000 in
theorem ggX7_readInto_X7_readWord : GoodIn wsX7_readInto wsX7_readWord := goodIn_r _ [18, 1, 3, 19, 20, 2, 21, 22, 23, 17, 24, 122, 123, 124, 125, 126] (by decide +kernel) (by decide +kernel)
set_option maxRecDepth 20000 in
theorem gX7_readInto_X7_readWord : GoodIn wsX7_readInto (wsV RX7 33 RX7 yX7_readWord wsX7_readWord) := goodIn_app (goodIn_of _ (by decide +kernel)) ggX7_readInto_X7_readWord
set_option maxRecDepth 20000 in
theorem ggX7_readInto_X7_readSentence : GoodIn wsX7_readInto wsX7_readSentence := goodIn_r _ [28, 29, 30, 31, 32, 33, 17, 34, 35, 36, 37, 38, 2, 1, 3, 20, 39, 40, 41, 42, 43, 44, 45, 46, 47, 48, 49, 50, 51, 52, 53, 54, 55, 56, 57, 58, 59, 60, 61, 62, 63, 64, 65, 66, 67, 68, 69, 70, 71, 72, 73, 74, 75, 76, 77, 78, 79, 80, 81, 82, 83, 84, 85, 86, 87, 88, 89, 90, 91, 92, 14, 15, 16, 18, 19, 21, 22, 23, 24, 93, 94, 95, 96, 97, 98, 99, 100, 101, 102, 103, 7, 104, 105, 12, 106, 107, 108, 109, 110, 111, 112, 113, 114, 115, 116, 117, 118, 119, 120, 121, 127, 128, 129, 130, 131, 132, 133, 134, 135, 136, 137, 122, 123, 124, 125, 126] (by decide +kernel) (by decide +kernel)
set_option maxRecDepth 20000 in
theorem gX7_readInto_X7_readSentence : GoodIn wsX7_readInto (wsV RX7 36 RX7 yX7_readSentence wsX7_readSentence) := goodIn_app (goodIn_of _ (by decide +kernel)) ggX7_readInto_X7_readSentence
theorem dX7_readInto_0 : decode cX7_readInto 0 = .ok (.aload_n 1, 1) := by decide +kernel
theorem dX7_readInto_1 : decode cX7_readInto 1 = .ok (.invokevirtual 28, 3) := by decide +kernel
theorem dX7_readInto_4 : decode cX7_readInto 4 = .ok (.aload_n 0, 1) := by decide +kernel
theorem dX7_readInto_5 : decode cX7_readInto 5 = .ok (.iconst 0, 1) := by decide +kernel
theorem dX7_readInto_6 : decode cX7_readInto 6 = .ok (.putfield 25, 3) := by decide +kernel
theorem dX7_readInto_9 : decode cX7_readInto 9 = .ok (.aload_n 0, 1) := by decide +kernel
theorem dX7_readInto_10 : decode cX7_readInto 10 = .ok (.invokevirtual 33, 3) := by decide +kernel
theorem dX7_readInto_13 : decode cX7_readInto 13 = .ok (.iconst 0, 1) := by decide +kernel
theorem dX7_readInto_14 : decode cX7_readInto 14 = .ok (.istore_n 2, 1) := by decide +kernel
theorem dX7_readInto_15 : decode cX7_readInto 15 = .ok (.iload_n 2, 1) := by decide +kernel
theorem dX7_readInto_16 : decode cX7_readInto 16 = .ok (.sipush 200, 3) := by decide +kernel
theorem dX7_readInto_19 : decode cX7_readInto 19 = .ok (.if_icmp .ge 33, 3) := by decide +kernel
theorem dX7_readInto_22 : decode cX7_readInto 22 = .ok (.aload_n 0, 1) := by decide +kernel
theorem dX7_readInto_23 : decode cX7_readInto 23 = .ok (.getfield 19, 3) := by decide +kernel
theorem dX7_readInto_26 : decode cX7_readInto 26 = .ok (.ifCond .eq 26, 3) := by decide +kernel
theorem dX7_readInto_29 : decode cX7_readInto 29 = .ok (.aload_n 0, 1) := by decide +kernel
theorem dX7_readInto_30 : decode cX7_readInto 30 = .ok (.aload_n 1, 1) := by decide +kernel
theorem dX7_readInto_31 : decode cX7_readInto 31 = .ok (.invokevirtual 36, 3) := by decide +kernel
theorem dX7_readInto_34 : decode cX7_readInto 34 = .ok (.ifCond .ne 8, 3) := by decide +kernel
theorem dX7_readInto_37 : decode cX7_readInto 37 = .ok (.aload_n 0, 1) := by decide +kernel
theorem dX7_readInto_38 : decode cX7_readInto 38 = .ok (.getfield 22, 3) := by decide +kernel
theorem dX7_readInto_41 : decode cX7_readInto 41 = .ok (.ireturn, 1) := by decide +kernel
theorem dX7_readInto_42 : decode cX7_readInto 42 = .ok (.aload_n 0, 1) := by decide +kernel
theorem dX7_readInto_43 : decode cX7_readInto 43 = .ok (.invokevirtual 33, 3) := by decide +kernel
theorem dX7_readInto_46 : decode cX7_readInto 46 = .ok (.iinc 2 1, 3) := by decide +kernel
theorem dX7_readInto_49 : decode cX7_readInto 49 = .ok (.goto (-34), 3) := by decide +kernel
theorem dX7_readInto_52 : decode cX7_readInto 52 = .ok (.iconst (-1), 1) := by decide +kernel
theorem dX7_readInto_53 : decode cX7_readInto 53 = .ok (.ireturn, 1) := by decide +kernel
set_option maxRecDepth 20000 in
theorem ggX7_readSentence_X7_kindNamed : GoodIn wsX7_readSentence wsX7_kindNamed := goodIn_r _ [7, 8, 9, 10, 6, 11, 12, 13, 14, 15, 16, 17, 18, 19, 20, 21, 22, 23, 24, 25, 26, 27, 28, 29, 30, 31, 32, 33, 34, 35, 36, 37, 38, 39, 40, 41, 42, 43, 44, 45, 46, 47, 48, 49, 50, 51, 52, 53, 54, 55, 56, 57, 58, 59, 60, 61, 62, 63, 64, 121, 122, 123, 124, 125] (by decide +kernel) (by decide +kernel)
set_option maxRecDepth 20000 in
theorem gX7_readSentence_X7_kindNamed : GoodIn wsX7_readSentence (wsV RX7 40 RX7 yX7_kindNamed wsX7_kindNamed) := goodIn_app (goodIn_of _ (by decide +kernel)) ggX7_readSentence_X7_kindNamed
set_option maxRecDepth 20000 in
theorem ggX7_readSentence_X7_readGoer : GoodIn wsX7_readSentence wsX7_readGoer := goodIn_r _ [68, 69, 70, 71, 72, 6, 73, 13, 14, 74, 15, 12, 75, 76, 77, 78, 8, 9, 10, 11, 16, 17, 18, 19, 20, 21, 22, 23, 24, 25, 26, 27, 28, 29, 30, 31, 32, 33, 34, 35, 36, 37, 38, 39, 40, 41, 42, 43, 44, 45, 46, 47, 48, 49, 50, 51, 52, 53, 54, 55, 56, 57, 58, 59, 60, 61, 62, 63, 64, 79, 80, 81, 82, 83, 84, 85, 86, 87, 88, 89, 90, 91, 92, 93, 94, 95, 96, 110, 111, 112, 113, 114, 115, 116, 117, 118, 119, 120, 121, 122, 123, 124, 125] (by decide +kernel) (by decide +kernel)
set_option maxRecDepth 20000 in
theorem gX7_readSentence_X7_readGoer : GoodIn wsX7_readSentence (wsV RX7 44 RX7 yX7_readGoer wsX7_readGoer) := goodIn_app (goodIn_of _ (by decide +kernel)) ggX7_readSentence_X7_readGoer
set_option maxRecDepth 20000 in
theorem ggX7_readSentence_X7_isName : GoodIn wsX7_readSentence wsX7_isName := goodIn_r _ [11, 12, 13, 14, 15, 16, 17, 18, 19, 20, 21, 22, 23, 24, 25, 26, 27, 28, 29, 30, 31, 32, 33, 34, 35, 36, 37, 38, 39, 40, 41, 42, 43, 44, 45, 46, 47, 48, 49, 50, 51, 52, 53, 54, 55, 56, 57, 58, 59, 60, 61, 62, 63, 64, 121, 122, 123, 124, 125] (by decide +kernel) (by decide +kernel)
set_option maxRecDepth 20000 in
theorem gX7_readSentence_X7_isName : GoodIn wsX7_readSentence (wsV RX7 50 RX7 yX7_isName wsX7_isName) := goodIn_app (goodIn_of _ (by decide +kernel)) ggX7_readSentence_X7_isName
set_option maxRecDepth 20000 in
theorem ggX7_readSentence_X7_readRoster : GoodIn wsX7_readSentence wsX7_readRoster := goodIn_r _ [100, 79, 80, 81, 6, 82, 12, 13, 14, 15, 70, 71, 72, 73, 74, 75, 76, 77, 78, 8, 9, 10, 11, 16, 17, 18, 19, 20, 21, 22, 23, 24, 25, 26, 27, 28, 29, 30, 31, 32, 33, 34, 35, 36, 37, 38, 39, 40, 41, 42, 43, 44, 45, 46, 47, 48, 49, 50, 51, 52, 53, 54, 55, 56, 57, 58, 59, 60, 61, 62, 63, 64, 83, 84, 85, 86, 121, 122, 123, 124, 125] (by decide +kernel) (by decide +kernel)
set_option maxRecDepth 20000 in
theorem gX7_readSentence_X7_readRoster : GoodIn wsX7_readSentence (wsV RX7 58 RX7 yX7_readRoster wsX7_readRoster) := goodIn_app (goodIn_of _ (by decide +kernel)) ggX7_readSentence_X7_readRoster
set_option maxRecDepth 20000 in
theorem ggX7_readSentence_X7_lawNamed : GoodIn wsX7_readSentence wsX7_lawNamed := goodIn_r _ [104, 8, 9, 10, 6, 11, 12, 13, 14, 15, 16, 17, 18, 19, 20, 21, 22, 23, 24, 25, 26, 27, 28, 29, 30, 31, 32, 33, 34, 35, 36, 37, 38, 39, 40, 41, 42, 43, 44, 45, 46, 47, 48, 49, 50, 51, 52, 53, 54, 55, 56, 57, 58, 59, 60, 61, 62, 63, 64, 121, 122, 123, 124, 125] (by decide +kernel) (by decide +kernel)
set_option maxRecDepth 20000 in
theorem gX7_readSentence_X7_lawNamed : GoodIn wsX7_readSentence (wsV RX7 66 RX7 yX7_lawNamed wsX7_lawNamed) := goodIn_app (goodIn_of _ (by decide +kernel)) ggX7_readSentence_X7_lawNamed
set_option maxRecDepth 20000 in
theorem ggX7_readSentence_X7_readLaw : GoodIn wsX7_readSentence wsX7_readLaw := goodIn_r _ [108, 109, 79, 80, 81, 6, 82, 12, 13, 14, 15, 70, 71, 72, 73, 74, 75, 76, 77, 78, 83, 84, 85, 86, 110, 111, 112, 113, 114, 115, 116, 117, 118, 119, 120, 121, 122, 123, 124, 125] (by decide +kernel) (by decide +kernel)
set_option maxRecDepth 20000 in
theorem gX7_readSentence_X7_readLaw : GoodIn wsX7_readSentence (wsV RX7 69 RX7 yX7_readLaw wsX7_readLaw) := goodIn_app (goodIn_of _ (by decide +kernel)) ggX7_readSentence_X7_readLaw
theorem dX7_readSentence_0 : decode cX7_readSentence 0 = .ok (.aload_n 0, 1) := by decide +kernel
theorem dX7_readSentence_1 : decode cX7_readSentence 1 = .ok (.invokevirtual 40, 3) := by decide +kernel
theorem dX7_readSentence_4 : decode cX7_readSentence 4 = .ok (.istore_n 2, 1) := by decide +kernel
theorem dX7_readSentence_5 : decode cX7_readSentence 5 = .ok (.iload_n 2, 1) := by decide +kernel
theorem dX7_readSentence_6 : decode cX7_readSentence 6 = .ok (.ifCond .lt 10, 3) := by decide +kernel
theorem dX7_readSentence_9 : decode cX7_readSentence 9 = .ok (.aload_n 0, 1) := by decide +kernel
theorem dX7_readSentence_10 : decode cX7_readSentence 10 = .ok (.aload_n 1, 1) := by decide +kernel
theorem dX7_readSentence_11 : decode cX7_readSentence 11 = .ok (.iload_n 2, 1) := by decide +kernel
theorem dX7_readSentence_12 : decode cX7_readSentence 12 = .ok (.invokevirtual 44, 3) := by decide +kernel
theorem dX7_readSentence_15 : decode cX7_readSentence 15 = .ok (.ireturn, 1) := by decide +kernel
theorem dX7_readSentence_16 : decode cX7_readSentence 16 = .ok (.aload_n 0, 1) := by decide +kernel
theorem dX7_readSentence_17 : decode cX7_readSentence 17 = .ok (.ldc 48, 2) := by decide +kernel
theorem dX7_readSentence_19 : decode cX7_readSentence 19 = .ok (.invokevirtual 50, 3) := by decide +kernel
theorem dX7_readSentence_22 : decode cX7_readSentence 22 = .ok (.ifCond .eq 12, 3) := by decide +kernel
theorem dX7_readSentence_25 : decode cX7_readSentence 25 = .ok (.aload_n 0, 1) := by decide +kernel
theorem dX7_readSentence_26 : decode cX7_readSentence 26 = .ok (.aload_n 1, 1) := by decide +kernel
theorem dX7_readSentence_27 : decode cX7_readSentence 27 = .ok (.getfield 54, 3) := by decide +kernel
theorem dX7_readSentence_30 : decode cX7_readSentence 30 = .ok (.invokevirtual 58, 3) := by decide +kernel
theorem dX7_readSentence_33 : decode cX7_readSentence 33 = .ok (.ireturn, 1) := by decide +kernel
theorem dX7_readSentence_34 : decode cX7_readSentence 34 = .ok (.aload_n 0, 1) := by decide +kernel
theorem dX7_readSentence_35 : decode cX7_readSentence 35 = .ok (.ldc 62, 2) := by decide +kernel
theorem dX7_readSentence_37 : decode cX7_readSentence 37 = .ok (.invokevirtual 50, 3) := by decide +kernel
theorem dX7_readSentence_40 : decode cX7_readSentence 40 = .ok (.ifCond .eq 12, 3) := by decide +kernel
theorem dX7_readSentence_43 : decode cX7_readSentence 43 = .ok (.aload_n 0, 1) := by decide +kernel
theorem dX7_readSentence_44 : decode cX7_readSentence 44 = .ok (.aload_n 1, 1) := by decide +kernel
theorem dX7_readSentence_45 : decode cX7_readSentence 45 = .ok (.getfield 64, 3) := by decide +kernel
theorem dX7_readSentence_48 : decode cX7_readSentence 48 = .ok (.invokevirtual 58, 3) := by decide +kernel
theorem dX7_readSentence_51 : decode cX7_readSentence 51 = .ok (.ireturn, 1) := by decide +kernel
theorem dX7_readSentence_52 : decode cX7_readSentence 52 = .ok (.aload_n 0, 1) := by decide +kernel
theorem dX7_readSentence_53 : decode cX7_readSentence 53 = .ok (.invokevirtual 66, 3) := by decide +kernel
theorem dX7_readSentence_56 : decode cX7_readSentence 56 = .ok (.istore_n 3, 1) := by decide +kernel
theorem dX7_readSentence_57 : decode cX7_readSentence 57 = .ok (.iload_n 3, 1) := by decide +kernel
theorem dX7_readSentence_58 : decode cX7_readSentence 58 = .ok (.ifCond .lt 16, 3) := by decide +kernel
theorem dX7_readSentence_61 : decode cX7_readSentence 61 = .ok (.aload_n 0, 1) := by decide +kernel
theorem dX7_readSentence_62 : decode cX7_readSentence 62 = .ok (.aload_n 1, 1) := by decide +kernel
theorem dX7_readSentence_63 : decode cX7_readSentence 63 = .ok (.iload_n 3, 1) := by decide +kernel
theorem dX7_readSentence_64 : decode cX7_readSentence 64 = .ok (.invokevirtual 69, 3) := by decide +kernel
theorem dX7_readSentence_67 : decode cX7_readSentence 67 = .ok (.ifCond .eq 7, 3) := by decide +kernel
theorem dX7_readSentence_70 : decode cX7_readSentence 70 = .ok (.iconst 1, 1) := by decide +kernel
theorem dX7_readSentence_71 : decode cX7_readSentence 71 = .ok (.goto 4, 3) := by decide +kernel
theorem dX7_readSentence_74 : decode cX7_readSentence 74 = .ok (.iconst 0, 1) := by decide +kernel
theorem dX7_readSentence_75 : decode cX7_readSentence 75 = .ok (.ireturn, 1) := by decide +kernel
set_option maxRecDepth 20000 in
theorem ggX7_readGoer_X7_readWord : GoodIn wsX7_readGoer wsX7_readWord := goodIn_r _ [6, 7, 8, 9, 10, 11, 12, 13, 14, 5, 15, 98, 99, 100, 101, 102] (by decide +kernel) (by decide +kernel)
set_option maxRecDepth 20000 in
theorem gX7_readGoer_X7_readWord : GoodIn wsX7_readGoer (wsV RX7 33 RX7 yX7_readWord wsX7_readWord) := goodIn_app (goodIn_of _ (by decide +kernel)) ggX7_readGoer_X7_readWord
set_option maxRecDepth 20000 in
theorem ggX7_readGoer_X7_isName : GoodIn wsX7_readGoer wsX7_isName := goodIn_r _ [19, 11, 7, 8, 10, 20, 21, 22, 23, 24, 25, 26, 27, 28, 29, 30, 31, 32, 33, 34, 35, 36, 37, 38, 39, 40, 41, 42, 43, 44, 45, 46, 47, 48, 49, 50, 51, 52, 53, 54, 55, 56, 57, 58, 59, 60, 61, 62, 63, 64, 65, 66, 67, 68, 98, 99, 100, 101, 102] (by decide +kernel) (by decide +kernel)
set_option maxRecDepth 20000 in
theorem gX7_readGoer_X7_isName : GoodIn wsX7_readGoer (wsV RX7 50 RX7 yX7_isName wsX7_isName) := goodIn_app (goodIn_of _ (by decide +kernel)) ggX7_readGoer_X7_isName
set_option maxRecDepth 20000 in
theorem ggX7_readGoer_X7_readNumber : GoodIn wsX7_readGoer wsX7_readNumber := goodIn_r _ [72, 11, 7, 8, 10, 2, 3, 4, 5, 6, 9, 12, 13, 14, 15, 98, 99, 100, 101, 102] (by decide +kernel) (by decide +kernel)
set_option maxRecDepth 20000 in
theorem gX7_readGoer_X7_readNumber : GoodIn wsX7_readGoer (wsV RX7 77 RX7 yX7_readNumber wsX7_readNumber) := goodIn_app (goodIn_of _ (by decide +kernel)) ggX7_readGoer_X7_readNumber
set_option maxRecDepth 20000 in
theorem ggX7_readGoer_X7_isSemicolon : GoodIn wsX7_readGoer wsX7_isSemicolon := goodIn_r _ [76, 11, 10, 8, 98, 99, 100, 101, 102] (by decide +kernel) (by decide +kernel)
set_option maxRecDepth 20000 in
theorem gX7_readGoer_X7_isSemicolon : GoodIn wsX7_readGoer (wsV RX7 83 RX7 yX7_isSemicolon wsX7_isSemicolon) := goodIn_app (goodIn_of _ (by decide +kernel)) ggX7_readGoer_X7_isSemicolon
set_option maxRecDepth 20000 in
theorem ggX7_readGoer_X8_add : GoodIn wsX7_readGoer wsX8_add := goodIn_r _ [81, 82, 83, 84, 85, 86, 87, 88, 89, 90, 91, 92, 93, 94, 95, 96, 97] (by decide +kernel) (by decide +kernel)
set_option maxRecDepth 20000 in
theorem gX7_readGoer_X8_add : GoodIn wsX7_readGoer (wsV RX7 87 RX8 yX8_add wsX8_add) := goodIn_app (goodIn_of _ (by decide +kernel)) ggX7_readGoer_X8_add
theorem dX7_readGoer_0 : decode cX7_readGoer 0 = .ok (.aload_n 1, 1) := by decide +kernel
theorem dX7_readGoer_1 : decode cX7_readGoer 1 = .ok (.getfield 72, 3) := by decide +kernel
theorem dX7_readGoer_4 : decode cX7_readGoer 4 = .ok (.bipush 8, 2) := by decide +kernel
theorem dX7_readGoer_6 : decode cX7_readGoer 6 = .ok (.if_icmp .lt 5, 3) := by decide +kernel
theorem dX7_readGoer_9 : decode cX7_readGoer 9 = .ok (.iconst 0, 1) := by decide +kernel
theorem dX7_readGoer_10 : decode cX7_readGoer 10 = .ok (.ireturn, 1) := by decide +kernel
theorem dX7_readGoer_11 : decode cX7_readGoer 11 = .ok (.aload_n 0, 1) := by decide +kernel
theorem dX7_readGoer_12 : decode cX7_readGoer 12 = .ok (.invokevirtual 33, 3) := by decide +kernel
theorem dX7_readGoer_15 : decode cX7_readGoer 15 = .ok (.aload_n 0, 1) := by decide +kernel
theorem dX7_readGoer_16 : decode cX7_readGoer 16 = .ok (.ldc 75, 2) := by decide +kernel
theorem dX7_readGoer_18 : decode cX7_readGoer 18 = .ok (.invokevirtual 50, 3) := by decide +kernel
theorem dX7_readGoer_21 : decode cX7_readGoer 21 = .ok (.ifCond .ne 5, 3) := by decide +kernel
theorem dX7_readGoer_24 : decode cX7_readGoer 24 = .ok (.iconst 0, 1) := by decide +kernel
theorem dX7_readGoer_25 : decode cX7_readGoer 25 = .ok (.ireturn, 1) := by decide +kernel
theorem dX7_readGoer_26 : decode cX7_readGoer 26 = .ok (.aload_n 0, 1) := by decide +kernel
theorem dX7_readGoer_27 : decode cX7_readGoer 27 = .ok (.bipush 11, 2) := by decide +kernel
theorem dX7_readGoer_29 : decode cX7_readGoer 29 = .ok (.invokevirtual 77, 3) := by decide +kernel
theorem dX7_readGoer_32 : decode cX7_readGoer 32 = .ok (.istore_n 3, 1) := by decide +kernel
theorem dX7_readGoer_33 : decode cX7_readGoer 33 = .ok (.iload_n 3, 1) := by decide +kernel
theorem dX7_readGoer_34 : decode cX7_readGoer 34 = .ok (.ifCond .ge 5, 3) := by decide +kernel
theorem dX7_readGoer_37 : decode cX7_readGoer 37 = .ok (.iconst 0, 1) := by decide +kernel
theorem dX7_readGoer_38 : decode cX7_readGoer 38 = .ok (.ireturn, 1) := by decide +kernel
theorem dX7_readGoer_39 : decode cX7_readGoer 39 = .ok (.aload_n 0, 1) := by decide +kernel
theorem dX7_readGoer_40 : decode cX7_readGoer 40 = .ok (.invokevirtual 33, 3) := by decide +kernel
theorem dX7_readGoer_43 : decode cX7_readGoer 43 = .ok (.bipush 50, 2) := by decide +kernel
theorem dX7_readGoer_45 : decode cX7_readGoer 45 = .ok (.istore 4, 2) := by decide +kernel
theorem dX7_readGoer_47 : decode cX7_readGoer 47 = .ok (.aload_n 0, 1) := by decide +kernel
theorem dX7_readGoer_48 : decode cX7_readGoer 48 = .ok (.ldc 81, 2) := by decide +kernel
theorem dX7_readGoer_50 : decode cX7_readGoer 50 = .ok (.invokevirtual 50, 3) := by decide +kernel
theorem dX7_readGoer_53 : decode cX7_readGoer 53 = .ok (.ifCond .eq 22, 3) := by decide +kernel
theorem dX7_readGoer_56 : decode cX7_readGoer 56 = .ok (.aload_n 0, 1) := by decide +kernel
theorem dX7_readGoer_57 : decode cX7_readGoer 57 = .ok (.bipush 99, 2) := by decide +kernel
theorem dX7_readGoer_59 : decode cX7_readGoer 59 = .ok (.invokevirtual 77, 3) := by decide +kernel
theorem dX7_readGoer_62 : decode cX7_readGoer 62 = .ok (.istore 4, 2) := by decide +kernel
theorem dX7_readGoer_64 : decode cX7_readGoer 64 = .ok (.iload 4, 2) := by decide +kernel
theorem dX7_readGoer_66 : decode cX7_readGoer 66 = .ok (.ifCond .ge 5, 3) := by decide +kernel
theorem dX7_readGoer_69 : decode cX7_readGoer 69 = .ok (.iconst 0, 1) := by decide +kernel
theorem dX7_readGoer_70 : decode cX7_readGoer 70 = .ok (.ireturn, 1) := by decide +kernel
theorem dX7_readGoer_71 : decode cX7_readGoer 71 = .ok (.aload_n 0, 1) := by decide +kernel
theorem dX7_readGoer_72 : decode cX7_readGoer 72 = .ok (.invokevirtual 33, 3) := by decide +kernel
theorem dX7_readGoer_75 : decode cX7_readGoer 75 = .ok (.aload_n 0, 1) := by decide +kernel
theorem dX7_readGoer_76 : decode cX7_readGoer 76 = .ok (.invokevirtual 83, 3) := by decide +kernel
theorem dX7_readGoer_79 : decode cX7_readGoer 79 = .ok (.ifCond .ne 5, 3) := by decide +kernel
theorem dX7_readGoer_82 : decode cX7_readGoer 82 = .ok (.iconst 0, 1) := by decide +kernel
theorem dX7_readGoer_83 : decode cX7_readGoer 83 = .ok (.ireturn, 1) := by decide +kernel
theorem dX7_readGoer_84 : decode cX7_readGoer 84 = .ok (.aload_n 1, 1) := by decide +kernel
theorem dX7_readGoer_85 : decode cX7_readGoer 85 = .ok (.iload_n 2, 1) := by decide +kernel
theorem dX7_readGoer_86 : decode cX7_readGoer 86 = .ok (.iload 4, 2) := by decide +kernel
theorem dX7_readGoer_88 : decode cX7_readGoer 88 = .ok (.iload_n 3, 1) := by decide +kernel
theorem dX7_readGoer_89 : decode cX7_readGoer 89 = .ok (.invokevirtual 87, 3) := by decide +kernel
theorem dX7_readGoer_92 : decode cX7_readGoer 92 = .ok (.iconst 1, 1) := by decide +kernel
theorem dX7_readGoer_93 : decode cX7_readGoer 93 = .ok (.ireturn, 1) := by decide +kernel
set_option maxRecDepth 20000 in
theorem ggX7_readRoster_X7_readNumber : GoodIn wsX7_readRoster wsX7_readNumber := goodIn_r _ [5, 6, 7, 8, 9, 10, 11, 12, 4, 13, 14, 15, 16, 17, 18, 76, 77, 78, 79, 80] (by decide +kernel) (by decide +kernel)
set_option maxRecDepth 20000 in
theorem gX7_readRoster_X7_readNumber : GoodIn wsX7_readRoster (wsV RX7 77 RX7 yX7_readNumber wsX7_readNumber) := goodIn_app (goodIn_of _ (by decide +kernel)) ggX7_readRoster_X7_readNumber
set_option maxRecDepth 20000 in
theorem ggX7_readRoster_X7_readWord : GoodIn wsX7_readRoster wsX7_readWord := goodIn_r _ [13, 7, 8, 14, 9, 6, 15, 16, 17, 4, 18, 76, 77, 78, 79, 80] (by decide +kernel) (by decide +kernel)
set_option maxRecDepth 20000 in
theorem gX7_readRoster_X7_readWord : GoodIn wsX7_readRoster (wsV RX7 33 RX7 yX7_readWord wsX7_readWord) := goodIn_app (goodIn_of _ (by decide +kernel)) ggX7_readRoster_X7_readWord
set_option maxRecDepth 20000 in
theorem ggX7_readRoster_X7_isName : GoodIn wsX7_readRoster wsX7_isName := goodIn_r _ [22, 6, 7, 8, 9, 23, 24, 25, 26, 27, 28, 29, 30, 31, 32, 33, 34, 35, 36, 37, 38, 39, 40, 41, 42, 43, 44, 45, 46, 47, 48, 49, 50, 51, 52, 53, 54, 55, 56, 57, 58, 59, 60, 61, 62, 63, 64, 65, 66, 67, 68, 69, 70, 71, 76, 77, 78, 79, 80] (by decide +kernel) (by decide +kernel)
set_option maxRecDepth 20000 in
theorem gX7_readRoster_X7_isName : GoodIn wsX7_readRoster (wsV RX7 50 RX7 yX7_isName wsX7_isName) := goodIn_app (goodIn_of _ (by decide +kernel)) ggX7_readRoster_X7_isName
set_option maxRecDepth 20000 in
theorem ggX7_readRoster_X7_isSemicolon : GoodIn wsX7_readRoster wsX7_isSemicolon := goodIn_r _ [75, 6, 9, 8, 76, 77, 78, 79, 80] (by decide +kernel) (by decide +kernel)
set_option maxRecDepth 20000 in
theorem gX7_readRoster_X7_isSemicolon : GoodIn wsX7_readRoster (wsV RX7 83 RX7 yX7_isSemicolon wsX7_isSemicolon) := goodIn_app (goodIn_of _ (by decide +kernel)) ggX7_readRoster_X7_isSemicolon
theorem dX7_readRoster_0 : decode cX7_readRoster 0 = .ok (.aload_n 0, 1) := by decide +kernel
theorem dX7_readRoster_1 : decode cX7_readRoster 1 = .ok (.iconst 5, 1) := by decide +kernel
theorem dX7_readRoster_2 : decode cX7_readRoster 2 = .ok (.invokevirtual 77, 3) := by decide +kernel
theorem dX7_readRoster_5 : decode cX7_readRoster 5 = .ok (.istore_n 2, 1) := by decide +kernel
theorem dX7_readRoster_6 : decode cX7_readRoster 6 = .ok (.iload_n 2, 1) := by decide +kernel
theorem dX7_readRoster_7 : decode cX7_readRoster 7 = .ok (.ifCond .ge 5, 3) := by decide +kernel
theorem dX7_readRoster_10 : decode cX7_readRoster 10 = .ok (.iconst 0, 1) := by decide +kernel
theorem dX7_readRoster_11 : decode cX7_readRoster 11 = .ok (.ireturn, 1) := by decide +kernel
theorem dX7_readRoster_12 : decode cX7_readRoster 12 = .ok (.aload_n 0, 1) := by decide +kernel
theorem dX7_readRoster_13 : decode cX7_readRoster 13 = .ok (.invokevirtual 33, 3) := by decide +kernel
theorem dX7_readRoster_16 : decode cX7_readRoster 16 = .ok (.aload_n 0, 1) := by decide +kernel
theorem dX7_readRoster_17 : decode cX7_readRoster 17 = .ok (.ldc 91, 2) := by decide +kernel
theorem dX7_readRoster_19 : decode cX7_readRoster 19 = .ok (.invokevirtual 50, 3) := by decide +kernel
theorem dX7_readRoster_22 : decode cX7_readRoster 22 = .ok (.ifCond .ne 5, 3) := by decide +kernel
theorem dX7_readRoster_25 : decode cX7_readRoster 25 = .ok (.iconst 0, 1) := by decide +kernel
theorem dX7_readRoster_26 : decode cX7_readRoster 26 = .ok (.ireturn, 1) := by decide +kernel
theorem dX7_readRoster_27 : decode cX7_readRoster 27 = .ok (.aload_n 0, 1) := by decide +kernel
theorem dX7_readRoster_28 : decode cX7_readRoster 28 = .ok (.bipush 9, 2) := by decide +kernel
theorem dX7_readRoster_30 : decode cX7_readRoster 30 = .ok (.invokevirtual 77, 3) := by decide +kernel
theorem dX7_readRoster_33 : decode cX7_readRoster 33 = .ok (.istore_n 3, 1) := by decide +kernel
theorem dX7_readRoster_34 : decode cX7_readRoster 34 = .ok (.iload_n 3, 1) := by decide +kernel
theorem dX7_readRoster_35 : decode cX7_readRoster 35 = .ok (.ifCond .ge 5, 3) := by decide +kernel
theorem dX7_readRoster_38 : decode cX7_readRoster 38 = .ok (.iconst 0, 1) := by decide +kernel
theorem dX7_readRoster_39 : decode cX7_readRoster 39 = .ok (.ireturn, 1) := by decide +kernel
theorem dX7_readRoster_40 : decode cX7_readRoster 40 = .ok (.aload_n 1, 1) := by decide +kernel
theorem dX7_readRoster_41 : decode cX7_readRoster 41 = .ok (.iload_n 2, 1) := by decide +kernel
theorem dX7_readRoster_42 : decode cX7_readRoster 42 = .ok (.iload_n 3, 1) := by decide +kernel
theorem dX7_readRoster_43 : decode cX7_readRoster 43 = .ok (.iastore, 1) := by decide +kernel
theorem dX7_readRoster_44 : decode cX7_readRoster 44 = .ok (.aload_n 0, 1) := by decide +kernel
theorem dX7_readRoster_45 : decode cX7_readRoster 45 = .ok (.invokevirtual 33, 3) := by decide +kernel
theorem dX7_readRoster_48 : decode cX7_readRoster 48 = .ok (.aload_n 0, 1) := by decide +kernel
theorem dX7_readRoster_49 : decode cX7_readRoster 49 = .ok (.invokevirtual 83, 3) := by decide +kernel
theorem dX7_readRoster_52 : decode cX7_readRoster 52 = .ok (.ireturn, 1) := by decide +kernel
set_option maxRecDepth 20000 in
theorem ggX7_readLaw_X7_readNumber : GoodIn wsX7_readLaw wsX7_readNumber := goodIn_r _ [6, 7, 8, 9, 10, 11, 12, 13, 5, 14, 15, 16, 17, 18, 19, 35, 36, 37, 38, 39] (by decide +kernel) (by decide +kernel)
set_option maxRecDepth 20000 in
theorem gX7_readLaw_X7_readNumber : GoodIn wsX7_readLaw (wsV RX7 77 RX7 yX7_readNumber wsX7_readNumber) := goodIn_app (goodIn_of _ (by decide +kernel)) ggX7_readLaw_X7_readNumber
set_option maxRecDepth 20000 in
theorem ggX7_readLaw_X7_readWord : GoodIn wsX7_readLaw wsX7_readWord := goodIn_r _ [14, 8, 9, 15, 10, 7, 16, 17, 18, 5, 19, 35, 36, 37, 38, 39] (by decide +kernel) (by decide +kernel)
set_option maxRecDepth 20000 in
theorem gX7_readLaw_X7_readWord : GoodIn wsX7_readLaw (wsV RX7 33 RX7 yX7_readWord wsX7_readWord) := goodIn_app (goodIn_of _ (by decide +kernel)) ggX7_readLaw_X7_readWord
set_option maxRecDepth 20000 in
theorem ggX7_readLaw_X7_isSemicolon : GoodIn wsX7_readLaw wsX7_isSemicolon := goodIn_r _ [23, 7, 10, 9, 35, 36, 37, 38, 39] (by decide +kernel) (by decide +kernel)
set_option maxRecDepth 20000 in
theorem gX7_readLaw_X7_isSemicolon : GoodIn wsX7_readLaw (wsV RX7 83 RX7 yX7_isSemicolon wsX7_isSemicolon) := goodIn_app (goodIn_of _ (by decide +kernel)) ggX7_readLaw_X7_isSemicolon
theorem dX7_readLaw_0 : decode cX7_readLaw 0 = .ok (.aload_n 0, 1) := by decide +kernel
theorem dX7_readLaw_1 : decode cX7_readLaw 1 = .ok (.getstatic 93, 3) := by decide +kernel
theorem dX7_readLaw_4 : decode cX7_readLaw 4 = .ok (.iload_n 2, 1) := by decide +kernel
theorem dX7_readLaw_5 : decode cX7_readLaw 5 = .ok (.iaload, 1) := by decide +kernel
theorem dX7_readLaw_6 : decode cX7_readLaw 6 = .ok (.invokevirtual 77, 3) := by decide +kernel
theorem dX7_readLaw_9 : decode cX7_readLaw 9 = .ok (.istore_n 3, 1) := by decide +kernel
theorem dX7_readLaw_10 : decode cX7_readLaw 10 = .ok (.iload_n 3, 1) := by decide +kernel
theorem dX7_readLaw_11 : decode cX7_readLaw 11 = .ok (.ifCond .ge 5, 3) := by decide +kernel
theorem dX7_readLaw_14 : decode cX7_readLaw 14 = .ok (.iconst 0, 1) := by decide +kernel
theorem dX7_readLaw_15 : decode cX7_readLaw 15 = .ok (.ireturn, 1) := by decide +kernel
theorem dX7_readLaw_16 : decode cX7_readLaw 16 = .ok (.aload_n 1, 1) := by decide +kernel
theorem dX7_readLaw_17 : decode cX7_readLaw 17 = .ok (.getfield 96, 3) := by decide +kernel
theorem dX7_readLaw_20 : decode cX7_readLaw 20 = .ok (.iload_n 2, 1) := by decide +kernel
theorem dX7_readLaw_21 : decode cX7_readLaw 21 = .ok (.iload_n 3, 1) := by decide +kernel
theorem dX7_readLaw_22 : decode cX7_readLaw 22 = .ok (.iastore, 1) := by decide +kernel
theorem dX7_readLaw_23 : decode cX7_readLaw 23 = .ok (.aload_n 0, 1) := by decide +kernel
theorem dX7_readLaw_24 : decode cX7_readLaw 24 = .ok (.invokevirtual 33, 3) := by decide +kernel
theorem dX7_readLaw_27 : decode cX7_readLaw 27 = .ok (.aload_n 0, 1) := by decide +kernel
theorem dX7_readLaw_28 : decode cX7_readLaw 28 = .ok (.invokevirtual 83, 3) := by decide +kernel
theorem dX7_readLaw_31 : decode cX7_readLaw 31 = .ok (.ireturn, 1) := by decide +kernel
set_option maxRecDepth 20000 in
theorem ggX7_readNumber_X7_readWord : GoodIn wsX7_readNumber wsX7_readWord := goodIn_r _ [9, 2, 3, 10, 4, 1, 11, 12, 13, 8, 14, 15, 16, 17, 18, 19] (by decide +kernel) (by decide +kernel)
set_option maxRecDepth 20000 in
theorem gX7_readNumber_X7_readWord : GoodIn wsX7_readNumber (wsV RX7 33 RX7 yX7_readWord wsX7_readWord) := goodIn_app (goodIn_of _ (by decide +kernel)) ggX7_readNumber_X7_readWord
theorem dX7_readNumber_0 : decode cX7_readNumber 0 = .ok (.aload_n 0, 1) := by decide +kernel
theorem dX7_readNumber_1 : decode cX7_readNumber 1 = .ok (.invokevirtual 33, 3) := by decide +kernel
theorem dX7_readNumber_4 : decode cX7_readNumber 4 = .ok (.aload_n 0, 1) := by decide +kernel
theorem dX7_readNumber_5 : decode cX7_readNumber 5 = .ok (.getfield 19, 3) := by decide +kernel
theorem dX7_readNumber_8 : decode cX7_readNumber 8 = .ok (.iconst 2, 1) := by decide +kernel
theorem dX7_readNumber_9 : decode cX7_readNumber 9 = .ok (.if_icmp .ne 16, 3) := by decide +kernel
theorem dX7_readNumber_12 : decode cX7_readNumber 12 = .ok (.aload_n 0, 1) := by decide +kernel
theorem dX7_readNumber_13 : decode cX7_readNumber 13 = .ok (.getfield 25, 3) := by decide +kernel
theorem dX7_readNumber_16 : decode cX7_readNumber 16 = .ok (.aload_n 0, 1) := by decide +kernel
theorem dX7_readNumber_17 : decode cX7_readNumber 17 = .ok (.getfield 22, 3) := by decide +kernel
theorem dX7_readNumber_20 : decode cX7_readNumber 20 = .ok (.isub, 1) := by decide +kernel
theorem dX7_readNumber_21 : decode cX7_readNumber 21 = .ok (.iconst 3, 1) := by decide +kernel
theorem dX7_readNumber_22 : decode cX7_readNumber 22 = .ok (.if_icmp .le 5, 3) := by decide +kernel
theorem dX7_readNumber_25 : decode cX7_readNumber 25 = .ok (.iconst (-1), 1) := by decide +kernel
theorem dX7_readNumber_26 : decode cX7_readNumber 26 = .ok (.ireturn, 1) := by decide +kernel
theorem dX7_readNumber_27 : decode cX7_readNumber 27 = .ok (.iconst 0, 1) := by decide +kernel
theorem dX7_readNumber_28 : decode cX7_readNumber 28 = .ok (.istore_n 2, 1) := by decide +kernel
theorem dX7_readNumber_29 : decode cX7_readNumber 29 = .ok (.aload_n 0, 1) := by decide +kernel
theorem dX7_readNumber_30 : decode cX7_readNumber 30 = .ok (.getfield 22, 3) := by decide +kernel
theorem dX7_readNumber_33 : decode cX7_readNumber 33 = .ok (.istore_n 3, 1) := by decide +kernel
theorem dX7_readNumber_34 : decode cX7_readNumber 34 = .ok (.iload_n 3, 1) := by decide +kernel
theorem dX7_readNumber_35 : decode cX7_readNumber 35 = .ok (.aload_n 0, 1) := by decide +kernel
theorem dX7_readNumber_36 : decode cX7_readNumber 36 = .ok (.getfield 25, 3) := by decide +kernel
theorem dX7_readNumber_39 : decode cX7_readNumber 39 = .ok (.if_icmp .ge 24, 3) := by decide +kernel
theorem dX7_readNumber_42 : decode cX7_readNumber 42 = .ok (.iload_n 2, 1) := by decide +kernel
theorem dX7_readNumber_43 : decode cX7_readNumber 43 = .ok (.bipush 10, 2) := by decide +kernel
theorem dX7_readNumber_45 : decode cX7_readNumber 45 = .ok (.imul, 1) := by decide +kernel
theorem dX7_readNumber_46 : decode cX7_readNumber 46 = .ok (.aload_n 0, 1) := by decide +kernel
theorem dX7_readNumber_47 : decode cX7_readNumber 47 = .ok (.getfield 9, 3) := by decide +kernel
theorem dX7_readNumber_50 : decode cX7_readNumber 50 = .ok (.iload_n 3, 1) := by decide +kernel
theorem dX7_readNumber_51 : decode cX7_readNumber 51 = .ok (.baload, 1) := by decide +kernel
theorem dX7_readNumber_52 : decode cX7_readNumber 52 = .ok (.iadd, 1) := by decide +kernel
theorem dX7_readNumber_53 : decode cX7_readNumber 53 = .ok (.bipush 48, 2) := by decide +kernel
theorem dX7_readNumber_55 : decode cX7_readNumber 55 = .ok (.isub, 1) := by decide +kernel
theorem dX7_readNumber_56 : decode cX7_readNumber 56 = .ok (.istore_n 2, 1) := by decide +kernel
theorem dX7_readNumber_57 : decode cX7_readNumber 57 = .ok (.iinc 3 1, 3) := by decide +kernel
theorem dX7_readNumber_60 : decode cX7_readNumber 60 = .ok (.goto (-26), 3) := by decide +kernel
theorem dX7_readNumber_63 : decode cX7_readNumber 63 = .ok (.iload_n 2, 1) := by decide +kernel
theorem dX7_readNumber_64 : decode cX7_readNumber 64 = .ok (.iload_n 1, 1) := by decide +kernel
theorem dX7_readNumber_65 : decode cX7_readNumber 65 = .ok (.if_icmp .le 7, 3) := by decide +kernel
theorem dX7_readNumber_68 : decode cX7_readNumber 68 = .ok (.iconst (-1), 1) := by decide +kernel
theorem dX7_readNumber_69 : decode cX7_readNumber 69 = .ok (.goto 4, 3) := by decide +kernel
theorem dX7_readNumber_72 : decode cX7_readNumber 72 = .ok (.iload_n 2, 1) := by decide +kernel
theorem dX7_readNumber_73 : decode cX7_readNumber 73 = .ok (.ireturn, 1) := by decide +kernel
set_option maxRecDepth 20000 in
theorem ggX7_readWord_X7_sortAt : GoodIn wsX7_readWord wsX7_sortAt := goodIn_r _ [10, 4, 11, 12, 13, 14, 15] (by decide +kernel) (by decide +kernel)
set_option maxRecDepth 20000 in
theorem gX7_readWord_X7_sortAt : GoodIn wsX7_readWord (wsV RX7 99 RX7 yX7_sortAt wsX7_sortAt) := goodIn_app (goodIn_of _ (by decide +kernel)) ggX7_readWord_X7_sortAt
theorem dX7_readWord_0 : decode cX7_readWord 0 = .ok (.aload_n 0, 1) := by decide +kernel
theorem dX7_readWord_1 : decode cX7_readWord 1 = .ok (.aload_n 0, 1) := by decide +kernel
theorem dX7_readWord_2 : decode cX7_readWord 2 = .ok (.getfield 25, 3) := by decide +kernel
theorem dX7_readWord_5 : decode cX7_readWord 5 = .ok (.putfield 22, 3) := by decide +kernel
theorem dX7_readWord_8 : decode cX7_readWord 8 = .ok (.aload_n 0, 1) := by decide +kernel
theorem dX7_readWord_9 : decode cX7_readWord 9 = .ok (.getfield 22, 3) := by decide +kernel
theorem dX7_readWord_12 : decode cX7_readWord 12 = .ok (.aload_n 0, 1) := by decide +kernel
theorem dX7_readWord_13 : decode cX7_readWord 13 = .ok (.getfield 15, 3) := by decide +kernel
theorem dX7_readWord_16 : decode cX7_readWord 16 = .ok (.if_icmp .ge 30, 3) := by decide +kernel
theorem dX7_readWord_19 : decode cX7_readWord 19 = .ok (.aload_n 0, 1) := by decide +kernel
theorem dX7_readWord_20 : decode cX7_readWord 20 = .ok (.getfield 9, 3) := by decide +kernel
theorem dX7_readWord_23 : decode cX7_readWord 23 = .ok (.aload_n 0, 1) := by decide +kernel
theorem dX7_readWord_24 : decode cX7_readWord 24 = .ok (.getfield 22, 3) := by decide +kernel
theorem dX7_readWord_27 : decode cX7_readWord 27 = .ok (.baload, 1) := by decide +kernel
theorem dX7_readWord_28 : decode cX7_readWord 28 = .ok (.bipush 32, 2) := by decide +kernel
theorem dX7_readWord_30 : decode cX7_readWord 30 = .ok (.if_icmp .ne 16, 3) := by decide +kernel
theorem dX7_readWord_33 : decode cX7_readWord 33 = .ok (.aload_n 0, 1) := by decide +kernel
theorem dX7_readWord_34 : decode cX7_readWord 34 = .ok (.dup, 1) := by decide +kernel
theorem dX7_readWord_35 : decode cX7_readWord 35 = .ok (.getfield 22, 3) := by decide +kernel
theorem dX7_readWord_38 : decode cX7_readWord 38 = .ok (.iconst 1, 1) := by decide +kernel
theorem dX7_readWord_39 : decode cX7_readWord 39 = .ok (.iadd, 1) := by decide +kernel
theorem dX7_readWord_40 : decode cX7_readWord 40 = .ok (.putfield 22, 3) := by decide +kernel
theorem dX7_readWord_43 : decode cX7_readWord 43 = .ok (.goto (-35), 3) := by decide +kernel
theorem dX7_readWord_46 : decode cX7_readWord 46 = .ok (.aload_n 0, 1) := by decide +kernel
theorem dX7_readWord_47 : decode cX7_readWord 47 = .ok (.getfield 22, 3) := by decide +kernel
theorem dX7_readWord_50 : decode cX7_readWord 50 = .ok (.aload_n 0, 1) := by decide +kernel
theorem dX7_readWord_51 : decode cX7_readWord 51 = .ok (.getfield 15, 3) := by decide +kernel
theorem dX7_readWord_54 : decode cX7_readWord 54 = .ok (.if_icmp .lt 17, 3) := by decide +kernel
theorem dX7_readWord_57 : decode cX7_readWord 57 = .ok (.aload_n 0, 1) := by decide +kernel
theorem dX7_readWord_58 : decode cX7_readWord 58 = .ok (.iconst 0, 1) := by decide +kernel
theorem dX7_readWord_59 : decode cX7_readWord 59 = .ok (.putfield 19, 3) := by decide +kernel
theorem dX7_readWord_62 : decode cX7_readWord 62 = .ok (.aload_n 0, 1) := by decide +kernel
theorem dX7_readWord_63 : decode cX7_readWord 63 = .ok (.aload_n 0, 1) := by decide +kernel
theorem dX7_readWord_64 : decode cX7_readWord 64 = .ok (.getfield 22, 3) := by decide +kernel
theorem dX7_readWord_67 : decode cX7_readWord 67 = .ok (.putfield 25, 3) := by decide +kernel
theorem dX7_readWord_70 : decode cX7_readWord 70 = .ok (.return_, 1) := by decide +kernel
theorem dX7_readWord_71 : decode cX7_readWord 71 = .ok (.aload_n 0, 1) := by decide +kernel
theorem dX7_readWord_72 : decode cX7_readWord 72 = .ok (.aload_n 0, 1) := by decide +kernel
theorem dX7_readWord_73 : decode cX7_readWord 73 = .ok (.aload_n 0, 1) := by decide +kernel
theorem dX7_readWord_74 : decode cX7_readWord 74 = .ok (.getfield 22, 3) := by decide +kernel
theorem dX7_readWord_77 : decode cX7_readWord 77 = .ok (.invokevirtual 99, 3) := by decide +kernel
theorem dX7_readWord_80 : decode cX7_readWord 80 = .ok (.putfield 19, 3) := by decide +kernel
theorem dX7_readWord_83 : decode cX7_readWord 83 = .ok (.aload_n 0, 1) := by decide +kernel
theorem dX7_readWord_84 : decode cX7_readWord 84 = .ok (.aload_n 0, 1) := by decide +kernel
theorem dX7_readWord_85 : decode cX7_readWord 85 = .ok (.getfield 22, 3) := by decide +kernel
theorem dX7_readWord_88 : decode cX7_readWord 88 = .ok (.iconst 1, 1) := by decide +kernel
theorem dX7_readWord_89 : decode cX7_readWord 89 = .ok (.iadd, 1) := by decide +kernel
theorem dX7_readWord_90 : decode cX7_readWord 90 = .ok (.putfield 25, 3) := by decide +kernel
theorem dX7_readWord_93 : decode cX7_readWord 93 = .ok (.aload_n 0, 1) := by decide +kernel
theorem dX7_readWord_94 : decode cX7_readWord 94 = .ok (.getfield 19, 3) := by decide +kernel
theorem dX7_readWord_97 : decode cX7_readWord 97 = .ok (.iconst 3, 1) := by decide +kernel
theorem dX7_readWord_98 : decode cX7_readWord 98 = .ok (.if_icmp .eq 42, 3) := by decide +kernel
theorem dX7_readWord_101 : decode cX7_readWord 101 = .ok (.aload_n 0, 1) := by decide +kernel
theorem dX7_readWord_102 : decode cX7_readWord 102 = .ok (.getfield 25, 3) := by decide +kernel
theorem dX7_readWord_105 : decode cX7_readWord 105 = .ok (.aload_n 0, 1) := by decide +kernel
theorem dX7_readWord_106 : decode cX7_readWord 106 = .ok (.getfield 15, 3) := by decide +kernel
theorem dX7_readWord_109 : decode cX7_readWord 109 = .ok (.if_icmp .ge 31, 3) := by decide +kernel
theorem dX7_readWord_112 : decode cX7_readWord 112 = .ok (.aload_n 0, 1) := by decide +kernel
theorem dX7_readWord_113 : decode cX7_readWord 113 = .ok (.aload_n 0, 1) := by decide +kernel
theorem dX7_readWord_114 : decode cX7_readWord 114 = .ok (.getfield 25, 3) := by decide +kernel
theorem dX7_readWord_117 : decode cX7_readWord 117 = .ok (.invokevirtual 99, 3) := by decide +kernel
theorem dX7_readWord_120 : decode cX7_readWord 120 = .ok (.aload_n 0, 1) := by decide +kernel
theorem dX7_readWord_121 : decode cX7_readWord 121 = .ok (.getfield 19, 3) := by decide +kernel
theorem dX7_readWord_124 : decode cX7_readWord 124 = .ok (.if_icmp .ne 16, 3) := by decide +kernel
theorem dX7_readWord_127 : decode cX7_readWord 127 = .ok (.aload_n 0, 1) := by decide +kernel
theorem dX7_readWord_128 : decode cX7_readWord 128 = .ok (.dup, 1) := by decide +kernel
theorem dX7_readWord_129 : decode cX7_readWord 129 = .ok (.getfield 25, 3) := by decide +kernel
theorem dX7_readWord_132 : decode cX7_readWord 132 = .ok (.iconst 1, 1) := by decide +kernel
theorem dX7_readWord_133 : decode cX7_readWord 133 = .ok (.iadd, 1) := by decide +kernel
theorem dX7_readWord_134 : decode cX7_readWord 134 = .ok (.putfield 25, 3) := by decide +kernel
theorem dX7_readWord_137 : decode cX7_readWord 137 = .ok (.goto (-44), 3) := by decide +kernel
theorem dX7_readWord_140 : decode cX7_readWord 140 = .ok (.return_, 1) := by decide +kernel
theorem dX7_sortAt_0 : decode cX7_sortAt 0 = .ok (.aload_n 0, 1) := by decide +kernel
theorem dX7_sortAt_1 : decode cX7_sortAt 1 = .ok (.getfield 9, 3) := by decide +kernel
theorem dX7_sortAt_4 : decode cX7_sortAt 4 = .ok (.iload_n 1, 1) := by decide +kernel
theorem dX7_sortAt_5 : decode cX7_sortAt 5 = .ok (.baload, 1) := by decide +kernel
theorem dX7_sortAt_6 : decode cX7_sortAt 6 = .ok (.bipush 97, 2) := by decide +kernel
theorem dX7_sortAt_8 : decode cX7_sortAt 8 = .ok (.if_icmp .lt 16, 3) := by decide +kernel
theorem dX7_sortAt_11 : decode cX7_sortAt 11 = .ok (.aload_n 0, 1) := by decide +kernel
theorem dX7_sortAt_12 : decode cX7_sortAt 12 = .ok (.getfield 9, 3) := by decide +kernel
theorem dX7_sortAt_15 : decode cX7_sortAt 15 = .ok (.iload_n 1, 1) := by decide +kernel
theorem dX7_sortAt_16 : decode cX7_sortAt 16 = .ok (.baload, 1) := by decide +kernel
theorem dX7_sortAt_17 : decode cX7_sortAt 17 = .ok (.bipush 122, 2) := by decide +kernel
theorem dX7_sortAt_19 : decode cX7_sortAt 19 = .ok (.if_icmp .gt 5, 3) := by decide +kernel
theorem dX7_sortAt_22 : decode cX7_sortAt 22 = .ok (.iconst 1, 1) := by decide +kernel
theorem dX7_sortAt_23 : decode cX7_sortAt 23 = .ok (.ireturn, 1) := by decide +kernel
theorem dX7_sortAt_24 : decode cX7_sortAt 24 = .ok (.aload_n 0, 1) := by decide +kernel
theorem dX7_sortAt_25 : decode cX7_sortAt 25 = .ok (.getfield 9, 3) := by decide +kernel
theorem dX7_sortAt_28 : decode cX7_sortAt 28 = .ok (.iload_n 1, 1) := by decide +kernel
theorem dX7_sortAt_29 : decode cX7_sortAt 29 = .ok (.baload, 1) := by decide +kernel
theorem dX7_sortAt_30 : decode cX7_sortAt 30 = .ok (.bipush 48, 2) := by decide +kernel
theorem dX7_sortAt_32 : decode cX7_sortAt 32 = .ok (.if_icmp .lt 18, 3) := by decide +kernel
theorem dX7_sortAt_35 : decode cX7_sortAt 35 = .ok (.aload_n 0, 1) := by decide +kernel
theorem dX7_sortAt_36 : decode cX7_sortAt 36 = .ok (.getfield 9, 3) := by decide +kernel
theorem dX7_sortAt_39 : decode cX7_sortAt 39 = .ok (.iload_n 1, 1) := by decide +kernel
theorem dX7_sortAt_40 : decode cX7_sortAt 40 = .ok (.baload, 1) := by decide +kernel
theorem dX7_sortAt_41 : decode cX7_sortAt 41 = .ok (.bipush 57, 2) := by decide +kernel
theorem dX7_sortAt_43 : decode cX7_sortAt 43 = .ok (.if_icmp .gt 7, 3) := by decide +kernel
theorem dX7_sortAt_46 : decode cX7_sortAt 46 = .ok (.iconst 2, 1) := by decide +kernel
theorem dX7_sortAt_47 : decode cX7_sortAt 47 = .ok (.goto 4, 3) := by decide +kernel
theorem dX7_sortAt_50 : decode cX7_sortAt 50 = .ok (.iconst 3, 1) := by decide +kernel
theorem dX7_sortAt_51 : decode cX7_sortAt 51 = .ok (.ireturn, 1) := by decide +kernel
theorem dX7_isSemicolon_0 : decode cX7_isSemicolon 0 = .ok (.aload_n 0, 1) := by decide +kernel
theorem dX7_isSemicolon_1 : decode cX7_isSemicolon 1 = .ok (.getfield 19, 3) := by decide +kernel
theorem dX7_isSemicolon_4 : decode cX7_isSemicolon 4 = .ok (.iconst 3, 1) := by decide +kernel
theorem dX7_isSemicolon_5 : decode cX7_isSemicolon 5 = .ok (.if_icmp .ne 21, 3) := by decide +kernel
theorem dX7_isSemicolon_8 : decode cX7_isSemicolon 8 = .ok (.aload_n 0, 1) := by decide +kernel
theorem dX7_isSemicolon_9 : decode cX7_isSemicolon 9 = .ok (.getfield 9, 3) := by decide +kernel
theorem dX7_isSemicolon_12 : decode cX7_isSemicolon 12 = .ok (.aload_n 0, 1) := by decide +kernel
theorem dX7_isSemicolon_13 : decode cX7_isSemicolon 13 = .ok (.getfield 22, 3) := by decide +kernel
theorem dX7_isSemicolon_16 : decode cX7_isSemicolon 16 = .ok (.baload, 1) := by decide +kernel
theorem dX7_isSemicolon_17 : decode cX7_isSemicolon 17 = .ok (.bipush 59, 2) := by decide +kernel
theorem dX7_isSemicolon_19 : decode cX7_isSemicolon 19 = .ok (.if_icmp .ne 7, 3) := by decide +kernel
theorem dX7_isSemicolon_22 : decode cX7_isSemicolon 22 = .ok (.iconst 1, 1) := by decide +kernel
theorem dX7_isSemicolon_23 : decode cX7_isSemicolon 23 = .ok (.goto 4, 3) := by decide +kernel
theorem dX7_isSemicolon_26 : decode cX7_isSemicolon 26 = .ok (.iconst 0, 1) := by decide +kernel
theorem dX7_isSemicolon_27 : decode cX7_isSemicolon 27 = .ok (.ireturn, 1) := by decide +kernel
set_option maxRecDepth 20000 in
theorem ggX7_isName_J0_length_8abf5 : GoodIn wsX7_isName wsJ0_length_8abf5 := goodIn_r _ [9, 10, 11, 12, 13, 8, 14, 15, 16] (by decide +kernel) (by decide +kernel)
set_option maxRecDepth 20000 in
theorem gX7_isName_J0_length_8abf5 : GoodIn wsX7_isName (wsV RX7 102 RJ0 yJ0_length_8abf5 wsJ0_length_8abf5) := goodIn_app (goodIn_of _ (by decide +kernel)) ggX7_isName_J0_length_8abf5
set_option maxRecDepth 20000 in
theorem ggX7_isName_J0_charAt_5068e : GoodIn wsX7_isName wsJ0_charAt_5068e := goodIn_r _ [20, 10, 21, 22, 23, 8, 24, 15, 16, 25, 26, 27, 28, 29, 30, 31, 32, 33, 34, 35, 36, 37, 38, 39, 40, 41, 42, 43, 44, 45, 46, 47, 48, 49, 50, 51, 52, 53] (by decide +kernel) (by decide +kernel)
set_option maxRecDepth 20000 in
theorem gX7_isName_J0_charAt_5068e : GoodIn wsX7_isName (wsV RX7 107 RJ0 yJ0_charAt_5068e wsJ0_charAt_5068e) := goodIn_app (goodIn_of _ (by decide +kernel)) ggX7_isName_J0_charAt_5068e
theorem dX7_isName_0 : decode cX7_isName 0 = .ok (.aload_n 0, 1) := by decide +kernel
theorem dX7_isName_1 : decode cX7_isName 1 = .ok (.getfield 19, 3) := by decide +kernel
theorem dX7_isName_4 : decode cX7_isName 4 = .ok (.iconst 1, 1) := by decide +kernel
theorem dX7_isName_5 : decode cX7_isName 5 = .ok (.if_icmp .ne 19, 3) := by decide +kernel
theorem dX7_isName_8 : decode cX7_isName 8 = .ok (.aload_n 0, 1) := by decide +kernel
theorem dX7_isName_9 : decode cX7_isName 9 = .ok (.getfield 25, 3) := by decide +kernel
theorem dX7_isName_12 : decode cX7_isName 12 = .ok (.aload_n 0, 1) := by decide +kernel
theorem dX7_isName_13 : decode cX7_isName 13 = .ok (.getfield 22, 3) := by decide +kernel
theorem dX7_isName_16 : decode cX7_isName 16 = .ok (.isub, 1) := by decide +kernel
theorem dX7_isName_17 : decode cX7_isName 17 = .ok (.aload_n 1, 1) := by decide +kernel
theorem dX7_isName_18 : decode cX7_isName 18 = .ok (.invokevirtual 102, 3) := by decide +kernel
theorem dX7_isName_21 : decode cX7_isName 21 = .ok (.if_icmp .eq 5, 3) := by decide +kernel
theorem dX7_isName_24 : decode cX7_isName 24 = .ok (.iconst 0, 1) := by decide +kernel
theorem dX7_isName_25 : decode cX7_isName 25 = .ok (.ireturn, 1) := by decide +kernel
theorem dX7_isName_26 : decode cX7_isName 26 = .ok (.iconst 0, 1) := by decide +kernel
theorem dX7_isName_27 : decode cX7_isName 27 = .ok (.istore_n 2, 1) := by decide +kernel
theorem dX7_isName_28 : decode cX7_isName 28 = .ok (.iload_n 2, 1) := by decide +kernel
theorem dX7_isName_29 : decode cX7_isName 29 = .ok (.aload_n 1, 1) := by decide +kernel
theorem dX7_isName_30 : decode cX7_isName 30 = .ok (.invokevirtual 102, 3) := by decide +kernel
theorem dX7_isName_33 : decode cX7_isName 33 = .ok (.if_icmp .ge 30, 3) := by decide +kernel
theorem dX7_isName_36 : decode cX7_isName 36 = .ok (.aload_n 0, 1) := by decide +kernel
theorem dX7_isName_37 : decode cX7_isName 37 = .ok (.getfield 9, 3) := by decide +kernel
theorem dX7_isName_40 : decode cX7_isName 40 = .ok (.aload_n 0, 1) := by decide +kernel
theorem dX7_isName_41 : decode cX7_isName 41 = .ok (.getfield 22, 3) := by decide +kernel
theorem dX7_isName_44 : decode cX7_isName 44 = .ok (.iload_n 2, 1) := by decide +kernel
theorem dX7_isName_45 : decode cX7_isName 45 = .ok (.iadd, 1) := by decide +kernel
theorem dX7_isName_46 : decode cX7_isName 46 = .ok (.baload, 1) := by decide +kernel
theorem dX7_isName_47 : decode cX7_isName 47 = .ok (.aload_n 1, 1) := by decide +kernel
theorem dX7_isName_48 : decode cX7_isName 48 = .ok (.iload_n 2, 1) := by decide +kernel
theorem dX7_isName_49 : decode cX7_isName 49 = .ok (.invokevirtual 107, 3) := by decide +kernel
theorem dX7_isName_52 : decode cX7_isName 52 = .ok (.if_icmp .eq 5, 3) := by decide +kernel
theorem dX7_isName_55 : decode cX7_isName 55 = .ok (.iconst 0, 1) := by decide +kernel
theorem dX7_isName_56 : decode cX7_isName 56 = .ok (.ireturn, 1) := by decide +kernel
theorem dX7_isName_57 : decode cX7_isName 57 = .ok (.iinc 2 1, 3) := by decide +kernel
theorem dX7_isName_60 : decode cX7_isName 60 = .ok (.goto (-32), 3) := by decide +kernel
theorem dX7_isName_63 : decode cX7_isName 63 = .ok (.iconst 1, 1) := by decide +kernel
theorem dX7_isName_64 : decode cX7_isName 64 = .ok (.ireturn, 1) := by decide +kernel
set_option maxRecDepth 20000 in
theorem ggX7_kindNamed_X7_isName : GoodIn wsX7_kindNamed wsX7_isName := goodIn_r _ [5, 6, 7, 8, 9, 10, 11, 12, 13, 14, 15, 16, 17, 18, 19, 20, 21, 22, 23, 24, 25, 26, 27, 28, 29, 30, 31, 32, 33, 34, 35, 36, 37, 38, 39, 40, 41, 42, 43, 44, 45, 46, 47, 48, 49, 50, 51, 52, 53, 54, 55, 56, 57, 58, 59, 60, 61, 62, 63] (by decide +kernel) (by decide +kernel)
set_option maxRecDepth 20000 in
theorem gX7_kindNamed_X7_isName : GoodIn wsX7_kindNamed (wsV RX7 50 RX7 yX7_isName wsX7_isName) := goodIn_app (goodIn_of _ (by decide +kernel)) ggX7_kindNamed_X7_isName
theorem dX7_kindNamed_0 : decode cX7_kindNamed 0 = .ok (.aload_n 0, 1) := by decide +kernel
theorem dX7_kindNamed_1 : decode cX7_kindNamed 1 = .ok (.ldc 111, 2) := by decide +kernel
theorem dX7_kindNamed_3 : decode cX7_kindNamed 3 = .ok (.invokevirtual 50, 3) := by decide +kernel
theorem dX7_kindNamed_6 : decode cX7_kindNamed 6 = .ok (.ifCond .eq 5, 3) := by decide +kernel
theorem dX7_kindNamed_9 : decode cX7_kindNamed 9 = .ok (.iconst 0, 1) := by decide +kernel
theorem dX7_kindNamed_10 : decode cX7_kindNamed 10 = .ok (.ireturn, 1) := by decide +kernel
theorem dX7_kindNamed_11 : decode cX7_kindNamed 11 = .ok (.aload_n 0, 1) := by decide +kernel
theorem dX7_kindNamed_12 : decode cX7_kindNamed 12 = .ok (.ldc 113, 2) := by decide +kernel
theorem dX7_kindNamed_14 : decode cX7_kindNamed 14 = .ok (.invokevirtual 50, 3) := by decide +kernel
theorem dX7_kindNamed_17 : decode cX7_kindNamed 17 = .ok (.ifCond .eq 5, 3) := by decide +kernel
theorem dX7_kindNamed_20 : decode cX7_kindNamed 20 = .ok (.iconst 1, 1) := by decide +kernel
theorem dX7_kindNamed_21 : decode cX7_kindNamed 21 = .ok (.ireturn, 1) := by decide +kernel
theorem dX7_kindNamed_22 : decode cX7_kindNamed 22 = .ok (.aload_n 0, 1) := by decide +kernel
theorem dX7_kindNamed_23 : decode cX7_kindNamed 23 = .ok (.ldc 115, 2) := by decide +kernel
theorem dX7_kindNamed_25 : decode cX7_kindNamed 25 = .ok (.invokevirtual 50, 3) := by decide +kernel
theorem dX7_kindNamed_28 : decode cX7_kindNamed 28 = .ok (.ifCond .eq 5, 3) := by decide +kernel
theorem dX7_kindNamed_31 : decode cX7_kindNamed 31 = .ok (.iconst 2, 1) := by decide +kernel
theorem dX7_kindNamed_32 : decode cX7_kindNamed 32 = .ok (.ireturn, 1) := by decide +kernel
theorem dX7_kindNamed_33 : decode cX7_kindNamed 33 = .ok (.aload_n 0, 1) := by decide +kernel
theorem dX7_kindNamed_34 : decode cX7_kindNamed 34 = .ok (.ldc 117, 2) := by decide +kernel
theorem dX7_kindNamed_36 : decode cX7_kindNamed 36 = .ok (.invokevirtual 50, 3) := by decide +kernel
theorem dX7_kindNamed_39 : decode cX7_kindNamed 39 = .ok (.ifCond .eq 5, 3) := by decide +kernel
theorem dX7_kindNamed_42 : decode cX7_kindNamed 42 = .ok (.iconst 3, 1) := by decide +kernel
theorem dX7_kindNamed_43 : decode cX7_kindNamed 43 = .ok (.ireturn, 1) := by decide +kernel
theorem dX7_kindNamed_44 : decode cX7_kindNamed 44 = .ok (.aload_n 0, 1) := by decide +kernel
theorem dX7_kindNamed_45 : decode cX7_kindNamed 45 = .ok (.ldc 119, 2) := by decide +kernel
theorem dX7_kindNamed_47 : decode cX7_kindNamed 47 = .ok (.invokevirtual 50, 3) := by decide +kernel
theorem dX7_kindNamed_50 : decode cX7_kindNamed 50 = .ok (.ifCond .eq 5, 3) := by decide +kernel
theorem dX7_kindNamed_53 : decode cX7_kindNamed 53 = .ok (.iconst 4, 1) := by decide +kernel
theorem dX7_kindNamed_54 : decode cX7_kindNamed 54 = .ok (.ireturn, 1) := by decide +kernel
theorem dX7_kindNamed_55 : decode cX7_kindNamed 55 = .ok (.aload_n 0, 1) := by decide +kernel
theorem dX7_kindNamed_56 : decode cX7_kindNamed 56 = .ok (.ldc 121, 2) := by decide +kernel
theorem dX7_kindNamed_58 : decode cX7_kindNamed 58 = .ok (.invokevirtual 50, 3) := by decide +kernel
theorem dX7_kindNamed_61 : decode cX7_kindNamed 61 = .ok (.ifCond .eq 7, 3) := by decide +kernel
theorem dX7_kindNamed_64 : decode cX7_kindNamed 64 = .ok (.iconst 5, 1) := by decide +kernel
theorem dX7_kindNamed_65 : decode cX7_kindNamed 65 = .ok (.goto 4, 3) := by decide +kernel
theorem dX7_kindNamed_68 : decode cX7_kindNamed 68 = .ok (.iconst (-1), 1) := by decide +kernel
theorem dX7_kindNamed_69 : decode cX7_kindNamed 69 = .ok (.ireturn, 1) := by decide +kernel
set_option maxRecDepth 20000 in
theorem ggX7_lawNamed_X7_isName : GoodIn wsX7_lawNamed wsX7_isName := goodIn_r _ [5, 6, 7, 8, 9, 10, 11, 12, 13, 14, 15, 16, 17, 18, 19, 20, 21, 22, 23, 24, 25, 26, 27, 28, 29, 30, 31, 32, 33, 34, 35, 36, 37, 38, 39, 40, 41, 42, 43, 44, 45, 46, 47, 48, 49, 50, 51, 52, 53, 54, 55, 56, 57, 58, 59, 60, 61, 62, 63] (by decide +kernel) (by decide +kernel)
set_option maxRecDepth 20000 in
theorem gX7_lawNamed_X7_isName : GoodIn wsX7_lawNamed (wsV RX7 50 RX7 yX7_isName wsX7_isName) := goodIn_app (goodIn_of _ (by decide +kernel)) ggX7_lawNamed_X7_isName
theorem dX7_lawNamed_0 : decode cX7_lawNamed 0 = .ok (.aload_n 0, 1) := by decide +kernel
theorem dX7_lawNamed_1 : decode cX7_lawNamed 1 = .ok (.ldc 123, 2) := by decide +kernel
theorem dX7_lawNamed_3 : decode cX7_lawNamed 3 = .ok (.invokevirtual 50, 3) := by decide +kernel
theorem dX7_lawNamed_6 : decode cX7_lawNamed 6 = .ok (.ifCond .eq 5, 3) := by decide +kernel
theorem dX7_lawNamed_9 : decode cX7_lawNamed 9 = .ok (.iconst 0, 1) := by decide +kernel
theorem dX7_lawNamed_10 : decode cX7_lawNamed 10 = .ok (.ireturn, 1) := by decide +kernel
theorem dX7_lawNamed_11 : decode cX7_lawNamed 11 = .ok (.aload_n 0, 1) := by decide +kernel
theorem dX7_lawNamed_12 : decode cX7_lawNamed 12 = .ok (.ldc 125, 2) := by decide +kernel
theorem dX7_lawNamed_14 : decode cX7_lawNamed 14 = .ok (.invokevirtual 50, 3) := by decide +kernel
theorem dX7_lawNamed_17 : decode cX7_lawNamed 17 = .ok (.ifCond .eq 5, 3) := by decide +kernel
theorem dX7_lawNamed_20 : decode cX7_lawNamed 20 = .ok (.iconst 1, 1) := by decide +kernel
theorem dX7_lawNamed_21 : decode cX7_lawNamed 21 = .ok (.ireturn, 1) := by decide +kernel
theorem dX7_lawNamed_22 : decode cX7_lawNamed 22 = .ok (.aload_n 0, 1) := by decide +kernel
theorem dX7_lawNamed_23 : decode cX7_lawNamed 23 = .ok (.ldc 127, 2) := by decide +kernel
theorem dX7_lawNamed_25 : decode cX7_lawNamed 25 = .ok (.invokevirtual 50, 3) := by decide +kernel
theorem dX7_lawNamed_28 : decode cX7_lawNamed 28 = .ok (.ifCond .eq 5, 3) := by decide +kernel
theorem dX7_lawNamed_31 : decode cX7_lawNamed 31 = .ok (.iconst 2, 1) := by decide +kernel
theorem dX7_lawNamed_32 : decode cX7_lawNamed 32 = .ok (.ireturn, 1) := by decide +kernel
theorem dX7_lawNamed_33 : decode cX7_lawNamed 33 = .ok (.aload_n 0, 1) := by decide +kernel
theorem dX7_lawNamed_34 : decode cX7_lawNamed 34 = .ok (.ldc 129, 2) := by decide +kernel
theorem dX7_lawNamed_36 : decode cX7_lawNamed 36 = .ok (.invokevirtual 50, 3) := by decide +kernel
theorem dX7_lawNamed_39 : decode cX7_lawNamed 39 = .ok (.ifCond .eq 7, 3) := by decide +kernel
theorem dX7_lawNamed_42 : decode cX7_lawNamed 42 = .ok (.iconst 3, 1) := by decide +kernel
theorem dX7_lawNamed_43 : decode cX7_lawNamed 43 = .ok (.goto 4, 3) := by decide +kernel
theorem dX7_lawNamed_46 : decode cX7_lawNamed 46 = .ok (.iconst (-1), 1) := by decide +kernel
theorem dX7_lawNamed_47 : decode cX7_lawNamed 47 = .ok (.ireturn, 1) := by decide +kernel
set_option maxRecDepth 20000 in
theorem ggX8_init_X8_clear : GoodIn wsX8_init wsX8_clear := goodIn_r _ [18, 5, 6, 7, 19, 20, 21, 22, 23, 24, 25, 26, 27, 28, 29, 30, 31] (by decide +kernel) (by decide +kernel)
set_option maxRecDepth 20000 in
theorem gX8_init_X8_clear : GoodIn wsX8_init (wsV RX8 41 RX8 yX8_clear wsX8_clear) := goodIn_app (goodIn_of _ (by decide +kernel)) ggX8_init_X8_clear
theorem dX8_init_0 : decode cX8_init 0 = .ok (.aload_n 0, 1) := by decide +kernel
theorem dX8_init_1 : decode cX8_init 1 = .ok (.invokespecial 3, 3) := by decide +kernel
theorem dX8_init_4 : decode cX8_init 4 = .ok (.aload_n 0, 1) := by decide +kernel
theorem dX8_init_5 : decode cX8_init 5 = .ok (.iconst 4, 1) := by decide +kernel
theorem dX8_init_6 : decode cX8_init 6 = .ok (.newarray .int, 2) := by decide +kernel
theorem dX8_init_8 : decode cX8_init 8 = .ok (.putfield 9, 3) := by decide +kernel
theorem dX8_init_11 : decode cX8_init 11 = .ok (.aload_n 0, 1) := by decide +kernel
theorem dX8_init_12 : decode cX8_init 12 = .ok (.bipush 6, 2) := by decide +kernel
theorem dX8_init_14 : decode cX8_init 14 = .ok (.newarray .int, 2) := by decide +kernel
theorem dX8_init_16 : decode cX8_init 16 = .ok (.putfield 15, 3) := by decide +kernel
theorem dX8_init_19 : decode cX8_init 19 = .ok (.aload_n 0, 1) := by decide +kernel
theorem dX8_init_20 : decode cX8_init 20 = .ok (.bipush 6, 2) := by decide +kernel
theorem dX8_init_22 : decode cX8_init 22 = .ok (.newarray .int, 2) := by decide +kernel
theorem dX8_init_24 : decode cX8_init 24 = .ok (.putfield 18, 3) := by decide +kernel
theorem dX8_init_27 : decode cX8_init 27 = .ok (.aload_n 0, 1) := by decide +kernel
theorem dX8_init_28 : decode cX8_init 28 = .ok (.bipush 8, 2) := by decide +kernel
theorem dX8_init_30 : decode cX8_init 30 = .ok (.newarray .int, 2) := by decide +kernel
theorem dX8_init_32 : decode cX8_init 32 = .ok (.putfield 21, 3) := by decide +kernel
theorem dX8_init_35 : decode cX8_init 35 = .ok (.aload_n 0, 1) := by decide +kernel
theorem dX8_init_36 : decode cX8_init 36 = .ok (.bipush 8, 2) := by decide +kernel
theorem dX8_init_38 : decode cX8_init 38 = .ok (.newarray .int, 2) := by decide +kernel
theorem dX8_init_40 : decode cX8_init 40 = .ok (.putfield 24, 3) := by decide +kernel
theorem dX8_init_43 : decode cX8_init 43 = .ok (.aload_n 0, 1) := by decide +kernel
theorem dX8_init_44 : decode cX8_init 44 = .ok (.bipush 8, 2) := by decide +kernel
theorem dX8_init_46 : decode cX8_init 46 = .ok (.newarray .int, 2) := by decide +kernel
theorem dX8_init_48 : decode cX8_init 48 = .ok (.putfield 27, 3) := by decide +kernel
theorem dX8_init_51 : decode cX8_init 51 = .ok (.aload_n 0, 1) := by decide +kernel
theorem dX8_init_52 : decode cX8_init 52 = .ok (.bipush 8, 2) := by decide +kernel
theorem dX8_init_54 : decode cX8_init 54 = .ok (.newarray .int, 2) := by decide +kernel
theorem dX8_init_56 : decode cX8_init 56 = .ok (.putfield 30, 3) := by decide +kernel
theorem dX8_init_59 : decode cX8_init 59 = .ok (.aload_n 0, 1) := by decide +kernel
theorem dX8_init_60 : decode cX8_init 60 = .ok (.iconst 1, 1) := by decide +kernel
theorem dX8_init_61 : decode cX8_init 61 = .ok (.putfield 33, 3) := by decide +kernel
theorem dX8_init_64 : decode cX8_init 64 = .ok (.aload_n 0, 1) := by decide +kernel
theorem dX8_init_65 : decode cX8_init 65 = .ok (.aload_n 1, 1) := by decide +kernel
theorem dX8_init_66 : decode cX8_init 66 = .ok (.putfield 37, 3) := by decide +kernel
theorem dX8_init_69 : decode cX8_init 69 = .ok (.aload_n 0, 1) := by decide +kernel
theorem dX8_init_70 : decode cX8_init 70 = .ok (.invokevirtual 41, 3) := by decide +kernel
theorem dX8_init_73 : decode cX8_init 73 = .ok (.return_, 1) := by decide +kernel
theorem dX8_clear_0 : decode cX8_clear 0 = .ok (.iconst 0, 1) := by decide +kernel
theorem dX8_clear_1 : decode cX8_clear 1 = .ok (.istore_n 1, 1) := by decide +kernel
theorem dX8_clear_2 : decode cX8_clear 2 = .ok (.iload_n 1, 1) := by decide +kernel
theorem dX8_clear_3 : decode cX8_clear 3 = .ok (.iconst 4, 1) := by decide +kernel
theorem dX8_clear_4 : decode cX8_clear 4 = .ok (.if_icmp .ge 20, 3) := by decide +kernel
theorem dX8_clear_7 : decode cX8_clear 7 = .ok (.aload_n 0, 1) := by decide +kernel
theorem dX8_clear_8 : decode cX8_clear 8 = .ok (.getfield 9, 3) := by decide +kernel
theorem dX8_clear_11 : decode cX8_clear 11 = .ok (.iload_n 1, 1) := by decide +kernel
theorem dX8_clear_12 : decode cX8_clear 12 = .ok (.getstatic 44, 3) := by decide +kernel
theorem dX8_clear_15 : decode cX8_clear 15 = .ok (.iload_n 1, 1) := by decide +kernel
theorem dX8_clear_16 : decode cX8_clear 16 = .ok (.iaload, 1) := by decide +kernel
theorem dX8_clear_17 : decode cX8_clear 17 = .ok (.iastore, 1) := by decide +kernel
theorem dX8_clear_18 : decode cX8_clear 18 = .ok (.iinc 1 1, 3) := by decide +kernel
theorem dX8_clear_21 : decode cX8_clear 21 = .ok (.goto (-19), 3) := by decide +kernel
theorem dX8_clear_24 : decode cX8_clear 24 = .ok (.iconst 0, 1) := by decide +kernel
theorem dX8_clear_25 : decode cX8_clear 25 = .ok (.istore_n 1, 1) := by decide +kernel
theorem dX8_clear_26 : decode cX8_clear 26 = .ok (.iload_n 1, 1) := by decide +kernel
theorem dX8_clear_27 : decode cX8_clear 27 = .ok (.bipush 6, 2) := by decide +kernel
theorem dX8_clear_29 : decode cX8_clear 29 = .ok (.if_icmp .ge 23, 3) := by decide +kernel
theorem dX8_clear_32 : decode cX8_clear 32 = .ok (.aload_n 0, 1) := by decide +kernel
theorem dX8_clear_33 : decode cX8_clear 33 = .ok (.getfield 15, 3) := by decide +kernel
theorem dX8_clear_36 : decode cX8_clear 36 = .ok (.iload_n 1, 1) := by decide +kernel
theorem dX8_clear_37 : decode cX8_clear 37 = .ok (.iconst 2, 1) := by decide +kernel
theorem dX8_clear_38 : decode cX8_clear 38 = .ok (.iastore, 1) := by decide +kernel
theorem dX8_clear_39 : decode cX8_clear 39 = .ok (.aload_n 0, 1) := by decide +kernel
theorem dX8_clear_40 : decode cX8_clear 40 = .ok (.getfield 18, 3) := by decide +kernel
theorem dX8_clear_43 : decode cX8_clear 43 = .ok (.iload_n 1, 1) := by decide +kernel
theorem dX8_clear_44 : decode cX8_clear 44 = .ok (.iconst 4, 1) := by decide +kernel
theorem dX8_clear_45 : decode cX8_clear 45 = .ok (.iastore, 1) := by decide +kernel
theorem dX8_clear_46 : decode cX8_clear 46 = .ok (.iinc 1 1, 3) := by decide +kernel
theorem dX8_clear_49 : decode cX8_clear 49 = .ok (.goto (-23), 3) := by decide +kernel
theorem dX8_clear_52 : decode cX8_clear 52 = .ok (.aload_n 0, 1) := by decide +kernel
theorem dX8_clear_53 : decode cX8_clear 53 = .ok (.iconst 0, 1) := by decide +kernel
theorem dX8_clear_54 : decode cX8_clear 54 = .ok (.putfield 47, 3) := by decide +kernel
theorem dX8_clear_57 : decode cX8_clear 57 = .ok (.aload_n 0, 1) := by decide +kernel
theorem dX8_clear_58 : decode cX8_clear 58 = .ok (.iconst 0, 1) := by decide +kernel
theorem dX8_clear_59 : decode cX8_clear 59 = .ok (.putfield 50, 3) := by decide +kernel
theorem dX8_clear_62 : decode cX8_clear 62 = .ok (.return_, 1) := by decide +kernel
set_option maxRecDepth 20000 in
theorem ggX8_copyFrom_X8_copyGoer : GoodIn wsX8_copyFrom wsX8_copyGoer := goodIn_r _ [11, 12, 13, 14, 15, 16, 17, 18, 19, 20, 21, 22, 23, 24, 25, 26] (by decide +kernel) (by decide +kernel)
set_option maxRecDepth 20000 in
theorem gX8_copyFrom_X8_copyGoer : GoodIn wsX8_copyFrom (wsV RX8 53 RX8 yX8_copyGoer wsX8_copyGoer) := goodIn_app (goodIn_of _ (by decide +kernel)) ggX8_copyFrom_X8_copyGoer
theorem dX8_copyFrom_0 : decode cX8_copyFrom 0 = .ok (.iconst 0, 1) := by decide +kernel
theorem dX8_copyFrom_1 : decode cX8_copyFrom 1 = .ok (.istore_n 2, 1) := by decide +kernel
theorem dX8_copyFrom_2 : decode cX8_copyFrom 2 = .ok (.iload_n 2, 1) := by decide +kernel
theorem dX8_copyFrom_3 : decode cX8_copyFrom 3 = .ok (.iconst 4, 1) := by decide +kernel
theorem dX8_copyFrom_4 : decode cX8_copyFrom 4 = .ok (.if_icmp .ge 21, 3) := by decide +kernel
theorem dX8_copyFrom_7 : decode cX8_copyFrom 7 = .ok (.aload_n 0, 1) := by decide +kernel
theorem dX8_copyFrom_8 : decode cX8_copyFrom 8 = .ok (.getfield 9, 3) := by decide +kernel
theorem dX8_copyFrom_11 : decode cX8_copyFrom 11 = .ok (.iload_n 2, 1) := by decide +kernel
theorem dX8_copyFrom_12 : decode cX8_copyFrom 12 = .ok (.aload_n 1, 1) := by decide +kernel
theorem dX8_copyFrom_13 : decode cX8_copyFrom 13 = .ok (.getfield 9, 3) := by decide +kernel
theorem dX8_copyFrom_16 : decode cX8_copyFrom 16 = .ok (.iload_n 2, 1) := by decide +kernel
theorem dX8_copyFrom_17 : decode cX8_copyFrom 17 = .ok (.iaload, 1) := by decide +kernel
theorem dX8_copyFrom_18 : decode cX8_copyFrom 18 = .ok (.iastore, 1) := by decide +kernel
theorem dX8_copyFrom_19 : decode cX8_copyFrom 19 = .ok (.iinc 2 1, 3) := by decide +kernel
theorem dX8_copyFrom_22 : decode cX8_copyFrom 22 = .ok (.goto (-20), 3) := by decide +kernel
theorem dX8_copyFrom_25 : decode cX8_copyFrom 25 = .ok (.iconst 0, 1) := by decide +kernel
theorem dX8_copyFrom_26 : decode cX8_copyFrom 26 = .ok (.istore_n 2, 1) := by decide +kernel
theorem dX8_copyFrom_27 : decode cX8_copyFrom 27 = .ok (.iload_n 2, 1) := by decide +kernel
theorem dX8_copyFrom_28 : decode cX8_copyFrom 28 = .ok (.bipush 6, 2) := by decide +kernel
theorem dX8_copyFrom_30 : decode cX8_copyFrom 30 = .ok (.if_icmp .ge 33, 3) := by decide +kernel
theorem dX8_copyFrom_33 : decode cX8_copyFrom 33 = .ok (.aload_n 0, 1) := by decide +kernel
theorem dX8_copyFrom_34 : decode cX8_copyFrom 34 = .ok (.getfield 15, 3) := by decide +kernel
theorem dX8_copyFrom_37 : decode cX8_copyFrom 37 = .ok (.iload_n 2, 1) := by decide +kernel
theorem dX8_copyFrom_38 : decode cX8_copyFrom 38 = .ok (.aload_n 1, 1) := by decide +kernel
theorem dX8_copyFrom_39 : decode cX8_copyFrom 39 = .ok (.getfield 15, 3) := by decide +kernel
theorem dX8_copyFrom_42 : decode cX8_copyFrom 42 = .ok (.iload_n 2, 1) := by decide +kernel
theorem dX8_copyFrom_43 : decode cX8_copyFrom 43 = .ok (.iaload, 1) := by decide +kernel
theorem dX8_copyFrom_44 : decode cX8_copyFrom 44 = .ok (.iastore, 1) := by decide +kernel
theorem dX8_copyFrom_45 : decode cX8_copyFrom 45 = .ok (.aload_n 0, 1) := by decide +kernel
theorem dX8_copyFrom_46 : decode cX8_copyFrom 46 = .ok (.getfield 18, 3) := by decide +kernel
theorem dX8_copyFrom_49 : decode cX8_copyFrom 49 = .ok (.iload_n 2, 1) := by decide +kernel
theorem dX8_copyFrom_50 : decode cX8_copyFrom 50 = .ok (.aload_n 1, 1) := by decide +kernel
theorem dX8_copyFrom_51 : decode cX8_copyFrom 51 = .ok (.getfield 18, 3) := by decide +kernel
theorem dX8_copyFrom_54 : decode cX8_copyFrom 54 = .ok (.iload_n 2, 1) := by decide +kernel
theorem dX8_copyFrom_55 : decode cX8_copyFrom 55 = .ok (.iaload, 1) := by decide +kernel
theorem dX8_copyFrom_56 : decode cX8_copyFrom 56 = .ok (.iastore, 1) := by decide +kernel
theorem dX8_copyFrom_57 : decode cX8_copyFrom 57 = .ok (.iinc 2 1, 3) := by decide +kernel
theorem dX8_copyFrom_60 : decode cX8_copyFrom 60 = .ok (.goto (-33), 3) := by decide +kernel
theorem dX8_copyFrom_63 : decode cX8_copyFrom 63 = .ok (.aload_n 0, 1) := by decide +kernel
theorem dX8_copyFrom_64 : decode cX8_copyFrom 64 = .ok (.aload_n 1, 1) := by decide +kernel
theorem dX8_copyFrom_65 : decode cX8_copyFrom 65 = .ok (.getfield 47, 3) := by decide +kernel
theorem dX8_copyFrom_68 : decode cX8_copyFrom 68 = .ok (.putfield 47, 3) := by decide +kernel
theorem dX8_copyFrom_71 : decode cX8_copyFrom 71 = .ok (.iconst 0, 1) := by decide +kernel
theorem dX8_copyFrom_72 : decode cX8_copyFrom 72 = .ok (.istore_n 2, 1) := by decide +kernel
theorem dX8_copyFrom_73 : decode cX8_copyFrom 73 = .ok (.iload_n 2, 1) := by decide +kernel
theorem dX8_copyFrom_74 : decode cX8_copyFrom 74 = .ok (.aload_n 0, 1) := by decide +kernel
theorem dX8_copyFrom_75 : decode cX8_copyFrom 75 = .ok (.getfield 47, 3) := by decide +kernel
theorem dX8_copyFrom_78 : decode cX8_copyFrom 78 = .ok (.if_icmp .ge 15, 3) := by decide +kernel
theorem dX8_copyFrom_81 : decode cX8_copyFrom 81 = .ok (.aload_n 0, 1) := by decide +kernel
theorem dX8_copyFrom_82 : decode cX8_copyFrom 82 = .ok (.aload_n 1, 1) := by decide +kernel
theorem dX8_copyFrom_83 : decode cX8_copyFrom 83 = .ok (.iload_n 2, 1) := by decide +kernel
theorem dX8_copyFrom_84 : decode cX8_copyFrom 84 = .ok (.invokevirtual 53, 3) := by decide +kernel
theorem dX8_copyFrom_87 : decode cX8_copyFrom 87 = .ok (.iinc 2 1, 3) := by decide +kernel
theorem dX8_copyFrom_90 : decode cX8_copyFrom 90 = .ok (.goto (-17), 3) := by decide +kernel
theorem dX8_copyFrom_93 : decode cX8_copyFrom 93 = .ok (.aload_n 0, 1) := by decide +kernel
theorem dX8_copyFrom_94 : decode cX8_copyFrom 94 = .ok (.aload_n 1, 1) := by decide +kernel
theorem dX8_copyFrom_95 : decode cX8_copyFrom 95 = .ok (.getfield 50, 3) := by decide +kernel
theorem dX8_copyFrom_98 : decode cX8_copyFrom 98 = .ok (.putfield 50, 3) := by decide +kernel
theorem dX8_copyFrom_101 : decode cX8_copyFrom 101 = .ok (.aload_n 0, 1) := by decide +kernel
theorem dX8_copyFrom_102 : decode cX8_copyFrom 102 = .ok (.aload_n 1, 1) := by decide +kernel
theorem dX8_copyFrom_103 : decode cX8_copyFrom 103 = .ok (.getfield 33, 3) := by decide +kernel
theorem dX8_copyFrom_106 : decode cX8_copyFrom 106 = .ok (.putfield 33, 3) := by decide +kernel
theorem dX8_copyFrom_109 : decode cX8_copyFrom 109 = .ok (.return_, 1) := by decide +kernel
theorem dX8_copyGoer_0 : decode cX8_copyGoer 0 = .ok (.aload_n 0, 1) := by decide +kernel
theorem dX8_copyGoer_1 : decode cX8_copyGoer 1 = .ok (.getfield 21, 3) := by decide +kernel
theorem dX8_copyGoer_4 : decode cX8_copyGoer 4 = .ok (.iload_n 2, 1) := by decide +kernel
theorem dX8_copyGoer_5 : decode cX8_copyGoer 5 = .ok (.aload_n 1, 1) := by decide +kernel
theorem dX8_copyGoer_6 : decode cX8_copyGoer 6 = .ok (.getfield 21, 3) := by decide +kernel
theorem dX8_copyGoer_9 : decode cX8_copyGoer 9 = .ok (.iload_n 2, 1) := by decide +kernel
theorem dX8_copyGoer_10 : decode cX8_copyGoer 10 = .ok (.iaload, 1) := by decide +kernel
theorem dX8_copyGoer_11 : decode cX8_copyGoer 11 = .ok (.iastore, 1) := by decide +kernel
theorem dX8_copyGoer_12 : decode cX8_copyGoer 12 = .ok (.aload_n 0, 1) := by decide +kernel
theorem dX8_copyGoer_13 : decode cX8_copyGoer 13 = .ok (.getfield 24, 3) := by decide +kernel
theorem dX8_copyGoer_16 : decode cX8_copyGoer 16 = .ok (.iload_n 2, 1) := by decide +kernel
theorem dX8_copyGoer_17 : decode cX8_copyGoer 17 = .ok (.aload_n 1, 1) := by decide +kernel
theorem dX8_copyGoer_18 : decode cX8_copyGoer 18 = .ok (.getfield 24, 3) := by decide +kernel
theorem dX8_copyGoer_21 : decode cX8_copyGoer 21 = .ok (.iload_n 2, 1) := by decide +kernel
theorem dX8_copyGoer_22 : decode cX8_copyGoer 22 = .ok (.iaload, 1) := by decide +kernel
theorem dX8_copyGoer_23 : decode cX8_copyGoer 23 = .ok (.iastore, 1) := by decide +kernel
theorem dX8_copyGoer_24 : decode cX8_copyGoer 24 = .ok (.aload_n 0, 1) := by decide +kernel
theorem dX8_copyGoer_25 : decode cX8_copyGoer 25 = .ok (.getfield 27, 3) := by decide +kernel
theorem dX8_copyGoer_28 : decode cX8_copyGoer 28 = .ok (.iload_n 2, 1) := by decide +kernel
theorem dX8_copyGoer_29 : decode cX8_copyGoer 29 = .ok (.aload_n 1, 1) := by decide +kernel
theorem dX8_copyGoer_30 : decode cX8_copyGoer 30 = .ok (.getfield 27, 3) := by decide +kernel
theorem dX8_copyGoer_33 : decode cX8_copyGoer 33 = .ok (.iload_n 2, 1) := by decide +kernel
theorem dX8_copyGoer_34 : decode cX8_copyGoer 34 = .ok (.iaload, 1) := by decide +kernel
theorem dX8_copyGoer_35 : decode cX8_copyGoer 35 = .ok (.iastore, 1) := by decide +kernel
theorem dX8_copyGoer_36 : decode cX8_copyGoer 36 = .ok (.aload_n 0, 1) := by decide +kernel
theorem dX8_copyGoer_37 : decode cX8_copyGoer 37 = .ok (.getfield 30, 3) := by decide +kernel
theorem dX8_copyGoer_40 : decode cX8_copyGoer 40 = .ok (.iload_n 2, 1) := by decide +kernel
theorem dX8_copyGoer_41 : decode cX8_copyGoer 41 = .ok (.aload_n 1, 1) := by decide +kernel
theorem dX8_copyGoer_42 : decode cX8_copyGoer 42 = .ok (.getfield 30, 3) := by decide +kernel
theorem dX8_copyGoer_45 : decode cX8_copyGoer 45 = .ok (.iload_n 2, 1) := by decide +kernel
theorem dX8_copyGoer_46 : decode cX8_copyGoer 46 = .ok (.iaload, 1) := by decide +kernel
theorem dX8_copyGoer_47 : decode cX8_copyGoer 47 = .ok (.iastore, 1) := by decide +kernel
theorem dX8_copyGoer_48 : decode cX8_copyGoer 48 = .ok (.return_, 1) := by decide +kernel
theorem dX8_has_0 : decode cX8_has 0 = .ok (.iload_n 1, 1) := by decide +kernel
theorem dX8_has_1 : decode cX8_has 1 = .ok (.ifCond .lt 15, 3) := by decide +kernel
theorem dX8_has_4 : decode cX8_has 4 = .ok (.iload_n 1, 1) := by decide +kernel
theorem dX8_has_5 : decode cX8_has 5 = .ok (.aload_n 0, 1) := by decide +kernel
theorem dX8_has_6 : decode cX8_has 6 = .ok (.getfield 47, 3) := by decide +kernel
theorem dX8_has_9 : decode cX8_has 9 = .ok (.if_icmp .ge 7, 3) := by decide +kernel
theorem dX8_has_12 : decode cX8_has 12 = .ok (.iconst 1, 1) := by decide +kernel
theorem dX8_has_13 : decode cX8_has 13 = .ok (.goto 4, 3) := by decide +kernel
theorem dX8_has_16 : decode cX8_has 16 = .ok (.iconst 0, 1) := by decide +kernel
theorem dX8_has_17 : decode cX8_has 17 = .ok (.ireturn, 1) := by decide +kernel
theorem dX8_add_0 : decode cX8_add 0 = .ok (.aload_n 0, 1) := by decide +kernel
theorem dX8_add_1 : decode cX8_add 1 = .ok (.getfield 21, 3) := by decide +kernel
theorem dX8_add_4 : decode cX8_add 4 = .ok (.aload_n 0, 1) := by decide +kernel
theorem dX8_add_5 : decode cX8_add 5 = .ok (.getfield 47, 3) := by decide +kernel
theorem dX8_add_8 : decode cX8_add 8 = .ok (.iload_n 1, 1) := by decide +kernel
theorem dX8_add_9 : decode cX8_add 9 = .ok (.iastore, 1) := by decide +kernel
theorem dX8_add_10 : decode cX8_add 10 = .ok (.aload_n 0, 1) := by decide +kernel
theorem dX8_add_11 : decode cX8_add 11 = .ok (.getfield 24, 3) := by decide +kernel
theorem dX8_add_14 : decode cX8_add 14 = .ok (.aload_n 0, 1) := by decide +kernel
theorem dX8_add_15 : decode cX8_add 15 = .ok (.getfield 47, 3) := by decide +kernel
theorem dX8_add_18 : decode cX8_add 18 = .ok (.iload_n 2, 1) := by decide +kernel
theorem dX8_add_19 : decode cX8_add 19 = .ok (.iastore, 1) := by decide +kernel
theorem dX8_add_20 : decode cX8_add 20 = .ok (.aload_n 0, 1) := by decide +kernel
theorem dX8_add_21 : decode cX8_add 21 = .ok (.getfield 27, 3) := by decide +kernel
theorem dX8_add_24 : decode cX8_add 24 = .ok (.aload_n 0, 1) := by decide +kernel
theorem dX8_add_25 : decode cX8_add 25 = .ok (.getfield 47, 3) := by decide +kernel
theorem dX8_add_28 : decode cX8_add 28 = .ok (.iload_n 3, 1) := by decide +kernel
theorem dX8_add_29 : decode cX8_add 29 = .ok (.iastore, 1) := by decide +kernel
theorem dX8_add_30 : decode cX8_add 30 = .ok (.aload_n 0, 1) := by decide +kernel
theorem dX8_add_31 : decode cX8_add 31 = .ok (.getfield 30, 3) := by decide +kernel
theorem dX8_add_34 : decode cX8_add 34 = .ok (.aload_n 0, 1) := by decide +kernel
theorem dX8_add_35 : decode cX8_add 35 = .ok (.getfield 47, 3) := by decide +kernel
theorem dX8_add_38 : decode cX8_add 38 = .ok (.iconst 0, 1) := by decide +kernel
theorem dX8_add_39 : decode cX8_add 39 = .ok (.iastore, 1) := by decide +kernel
theorem dX8_add_40 : decode cX8_add 40 = .ok (.aload_n 0, 1) := by decide +kernel
theorem dX8_add_41 : decode cX8_add 41 = .ok (.dup, 1) := by decide +kernel
theorem dX8_add_42 : decode cX8_add 42 = .ok (.getfield 47, 3) := by decide +kernel
theorem dX8_add_45 : decode cX8_add 45 = .ok (.iconst 1, 1) := by decide +kernel
theorem dX8_add_46 : decode cX8_add 46 = .ok (.iadd, 1) := by decide +kernel
theorem dX8_add_47 : decode cX8_add 47 = .ok (.putfield 47, 3) := by decide +kernel
theorem dX8_add_50 : decode cX8_add 50 = .ok (.return_, 1) := by decide +kernel
theorem dX8_isThrough_0 : decode cX8_isThrough 0 = .ok (.aload_n 0, 1) := by decide +kernel
theorem dX8_isThrough_1 : decode cX8_isThrough 1 = .ok (.getfield 27, 3) := by decide +kernel
theorem dX8_isThrough_4 : decode cX8_isThrough 4 = .ok (.iload_n 1, 1) := by decide +kernel
theorem dX8_isThrough_5 : decode cX8_isThrough 5 = .ok (.iaload, 1) := by decide +kernel
theorem dX8_isThrough_6 : decode cX8_isThrough 6 = .ok (.bipush 12, 2) := by decide +kernel
theorem dX8_isThrough_8 : decode cX8_isThrough 8 = .ok (.if_icmp .lt 7, 3) := by decide +kernel
theorem dX8_isThrough_11 : decode cX8_isThrough 11 = .ok (.iconst 1, 1) := by decide +kernel
theorem dX8_isThrough_12 : decode cX8_isThrough 12 = .ok (.goto 4, 3) := by decide +kernel
theorem dX8_isThrough_15 : decode cX8_isThrough 15 = .ok (.iconst 0, 1) := by decide +kernel
theorem dX8_isThrough_16 : decode cX8_isThrough 16 = .ok (.ireturn, 1) := by decide +kernel
set_option maxRecDepth 20000 in
theorem ggX8_sees_X10_restOf : GoodIn wsX8_sees wsX10_restOf := goodIn_r _ [9, 10, 11, 12, 13] (by decide +kernel) (by decide +kernel)
set_option maxRecDepth 20000 in
theorem gX8_sees_X10_restOf_n57 : GoodIn wsX8_sees (wsX10_restOf) := ggX8_sees_X10_restOf
set_option maxRecDepth 20000 in
theorem ggX8_sees_X1_sight : GoodIn wsX8_sees wsX1_sight := goodIn_r _ [20] (by decide +kernel) (by decide +kernel)
set_option maxRecDepth 20000 in
theorem gX8_sees_X1_sight_u61X1 : GoodIn wsX8_sees (va_wsO RX8 61 RX1 "LightMan$Kind" ⟨"LightMan$Kind", "sight", "(III)I"⟩ yX1_sight wsX1_sight) := goodIn_app (goodIn_of _ (by decide +kernel)) ggX8_sees_X1_sight
set_option maxRecDepth 20000 in
theorem ggX8_sees_X2_sight : GoodIn wsX8_sees wsX2_sight := goodIn_r _ [25, 26, 15, 27, 28, 29, 21] (by decide +kernel) (by decide +kernel)
set_option maxRecDepth 20000 in
theorem gX8_sees_X2_sight_u61X2 : GoodIn wsX8_sees (va_wsO RX8 61 RX2 "LightMan$Kind" ⟨"LightMan$Kind", "sight", "(III)I"⟩ yX2_sight wsX2_sight) := goodIn_app (goodIn_of _ (by decide +kernel)) ggX8_sees_X2_sight
set_option maxRecDepth 20000 in
theorem ggX8_sees_X4_sight : GoodIn wsX8_sees wsX4_sight := goodIn_r _ [21] (by decide +kernel) (by decide +kernel)
set_option maxRecDepth 20000 in
theorem gX8_sees_X4_sight : GoodIn wsX8_sees (wsV RX8 61 RX4 yX4_sight wsX4_sight) := goodIn_app (goodIn_of _ (by decide +kernel)) ggX8_sees_X4_sight
set_option maxRecDepth 20000 in
theorem ggX8_sees_X5_sight : GoodIn wsX8_sees wsX5_sight := goodIn_r _ [35, 36, 15, 37, 28, 29, 21] (by decide +kernel) (by decide +kernel)
set_option maxRecDepth 20000 in
theorem gX8_sees_X5_sight_u61X5 : GoodIn wsX8_sees (va_wsO RX8 61 RX5 "LightMan$Kind" ⟨"LightMan$Kind", "sight", "(III)I"⟩ yX5_sight wsX5_sight) := goodIn_app (goodIn_of _ (by decide +kernel)) ggX8_sees_X5_sight
set_option maxRecDepth 20000 in
theorem ggX8_sees_X6_sight : GoodIn wsX8_sees wsX6_sight := goodIn_r _ [41, 42, 43, 44, 23, 24, 25, 26, 15, 27, 28, 29, 21] (by decide +kernel) (by decide +kernel)
set_option maxRecDepth 20000 in
theorem gX8_sees_X6_sight_u61X6 : GoodIn wsX8_sees (va_wsO RX8 61 RX6 "LightMan$Kind" ⟨"LightMan$Kind", "sight", "(III)I"⟩ yX6_sight wsX6_sight) := goodIn_app (goodIn_of _ (by decide +kernel)) ggX8_sees_X6_sight
set_option maxRecDepth 20000 in
theorem ggX8_sees_X9_sight : GoodIn wsX8_sees wsX9_sight := goodIn_r _ [48, 49, 50, 51, 33, 34, 35, 36, 15, 37, 28, 29, 21] (by decide +kernel) (by decide +kernel)
set_option maxRecDepth 20000 in
theorem gX8_sees_X9_sight_u61X9 : GoodIn wsX8_sees (va_wsO RX8 61 RX9 "LightMan$Kind" ⟨"LightMan$Kind", "sight", "(III)I"⟩ yX9_sight wsX9_sight) := goodIn_app (goodIn_of _ (by decide +kernel)) ggX8_sees_X9_sight
theorem dX8_sees_0 : decode cX8_sees 0 = .ok (.iload_n 2, 1) := by decide +kernel
theorem dX8_sees_1 : decode cX8_sees 1 = .ok (.invokestatic 57, 3) := by decide +kernel
theorem dX8_sees_4 : decode cX8_sees 4 = .ok (.istore_n 3, 1) := by decide +kernel
theorem dX8_sees_5 : decode cX8_sees 5 = .ok (.bipush 12, 2) := by decide +kernel
theorem dX8_sees_7 : decode cX8_sees 7 = .ok (.aload_n 0, 1) := by decide +kernel
theorem dX8_sees_8 : decode cX8_sees 8 = .ok (.getfield 27, 3) := by decide +kernel
theorem dX8_sees_11 : decode cX8_sees 11 = .ok (.iload_n 1, 1) := by decide +kernel
theorem dX8_sees_12 : decode cX8_sees 12 = .ok (.iaload, 1) := by decide +kernel
theorem dX8_sees_13 : decode cX8_sees 13 = .ok (.isub, 1) := by decide +kernel
theorem dX8_sees_14 : decode cX8_sees 14 = .ok (.aload_n 0, 1) := by decide +kernel
theorem dX8_sees_15 : decode cX8_sees 15 = .ok (.getfield 37, 3) := by decide +kernel
theorem dX8_sees_18 : decode cX8_sees 18 = .ok (.aload_n 0, 1) := by decide +kernel
theorem dX8_sees_19 : decode cX8_sees 19 = .ok (.getfield 21, 3) := by decide +kernel
theorem dX8_sees_22 : decode cX8_sees 22 = .ok (.iload_n 1, 1) := by decide +kernel
theorem dX8_sees_23 : decode cX8_sees 23 = .ok (.iaload, 1) := by decide +kernel
theorem dX8_sees_24 : decode cX8_sees 24 = .ok (.aaload, 1) := by decide +kernel
theorem dX8_sees_25 : decode cX8_sees 25 = .ok (.aload_n 0, 1) := by decide +kernel
theorem dX8_sees_26 : decode cX8_sees 26 = .ok (.getfield 15, 3) := by decide +kernel
theorem dX8_sees_29 : decode cX8_sees 29 = .ok (.iload_n 3, 1) := by decide +kernel
theorem dX8_sees_30 : decode cX8_sees 30 = .ok (.iaload, 1) := by decide +kernel
theorem dX8_sees_31 : decode cX8_sees 31 = .ok (.aload_n 0, 1) := by decide +kernel
theorem dX8_sees_32 : decode cX8_sees 32 = .ok (.getfield 18, 3) := by decide +kernel
theorem dX8_sees_35 : decode cX8_sees 35 = .ok (.iload_n 3, 1) := by decide +kernel
theorem dX8_sees_36 : decode cX8_sees 36 = .ok (.iaload, 1) := by decide +kernel
theorem dX8_sees_37 : decode cX8_sees 37 = .ok (.aload_n 0, 1) := by decide +kernel
theorem dX8_sees_38 : decode cX8_sees 38 = .ok (.getfield 9, 3) := by decide +kernel
theorem dX8_sees_41 : decode cX8_sees 41 = .ok (.iconst 0, 1) := by decide +kernel
theorem dX8_sees_42 : decode cX8_sees 42 = .ok (.iaload, 1) := by decide +kernel
theorem dX8_sees_43 : decode cX8_sees 43 = .ok (.invokevirtual 61, 3) := by decide +kernel
theorem dX8_sees_46 : decode cX8_sees 46 = .ok (.if_icmp .gt 7, 3) := by decide +kernel
theorem dX8_sees_49 : decode cX8_sees 49 = .ok (.iconst 1, 1) := by decide +kernel
theorem dX8_sees_50 : decode cX8_sees 50 = .ok (.goto 4, 3) := by decide +kernel
theorem dX8_sees_53 : decode cX8_sees 53 = .ok (.iconst 0, 1) := by decide +kernel
theorem dX8_sees_54 : decode cX8_sees 54 = .ok (.ireturn, 1) := by decide +kernel
set_option maxRecDepth 20000 in
theorem ggX8_seesNow_X8_isThrough : GoodIn wsX8_seesNow wsX8_isThrough := goodIn_r _ [6, 7, 62, 63, 64, 65, 66, 67, 68, 69, 70, 71, 72] (by decide +kernel) (by decide +kernel)
set_option maxRecDepth 20000 in
theorem gX8_seesNow_X8_isThrough : GoodIn wsX8_seesNow (wsV RX8 67 RX8 yX8_isThrough wsX8_isThrough) := goodIn_app (goodIn_of _ (by decide +kernel)) ggX8_seesNow_X8_isThrough
set_option maxRecDepth 20000 in
theorem ggX8_seesNow_X8_sees : GoodIn wsX8_seesNow wsX8_sees := goodIn_r _ [11, 7, 12, 13, 14, 15, 16, 17, 18, 19, 20, 21, 22, 23, 24, 25, 26, 27, 28, 29, 30, 31, 32, 33, 34, 35, 36, 37, 38, 39, 40, 41, 42, 43, 44, 45, 46, 47, 48, 49, 50, 51, 52, 53, 54, 55, 56, 57, 58, 59, 60, 61, 62, 63, 64, 65, 66, 67, 68, 69, 70, 71, 72] (by decide +kernel) (by decide +kernel)
set_option maxRecDepth 20000 in
theorem gX8_seesNow_X8_sees : GoodIn wsX8_seesNow (wsV RX8 71 RX8 yX8_sees wsX8_sees) := goodIn_app (goodIn_of _ (by decide +kernel)) ggX8_seesNow_X8_sees
theorem dX8_seesNow_0 : decode cX8_seesNow 0 = .ok (.aload_n 0, 1) := by decide +kernel
theorem dX8_seesNow_1 : decode cX8_seesNow 1 = .ok (.iload_n 1, 1) := by decide +kernel
theorem dX8_seesNow_2 : decode cX8_seesNow 2 = .ok (.invokevirtual 67, 3) := by decide +kernel
theorem dX8_seesNow_5 : decode cX8_seesNow 5 = .ok (.ifCond .ne 19, 3) := by decide +kernel
theorem dX8_seesNow_8 : decode cX8_seesNow 8 = .ok (.aload_n 0, 1) := by decide +kernel
theorem dX8_seesNow_9 : decode cX8_seesNow 9 = .ok (.iload_n 1, 1) := by decide +kernel
theorem dX8_seesNow_10 : decode cX8_seesNow 10 = .ok (.aload_n 0, 1) := by decide +kernel
theorem dX8_seesNow_11 : decode cX8_seesNow 11 = .ok (.getfield 50, 3) := by decide +kernel
theorem dX8_seesNow_14 : decode cX8_seesNow 14 = .ok (.invokevirtual 71, 3) := by decide +kernel
theorem dX8_seesNow_17 : decode cX8_seesNow 17 = .ok (.ifCond .eq 7, 3) := by decide +kernel
theorem dX8_seesNow_20 : decode cX8_seesNow 20 = .ok (.iconst 1, 1) := by decide +kernel
theorem dX8_seesNow_21 : decode cX8_seesNow 21 = .ok (.goto 4, 3) := by decide +kernel
theorem dX8_seesNow_24 : decode cX8_seesNow 24 = .ok (.iconst 0, 1) := by decide +kernel
theorem dX8_seesNow_25 : decode cX8_seesNow 25 = .ok (.ireturn, 1) := by decide +kernel
set_option maxRecDepth 20000 in
theorem ggX8_advance_X8_isThrough : GoodIn wsX8_advance wsX8_isThrough := goodIn_r _ [20, 12, 157, 158, 159, 160, 161, 162, 163, 164, 165, 166, 167] (by decide +kernel) (by decide +kernel)
set_option maxRecDepth 20000 in
theorem gX8_advance_X8_isThrough : GoodIn wsX8_advance (wsV RX8 67 RX8 yX8_isThrough wsX8_isThrough) := goodIn_app (goodIn_of _ (by decide +kernel)) ggX8_advance_X8_isThrough
set_option maxRecDepth 20000 in
theorem ggX8_advance_X10_restOf : GoodIn wsX8_advance wsX10_restOf := goodIn_r _ [23, 24, 25, 26, 27] (by decide +kernel) (by decide +kernel)
set_option maxRecDepth 20000 in
theorem gX8_advance_X10_restOf_n57 : GoodIn wsX8_advance (wsX10_restOf) := ggX8_advance_X10_restOf
set_option maxRecDepth 20000 in
theorem ggX8_advance_X8_sees : GoodIn wsX8_advance wsX8_sees := goodIn_r _ [31, 12, 1, 2, 11, 4, 5, 21, 22, 23, 24, 25, 26, 27, 32, 33, 34, 35, 36, 37, 38, 39, 40, 41, 42, 43, 44, 45, 46, 47, 48, 49, 50, 51, 52, 53, 54, 55, 56, 57, 58, 59, 60, 61, 62, 63, 64, 65, 66, 67, 68, 69, 157, 158, 159, 160, 161, 162, 163, 164, 165, 166, 167] (by decide +kernel) (by decide +kernel)
set_option maxRecDepth 20000 in
theorem gX8_advance_X8_sees : GoodIn wsX8_advance (wsV RX8 71 RX8 yX8_sees wsX8_sees) := goodIn_app (goodIn_of _ (by decide +kernel)) ggX8_advance_X8_sees
set_option maxRecDepth 20000 in
theorem ggX8_advance_X1_keen : GoodIn wsX8_advance wsX1_keen := goodIn_r _ [75, 76, 71, 77, 78, 47, 79] (by decide +kernel) (by decide +kernel)
set_option maxRecDepth 20000 in
theorem gX8_advance_X1_keen_u75X1 : GoodIn wsX8_advance (va_wsO RX8 75 RX1 "LightMan$Kind" ⟨"LightMan$Kind", "keen", "(II)I"⟩ yX1_keen wsX1_keen) := goodIn_app (goodIn_of _ (by decide +kernel)) ggX8_advance_X1_keen
set_option maxRecDepth 20000 in
theorem ggX8_advance_X2_keen : GoodIn wsX8_advance wsX2_keen := goodIn_r _ [82, 83, 71, 45, 78, 47, 79] (by decide +kernel) (by decide +kernel)
set_option maxRecDepth 20000 in
theorem gX8_advance_X2_keen_u75X2 : GoodIn wsX8_advance (va_wsO RX8 75 RX2 "LightMan$Kind" ⟨"LightMan$Kind", "keen", "(II)I"⟩ yX2_keen wsX2_keen) := goodIn_app (goodIn_of _ (by decide +kernel)) ggX8_advance_X2_keen
set_option maxRecDepth 20000 in
theorem ggX8_advance_X4_keen : GoodIn wsX8_advance wsX4_keen := goodIn_r _ [79] (by decide +kernel) (by decide +kernel)
set_option maxRecDepth 20000 in
theorem gX8_advance_X4_keen : GoodIn wsX8_advance (wsV RX8 75 RX4 yX4_keen wsX4_keen) := goodIn_app (goodIn_of _ (by decide +kernel)) ggX8_advance_X4_keen
set_option maxRecDepth 20000 in
theorem ggX8_advance_X5_keen : GoodIn wsX8_advance wsX5_keen := goodIn_r _ [88, 89, 71, 55, 78, 47, 79] (by decide +kernel) (by decide +kernel)
set_option maxRecDepth 20000 in
theorem gX8_advance_X5_keen_u75X5 : GoodIn wsX8_advance (va_wsO RX8 75 RX5 "LightMan$Kind" ⟨"LightMan$Kind", "keen", "(II)I"⟩ yX5_keen wsX5_keen) := goodIn_app (goodIn_of _ (by decide +kernel)) ggX8_advance_X5_keen
set_option maxRecDepth 20000 in
theorem ggX8_advance_X6_keen : GoodIn wsX8_advance wsX6_keen := goodIn_r _ [92, 93, 94, 62, 81, 42, 82, 83, 71, 45, 78, 47, 79] (by decide +kernel) (by decide +kernel)
set_option maxRecDepth 20000 in
theorem gX8_advance_X6_keen_u75X6 : GoodIn wsX8_advance (va_wsO RX8 75 RX6 "LightMan$Kind" ⟨"LightMan$Kind", "keen", "(II)I"⟩ yX6_keen wsX6_keen) := goodIn_app (goodIn_of _ (by decide +kernel)) ggX8_advance_X6_keen
set_option maxRecDepth 20000 in
theorem ggX8_advance_X9_keen : GoodIn wsX8_advance wsX9_keen := goodIn_r _ [97, 98, 99, 69, 87, 52, 88, 89, 71, 55, 78, 47, 79] (by decide +kernel) (by decide +kernel)
set_option maxRecDepth 20000 in
theorem gX8_advance_X9_keen_u75X9 : GoodIn wsX8_advance (va_wsO RX8 75 RX9 "LightMan$Kind" ⟨"LightMan$Kind", "keen", "(II)I"⟩ yX9_keen wsX9_keen) := goodIn_app (goodIn_of _ (by decide +kernel)) ggX8_advance_X9_keen
set_option maxRecDepth 20000 in
theorem ggX8_advance_X10_heldFaith : GoodIn wsX8_advance wsX10_heldFaith := goodIn_r _ [101, 102, 8, 9, 10, 103, 14, 15] (by decide +kernel) (by decide +kernel)
set_option maxRecDepth 20000 in
theorem gX8_advance_X10_heldFaith_n79 : GoodIn wsX8_advance (wsX10_heldFaith) := ggX8_advance_X10_heldFaith
set_option maxRecDepth 20000 in
theorem ggX8_advance_X1_fears : GoodIn wsX8_advance wsX1_fears := goodIn_r _ [109, 110, 105, 77, 111, 47, 112] (by decide +kernel) (by decide +kernel)
set_option maxRecDepth 20000 in
theorem gX8_advance_X1_fears_u87X1 : GoodIn wsX8_advance (va_wsO RX8 87 RX1 "LightMan$Kind" ⟨"LightMan$Kind", "fears", "(I)I"⟩ yX1_fears wsX1_fears) := goodIn_app (goodIn_of _ (by decide +kernel)) ggX8_advance_X1_fears
set_option maxRecDepth 20000 in
theorem ggX8_advance_X2_fears : GoodIn wsX8_advance wsX2_fears := goodIn_r _ [115, 116, 105, 45, 111, 47, 112] (by decide +kernel) (by decide +kernel)
set_option maxRecDepth 20000 in
theorem gX8_advance_X2_fears_u87X2 : GoodIn wsX8_advance (va_wsO RX8 87 RX2 "LightMan$Kind" ⟨"LightMan$Kind", "fears", "(I)I"⟩ yX2_fears wsX2_fears) := goodIn_app (goodIn_of _ (by decide +kernel)) ggX8_advance_X2_fears
set_option maxRecDepth 20000 in
theorem ggX8_advance_X4_fears : GoodIn wsX8_advance wsX4_fears := goodIn_r _ [112] (by decide +kernel) (by decide +kernel)
set_option maxRecDepth 20000 in
theorem gX8_advance_X4_fears : GoodIn wsX8_advance (wsV RX8 87 RX4 yX4_fears wsX4_fears) := goodIn_app (goodIn_of _ (by decide +kernel)) ggX8_advance_X4_fears
set_option maxRecDepth 20000 in
theorem ggX8_advance_X5_fears : GoodIn wsX8_advance wsX5_fears := goodIn_r _ [121, 122, 105, 55, 111, 47, 112] (by decide +kernel) (by decide +kernel)
set_option maxRecDepth 20000 in
theorem gX8_advance_X5_fears_u87X5 : GoodIn wsX8_advance (va_wsO RX8 87 RX5 "LightMan$Kind" ⟨"LightMan$Kind", "fears", "(I)I"⟩ yX5_fears wsX5_fears) := goodIn_app (goodIn_of _ (by decide +kernel)) ggX8_advance_X5_fears
set_option maxRecDepth 20000 in
theorem ggX8_advance_X6_fears : GoodIn wsX8_advance wsX6_fears := goodIn_r _ [125, 126, 127, 62, 114, 42, 115, 116, 105, 45, 111, 47, 112] (by decide +kernel) (by decide +kernel)
set_option maxRecDepth 20000 in
theorem gX8_advance_X6_fears_u87X6 : GoodIn wsX8_advance (va_wsO RX8 87 RX6 "LightMan$Kind" ⟨"LightMan$Kind", "fears", "(I)I"⟩ yX6_fears wsX6_fears) := goodIn_app (goodIn_of _ (by decide +kernel)) ggX8_advance_X6_fears
set_option maxRecDepth 20000 in
theorem ggX8_advance_X9_fears : GoodIn wsX8_advance wsX9_fears := goodIn_r _ [130, 131, 132, 69, 120, 52, 121, 122, 105, 55, 111, 47, 112] (by decide +kernel) (by decide +kernel)
set_option maxRecDepth 20000 in
theorem gX8_advance_X9_fears_u87X9 : GoodIn wsX8_advance (va_wsO RX8 87 RX9 "LightMan$Kind" ⟨"LightMan$Kind", "fears", "(I)I"⟩ yX9_fears wsX9_fears) := goodIn_app (goodIn_of _ (by decide +kernel)) ggX8_advance_X9_fears
set_option maxRecDepth 20000 in
theorem ggX8_advance_X1_pace : GoodIn wsX8_advance wsX1_pace := goodIn_r _ [138, 139, 134, 77, 140, 47, 141] (by decide +kernel) (by decide +kernel)
set_option maxRecDepth 20000 in
theorem gX8_advance_X1_pace_u93X1 : GoodIn wsX8_advance (va_wsO RX8 93 RX1 "LightMan$Kind" ⟨"LightMan$Kind", "pace", "(IZ)I"⟩ yX1_pace wsX1_pace) := goodIn_app (goodIn_of _ (by decide +kernel)) ggX8_advance_X1_pace
set_option maxRecDepth 20000 in
theorem ggX8_advance_X2_pace : GoodIn wsX8_advance wsX2_pace := goodIn_r _ [144, 145, 134, 45, 140, 47, 141] (by decide +kernel) (by decide +kernel)
set_option maxRecDepth 20000 in
theorem gX8_advance_X2_pace_u93X2 : GoodIn wsX8_advance (va_wsO RX8 93 RX2 "LightMan$Kind" ⟨"LightMan$Kind", "pace", "(IZ)I"⟩ yX2_pace wsX2_pace) := goodIn_app (goodIn_of _ (by decide +kernel)) ggX8_advance_X2_pace
set_option maxRecDepth 20000 in
theorem ggX8_advance_X4_pace : GoodIn wsX8_advance wsX4_pace := goodIn_r _ [141] (by decide +kernel) (by decide +kernel)
set_option maxRecDepth 20000 in
theorem gX8_advance_X4_pace : GoodIn wsX8_advance (wsV RX8 93 RX4 yX4_pace wsX4_pace) := goodIn_app (goodIn_of _ (by decide +kernel)) ggX8_advance_X4_pace
set_option maxRecDepth 20000 in
theorem gX8_advance_X4_pace_u93X5 : GoodIn wsX8_advance (va_wsU RX8 93 RX5 "LightMan$Kind" ⟨"LightMan$Kind", "pace", "(IZ)I"⟩ yX4_pace wsX4_pace) := goodIn_app (goodIn_of _ (by decide +kernel)) ggX8_advance_X4_pace
set_option maxRecDepth 20000 in
theorem ggX8_advance_X6_pace : GoodIn wsX8_advance wsX6_pace := goodIn_r _ [151, 152, 153, 62, 143, 42, 144, 145, 134, 45, 140, 47, 141] (by decide +kernel) (by decide +kernel)
set_option maxRecDepth 20000 in
theorem gX8_advance_X6_pace_u93X6 : GoodIn wsX8_advance (va_wsO RX8 93 RX6 "LightMan$Kind" ⟨"LightMan$Kind", "pace", "(IZ)I"⟩ yX6_pace wsX6_pace) := goodIn_app (goodIn_of _ (by decide +kernel)) ggX8_advance_X6_pace
set_option maxRecDepth 20000 in
theorem ggX8_advance_X9_pace : GoodIn wsX8_advance wsX9_pace := goodIn_r _ [156] (by decide +kernel) (by decide +kernel)
set_option maxRecDepth 20000 in
theorem gX8_advance_X9_pace_u93X9 : GoodIn wsX8_advance (va_wsO RX8 93 RX9 "LightMan$Kind" ⟨"LightMan$Kind", "pace", "(IZ)I"⟩ yX9_pace wsX9_pace) := goodIn_app (goodIn_of _ (by decide +kernel)) ggX8_advance_X9_pace
theorem dX8_advance_0 : decode cX8_advance 0 = .ok (.aload_n 0, 1) := by decide +kernel
theorem dX8_advance_1 : decode cX8_advance 1 = .ok (.iload_n 1, 1) := by decide +kernel
theorem dX8_advance_2 : decode cX8_advance 2 = .ok (.invokevirtual 67, 3) := by decide +kernel
theorem dX8_advance_5 : decode cX8_advance 5 = .ok (.ifCond .eq 5, 3) := by decide +kernel
theorem dX8_advance_8 : decode cX8_advance 8 = .ok (.iconst 0, 1) := by decide +kernel
theorem dX8_advance_9 : decode cX8_advance 9 = .ok (.ireturn, 1) := by decide +kernel
theorem dX8_advance_10 : decode cX8_advance 10 = .ok (.aload_n 0, 1) := by decide +kernel
theorem dX8_advance_11 : decode cX8_advance 11 = .ok (.getfield 37, 3) := by decide +kernel
theorem dX8_advance_14 : decode cX8_advance 14 = .ok (.aload_n 0, 1) := by decide +kernel
theorem dX8_advance_15 : decode cX8_advance 15 = .ok (.getfield 21, 3) := by decide +kernel
theorem dX8_advance_18 : decode cX8_advance 18 = .ok (.iload_n 1, 1) := by decide +kernel
theorem dX8_advance_19 : decode cX8_advance 19 = .ok (.iaload, 1) := by decide +kernel
theorem dX8_advance_20 : decode cX8_advance 20 = .ok (.aaload, 1) := by decide +kernel
theorem dX8_advance_21 : decode cX8_advance 21 = .ok (.astore_n 3, 1) := by decide +kernel
theorem dX8_advance_22 : decode cX8_advance 22 = .ok (.iload_n 2, 1) := by decide +kernel
theorem dX8_advance_23 : decode cX8_advance 23 = .ok (.invokestatic 57, 3) := by decide +kernel
theorem dX8_advance_26 : decode cX8_advance 26 = .ok (.istore 4, 2) := by decide +kernel
theorem dX8_advance_28 : decode cX8_advance 28 = .ok (.aload_n 0, 1) := by decide +kernel
theorem dX8_advance_29 : decode cX8_advance 29 = .ok (.iload_n 1, 1) := by decide +kernel
theorem dX8_advance_30 : decode cX8_advance 30 = .ok (.iload_n 2, 1) := by decide +kernel
theorem dX8_advance_31 : decode cX8_advance 31 = .ok (.invokevirtual 71, 3) := by decide +kernel
theorem dX8_advance_34 : decode cX8_advance 34 = .ok (.istore 5, 2) := by decide +kernel
theorem dX8_advance_36 : decode cX8_advance 36 = .ok (.iload 5, 2) := by decide +kernel
theorem dX8_advance_38 : decode cX8_advance 38 = .ok (.ifCond .eq 59, 3) := by decide +kernel
theorem dX8_advance_41 : decode cX8_advance 41 = .ok (.aload_n 0, 1) := by decide +kernel
theorem dX8_advance_42 : decode cX8_advance 42 = .ok (.getfield 24, 3) := by decide +kernel
theorem dX8_advance_45 : decode cX8_advance 45 = .ok (.iload_n 1, 1) := by decide +kernel
theorem dX8_advance_46 : decode cX8_advance 46 = .ok (.aload_n 0, 1) := by decide +kernel
theorem dX8_advance_47 : decode cX8_advance 47 = .ok (.getfield 24, 3) := by decide +kernel
theorem dX8_advance_50 : decode cX8_advance 50 = .ok (.iload_n 1, 1) := by decide +kernel
theorem dX8_advance_51 : decode cX8_advance 51 = .ok (.iaload, 1) := by decide +kernel
theorem dX8_advance_52 : decode cX8_advance 52 = .ok (.aload_n 3, 1) := by decide +kernel
theorem dX8_advance_53 : decode cX8_advance 53 = .ok (.aload_n 0, 1) := by decide +kernel
theorem dX8_advance_54 : decode cX8_advance 54 = .ok (.getfield 18, 3) := by decide +kernel
theorem dX8_advance_57 : decode cX8_advance 57 = .ok (.iload 4, 2) := by decide +kernel
theorem dX8_advance_59 : decode cX8_advance 59 = .ok (.iaload, 1) := by decide +kernel
theorem dX8_advance_60 : decode cX8_advance 60 = .ok (.aload_n 0, 1) := by decide +kernel
theorem dX8_advance_61 : decode cX8_advance 61 = .ok (.getfield 9, 3) := by decide +kernel
theorem dX8_advance_64 : decode cX8_advance 64 = .ok (.iconst 0, 1) := by decide +kernel
theorem dX8_advance_65 : decode cX8_advance 65 = .ok (.iaload, 1) := by decide +kernel
theorem dX8_advance_66 : decode cX8_advance 66 = .ok (.invokevirtual 75, 3) := by decide +kernel
theorem dX8_advance_69 : decode cX8_advance 69 = .ok (.iadd, 1) := by decide +kernel
theorem dX8_advance_70 : decode cX8_advance 70 = .ok (.invokestatic 79, 3) := by decide +kernel
theorem dX8_advance_73 : decode cX8_advance 73 = .ok (.iastore, 1) := by decide +kernel
theorem dX8_advance_74 : decode cX8_advance 74 = .ok (.aload_n 0, 1) := by decide +kernel
theorem dX8_advance_75 : decode cX8_advance 75 = .ok (.getfield 30, 3) := by decide +kernel
theorem dX8_advance_78 : decode cX8_advance 78 = .ok (.iload_n 1, 1) := by decide +kernel
theorem dX8_advance_79 : decode cX8_advance 79 = .ok (.sipush 9999, 3) := by decide +kernel
theorem dX8_advance_82 : decode cX8_advance 82 = .ok (.aload_n 0, 1) := by decide +kernel
theorem dX8_advance_83 : decode cX8_advance 83 = .ok (.getfield 30, 3) := by decide +kernel
theorem dX8_advance_86 : decode cX8_advance 86 = .ok (.iload_n 1, 1) := by decide +kernel
theorem dX8_advance_87 : decode cX8_advance 87 = .ok (.iaload, 1) := by decide +kernel
theorem dX8_advance_88 : decode cX8_advance 88 = .ok (.iconst 1, 1) := by decide +kernel
theorem dX8_advance_89 : decode cX8_advance 89 = .ok (.iadd, 1) := by decide +kernel
theorem dX8_advance_90 : decode cX8_advance 90 = .ok (.invokestatic 82, 3) := by decide +kernel
theorem dX8_advance_93 : decode cX8_advance 93 = .ok (.iastore, 1) := by decide +kernel
theorem dX8_advance_94 : decode cX8_advance 94 = .ok (.goto 30, 3) := by decide +kernel
theorem dX8_advance_97 : decode cX8_advance 97 = .ok (.aload_n 0, 1) := by decide +kernel
theorem dX8_advance_98 : decode cX8_advance 98 = .ok (.getfield 24, 3) := by decide +kernel
theorem dX8_advance_101 : decode cX8_advance 101 = .ok (.iload_n 1, 1) := by decide +kernel
theorem dX8_advance_102 : decode cX8_advance 102 = .ok (.aload_n 0, 1) := by decide +kernel
theorem dX8_advance_103 : decode cX8_advance 103 = .ok (.getfield 24, 3) := by decide +kernel
theorem dX8_advance_106 : decode cX8_advance 106 = .ok (.iload_n 1, 1) := by decide +kernel
theorem dX8_advance_107 : decode cX8_advance 107 = .ok (.iaload, 1) := by decide +kernel
theorem dX8_advance_108 : decode cX8_advance 108 = .ok (.aload_n 3, 1) := by decide +kernel
theorem dX8_advance_109 : decode cX8_advance 109 = .ok (.aload_n 0, 1) := by decide +kernel
theorem dX8_advance_110 : decode cX8_advance 110 = .ok (.getfield 15, 3) := by decide +kernel
theorem dX8_advance_113 : decode cX8_advance 113 = .ok (.iload 4, 2) := by decide +kernel
theorem dX8_advance_115 : decode cX8_advance 115 = .ok (.iaload, 1) := by decide +kernel
theorem dX8_advance_116 : decode cX8_advance 116 = .ok (.invokevirtual 87, 3) := by decide +kernel
theorem dX8_advance_119 : decode cX8_advance 119 = .ok (.isub, 1) := by decide +kernel
theorem dX8_advance_120 : decode cX8_advance 120 = .ok (.invokestatic 79, 3) := by decide +kernel
theorem dX8_advance_123 : decode cX8_advance 123 = .ok (.iastore, 1) := by decide +kernel
theorem dX8_advance_124 : decode cX8_advance 124 = .ok (.aload_n 0, 1) := by decide +kernel
theorem dX8_advance_125 : decode cX8_advance 125 = .ok (.getfield 24, 3) := by decide +kernel
theorem dX8_advance_128 : decode cX8_advance 128 = .ok (.iload_n 1, 1) := by decide +kernel
theorem dX8_advance_129 : decode cX8_advance 129 = .ok (.iaload, 1) := by decide +kernel
theorem dX8_advance_130 : decode cX8_advance 130 = .ok (.aload_n 0, 1) := by decide +kernel
theorem dX8_advance_131 : decode cX8_advance 131 = .ok (.getfield 9, 3) := by decide +kernel
theorem dX8_advance_134 : decode cX8_advance 134 = .ok (.iconst 1, 1) := by decide +kernel
theorem dX8_advance_135 : decode cX8_advance 135 = .ok (.iaload, 1) := by decide +kernel
theorem dX8_advance_136 : decode cX8_advance 136 = .ok (.if_icmp .ge 23, 3) := by decide +kernel
theorem dX8_advance_139 : decode cX8_advance 139 = .ok (.aload_n 0, 1) := by decide +kernel
theorem dX8_advance_140 : decode cX8_advance 140 = .ok (.getfield 27, 3) := by decide +kernel
theorem dX8_advance_143 : decode cX8_advance 143 = .ok (.iload_n 1, 1) := by decide +kernel
theorem dX8_advance_144 : decode cX8_advance 144 = .ok (.iconst 0, 1) := by decide +kernel
theorem dX8_advance_145 : decode cX8_advance 145 = .ok (.aload_n 0, 1) := by decide +kernel
theorem dX8_advance_146 : decode cX8_advance 146 = .ok (.getfield 27, 3) := by decide +kernel
theorem dX8_advance_149 : decode cX8_advance 149 = .ok (.iload_n 1, 1) := by decide +kernel
theorem dX8_advance_150 : decode cX8_advance 150 = .ok (.iaload, 1) := by decide +kernel
theorem dX8_advance_151 : decode cX8_advance 151 = .ok (.iconst 1, 1) := by decide +kernel
theorem dX8_advance_152 : decode cX8_advance 152 = .ok (.isub, 1) := by decide +kernel
theorem dX8_advance_153 : decode cX8_advance 153 = .ok (.invokestatic 90, 3) := by decide +kernel
theorem dX8_advance_156 : decode cX8_advance 156 = .ok (.iastore, 1) := by decide +kernel
theorem dX8_advance_157 : decode cX8_advance 157 = .ok (.iconst 3, 1) := by decide +kernel
theorem dX8_advance_158 : decode cX8_advance 158 = .ok (.ireturn, 1) := by decide +kernel
theorem dX8_advance_159 : decode cX8_advance 159 = .ok (.aload_n 0, 1) := by decide +kernel
theorem dX8_advance_160 : decode cX8_advance 160 = .ok (.getfield 24, 3) := by decide +kernel
theorem dX8_advance_163 : decode cX8_advance 163 = .ok (.iload_n 1, 1) := by decide +kernel
theorem dX8_advance_164 : decode cX8_advance 164 = .ok (.iaload, 1) := by decide +kernel
theorem dX8_advance_165 : decode cX8_advance 165 = .ok (.aload_n 0, 1) := by decide +kernel
theorem dX8_advance_166 : decode cX8_advance 166 = .ok (.getfield 9, 3) := by decide +kernel
theorem dX8_advance_169 : decode cX8_advance 169 = .ok (.iconst 2, 1) := by decide +kernel
theorem dX8_advance_170 : decode cX8_advance 170 = .ok (.iaload, 1) := by decide +kernel
theorem dX8_advance_171 : decode cX8_advance 171 = .ok (.if_icmp .le 5, 3) := by decide +kernel
theorem dX8_advance_174 : decode cX8_advance 174 = .ok (.iconst 2, 1) := by decide +kernel
theorem dX8_advance_175 : decode cX8_advance 175 = .ok (.ireturn, 1) := by decide +kernel
theorem dX8_advance_176 : decode cX8_advance 176 = .ok (.aload_n 0, 1) := by decide +kernel
theorem dX8_advance_177 : decode cX8_advance 177 = .ok (.getfield 27, 3) := by decide +kernel
theorem dX8_advance_180 : decode cX8_advance 180 = .ok (.iload_n 1, 1) := by decide +kernel
theorem dX8_advance_181 : decode cX8_advance 181 = .ok (.bipush 12, 2) := by decide +kernel
theorem dX8_advance_183 : decode cX8_advance 183 = .ok (.aload_n 0, 1) := by decide +kernel
theorem dX8_advance_184 : decode cX8_advance 184 = .ok (.getfield 27, 3) := by decide +kernel
theorem dX8_advance_187 : decode cX8_advance 187 = .ok (.iload_n 1, 1) := by decide +kernel
theorem dX8_advance_188 : decode cX8_advance 188 = .ok (.iaload, 1) := by decide +kernel
theorem dX8_advance_189 : decode cX8_advance 189 = .ok (.aload_n 3, 1) := by decide +kernel
theorem dX8_advance_190 : decode cX8_advance 190 = .ok (.iload_n 2, 1) := by decide +kernel
theorem dX8_advance_191 : decode cX8_advance 191 = .ok (.iload 5, 2) := by decide +kernel
theorem dX8_advance_193 : decode cX8_advance 193 = .ok (.invokevirtual 93, 3) := by decide +kernel
theorem dX8_advance_196 : decode cX8_advance 196 = .ok (.iadd, 1) := by decide +kernel
theorem dX8_advance_197 : decode cX8_advance 197 = .ok (.invokestatic 82, 3) := by decide +kernel
theorem dX8_advance_200 : decode cX8_advance 200 = .ok (.iastore, 1) := by decide +kernel
theorem dX8_advance_201 : decode cX8_advance 201 = .ok (.iconst 1, 1) := by decide +kernel
theorem dX8_advance_202 : decode cX8_advance 202 = .ok (.ireturn, 1) := by decide +kernel
set_option maxRecDepth 20000 in
theorem ggX8_goStep_X8_advance : GoodIn wsX8_goStep wsX8_advance := goodIn_r _ [7, 8, 9, 10, 11, 12, 13, 14, 15, 16, 17, 18, 19, 20, 21, 22, 23, 24, 25, 6, 26, 27, 28, 29, 30, 31, 32, 33, 34, 35, 36, 37, 38, 39, 40, 41, 42, 43, 44, 45, 46, 47, 48, 49, 50, 51, 52, 53, 54, 55, 56, 57, 58, 59, 60, 61, 62, 63, 64, 65, 66, 67, 68, 69, 70, 71, 72, 73, 74, 75, 76, 77, 78, 79, 80, 81, 82, 83, 84, 85, 86, 87, 88, 89, 90, 91, 92, 93, 94, 95, 96, 97, 98, 99, 100, 101, 102, 103, 104, 105, 106, 107, 108, 109, 110, 111, 112, 113, 114, 115, 116, 117, 118, 119, 120, 121, 122, 123, 124, 125, 126, 127, 128, 129, 130, 131, 132, 133, 134, 135, 136, 137, 138, 139, 140, 141, 142, 143, 144, 145, 146, 147, 148, 149, 150, 151, 152, 153, 154, 155, 156, 157, 158, 159, 160, 161, 162, 163, 164, 165, 166, 167, 168, 169, 170, 171, 172, 173] (by decide +kernel) (by decide +kernel)
set_option maxRecDepth 20000 in
theorem gX8_goStep_X8_advance : GoodIn wsX8_goStep (wsV RX8 97 RX8 yX8_advance wsX8_advance) := goodIn_app (goodIn_of _ (by decide +kernel)) ggX8_goStep_X8_advance
theorem dX8_goStep_0 : decode cX8_goStep 0 = .ok (.iconst 0, 1) := by decide +kernel
theorem dX8_goStep_1 : decode cX8_goStep 1 = .ok (.istore_n 1, 1) := by decide +kernel
theorem dX8_goStep_2 : decode cX8_goStep 2 = .ok (.iload_n 1, 1) := by decide +kernel
theorem dX8_goStep_3 : decode cX8_goStep 3 = .ok (.aload_n 0, 1) := by decide +kernel
theorem dX8_goStep_4 : decode cX8_goStep 4 = .ok (.getfield 47, 3) := by decide +kernel
theorem dX8_goStep_7 : decode cX8_goStep 7 = .ok (.if_icmp .ge 19, 3) := by decide +kernel
theorem dX8_goStep_10 : decode cX8_goStep 10 = .ok (.aload_n 0, 1) := by decide +kernel
theorem dX8_goStep_11 : decode cX8_goStep 11 = .ok (.iload_n 1, 1) := by decide +kernel
theorem dX8_goStep_12 : decode cX8_goStep 12 = .ok (.aload_n 0, 1) := by decide +kernel
theorem dX8_goStep_13 : decode cX8_goStep 13 = .ok (.getfield 50, 3) := by decide +kernel
theorem dX8_goStep_16 : decode cX8_goStep 16 = .ok (.invokevirtual 97, 3) := by decide +kernel
theorem dX8_goStep_19 : decode cX8_goStep 19 = .ok (.pop, 1) := by decide +kernel
theorem dX8_goStep_20 : decode cX8_goStep 20 = .ok (.iinc 1 1, 3) := by decide +kernel
theorem dX8_goStep_23 : decode cX8_goStep 23 = .ok (.goto (-21), 3) := by decide +kernel
theorem dX8_goStep_26 : decode cX8_goStep 26 = .ok (.aload_n 0, 1) := by decide +kernel
theorem dX8_goStep_27 : decode cX8_goStep 27 = .ok (.dup, 1) := by decide +kernel
theorem dX8_goStep_28 : decode cX8_goStep 28 = .ok (.getfield 50, 3) := by decide +kernel
theorem dX8_goStep_31 : decode cX8_goStep 31 = .ok (.iconst 1, 1) := by decide +kernel
theorem dX8_goStep_32 : decode cX8_goStep 32 = .ok (.iadd, 1) := by decide +kernel
theorem dX8_goStep_33 : decode cX8_goStep 33 = .ok (.putfield 50, 3) := by decide +kernel
theorem dX8_goStep_36 : decode cX8_goStep 36 = .ok (.return_, 1) := by decide +kernel
set_option maxRecDepth 20000 in
theorem ggX8_goStepByDraws_X8_draw : GoodIn wsX8_goStepByDraws wsX8_draw := goodIn_r _ [8, 9, 10, 173, 174, 175, 176, 177, 178, 179, 180, 181, 182, 183] (by decide +kernel) (by decide +kernel)
set_option maxRecDepth 20000 in
theorem gX8_goStepByDraws_X8_draw : GoodIn wsX8_goStepByDraws (wsV RX8 100 RX8 yX8_draw wsX8_draw) := goodIn_app (goodIn_of _ (by decide +kernel)) ggX8_goStepByDraws_X8_draw
set_option maxRecDepth 20000 in
theorem ggX8_goStepByDraws_X8_goStep : GoodIn wsX8_goStepByDraws wsX8_goStep := goodIn_r _ [14, 1, 15, 16, 17, 18, 7, 19, 20, 21, 3, 22, 2, 23, 24, 25, 26, 27, 28, 29, 30, 31, 32, 33, 34, 35, 36, 37, 38, 39, 40, 41, 42, 43, 44, 45, 46, 47, 48, 49, 50, 51, 52, 53, 54, 55, 56, 57, 58, 59, 60, 61, 62, 63, 64, 65, 66, 67, 68, 69, 70, 71, 72, 73, 74, 75, 76, 77, 78, 79, 80, 81, 82, 83, 84, 85, 86, 87, 88, 89, 90, 91, 92, 93, 94, 95, 96, 97, 98, 99, 100, 101, 102, 103, 104, 105, 106, 107, 108, 109, 110, 111, 112, 113, 114, 115, 116, 117, 118, 119, 120, 121, 122, 123, 124, 125, 126, 127, 128, 129, 130, 131, 132, 133, 134, 135, 136, 137, 138, 139, 140, 141, 142, 143, 144, 145, 146, 147, 148, 149, 150, 151, 152, 153, 154, 155, 156, 157, 158, 159, 160, 161, 162, 163, 164, 165, 166, 167, 168, 169, 170, 171, 172, 173, 174, 175, 176, 177, 178, 179, 180, 181, 182, 183] (by decide +kernel) (by decide +kernel)
set_option maxRecDepth 20000 in
theorem gX8_goStepByDraws_X8_goStep : GoodIn wsX8_goStepByDraws (wsV RX8 104 RX8 yX8_goStep wsX8_goStep) := goodIn_app (goodIn_of _ (by decide +kernel)) ggX8_goStepByDraws_X8_goStep
theorem dX8_goStepByDraws_0 : decode cX8_goStepByDraws 0 = .ok (.aload_n 0, 1) := by decide +kernel
theorem dX8_goStepByDraws_1 : decode cX8_goStepByDraws 1 = .ok (.getfield 47, 3) := by decide +kernel
theorem dX8_goStepByDraws_4 : decode cX8_goStepByDraws 4 = .ok (.ifCond .le 44, 3) := by decide +kernel
theorem dX8_goStepByDraws_7 : decode cX8_goStepByDraws 7 = .ok (.aload_n 0, 1) := by decide +kernel
theorem dX8_goStepByDraws_8 : decode cX8_goStepByDraws 8 = .ok (.invokevirtual 100, 3) := by decide +kernel
theorem dX8_goStepByDraws_11 : decode cX8_goStepByDraws 11 = .ok (.aload_n 0, 1) := by decide +kernel
theorem dX8_goStepByDraws_12 : decode cX8_goStepByDraws 12 = .ok (.getfield 47, 3) := by decide +kernel
theorem dX8_goStepByDraws_15 : decode cX8_goStepByDraws 15 = .ok (.irem, 1) := by decide +kernel
theorem dX8_goStepByDraws_16 : decode cX8_goStepByDraws 16 = .ok (.istore_n 1, 1) := by decide +kernel
theorem dX8_goStepByDraws_17 : decode cX8_goStepByDraws 17 = .ok (.aload_n 0, 1) := by decide +kernel
theorem dX8_goStepByDraws_18 : decode cX8_goStepByDraws 18 = .ok (.invokevirtual 100, 3) := by decide +kernel
theorem dX8_goStepByDraws_21 : decode cX8_goStepByDraws 21 = .ok (.bipush 100, 2) := by decide +kernel
theorem dX8_goStepByDraws_23 : decode cX8_goStepByDraws 23 = .ok (.irem, 1) := by decide +kernel
theorem dX8_goStepByDraws_24 : decode cX8_goStepByDraws 24 = .ok (.aload_n 0, 1) := by decide +kernel
theorem dX8_goStepByDraws_25 : decode cX8_goStepByDraws 25 = .ok (.getfield 9, 3) := by decide +kernel
theorem dX8_goStepByDraws_28 : decode cX8_goStepByDraws 28 = .ok (.iconst 3, 1) := by decide +kernel
theorem dX8_goStepByDraws_29 : decode cX8_goStepByDraws 29 = .ok (.iaload, 1) := by decide +kernel
theorem dX8_goStepByDraws_30 : decode cX8_goStepByDraws 30 = .ok (.if_icmp .ge 18, 3) := by decide +kernel
theorem dX8_goStepByDraws_33 : decode cX8_goStepByDraws 33 = .ok (.aload_n 0, 1) := by decide +kernel
theorem dX8_goStepByDraws_34 : decode cX8_goStepByDraws 34 = .ok (.getfield 24, 3) := by decide +kernel
theorem dX8_goStepByDraws_37 : decode cX8_goStepByDraws 37 = .ok (.iload_n 1, 1) := by decide +kernel
theorem dX8_goStepByDraws_38 : decode cX8_goStepByDraws 38 = .ok (.bipush 99, 2) := by decide +kernel
theorem dX8_goStepByDraws_40 : decode cX8_goStepByDraws 40 = .ok (.aload_n 0, 1) := by decide +kernel
theorem dX8_goStepByDraws_41 : decode cX8_goStepByDraws 41 = .ok (.getfield 24, 3) := by decide +kernel
theorem dX8_goStepByDraws_44 : decode cX8_goStepByDraws 44 = .ok (.iload_n 1, 1) := by decide +kernel
theorem dX8_goStepByDraws_45 : decode cX8_goStepByDraws 45 = .ok (.iaload, 1) := by decide +kernel
theorem dX8_goStepByDraws_46 : decode cX8_goStepByDraws 46 = .ok (.isub, 1) := by decide +kernel
theorem dX8_goStepByDraws_47 : decode cX8_goStepByDraws 47 = .ok (.iastore, 1) := by decide +kernel
theorem dX8_goStepByDraws_48 : decode cX8_goStepByDraws 48 = .ok (.aload_n 0, 1) := by decide +kernel
theorem dX8_goStepByDraws_49 : decode cX8_goStepByDraws 49 = .ok (.invokevirtual 104, 3) := by decide +kernel
theorem dX8_goStepByDraws_52 : decode cX8_goStepByDraws 52 = .ok (.return_, 1) := by decide +kernel
theorem dX8_draw_0 : decode cX8_draw 0 = .ok (.aload_n 0, 1) := by decide +kernel
theorem dX8_draw_1 : decode cX8_draw 1 = .ok (.aload_n 0, 1) := by decide +kernel
theorem dX8_draw_2 : decode cX8_draw 2 = .ok (.getfield 33, 3) := by decide +kernel
theorem dX8_draw_5 : decode cX8_draw 5 = .ok (.ldc 107, 2) := by decide +kernel
theorem dX8_draw_7 : decode cX8_draw 7 = .ok (.imul, 1) := by decide +kernel
theorem dX8_draw_8 : decode cX8_draw 8 = .ok (.sipush 12345, 3) := by decide +kernel
theorem dX8_draw_11 : decode cX8_draw 11 = .ok (.iadd, 1) := by decide +kernel
theorem dX8_draw_12 : decode cX8_draw 12 = .ok (.putfield 33, 3) := by decide +kernel
theorem dX8_draw_15 : decode cX8_draw 15 = .ok (.aload_n 0, 1) := by decide +kernel
theorem dX8_draw_16 : decode cX8_draw 16 = .ok (.getfield 33, 3) := by decide +kernel
theorem dX8_draw_19 : decode cX8_draw 19 = .ok (.bipush 16, 2) := by decide +kernel
theorem dX8_draw_21 : decode cX8_draw 21 = .ok (.iushr, 1) := by decide +kernel
theorem dX8_draw_22 : decode cX8_draw 22 = .ok (.ireturn, 1) := by decide +kernel
set_option maxRecDepth 20000 in
theorem ggX8_goOnAlone_X8_isThrough : GoodIn wsX8_goOnAlone wsX8_isThrough := goodIn_r _ [6, 7, 162, 163, 164, 165, 166, 167, 168, 169, 170, 171, 172] (by decide +kernel) (by decide +kernel)
set_option maxRecDepth 20000 in
theorem gX8_goOnAlone_X8_isThrough : GoodIn wsX8_goOnAlone (wsV RX8 67 RX8 yX8_isThrough wsX8_isThrough) := goodIn_app (goodIn_of _ (by decide +kernel)) ggX8_goOnAlone_X8_isThrough
set_option maxRecDepth 20000 in
theorem ggX8_goOnAlone_X8_advance : GoodIn wsX8_goOnAlone wsX8_advance := goodIn_r _ [11, 12, 13, 14, 15, 16, 17, 18, 19, 20, 21, 22, 7, 23, 24, 25, 2, 3, 4, 5, 6, 26, 27, 28, 29, 30, 31, 32, 33, 34, 35, 36, 37, 38, 39, 40, 41, 42, 43, 44, 45, 46, 47, 48, 49, 50, 51, 52, 53, 54, 55, 56, 57, 58, 59, 60, 61, 62, 63, 64, 65, 66, 67, 68, 69, 70, 71, 72, 73, 74, 75, 76, 77, 78, 79, 80, 81, 82, 83, 84, 85, 86, 87, 88, 89, 90, 91, 92, 93, 94, 95, 96, 97, 98, 99, 100, 101, 102, 103, 104, 105, 106, 107, 108, 109, 110, 111, 112, 113, 114, 115, 116, 117, 118, 119, 120, 121, 122, 123, 124, 125, 126, 127, 128, 129, 130, 131, 132, 133, 134, 135, 136, 137, 138, 139, 140, 141, 142, 143, 144, 145, 146, 147, 148, 149, 150, 151, 152, 153, 154, 155, 156, 157, 158, 159, 160, 161, 162, 163, 164, 165, 166, 167, 168, 169, 170, 171, 172] (by decide +kernel) (by decide +kernel)
set_option maxRecDepth 20000 in
theorem gX8_goOnAlone_X8_advance : GoodIn wsX8_goOnAlone (wsV RX8 97 RX8 yX8_advance wsX8_advance) := goodIn_app (goodIn_of _ (by decide +kernel)) ggX8_goOnAlone_X8_advance
theorem dX8_goOnAlone_0 : decode cX8_goOnAlone 0 = .ok (.iconst 0, 1) := by decide +kernel
theorem dX8_goOnAlone_1 : decode cX8_goOnAlone 1 = .ok (.istore_n 3, 1) := by decide +kernel
theorem dX8_goOnAlone_2 : decode cX8_goOnAlone 2 = .ok (.iload_n 3, 1) := by decide +kernel
theorem dX8_goOnAlone_3 : decode cX8_goOnAlone 3 = .ok (.iload_n 2, 1) := by decide +kernel
theorem dX8_goOnAlone_4 : decode cX8_goOnAlone 4 = .ok (.if_icmp .ge 29, 3) := by decide +kernel
theorem dX8_goOnAlone_7 : decode cX8_goOnAlone 7 = .ok (.aload_n 0, 1) := by decide +kernel
theorem dX8_goOnAlone_8 : decode cX8_goOnAlone 8 = .ok (.iload_n 1, 1) := by decide +kernel
theorem dX8_goOnAlone_9 : decode cX8_goOnAlone 9 = .ok (.invokevirtual 67, 3) := by decide +kernel
theorem dX8_goOnAlone_12 : decode cX8_goOnAlone 12 = .ok (.ifCond .ne 21, 3) := by decide +kernel
theorem dX8_goOnAlone_15 : decode cX8_goOnAlone 15 = .ok (.aload_n 0, 1) := by decide +kernel
theorem dX8_goOnAlone_16 : decode cX8_goOnAlone 16 = .ok (.iload_n 1, 1) := by decide +kernel
theorem dX8_goOnAlone_17 : decode cX8_goOnAlone 17 = .ok (.aload_n 0, 1) := by decide +kernel
theorem dX8_goOnAlone_18 : decode cX8_goOnAlone 18 = .ok (.getfield 50, 3) := by decide +kernel
theorem dX8_goOnAlone_21 : decode cX8_goOnAlone 21 = .ok (.iload_n 3, 1) := by decide +kernel
theorem dX8_goOnAlone_22 : decode cX8_goOnAlone 22 = .ok (.iadd, 1) := by decide +kernel
theorem dX8_goOnAlone_23 : decode cX8_goOnAlone 23 = .ok (.invokevirtual 97, 3) := by decide +kernel
theorem dX8_goOnAlone_26 : decode cX8_goOnAlone 26 = .ok (.pop, 1) := by decide +kernel
theorem dX8_goOnAlone_27 : decode cX8_goOnAlone 27 = .ok (.iinc 3 1, 3) := by decide +kernel
theorem dX8_goOnAlone_30 : decode cX8_goOnAlone 30 = .ok (.goto (-28), 3) := by decide +kernel
theorem dX8_goOnAlone_33 : decode cX8_goOnAlone 33 = .ok (.aload_n 0, 1) := by decide +kernel
theorem dX8_goOnAlone_34 : decode cX8_goOnAlone 34 = .ok (.iload_n 1, 1) := by decide +kernel
theorem dX8_goOnAlone_35 : decode cX8_goOnAlone 35 = .ok (.invokevirtual 67, 3) := by decide +kernel
theorem dX8_goOnAlone_38 : decode cX8_goOnAlone 38 = .ok (.ireturn, 1) := by decide +kernel
set_option maxRecDepth 20000 in
theorem ggX8_passedBehind_X8_goOnAlone : GoodIn wsX8_passedBehind wsX8_goOnAlone := goodIn_r _ [6, 7, 8, 9, 10, 5, 11, 12, 13, 14, 15, 16, 17, 18, 19, 20, 21, 22, 23, 24, 25, 26, 27, 28, 29, 30, 31, 32, 33, 34, 35, 36, 37, 38, 39, 40, 41, 42, 43, 44, 45, 46, 47, 48, 49, 50, 51, 52, 53, 54, 55, 56, 57, 58, 59, 60, 61, 62, 63, 64, 65, 66, 67, 68, 69, 70, 71, 72, 73, 74, 75, 76, 77, 78, 79, 80, 81, 82, 83, 84, 85, 86, 87, 88, 89, 90, 91, 92, 93, 94, 95, 96, 97, 98, 99, 100, 101, 102, 103, 104, 105, 106, 107, 108, 109, 110, 111, 112, 113, 114, 115, 116, 117, 118, 119, 120, 121, 122, 123, 124, 125, 126, 127, 128, 129, 130, 131, 132, 133, 134, 135, 136, 137, 138, 139, 140, 141, 142, 143, 144, 145, 146, 147, 148, 149, 150, 151, 152, 153, 154, 155, 156, 157, 158, 159, 160, 161, 162, 163, 164, 165, 166, 167, 168, 169, 170, 171, 172, 173, 174, 175, 176, 177] (by decide +kernel) (by decide +kernel)
set_option maxRecDepth 20000 in
theorem gX8_passedBehind_X8_goOnAlone : GoodIn wsX8_passedBehind (wsV RX8 108 RX8 yX8_goOnAlone wsX8_goOnAlone) := goodIn_app (goodIn_of _ (by decide +kernel)) ggX8_passedBehind_X8_goOnAlone
theorem dX8_passedBehind_0 : decode cX8_passedBehind 0 = .ok (.iconst 0, 1) := by decide +kernel
theorem dX8_passedBehind_1 : decode cX8_passedBehind 1 = .ok (.istore_n 2, 1) := by decide +kernel
theorem dX8_passedBehind_2 : decode cX8_passedBehind 2 = .ok (.iconst 0, 1) := by decide +kernel
theorem dX8_passedBehind_3 : decode cX8_passedBehind 3 = .ok (.istore_n 3, 1) := by decide +kernel
theorem dX8_passedBehind_4 : decode cX8_passedBehind 4 = .ok (.iload_n 3, 1) := by decide +kernel
theorem dX8_passedBehind_5 : decode cX8_passedBehind 5 = .ok (.aload_n 0, 1) := by decide +kernel
theorem dX8_passedBehind_6 : decode cX8_passedBehind 6 = .ok (.getfield 47, 3) := by decide +kernel
theorem dX8_passedBehind_9 : decode cX8_passedBehind 9 = .ok (.if_icmp .ge 21, 3) := by decide +kernel
theorem dX8_passedBehind_12 : decode cX8_passedBehind 12 = .ok (.aload_n 0, 1) := by decide +kernel
theorem dX8_passedBehind_13 : decode cX8_passedBehind 13 = .ok (.iload_n 3, 1) := by decide +kernel
theorem dX8_passedBehind_14 : decode cX8_passedBehind 14 = .ok (.iload_n 1, 1) := by decide +kernel
theorem dX8_passedBehind_15 : decode cX8_passedBehind 15 = .ok (.invokevirtual 108, 3) := by decide +kernel
theorem dX8_passedBehind_18 : decode cX8_passedBehind 18 = .ok (.ifCond .eq 6, 3) := by decide +kernel
theorem dX8_passedBehind_21 : decode cX8_passedBehind 21 = .ok (.iinc 2 1, 3) := by decide +kernel
theorem dX8_passedBehind_24 : decode cX8_passedBehind 24 = .ok (.iinc 3 1, 3) := by decide +kernel
theorem dX8_passedBehind_27 : decode cX8_passedBehind 27 = .ok (.goto (-23), 3) := by decide +kernel
theorem dX8_passedBehind_30 : decode cX8_passedBehind 30 = .ok (.iload_n 2, 1) := by decide +kernel
theorem dX8_passedBehind_31 : decode cX8_passedBehind 31 = .ok (.ireturn, 1) := by decide +kernel
set_option maxRecDepth 20000 in
theorem ggX8_goesBy_X8_advance : GoodIn wsX8_goesBy wsX8_advance := goodIn_r _ [7, 8, 9, 10, 11, 12, 13, 14, 15, 16, 17, 18, 2, 19, 20, 21, 22, 23, 24, 6, 25, 26, 27, 28, 29, 30, 31, 32, 33, 34, 35, 36, 37, 38, 39, 40, 41, 42, 43, 44, 45, 46, 47, 48, 49, 50, 51, 52, 53, 54, 55, 56, 57, 58, 59, 60, 61, 62, 63, 64, 65, 66, 67, 68, 69, 70, 71, 72, 73, 74, 75, 76, 77, 78, 79, 80, 81, 82, 83, 84, 85, 86, 87, 88, 89, 90, 91, 92, 93, 94, 95, 96, 97, 98, 99, 100, 101, 102, 103, 104, 105, 106, 107, 108, 109, 110, 111, 112, 113, 114, 115, 116, 117, 118, 119, 120, 121, 122, 123, 124, 125, 126, 127, 128, 129, 130, 131, 132, 133, 134, 135, 136, 137, 138, 139, 140, 141, 142, 143, 144, 145, 146, 147, 148, 149, 150, 151, 152, 153, 154, 155, 156, 157, 158, 159, 160, 161, 162, 163, 164, 165, 166, 167, 168, 169, 170, 171, 172] (by decide +kernel) (by decide +kernel)
set_option maxRecDepth 20000 in
theorem gX8_goesBy_X8_advance : GoodIn wsX8_goesBy (wsV RX8 97 RX8 yX8_advance wsX8_advance) := goodIn_app (goodIn_of _ (by decide +kernel)) ggX8_goesBy_X8_advance
theorem dX8_goesBy_0 : decode cX8_goesBy 0 = .ok (.iconst 0, 1) := by decide +kernel
theorem dX8_goesBy_1 : decode cX8_goesBy 1 = .ok (.istore_n 3, 1) := by decide +kernel
theorem dX8_goesBy_2 : decode cX8_goesBy 2 = .ok (.iload_n 3, 1) := by decide +kernel
theorem dX8_goesBy_3 : decode cX8_goesBy 3 = .ok (.aload_n 2, 1) := by decide +kernel
theorem dX8_goesBy_4 : decode cX8_goesBy 4 = .ok (.arraylength, 1) := by decide +kernel
theorem dX8_goesBy_5 : decode cX8_goesBy 5 = .ok (.if_icmp .ge 42, 3) := by decide +kernel
theorem dX8_goesBy_8 : decode cX8_goesBy 8 = .ok (.aload_n 0, 1) := by decide +kernel
theorem dX8_goesBy_9 : decode cX8_goesBy 9 = .ok (.iload_n 1, 1) := by decide +kernel
theorem dX8_goesBy_10 : decode cX8_goesBy 10 = .ok (.aload_n 0, 1) := by decide +kernel
theorem dX8_goesBy_11 : decode cX8_goesBy 11 = .ok (.getfield 50, 3) := by decide +kernel
theorem dX8_goesBy_14 : decode cX8_goesBy 14 = .ok (.iload_n 3, 1) := by decide +kernel
theorem dX8_goesBy_15 : decode cX8_goesBy 15 = .ok (.iadd, 1) := by decide +kernel
theorem dX8_goesBy_16 : decode cX8_goesBy 16 = .ok (.invokevirtual 97, 3) := by decide +kernel
theorem dX8_goesBy_19 : decode cX8_goesBy 19 = .ok (.pop, 1) := by decide +kernel
theorem dX8_goesBy_20 : decode cX8_goesBy 20 = .ok (.aload_n 2, 1) := by decide +kernel
theorem dX8_goesBy_21 : decode cX8_goesBy 21 = .ok (.iload_n 3, 1) := by decide +kernel
theorem dX8_goesBy_22 : decode cX8_goesBy 22 = .ok (.iaload, 1) := by decide +kernel
theorem dX8_goesBy_23 : decode cX8_goesBy 23 = .ok (.iconst (-1), 1) := by decide +kernel
theorem dX8_goesBy_24 : decode cX8_goesBy 24 = .ok (.if_icmp .eq 17, 3) := by decide +kernel
theorem dX8_goesBy_27 : decode cX8_goesBy 27 = .ok (.aload_n 2, 1) := by decide +kernel
theorem dX8_goesBy_28 : decode cX8_goesBy 28 = .ok (.iload_n 3, 1) := by decide +kernel
theorem dX8_goesBy_29 : decode cX8_goesBy 29 = .ok (.iaload, 1) := by decide +kernel
theorem dX8_goesBy_30 : decode cX8_goesBy 30 = .ok (.aload_n 0, 1) := by decide +kernel
theorem dX8_goesBy_31 : decode cX8_goesBy 31 = .ok (.getfield 27, 3) := by decide +kernel
theorem dX8_goesBy_34 : decode cX8_goesBy 34 = .ok (.iload_n 1, 1) := by decide +kernel
theorem dX8_goesBy_35 : decode cX8_goesBy 35 = .ok (.iaload, 1) := by decide +kernel
theorem dX8_goesBy_36 : decode cX8_goesBy 36 = .ok (.if_icmp .eq 5, 3) := by decide +kernel
theorem dX8_goesBy_39 : decode cX8_goesBy 39 = .ok (.iconst 0, 1) := by decide +kernel
theorem dX8_goesBy_40 : decode cX8_goesBy 40 = .ok (.ireturn, 1) := by decide +kernel
theorem dX8_goesBy_41 : decode cX8_goesBy 41 = .ok (.iinc 3 1, 3) := by decide +kernel
theorem dX8_goesBy_44 : decode cX8_goesBy 44 = .ok (.goto (-42), 3) := by decide +kernel
theorem dX8_goesBy_47 : decode cX8_goesBy 47 = .ok (.iconst 1, 1) := by decide +kernel
theorem dX8_goesBy_48 : decode cX8_goesBy 48 = .ok (.ireturn, 1) := by decide +kernel
set_option maxRecDepth 20000 in
theorem ggX8_partOfRow_X8_throughSet : GoodIn wsX8_partOfRow wsX8_throughSet := goodIn_r _ [7, 8, 9, 10, 11, 6, 12, 1, 13, 14, 15, 16, 17, 18, 19, 20, 21, 22, 23] (by decide +kernel) (by decide +kernel)
set_option maxRecDepth 20000 in
theorem gX8_partOfRow_X8_throughSet : GoodIn wsX8_partOfRow (wsV RX8 111 RX8 yX8_throughSet wsX8_throughSet) := goodIn_app (goodIn_of _ (by decide +kernel)) ggX8_partOfRow_X8_throughSet
theorem dX8_partOfRow_0 : decode cX8_partOfRow 0 = .ok (.iload_n 2, 1) := by decide +kernel
theorem dX8_partOfRow_1 : decode cX8_partOfRow 1 = .ok (.lookupswitch 41 #[(0, 27), (1, 34)], 27) := by decide +kernel
theorem dX8_partOfRow_28 : decode cX8_partOfRow 28 = .ok (.aload_n 0, 1) := by decide +kernel
theorem dX8_partOfRow_29 : decode cX8_partOfRow 29 = .ok (.getfield 27, 3) := by decide +kernel
theorem dX8_partOfRow_32 : decode cX8_partOfRow 32 = .ok (.iload_n 1, 1) := by decide +kernel
theorem dX8_partOfRow_33 : decode cX8_partOfRow 33 = .ok (.iaload, 1) := by decide +kernel
theorem dX8_partOfRow_34 : decode cX8_partOfRow 34 = .ok (.ireturn, 1) := by decide +kernel
theorem dX8_partOfRow_35 : decode cX8_partOfRow 35 = .ok (.aload_n 0, 1) := by decide +kernel
theorem dX8_partOfRow_36 : decode cX8_partOfRow 36 = .ok (.getfield 24, 3) := by decide +kernel
theorem dX8_partOfRow_39 : decode cX8_partOfRow 39 = .ok (.iload_n 1, 1) := by decide +kernel
theorem dX8_partOfRow_40 : decode cX8_partOfRow 40 = .ok (.iaload, 1) := by decide +kernel
theorem dX8_partOfRow_41 : decode cX8_partOfRow 41 = .ok (.ireturn, 1) := by decide +kernel
theorem dX8_partOfRow_42 : decode cX8_partOfRow 42 = .ok (.aload_n 0, 1) := by decide +kernel
theorem dX8_partOfRow_43 : decode cX8_partOfRow 43 = .ok (.invokevirtual 111, 3) := by decide +kernel
theorem dX8_partOfRow_46 : decode cX8_partOfRow 46 = .ok (.ireturn, 1) := by decide +kernel
set_option maxRecDepth 20000 in
theorem ggX8_throughSet_X8_isThrough : GoodIn wsX8_throughSet wsX8_isThrough := goodIn_r _ [6, 7, 8, 9, 10, 11, 12, 13, 14, 15, 16, 17, 18] (by decide +kernel) (by decide +kernel)
set_option maxRecDepth 20000 in
theorem gX8_throughSet_X8_isThrough : GoodIn wsX8_throughSet (wsV RX8 67 RX8 yX8_isThrough wsX8_isThrough) := goodIn_app (goodIn_of _ (by decide +kernel)) ggX8_throughSet_X8_isThrough
theorem dX8_throughSet_0 : decode cX8_throughSet 0 = .ok (.iconst 0, 1) := by decide +kernel
theorem dX8_throughSet_1 : decode cX8_throughSet 1 = .ok (.istore_n 1, 1) := by decide +kernel
theorem dX8_throughSet_2 : decode cX8_throughSet 2 = .ok (.iconst 0, 1) := by decide +kernel
theorem dX8_throughSet_3 : decode cX8_throughSet 3 = .ok (.istore_n 2, 1) := by decide +kernel
theorem dX8_throughSet_4 : decode cX8_throughSet 4 = .ok (.iload_n 2, 1) := by decide +kernel
theorem dX8_throughSet_5 : decode cX8_throughSet 5 = .ok (.aload_n 0, 1) := by decide +kernel
theorem dX8_throughSet_6 : decode cX8_throughSet 6 = .ok (.getfield 47, 3) := by decide +kernel
theorem dX8_throughSet_9 : decode cX8_throughSet 9 = .ok (.if_icmp .ge 23, 3) := by decide +kernel
theorem dX8_throughSet_12 : decode cX8_throughSet 12 = .ok (.aload_n 0, 1) := by decide +kernel
theorem dX8_throughSet_13 : decode cX8_throughSet 13 = .ok (.iload_n 2, 1) := by decide +kernel
theorem dX8_throughSet_14 : decode cX8_throughSet 14 = .ok (.invokevirtual 67, 3) := by decide +kernel
theorem dX8_throughSet_17 : decode cX8_throughSet 17 = .ok (.ifCond .eq 9, 3) := by decide +kernel
theorem dX8_throughSet_20 : decode cX8_throughSet 20 = .ok (.iload_n 1, 1) := by decide +kernel
theorem dX8_throughSet_21 : decode cX8_throughSet 21 = .ok (.iconst 1, 1) := by decide +kernel
theorem dX8_throughSet_22 : decode cX8_throughSet 22 = .ok (.iload_n 2, 1) := by decide +kernel
theorem dX8_throughSet_23 : decode cX8_throughSet 23 = .ok (.ishl, 1) := by decide +kernel
theorem dX8_throughSet_24 : decode cX8_throughSet 24 = .ok (.ior, 1) := by decide +kernel
theorem dX8_throughSet_25 : decode cX8_throughSet 25 = .ok (.istore_n 1, 1) := by decide +kernel
theorem dX8_throughSet_26 : decode cX8_throughSet 26 = .ok (.iinc 2 1, 3) := by decide +kernel
theorem dX8_throughSet_29 : decode cX8_throughSet 29 = .ok (.goto (-25), 3) := by decide +kernel
theorem dX8_throughSet_32 : decode cX8_throughSet 32 = .ok (.iload_n 1, 1) := by decide +kernel
theorem dX8_throughSet_33 : decode cX8_throughSet 33 = .ok (.ireturn, 1) := by decide +kernel
set_option maxRecDepth 20000 in
theorem ggX8_seeingSet_X8_seesNow : GoodIn wsX8_seeingSet wsX8_seesNow := goodIn_r _ [6, 7, 8, 9, 10, 5, 11, 12, 13, 14, 15, 16, 17, 18, 19, 20, 21, 22, 23, 24, 25, 26, 27, 28, 29, 30, 31, 32, 33, 34, 35, 36, 37, 38, 39, 40, 41, 42, 43, 44, 45, 46, 47, 48, 49, 50, 51, 52, 53, 54, 55, 56, 57, 58, 59, 60, 61, 62, 63, 64, 65, 66, 67, 68, 69, 70, 71, 72, 73, 74, 75, 76, 77] (by decide +kernel) (by decide +kernel)
set_option maxRecDepth 20000 in
theorem gX8_seeingSet_X8_seesNow : GoodIn wsX8_seeingSet (wsV RX8 114 RX8 yX8_seesNow wsX8_seesNow) := goodIn_app (goodIn_of _ (by decide +kernel)) ggX8_seeingSet_X8_seesNow
theorem dX8_seeingSet_0 : decode cX8_seeingSet 0 = .ok (.iconst 0, 1) := by decide +kernel
theorem dX8_seeingSet_1 : decode cX8_seeingSet 1 = .ok (.istore_n 1, 1) := by decide +kernel
theorem dX8_seeingSet_2 : decode cX8_seeingSet 2 = .ok (.iconst 0, 1) := by decide +kernel
theorem dX8_seeingSet_3 : decode cX8_seeingSet 3 = .ok (.istore_n 2, 1) := by decide +kernel
theorem dX8_seeingSet_4 : decode cX8_seeingSet 4 = .ok (.iload_n 2, 1) := by decide +kernel
theorem dX8_seeingSet_5 : decode cX8_seeingSet 5 = .ok (.aload_n 0, 1) := by decide +kernel
theorem dX8_seeingSet_6 : decode cX8_seeingSet 6 = .ok (.getfield 47, 3) := by decide +kernel
theorem dX8_seeingSet_9 : decode cX8_seeingSet 9 = .ok (.if_icmp .ge 23, 3) := by decide +kernel
theorem dX8_seeingSet_12 : decode cX8_seeingSet 12 = .ok (.aload_n 0, 1) := by decide +kernel
theorem dX8_seeingSet_13 : decode cX8_seeingSet 13 = .ok (.iload_n 2, 1) := by decide +kernel
theorem dX8_seeingSet_14 : decode cX8_seeingSet 14 = .ok (.invokevirtual 114, 3) := by decide +kernel
theorem dX8_seeingSet_17 : decode cX8_seeingSet 17 = .ok (.ifCond .eq 9, 3) := by decide +kernel
theorem dX8_seeingSet_20 : decode cX8_seeingSet 20 = .ok (.iload_n 1, 1) := by decide +kernel
theorem dX8_seeingSet_21 : decode cX8_seeingSet 21 = .ok (.iconst 1, 1) := by decide +kernel
theorem dX8_seeingSet_22 : decode cX8_seeingSet 22 = .ok (.iload_n 2, 1) := by decide +kernel
theorem dX8_seeingSet_23 : decode cX8_seeingSet 23 = .ok (.ishl, 1) := by decide +kernel
theorem dX8_seeingSet_24 : decode cX8_seeingSet 24 = .ok (.ior, 1) := by decide +kernel
theorem dX8_seeingSet_25 : decode cX8_seeingSet 25 = .ok (.istore_n 1, 1) := by decide +kernel
theorem dX8_seeingSet_26 : decode cX8_seeingSet 26 = .ok (.iinc 2 1, 3) := by decide +kernel
theorem dX8_seeingSet_29 : decode cX8_seeingSet 29 = .ok (.goto (-25), 3) := by decide +kernel
theorem dX8_seeingSet_32 : decode cX8_seeingSet 32 = .ok (.iload_n 1, 1) := by decide +kernel
theorem dX8_seeingSet_33 : decode cX8_seeingSet 33 = .ok (.ireturn, 1) := by decide +kernel
theorem dX8_movedEver_0 : decode cX8_movedEver 0 = .ok (.iconst 0, 1) := by decide +kernel
theorem dX8_movedEver_1 : decode cX8_movedEver 1 = .ok (.istore_n 1, 1) := by decide +kernel
theorem dX8_movedEver_2 : decode cX8_movedEver 2 = .ok (.iconst 0, 1) := by decide +kernel
theorem dX8_movedEver_3 : decode cX8_movedEver 3 = .ok (.istore_n 2, 1) := by decide +kernel
theorem dX8_movedEver_4 : decode cX8_movedEver 4 = .ok (.iload_n 2, 1) := by decide +kernel
theorem dX8_movedEver_5 : decode cX8_movedEver 5 = .ok (.aload_n 0, 1) := by decide +kernel
theorem dX8_movedEver_6 : decode cX8_movedEver 6 = .ok (.getfield 47, 3) := by decide +kernel
theorem dX8_movedEver_9 : decode cX8_movedEver 9 = .ok (.if_icmp .ge 21, 3) := by decide +kernel
theorem dX8_movedEver_12 : decode cX8_movedEver 12 = .ok (.aload_n 0, 1) := by decide +kernel
theorem dX8_movedEver_13 : decode cX8_movedEver 13 = .ok (.getfield 30, 3) := by decide +kernel
theorem dX8_movedEver_16 : decode cX8_movedEver 16 = .ok (.iload_n 2, 1) := by decide +kernel
theorem dX8_movedEver_17 : decode cX8_movedEver 17 = .ok (.iaload, 1) := by decide +kernel
theorem dX8_movedEver_18 : decode cX8_movedEver 18 = .ok (.ifCond .le 6, 3) := by decide +kernel
theorem dX8_movedEver_21 : decode cX8_movedEver 21 = .ok (.iinc 1 1, 3) := by decide +kernel
theorem dX8_movedEver_24 : decode cX8_movedEver 24 = .ok (.iinc 2 1, 3) := by decide +kernel
theorem dX8_movedEver_27 : decode cX8_movedEver 27 = .ok (.goto (-23), 3) := by decide +kernel
theorem dX8_movedEver_30 : decode cX8_movedEver 30 = .ok (.iload_n 1, 1) := by decide +kernel
theorem dX8_movedEver_31 : decode cX8_movedEver 31 = .ok (.ireturn, 1) := by decide +kernel
theorem dX8_faithTogether_0 : decode cX8_faithTogether 0 = .ok (.iconst 0, 1) := by decide +kernel
theorem dX8_faithTogether_1 : decode cX8_faithTogether 1 = .ok (.istore_n 1, 1) := by decide +kernel
theorem dX8_faithTogether_2 : decode cX8_faithTogether 2 = .ok (.iconst 0, 1) := by decide +kernel
theorem dX8_faithTogether_3 : decode cX8_faithTogether 3 = .ok (.istore_n 2, 1) := by decide +kernel
theorem dX8_faithTogether_4 : decode cX8_faithTogether 4 = .ok (.iload_n 2, 1) := by decide +kernel
theorem dX8_faithTogether_5 : decode cX8_faithTogether 5 = .ok (.aload_n 0, 1) := by decide +kernel
theorem dX8_faithTogether_6 : decode cX8_faithTogether 6 = .ok (.getfield 47, 3) := by decide +kernel
theorem dX8_faithTogether_9 : decode cX8_faithTogether 9 = .ok (.if_icmp .ge 18, 3) := by decide +kernel
theorem dX8_faithTogether_12 : decode cX8_faithTogether 12 = .ok (.iload_n 1, 1) := by decide +kernel
theorem dX8_faithTogether_13 : decode cX8_faithTogether 13 = .ok (.aload_n 0, 1) := by decide +kernel
theorem dX8_faithTogether_14 : decode cX8_faithTogether 14 = .ok (.getfield 24, 3) := by decide +kernel
theorem dX8_faithTogether_17 : decode cX8_faithTogether 17 = .ok (.iload_n 2, 1) := by decide +kernel
theorem dX8_faithTogether_18 : decode cX8_faithTogether 18 = .ok (.iaload, 1) := by decide +kernel
theorem dX8_faithTogether_19 : decode cX8_faithTogether 19 = .ok (.iadd, 1) := by decide +kernel
theorem dX8_faithTogether_20 : decode cX8_faithTogether 20 = .ok (.istore_n 1, 1) := by decide +kernel
theorem dX8_faithTogether_21 : decode cX8_faithTogether 21 = .ok (.iinc 2 1, 3) := by decide +kernel
theorem dX8_faithTogether_24 : decode cX8_faithTogether 24 = .ok (.goto (-20), 3) := by decide +kernel
theorem dX8_faithTogether_27 : decode cX8_faithTogether 27 = .ok (.iload_n 1, 1) := by decide +kernel
theorem dX8_faithTogether_28 : decode cX8_faithTogether 28 = .ok (.ireturn, 1) := by decide +kernel
theorem dX8_placesTogether_0 : decode cX8_placesTogether 0 = .ok (.iconst 0, 1) := by decide +kernel
theorem dX8_placesTogether_1 : decode cX8_placesTogether 1 = .ok (.istore_n 1, 1) := by decide +kernel
theorem dX8_placesTogether_2 : decode cX8_placesTogether 2 = .ok (.iconst 0, 1) := by decide +kernel
theorem dX8_placesTogether_3 : decode cX8_placesTogether 3 = .ok (.istore_n 2, 1) := by decide +kernel
theorem dX8_placesTogether_4 : decode cX8_placesTogether 4 = .ok (.iload_n 2, 1) := by decide +kernel
theorem dX8_placesTogether_5 : decode cX8_placesTogether 5 = .ok (.aload_n 0, 1) := by decide +kernel
theorem dX8_placesTogether_6 : decode cX8_placesTogether 6 = .ok (.getfield 47, 3) := by decide +kernel
theorem dX8_placesTogether_9 : decode cX8_placesTogether 9 = .ok (.if_icmp .ge 18, 3) := by decide +kernel
theorem dX8_placesTogether_12 : decode cX8_placesTogether 12 = .ok (.iload_n 1, 1) := by decide +kernel
theorem dX8_placesTogether_13 : decode cX8_placesTogether 13 = .ok (.aload_n 0, 1) := by decide +kernel
theorem dX8_placesTogether_14 : decode cX8_placesTogether 14 = .ok (.getfield 27, 3) := by decide +kernel
theorem dX8_placesTogether_17 : decode cX8_placesTogether 17 = .ok (.iload_n 2, 1) := by decide +kernel
theorem dX8_placesTogether_18 : decode cX8_placesTogether 18 = .ok (.iaload, 1) := by decide +kernel
theorem dX8_placesTogether_19 : decode cX8_placesTogether 19 = .ok (.iadd, 1) := by decide +kernel
theorem dX8_placesTogether_20 : decode cX8_placesTogether 20 = .ok (.istore_n 1, 1) := by decide +kernel
theorem dX8_placesTogether_21 : decode cX8_placesTogether 21 = .ok (.iinc 2 1, 3) := by decide +kernel
theorem dX8_placesTogether_24 : decode cX8_placesTogether 24 = .ok (.goto (-20), 3) := by decide +kernel
theorem dX8_placesTogether_27 : decode cX8_placesTogether 27 = .ok (.iload_n 1, 1) := by decide +kernel
theorem dX8_placesTogether_28 : decode cX8_placesTogether 28 = .ok (.ireturn, 1) := by decide +kernel
set_option maxRecDepth 20000 in
theorem ggX9_init_X5_init : GoodIn wsX9_init wsX5_init := goodIn_r _ [3, 4, 5, 6, 7, 8, 9] (by decide +kernel) (by decide +kernel)
set_option maxRecDepth 20000 in
theorem gX9_init_X5_init_n3 : GoodIn wsX9_init (wsX5_init) := ggX9_init_X5_init
theorem dX9_init_0 : decode cX9_init 0 = .ok (.aload_n 0, 1) := by decide +kernel
theorem dX9_init_1 : decode cX9_init 1 = .ok (.invokespecial 3, 3) := by decide +kernel
theorem dX9_init_4 : decode cX9_init 4 = .ok (.return_, 1) := by decide +kernel
set_option maxRecDepth 20000 in
theorem ggX9_sight_X5_sight : GoodIn wsX9_sight wsX5_sight := goodIn_r _ [6, 7, 8, 9, 10, 11, 12] (by decide +kernel) (by decide +kernel)
set_option maxRecDepth 20000 in
theorem gX9_sight_X5_sight_s9 : GoodIn wsX9_sight (va_wsSU RX9 9 yX5_sight wsX5_sight) := goodIn_app (goodIn_of _ (by decide +kernel)) ggX9_sight_X5_sight
theorem dX9_sight_0 : decode cX9_sight 0 = .ok (.aload_n 0, 1) := by decide +kernel
theorem dX9_sight_1 : decode cX9_sight 1 = .ok (.iload_n 1, 1) := by decide +kernel
theorem dX9_sight_2 : decode cX9_sight 2 = .ok (.iload_n 2, 1) := by decide +kernel
theorem dX9_sight_3 : decode cX9_sight 3 = .ok (.iload_n 3, 1) := by decide +kernel
theorem dX9_sight_4 : decode cX9_sight 4 = .ok (.invokespecial 9, 3) := by decide +kernel
theorem dX9_sight_7 : decode cX9_sight 7 = .ok (.iload_n 3, 1) := by decide +kernel
theorem dX9_sight_8 : decode cX9_sight 8 = .ok (.iadd, 1) := by decide +kernel
theorem dX9_sight_9 : decode cX9_sight 9 = .ok (.ireturn, 1) := by decide +kernel
set_option maxRecDepth 20000 in
theorem ggX9_keen_X5_keen : GoodIn wsX9_keen wsX5_keen := goodIn_r _ [6, 7, 8, 9, 10, 11, 12] (by decide +kernel) (by decide +kernel)
set_option maxRecDepth 20000 in
theorem gX9_keen_X5_keen_s13 : GoodIn wsX9_keen (va_wsSU RX9 13 yX5_keen wsX5_keen) := goodIn_app (goodIn_of _ (by decide +kernel)) ggX9_keen_X5_keen
theorem dX9_keen_0 : decode cX9_keen 0 = .ok (.aload_n 0, 1) := by decide +kernel
theorem dX9_keen_1 : decode cX9_keen 1 = .ok (.iload_n 1, 1) := by decide +kernel
theorem dX9_keen_2 : decode cX9_keen 2 = .ok (.iload_n 2, 1) := by decide +kernel
theorem dX9_keen_3 : decode cX9_keen 3 = .ok (.invokespecial 13, 3) := by decide +kernel
theorem dX9_keen_6 : decode cX9_keen 6 = .ok (.iconst 2, 1) := by decide +kernel
theorem dX9_keen_7 : decode cX9_keen 7 = .ok (.iadd, 1) := by decide +kernel
theorem dX9_keen_8 : decode cX9_keen 8 = .ok (.ireturn, 1) := by decide +kernel
set_option maxRecDepth 20000 in
theorem ggX9_fears_X5_fears : GoodIn wsX9_fears wsX5_fears := goodIn_r _ [6, 7, 8, 9, 10, 11, 12] (by decide +kernel) (by decide +kernel)
set_option maxRecDepth 20000 in
theorem gX9_fears_X5_fears_s17 : GoodIn wsX9_fears (va_wsSU RX9 17 yX5_fears wsX5_fears) := goodIn_app (goodIn_of _ (by decide +kernel)) ggX9_fears_X5_fears
theorem dX9_fears_0 : decode cX9_fears 0 = .ok (.aload_n 0, 1) := by decide +kernel
theorem dX9_fears_1 : decode cX9_fears 1 = .ok (.iload_n 1, 1) := by decide +kernel
theorem dX9_fears_2 : decode cX9_fears 2 = .ok (.invokespecial 17, 3) := by decide +kernel
theorem dX9_fears_5 : decode cX9_fears 5 = .ok (.iconst 2, 1) := by decide +kernel
theorem dX9_fears_6 : decode cX9_fears 6 = .ok (.imul, 1) := by decide +kernel
theorem dX9_fears_7 : decode cX9_fears 7 = .ok (.ireturn, 1) := by decide +kernel
theorem dX9_pace_0 : decode cX9_pace 0 = .ok (.iload_n 1, 1) := by decide +kernel
theorem dX9_pace_1 : decode cX9_pace 1 = .ok (.iconst 2, 1) := by decide +kernel
theorem dX9_pace_2 : decode cX9_pace 2 = .ok (.irem, 1) := by decide +kernel
theorem dX9_pace_3 : decode cX9_pace 3 = .ok (.ifCond .ne 12, 3) := by decide +kernel
theorem dX9_pace_6 : decode cX9_pace 6 = .ok (.aload_n 0, 1) := by decide +kernel
theorem dX9_pace_7 : decode cX9_pace 7 = .ok (.iload_n 1, 1) := by decide +kernel
theorem dX9_pace_8 : decode cX9_pace 8 = .ok (.iload_n 2, 1) := by decide +kernel
theorem dX9_pace_9 : decode cX9_pace 9 = .ok (.invokespecial 21, 3) := by decide +kernel
theorem dX9_pace_12 : decode cX9_pace 12 = .ok (.goto 4, 3) := by decide +kernel
theorem dX9_pace_15 : decode cX9_pace 15 = .ok (.iconst 0, 1) := by decide +kernel
theorem dX9_pace_16 : decode cX9_pace 16 = .ok (.ireturn, 1) := by decide +kernel
set_option maxRecDepth 20000 in
theorem ggX9_actLooks_X5_actLooks : GoodIn wsX9_actLooks wsX5_actLooks := goodIn_r _ [8, 9, 10, 11, 12, 13, 14, 15, 16, 17, 18, 19, 20, 21, 22, 23, 24] (by decide +kernel) (by decide +kernel)
set_option maxRecDepth 20000 in
theorem gX9_actLooks_X5_actLooks_s35 : GoodIn wsX9_actLooks (va_wsSU RX9 35 yX5_actLooks wsX5_actLooks) := goodIn_app (goodIn_of _ (by decide +kernel)) ggX9_actLooks_X5_actLooks
theorem dX9_actLooks_0 : decode cX9_actLooks 0 = .ok (.aload_n 1, 1) := by decide +kernel
theorem dX9_actLooks_1 : decode cX9_actLooks 1 = .ok (.getfield 25, 3) := by decide +kernel
theorem dX9_actLooks_4 : decode cX9_actLooks 4 = .ok (.bipush 30, 2) := by decide +kernel
theorem dX9_actLooks_6 : decode cX9_actLooks 6 = .ok (.if_icmp .ge 21, 3) := by decide +kernel
theorem dX9_actLooks_9 : decode cX9_actLooks 9 = .ok (.aload_n 1, 1) := by decide +kernel
theorem dX9_actLooks_10 : decode cX9_actLooks 10 = .ok (.getfield 31, 3) := by decide +kernel
theorem dX9_actLooks_13 : decode cX9_actLooks 13 = .ok (.aload_n 1, 1) := by decide +kernel
theorem dX9_actLooks_14 : decode cX9_actLooks 14 = .ok (.dup, 1) := by decide +kernel
theorem dX9_actLooks_15 : decode cX9_actLooks 15 = .ok (.getfield 25, 3) := by decide +kernel
theorem dX9_actLooks_18 : decode cX9_actLooks 18 = .ok (.dup_x1, 1) := by decide +kernel
theorem dX9_actLooks_19 : decode cX9_actLooks 19 = .ok (.iconst 1, 1) := by decide +kernel
theorem dX9_actLooks_20 : decode cX9_actLooks 20 = .ok (.iadd, 1) := by decide +kernel
theorem dX9_actLooks_21 : decode cX9_actLooks 21 = .ok (.putfield 25, 3) := by decide +kernel
theorem dX9_actLooks_24 : decode cX9_actLooks 24 = .ok (.bipush 40, 2) := by decide +kernel
theorem dX9_actLooks_26 : decode cX9_actLooks 26 = .ok (.iastore, 1) := by decide +kernel
theorem dX9_actLooks_27 : decode cX9_actLooks 27 = .ok (.aload_n 0, 1) := by decide +kernel
theorem dX9_actLooks_28 : decode cX9_actLooks 28 = .ok (.aload_n 1, 1) := by decide +kernel
theorem dX9_actLooks_29 : decode cX9_actLooks 29 = .ok (.iload_n 2, 1) := by decide +kernel
theorem dX9_actLooks_30 : decode cX9_actLooks 30 = .ok (.invokespecial 35, 3) := by decide +kernel
theorem dX9_actLooks_33 : decode cX9_actLooks 33 = .ok (.bipush 9, 2) := by decide +kernel
theorem dX9_actLooks_35 : decode cX9_actLooks 35 = .ok (.ixor, 1) := by decide +kernel
theorem dX9_actLooks_36 : decode cX9_actLooks 36 = .ok (.ireturn, 1) := by decide +kernel
set_option maxRecDepth 20000 in
theorem ggX9_actWalks_X9_actLooks : GoodIn wsX9_actWalks wsX9_actLooks := goodIn_r _ [8, 1, 2, 9, 10, 11, 12, 13, 14, 15, 16, 17, 18, 19, 20, 21, 22, 23, 24, 25, 26, 27, 28, 29, 30] (by decide +kernel) (by decide +kernel)
set_option maxRecDepth 20000 in
theorem gX9_actWalks_X9_actLooks : GoodIn wsX9_actWalks (wsV RX9 45 RX9 yX9_actLooks wsX9_actLooks) := goodIn_app (goodIn_of _ (by decide +kernel)) ggX9_actWalks_X9_actLooks
theorem dX9_actWalks_0 : decode cX9_actWalks 0 = .ok (.aload_n 1, 1) := by decide +kernel
theorem dX9_actWalks_1 : decode cX9_actWalks 1 = .ok (.getfield 25, 3) := by decide +kernel
theorem dX9_actWalks_4 : decode cX9_actWalks 4 = .ok (.bipush 30, 2) := by decide +kernel
theorem dX9_actWalks_6 : decode cX9_actWalks 6 = .ok (.if_icmp .ge 21, 3) := by decide +kernel
theorem dX9_actWalks_9 : decode cX9_actWalks 9 = .ok (.aload_n 1, 1) := by decide +kernel
theorem dX9_actWalks_10 : decode cX9_actWalks 10 = .ok (.getfield 31, 3) := by decide +kernel
theorem dX9_actWalks_13 : decode cX9_actWalks 13 = .ok (.aload_n 1, 1) := by decide +kernel
theorem dX9_actWalks_14 : decode cX9_actWalks 14 = .ok (.dup, 1) := by decide +kernel
theorem dX9_actWalks_15 : decode cX9_actWalks 15 = .ok (.getfield 25, 3) := by decide +kernel
theorem dX9_actWalks_18 : decode cX9_actWalks 18 = .ok (.dup_x1, 1) := by decide +kernel
theorem dX9_actWalks_19 : decode cX9_actWalks 19 = .ok (.iconst 1, 1) := by decide +kernel
theorem dX9_actWalks_20 : decode cX9_actWalks 20 = .ok (.iadd, 1) := by decide +kernel
theorem dX9_actWalks_21 : decode cX9_actWalks 21 = .ok (.putfield 25, 3) := by decide +kernel
theorem dX9_actWalks_24 : decode cX9_actWalks 24 = .ok (.bipush 41, 2) := by decide +kernel
theorem dX9_actWalks_26 : decode cX9_actWalks 26 = .ok (.iastore, 1) := by decide +kernel
theorem dX9_actWalks_27 : decode cX9_actWalks 27 = .ok (.aload_n 0, 1) := by decide +kernel
theorem dX9_actWalks_28 : decode cX9_actWalks 28 = .ok (.aload_n 1, 1) := by decide +kernel
theorem dX9_actWalks_29 : decode cX9_actWalks 29 = .ok (.iload_n 2, 1) := by decide +kernel
theorem dX9_actWalks_30 : decode cX9_actWalks 30 = .ok (.invokespecial 39, 3) := by decide +kernel
theorem dX9_actWalks_33 : decode cX9_actWalks 33 = .ok (.aload_n 0, 1) := by decide +kernel
theorem dX9_actWalks_34 : decode cX9_actWalks 34 = .ok (.aload_n 1, 1) := by decide +kernel
theorem dX9_actWalks_35 : decode cX9_actWalks 35 = .ok (.aload_n 1, 1) := by decide +kernel
theorem dX9_actWalks_36 : decode cX9_actWalks 36 = .ok (.getfield 42, 3) := by decide +kernel
theorem dX9_actWalks_39 : decode cX9_actWalks 39 = .ok (.invokevirtual 45, 3) := by decide +kernel
theorem dX9_actWalks_42 : decode cX9_actWalks 42 = .ok (.isub, 1) := by decide +kernel
theorem dX9_actWalks_43 : decode cX9_actWalks 43 = .ok (.ireturn, 1) := by decide +kernel
set_option maxRecDepth 20000 in
theorem ggX10_init_X4_init : GoodIn wsX10_init wsX4_init := goodIn_r _ [47, 48, 2, 3] (by decide +kernel) (by decide +kernel)
set_option maxRecDepth 20000 in
theorem gX10_init_X4_init_n9 : GoodIn wsX10_init (wsX4_init) := ggX10_init_X4_init
set_option maxRecDepth 20000 in
theorem ggX10_init_X2_init : GoodIn wsX10_init wsX2_init := goodIn_r _ [50, 46, 6, 47, 48, 2, 3] (by decide +kernel) (by decide +kernel)
set_option maxRecDepth 20000 in
theorem gX10_init_X2_init_n12 : GoodIn wsX10_init (wsX2_init) := ggX10_init_X2_init
set_option maxRecDepth 20000 in
theorem ggX10_init_X5_init : GoodIn wsX10_init wsX5_init := goodIn_r _ [52, 46, 6, 47, 48, 2, 3] (by decide +kernel) (by decide +kernel)
set_option maxRecDepth 20000 in
theorem gX10_init_X5_init_n15 : GoodIn wsX10_init (wsX5_init) := ggX10_init_X5_init
set_option maxRecDepth 20000 in
theorem ggX10_init_X6_init : GoodIn wsX10_init wsX6_init := goodIn_r _ [54, 49, 9, 50, 46, 6, 47, 48, 2, 3] (by decide +kernel) (by decide +kernel)
set_option maxRecDepth 20000 in
theorem gX10_init_X6_init_n18 : GoodIn wsX10_init (wsX6_init) := ggX10_init_X6_init
set_option maxRecDepth 20000 in
theorem ggX10_init_X9_init : GoodIn wsX10_init wsX9_init := goodIn_r _ [56, 51, 12, 52, 46, 6, 47, 48, 2, 3] (by decide +kernel) (by decide +kernel)
set_option maxRecDepth 20000 in
theorem gX10_init_X9_init_n21 : GoodIn wsX10_init (wsX9_init) := ggX10_init_X9_init
set_option maxRecDepth 20000 in
theorem ggX10_init_X1_init : GoodIn wsX10_init wsX1_init := goodIn_r _ [58, 46, 6, 47, 48, 2, 3] (by decide +kernel) (by decide +kernel)
set_option maxRecDepth 20000 in
theorem gX10_init_X1_init_n24 : GoodIn wsX10_init (wsX1_init) := ggX10_init_X1_init
set_option maxRecDepth 20000 in
theorem ggX10_init_X8_init : GoodIn wsX10_init wsX8_init := goodIn_r _ [61, 62, 2, 3, 34, 63, 64, 65, 66, 67, 68, 69, 70, 71, 72, 73, 74, 25, 75, 76, 77, 108, 109, 110, 111, 112, 113, 114, 115, 116, 117, 118] (by decide +kernel) (by decide +kernel)
set_option maxRecDepth 20000 in
theorem gX10_init_X8_init : GoodIn wsX10_init (wsX8_init) := ggX10_init_X8_init
set_option maxRecDepth 20000 in
theorem ggX10_init_X7_init : GoodIn wsX10_init wsX7_init := goodIn_r _ [79, 80, 2, 3, 81, 82, 83, 84, 85, 86, 119, 120, 121, 122, 123] (by decide +kernel) (by decide +kernel)
set_option maxRecDepth 20000 in
theorem gX10_init_X7_init_n52 : GoodIn wsX10_init (wsX7_init) := ggX10_init_X7_init
set_option maxRecDepth 20000 in
theorem ggX10_init_X0_init : GoodIn wsX10_init wsX0_init := goodIn_r _ [88, 89, 2, 3, 90, 91, 92, 93, 34, 94, 124, 125, 126, 127, 128] (by decide +kernel) (by decide +kernel)
set_option maxRecDepth 20000 in
theorem gX10_init_X0_init_n67 : GoodIn wsX10_init (wsX0_init) := ggX10_init_X0_init
theorem dX10_init_0 : decode cX10_init 0 = .ok (.aload_n 0, 1) := by decide +kernel
theorem dX10_init_1 : decode cX10_init 1 = .ok (.invokespecial 1, 3) := by decide +kernel
theorem dX10_init_4 : decode cX10_init 4 = .ok (.aload_n 0, 1) := by decide +kernel
theorem dX10_init_5 : decode cX10_init 5 = .ok (.bipush 6, 2) := by decide +kernel
theorem dX10_init_7 : decode cX10_init 7 = .ok (.anewarray 7, 3) := by decide +kernel
theorem dX10_init_10 : decode cX10_init 10 = .ok (.dup, 1) := by decide +kernel
theorem dX10_init_11 : decode cX10_init 11 = .ok (.iconst 0, 1) := by decide +kernel
theorem dX10_init_12 : decode cX10_init 12 = .ok (.new 7, 3) := by decide +kernel
theorem dX10_init_15 : decode cX10_init 15 = .ok (.dup, 1) := by decide +kernel
theorem dX10_init_16 : decode cX10_init 16 = .ok (.invokespecial 9, 3) := by decide +kernel
theorem dX10_init_19 : decode cX10_init 19 = .ok (.aastore, 1) := by decide +kernel
theorem dX10_init_20 : decode cX10_init 20 = .ok (.dup, 1) := by decide +kernel
theorem dX10_init_21 : decode cX10_init 21 = .ok (.iconst 1, 1) := by decide +kernel
theorem dX10_init_22 : decode cX10_init 22 = .ok (.new 10, 3) := by decide +kernel
theorem dX10_init_25 : decode cX10_init 25 = .ok (.dup, 1) := by decide +kernel
theorem dX10_init_26 : decode cX10_init 26 = .ok (.invokespecial 12, 3) := by decide +kernel
theorem dX10_init_29 : decode cX10_init 29 = .ok (.aastore, 1) := by decide +kernel
theorem dX10_init_30 : decode cX10_init 30 = .ok (.dup, 1) := by decide +kernel
theorem dX10_init_31 : decode cX10_init 31 = .ok (.iconst 2, 1) := by decide +kernel
theorem dX10_init_32 : decode cX10_init 32 = .ok (.new 13, 3) := by decide +kernel
theorem dX10_init_35 : decode cX10_init 35 = .ok (.dup, 1) := by decide +kernel
theorem dX10_init_36 : decode cX10_init 36 = .ok (.invokespecial 15, 3) := by decide +kernel
theorem dX10_init_39 : decode cX10_init 39 = .ok (.aastore, 1) := by decide +kernel
theorem dX10_init_40 : decode cX10_init 40 = .ok (.dup, 1) := by decide +kernel
theorem dX10_init_41 : decode cX10_init 41 = .ok (.iconst 3, 1) := by decide +kernel
theorem dX10_init_42 : decode cX10_init 42 = .ok (.new 16, 3) := by decide +kernel
theorem dX10_init_45 : decode cX10_init 45 = .ok (.dup, 1) := by decide +kernel
theorem dX10_init_46 : decode cX10_init 46 = .ok (.invokespecial 18, 3) := by decide +kernel
theorem dX10_init_49 : decode cX10_init 49 = .ok (.aastore, 1) := by decide +kernel
theorem dX10_init_50 : decode cX10_init 50 = .ok (.dup, 1) := by decide +kernel
theorem dX10_init_51 : decode cX10_init 51 = .ok (.iconst 4, 1) := by decide +kernel
theorem dX10_init_52 : decode cX10_init 52 = .ok (.new 19, 3) := by decide +kernel
theorem dX10_init_55 : decode cX10_init 55 = .ok (.dup, 1) := by decide +kernel
theorem dX10_init_56 : decode cX10_init 56 = .ok (.invokespecial 21, 3) := by decide +kernel
theorem dX10_init_59 : decode cX10_init 59 = .ok (.aastore, 1) := by decide +kernel
theorem dX10_init_60 : decode cX10_init 60 = .ok (.dup, 1) := by decide +kernel
theorem dX10_init_61 : decode cX10_init 61 = .ok (.iconst 5, 1) := by decide +kernel
theorem dX10_init_62 : decode cX10_init 62 = .ok (.new 22, 3) := by decide +kernel
theorem dX10_init_65 : decode cX10_init 65 = .ok (.dup, 1) := by decide +kernel
theorem dX10_init_66 : decode cX10_init 66 = .ok (.invokespecial 24, 3) := by decide +kernel
theorem dX10_init_69 : decode cX10_init 69 = .ok (.aastore, 1) := by decide +kernel
theorem dX10_init_70 : decode cX10_init 70 = .ok (.putfield 25, 3) := by decide +kernel
theorem dX10_init_73 : decode cX10_init 73 = .ok (.aload_n 0, 1) := by decide +kernel
theorem dX10_init_74 : decode cX10_init 74 = .ok (.new 31, 3) := by decide +kernel
theorem dX10_init_77 : decode cX10_init 77 = .ok (.dup, 1) := by decide +kernel
theorem dX10_init_78 : decode cX10_init 78 = .ok (.aload_n 0, 1) := by decide +kernel
theorem dX10_init_79 : decode cX10_init 79 = .ok (.getfield 25, 3) := by decide +kernel
theorem dX10_init_82 : decode cX10_init 82 = .ok (.invokespecial 33, 3) := by decide +kernel
theorem dX10_init_85 : decode cX10_init 85 = .ok (.putfield 36, 3) := by decide +kernel
theorem dX10_init_88 : decode cX10_init 88 = .ok (.aload_n 0, 1) := by decide +kernel
theorem dX10_init_89 : decode cX10_init 89 = .ok (.new 31, 3) := by decide +kernel
theorem dX10_init_92 : decode cX10_init 92 = .ok (.dup, 1) := by decide +kernel
theorem dX10_init_93 : decode cX10_init 93 = .ok (.aload_n 0, 1) := by decide +kernel
theorem dX10_init_94 : decode cX10_init 94 = .ok (.getfield 25, 3) := by decide +kernel
theorem dX10_init_97 : decode cX10_init 97 = .ok (.invokespecial 33, 3) := by decide +kernel
theorem dX10_init_100 : decode cX10_init 100 = .ok (.putfield 40, 3) := by decide +kernel
theorem dX10_init_103 : decode cX10_init 103 = .ok (.aload_n 0, 1) := by decide +kernel
theorem dX10_init_104 : decode cX10_init 104 = .ok (.new 31, 3) := by decide +kernel
theorem dX10_init_107 : decode cX10_init 107 = .ok (.dup, 1) := by decide +kernel
theorem dX10_init_108 : decode cX10_init 108 = .ok (.aload_n 0, 1) := by decide +kernel
theorem dX10_init_109 : decode cX10_init 109 = .ok (.getfield 25, 3) := by decide +kernel
theorem dX10_init_112 : decode cX10_init 112 = .ok (.invokespecial 33, 3) := by decide +kernel
theorem dX10_init_115 : decode cX10_init 115 = .ok (.putfield 43, 3) := by decide +kernel
theorem dX10_init_118 : decode cX10_init 118 = .ok (.aload_n 0, 1) := by decide +kernel
theorem dX10_init_119 : decode cX10_init 119 = .ok (.iconst 0, 1) := by decide +kernel
theorem dX10_init_120 : decode cX10_init 120 = .ok (.putfield 46, 3) := by decide +kernel
theorem dX10_init_123 : decode cX10_init 123 = .ok (.aload_n 0, 1) := by decide +kernel
theorem dX10_init_124 : decode cX10_init 124 = .ok (.new 50, 3) := by decide +kernel
theorem dX10_init_127 : decode cX10_init 127 = .ok (.dup, 1) := by decide +kernel
theorem dX10_init_128 : decode cX10_init 128 = .ok (.invokespecial 52, 3) := by decide +kernel
theorem dX10_init_131 : decode cX10_init 131 = .ok (.putfield 53, 3) := by decide +kernel
theorem dX10_init_134 : decode cX10_init 134 = .ok (.aload_n 0, 1) := by decide +kernel
theorem dX10_init_135 : decode cX10_init 135 = .ok (.bipush 30, 2) := by decide +kernel
theorem dX10_init_137 : decode cX10_init 137 = .ok (.newarray .int, 2) := by decide +kernel
theorem dX10_init_139 : decode cX10_init 139 = .ok (.putfield 57, 3) := by decide +kernel
theorem dX10_init_142 : decode cX10_init 142 = .ok (.aload_n 0, 1) := by decide +kernel
theorem dX10_init_143 : decode cX10_init 143 = .ok (.iconst 0, 1) := by decide +kernel
theorem dX10_init_144 : decode cX10_init 144 = .ok (.putfield 61, 3) := by decide +kernel
theorem dX10_init_147 : decode cX10_init 147 = .ok (.aload_n 0, 1) := by decide +kernel
theorem dX10_init_148 : decode cX10_init 148 = .ok (.new 65, 3) := by decide +kernel
theorem dX10_init_151 : decode cX10_init 151 = .ok (.dup, 1) := by decide +kernel
theorem dX10_init_152 : decode cX10_init 152 = .ok (.invokespecial 67, 3) := by decide +kernel
theorem dX10_init_155 : decode cX10_init 155 = .ok (.putfield 68, 3) := by decide +kernel
theorem dX10_init_158 : decode cX10_init 158 = .ok (.aload_n 0, 1) := by decide +kernel
theorem dX10_init_159 : decode cX10_init 159 = .ok (.iconst 4, 1) := by decide +kernel
theorem dX10_init_160 : decode cX10_init 160 = .ok (.anewarray 72, 3) := by decide +kernel
theorem dX10_init_163 : decode cX10_init 163 = .ok (.putfield 74, 3) := by decide +kernel
theorem dX10_init_166 : decode cX10_init 166 = .ok (.aload_n 0, 1) := by decide +kernel
theorem dX10_init_167 : decode cX10_init 167 = .ok (.iconst 4, 1) := by decide +kernel
theorem dX10_init_168 : decode cX10_init 168 = .ok (.newarray .int, 2) := by decide +kernel
theorem dX10_init_170 : decode cX10_init 170 = .ok (.dup, 1) := by decide +kernel
theorem dX10_init_171 : decode cX10_init 171 = .ok (.iconst 0, 1) := by decide +kernel
theorem dX10_init_172 : decode cX10_init 172 = .ok (.iconst 2, 1) := by decide +kernel
theorem dX10_init_173 : decode cX10_init 173 = .ok (.iastore, 1) := by decide +kernel
theorem dX10_init_174 : decode cX10_init 174 = .ok (.dup, 1) := by decide +kernel
theorem dX10_init_175 : decode cX10_init 175 = .ok (.iconst 1, 1) := by decide +kernel
theorem dX10_init_176 : decode cX10_init 176 = .ok (.iconst 2, 1) := by decide +kernel
theorem dX10_init_177 : decode cX10_init 177 = .ok (.iastore, 1) := by decide +kernel
theorem dX10_init_178 : decode cX10_init 178 = .ok (.dup, 1) := by decide +kernel
theorem dX10_init_179 : decode cX10_init 179 = .ok (.iconst 2, 1) := by decide +kernel
theorem dX10_init_180 : decode cX10_init 180 = .ok (.iconst 2, 1) := by decide +kernel
theorem dX10_init_181 : decode cX10_init 181 = .ok (.iastore, 1) := by decide +kernel
theorem dX10_init_182 : decode cX10_init 182 = .ok (.dup, 1) := by decide +kernel
theorem dX10_init_183 : decode cX10_init 183 = .ok (.iconst 3, 1) := by decide +kernel
theorem dX10_init_184 : decode cX10_init 184 = .ok (.iconst 2, 1) := by decide +kernel
theorem dX10_init_185 : decode cX10_init 185 = .ok (.iastore, 1) := by decide +kernel
theorem dX10_init_186 : decode cX10_init 186 = .ok (.putfield 78, 3) := by decide +kernel
theorem dX10_init_189 : decode cX10_init 189 = .ok (.aload_n 0, 1) := by decide +kernel
theorem dX10_init_190 : decode cX10_init 190 = .ok (.iconst 4, 1) := by decide +kernel
theorem dX10_init_191 : decode cX10_init 191 = .ok (.newarray .int, 2) := by decide +kernel
theorem dX10_init_193 : decode cX10_init 193 = .ok (.putfield 81, 3) := by decide +kernel
theorem dX10_init_196 : decode cX10_init 196 = .ok (.aload_n 0, 1) := by decide +kernel
theorem dX10_init_197 : decode cX10_init 197 = .ok (.iconst 4, 1) := by decide +kernel
theorem dX10_init_198 : decode cX10_init 198 = .ok (.anewarray 72, 3) := by decide +kernel
theorem dX10_init_201 : decode cX10_init 201 = .ok (.putfield 84, 3) := by decide +kernel
theorem dX10_init_204 : decode cX10_init 204 = .ok (.return_, 1) := by decide +kernel
set_option maxRecDepth 20000 in
theorem ggX10_feed_X10_isOutside : GoodIn wsX10_feed wsX10_isOutside := goodIn_r _ [6] (by decide +kernel) (by decide +kernel)
set_option maxRecDepth 20000 in
theorem gX10_feed_X10_isOutside : GoodIn wsX10_feed (va_wsS RX10 87 yX10_isOutside wsX10_isOutside) := goodIn_app (goodIn_of _ (by decide +kernel)) ggX10_feed_X10_isOutside
set_option maxRecDepth 20000 in
theorem ggX10_feed_X7_take : GoodIn wsX10_feed wsX7_take := goodIn_r _ [11, 12, 13, 27, 28, 29, 30, 31] (by decide +kernel) (by decide +kernel)
set_option maxRecDepth 20000 in
theorem gX10_feed_X7_take : GoodIn wsX10_feed (wsV RX10 91 RX7 yX7_take wsX7_take) := goodIn_app (goodIn_of _ (by decide +kernel)) ggX10_feed_X7_take
theorem dX10_feed_0 : decode cX10_feed 0 = .ok (.iload_n 3, 1) := by decide +kernel
theorem dX10_feed_1 : decode cX10_feed 1 = .ok (.iconst 1, 1) := by decide +kernel
theorem dX10_feed_2 : decode cX10_feed 2 = .ok (.bipush 8, 2) := by decide +kernel
theorem dX10_feed_4 : decode cX10_feed 4 = .ok (.invokestatic 87, 3) := by decide +kernel
theorem dX10_feed_7 : decode cX10_feed 7 = .ok (.ifCond .eq 5, 3) := by decide +kernel
theorem dX10_feed_10 : decode cX10_feed 10 = .ok (.iconst (-1), 1) := by decide +kernel
theorem dX10_feed_11 : decode cX10_feed 11 = .ok (.ireturn, 1) := by decide +kernel
theorem dX10_feed_12 : decode cX10_feed 12 = .ok (.aload_n 0, 1) := by decide +kernel
theorem dX10_feed_13 : decode cX10_feed 13 = .ok (.getfield 53, 3) := by decide +kernel
theorem dX10_feed_16 : decode cX10_feed 16 = .ok (.lload_n 1, 1) := by decide +kernel
theorem dX10_feed_17 : decode cX10_feed 17 = .ok (.iload_n 3, 1) := by decide +kernel
theorem dX10_feed_18 : decode cX10_feed 18 = .ok (.invokevirtual 91, 3) := by decide +kernel
theorem dX10_feed_21 : decode cX10_feed 21 = .ok (.ifCond .eq 13, 3) := by decide +kernel
theorem dX10_feed_24 : decode cX10_feed 24 = .ok (.aload_n 0, 1) := by decide +kernel
theorem dX10_feed_25 : decode cX10_feed 25 = .ok (.getfield 53, 3) := by decide +kernel
theorem dX10_feed_28 : decode cX10_feed 28 = .ok (.getfield 95, 3) := by decide +kernel
theorem dX10_feed_31 : decode cX10_feed 31 = .ok (.goto 5, 3) := by decide +kernel
theorem dX10_feed_34 : decode cX10_feed 34 = .ok (.bipush (-2), 2) := by decide +kernel
theorem dX10_feed_36 : decode cX10_feed 36 = .ok (.ireturn, 1) := by decide +kernel
set_option maxRecDepth 20000 in
theorem ggX10_tunnel_X7_readInto : GoodIn wsX10_tunnel wsX7_readInto := goodIn_r _ [12, 13, 14, 15, 16, 17, 18, 19, 20, 21, 22, 23, 24, 25, 26, 27, 28, 11, 29, 30, 31, 32, 33, 34, 35, 36, 37, 38, 39, 40, 41, 42, 43, 44, 45, 46, 47, 48, 49, 50, 51, 52, 53, 54, 55, 56, 57, 58, 59, 60, 61, 62, 63, 64, 65, 66, 67, 68, 69, 70, 71, 72, 73, 74, 75, 76, 77, 78, 79, 80, 81, 82, 83, 84, 85, 86, 87, 88, 89, 90, 91, 92, 93, 94, 95, 96, 97, 98, 99, 100, 101, 102, 103, 104, 105, 106, 107, 108, 109, 110, 111, 112, 113, 114, 115, 116, 117, 118, 119, 120, 121, 122, 123, 124, 125, 126, 127, 128, 129, 130, 131, 132, 155, 156, 157, 158, 159, 160, 161, 162, 163, 164, 165, 166, 167, 168, 169, 170] (by decide +kernel) (by decide +kernel)
set_option maxRecDepth 20000 in
theorem gX10_tunnel_X7_readInto : GoodIn wsX10_tunnel (wsV RX10 98 RX7 yX7_readInto wsX7_readInto) := goodIn_app (goodIn_of _ (by decide +kernel)) ggX10_tunnel_X7_readInto
set_option maxRecDepth 20000 in
theorem ggX10_tunnel_X8_copyFrom : GoodIn wsX10_tunnel wsX8_copyFrom := goodIn_r _ [136, 21, 22, 23, 24, 25, 137, 138, 139, 140, 19, 141, 116, 117, 118, 119, 160, 161, 162, 163, 164, 165, 166, 167, 168, 169, 170] (by decide +kernel) (by decide +kernel)
set_option maxRecDepth 20000 in
theorem gX10_tunnel_X8_copyFrom : GoodIn wsX10_tunnel (wsV RX10 105 RX8 yX8_copyFrom wsX8_copyFrom) := goodIn_app (goodIn_of _ (by decide +kernel)) ggX10_tunnel_X8_copyFrom
theorem dX10_tunnel_0 : decode cX10_tunnel 0 = .ok (.aload_n 0, 1) := by decide +kernel
theorem dX10_tunnel_1 : decode cX10_tunnel 1 = .ok (.getfield 53, 3) := by decide +kernel
theorem dX10_tunnel_4 : decode cX10_tunnel 4 = .ok (.aload_n 0, 1) := by decide +kernel
theorem dX10_tunnel_5 : decode cX10_tunnel 5 = .ok (.getfield 43, 3) := by decide +kernel
theorem dX10_tunnel_8 : decode cX10_tunnel 8 = .ok (.invokevirtual 98, 3) := by decide +kernel
theorem dX10_tunnel_11 : decode cX10_tunnel 11 = .ok (.istore_n 1, 1) := by decide +kernel
theorem dX10_tunnel_12 : decode cX10_tunnel 12 = .ok (.aload_n 0, 1) := by decide +kernel
theorem dX10_tunnel_13 : decode cX10_tunnel 13 = .ok (.getfield 53, 3) := by decide +kernel
theorem dX10_tunnel_16 : decode cX10_tunnel 16 = .ok (.iconst 0, 1) := by decide +kernel
theorem dX10_tunnel_17 : decode cX10_tunnel 17 = .ok (.putfield 95, 3) := by decide +kernel
theorem dX10_tunnel_20 : decode cX10_tunnel 20 = .ok (.iload_n 1, 1) := by decide +kernel
theorem dX10_tunnel_21 : decode cX10_tunnel 21 = .ok (.ifCond .lt 8, 3) := by decide +kernel
theorem dX10_tunnel_24 : decode cX10_tunnel 24 = .ok (.bipush (-100), 2) := by decide +kernel
theorem dX10_tunnel_26 : decode cX10_tunnel 26 = .ok (.iload_n 1, 1) := by decide +kernel
theorem dX10_tunnel_27 : decode cX10_tunnel 27 = .ok (.isub, 1) := by decide +kernel
theorem dX10_tunnel_28 : decode cX10_tunnel 28 = .ok (.ireturn, 1) := by decide +kernel
theorem dX10_tunnel_29 : decode cX10_tunnel 29 = .ok (.aload_n 0, 1) := by decide +kernel
theorem dX10_tunnel_30 : decode cX10_tunnel 30 = .ok (.getfield 43, 3) := by decide +kernel
theorem dX10_tunnel_33 : decode cX10_tunnel 33 = .ok (.aload_n 0, 1) := by decide +kernel
theorem dX10_tunnel_34 : decode cX10_tunnel 34 = .ok (.getfield 36, 3) := by decide +kernel
theorem dX10_tunnel_37 : decode cX10_tunnel 37 = .ok (.getfield 102, 3) := by decide +kernel
theorem dX10_tunnel_40 : decode cX10_tunnel 40 = .ok (.putfield 102, 3) := by decide +kernel
theorem dX10_tunnel_43 : decode cX10_tunnel 43 = .ok (.aload_n 0, 1) := by decide +kernel
theorem dX10_tunnel_44 : decode cX10_tunnel 44 = .ok (.getfield 36, 3) := by decide +kernel
theorem dX10_tunnel_47 : decode cX10_tunnel 47 = .ok (.aload_n 0, 1) := by decide +kernel
theorem dX10_tunnel_48 : decode cX10_tunnel 48 = .ok (.getfield 43, 3) := by decide +kernel
theorem dX10_tunnel_51 : decode cX10_tunnel 51 = .ok (.invokevirtual 105, 3) := by decide +kernel
theorem dX10_tunnel_54 : decode cX10_tunnel 54 = .ok (.aload_n 0, 1) := by decide +kernel
theorem dX10_tunnel_55 : decode cX10_tunnel 55 = .ok (.iconst 0, 1) := by decide +kernel
theorem dX10_tunnel_56 : decode cX10_tunnel 56 = .ok (.putfield 61, 3) := by decide +kernel
theorem dX10_tunnel_59 : decode cX10_tunnel 59 = .ok (.aload_n 0, 1) := by decide +kernel
theorem dX10_tunnel_60 : decode cX10_tunnel 60 = .ok (.getfield 36, 3) := by decide +kernel
theorem dX10_tunnel_63 : decode cX10_tunnel 63 = .ok (.getfield 109, 3) := by decide +kernel
theorem dX10_tunnel_66 : decode cX10_tunnel 66 = .ok (.ireturn, 1) := by decide +kernel
set_option maxRecDepth 20000 in
theorem ggX10_set_X10_isOutside : GoodIn wsX10_set wsX10_isOutside := goodIn_r _ [7] (by decide +kernel) (by decide +kernel)
set_option maxRecDepth 20000 in
theorem gX10_set_X10_isOutside : GoodIn wsX10_set (va_wsS RX10 87 yX10_isOutside wsX10_isOutside) := goodIn_app (goodIn_of _ (by decide +kernel)) ggX10_set_X10_isOutside
theorem dX10_set_0 : decode cX10_set 0 = .ok (.iload_n 1, 1) := by decide +kernel
theorem dX10_set_1 : decode cX10_set 1 = .ok (.iconst 0, 1) := by decide +kernel
theorem dX10_set_2 : decode cX10_set 2 = .ok (.iconst 3, 1) := by decide +kernel
theorem dX10_set_3 : decode cX10_set 3 = .ok (.invokestatic 87, 3) := by decide +kernel
theorem dX10_set_6 : decode cX10_set 6 = .ok (.ifCond .ne 16, 3) := by decide +kernel
theorem dX10_set_9 : decode cX10_set 9 = .ok (.iload_n 2, 1) := by decide +kernel
theorem dX10_set_10 : decode cX10_set 10 = .ok (.iconst 0, 1) := by decide +kernel
theorem dX10_set_11 : decode cX10_set 11 = .ok (.getstatic 112, 3) := by decide +kernel
theorem dX10_set_14 : decode cX10_set 14 = .ok (.iload_n 1, 1) := by decide +kernel
theorem dX10_set_15 : decode cX10_set 15 = .ok (.iaload, 1) := by decide +kernel
theorem dX10_set_16 : decode cX10_set 16 = .ok (.invokestatic 87, 3) := by decide +kernel
theorem dX10_set_19 : decode cX10_set 19 = .ok (.ifCond .eq 5, 3) := by decide +kernel
theorem dX10_set_22 : decode cX10_set 22 = .ok (.iconst (-1), 1) := by decide +kernel
theorem dX10_set_23 : decode cX10_set 23 = .ok (.ireturn, 1) := by decide +kernel
theorem dX10_set_24 : decode cX10_set 24 = .ok (.aload_n 0, 1) := by decide +kernel
theorem dX10_set_25 : decode cX10_set 25 = .ok (.getfield 36, 3) := by decide +kernel
theorem dX10_set_28 : decode cX10_set 28 = .ok (.getfield 115, 3) := by decide +kernel
theorem dX10_set_31 : decode cX10_set 31 = .ok (.iload_n 1, 1) := by decide +kernel
theorem dX10_set_32 : decode cX10_set 32 = .ok (.iaload, 1) := by decide +kernel
theorem dX10_set_33 : decode cX10_set 33 = .ok (.istore_n 3, 1) := by decide +kernel
theorem dX10_set_34 : decode cX10_set 34 = .ok (.aload_n 0, 1) := by decide +kernel
theorem dX10_set_35 : decode cX10_set 35 = .ok (.getfield 36, 3) := by decide +kernel
theorem dX10_set_38 : decode cX10_set 38 = .ok (.getfield 115, 3) := by decide +kernel
theorem dX10_set_41 : decode cX10_set 41 = .ok (.iload_n 1, 1) := by decide +kernel
theorem dX10_set_42 : decode cX10_set 42 = .ok (.iload_n 2, 1) := by decide +kernel
theorem dX10_set_43 : decode cX10_set 43 = .ok (.iastore, 1) := by decide +kernel
theorem dX10_set_44 : decode cX10_set 44 = .ok (.iload_n 3, 1) := by decide +kernel
theorem dX10_set_45 : decode cX10_set 45 = .ok (.ireturn, 1) := by decide +kernel
set_option maxRecDepth 20000 in
theorem ggX10_lawOf_X10_isOutside : GoodIn wsX10_lawOf wsX10_isOutside := goodIn_r _ [6] (by decide +kernel) (by decide +kernel)
set_option maxRecDepth 20000 in
theorem gX10_lawOf_X10_isOutside : GoodIn wsX10_lawOf (va_wsS RX10 87 yX10_isOutside wsX10_isOutside) := goodIn_app (goodIn_of _ (by decide +kernel)) ggX10_lawOf_X10_isOutside
theorem dX10_lawOf_0 : decode cX10_lawOf 0 = .ok (.iload_n 1, 1) := by decide +kernel
theorem dX10_lawOf_1 : decode cX10_lawOf 1 = .ok (.iconst 0, 1) := by decide +kernel
theorem dX10_lawOf_2 : decode cX10_lawOf 2 = .ok (.iconst 3, 1) := by decide +kernel
theorem dX10_lawOf_3 : decode cX10_lawOf 3 = .ok (.invokestatic 87, 3) := by decide +kernel
theorem dX10_lawOf_6 : decode cX10_lawOf 6 = .ok (.ifCond .eq 7, 3) := by decide +kernel
theorem dX10_lawOf_9 : decode cX10_lawOf 9 = .ok (.iconst (-1), 1) := by decide +kernel
theorem dX10_lawOf_10 : decode cX10_lawOf 10 = .ok (.goto 12, 3) := by decide +kernel
theorem dX10_lawOf_13 : decode cX10_lawOf 13 = .ok (.aload_n 0, 1) := by decide +kernel
theorem dX10_lawOf_14 : decode cX10_lawOf 14 = .ok (.getfield 36, 3) := by decide +kernel
theorem dX10_lawOf_17 : decode cX10_lawOf 17 = .ok (.getfield 115, 3) := by decide +kernel
theorem dX10_lawOf_20 : decode cX10_lawOf 20 = .ok (.iload_n 1, 1) := by decide +kernel
theorem dX10_lawOf_21 : decode cX10_lawOf 21 = .ok (.iaload, 1) := by decide +kernel
theorem dX10_lawOf_22 : decode cX10_lawOf 22 = .ok (.ireturn, 1) := by decide +kernel
set_option maxRecDepth 20000 in
theorem ggX10_roster_X10_isNoRest : GoodIn wsX10_roster wsX10_isNoRest := goodIn_r _ [7, 8, 9, 6, 10] (by decide +kernel) (by decide +kernel)
set_option maxRecDepth 20000 in
theorem gX10_roster_X10_isNoRest : GoodIn wsX10_roster (va_wsS RX10 118 yX10_isNoRest wsX10_isNoRest) := goodIn_app (goodIn_of _ (by decide +kernel)) ggX10_roster_X10_isNoRest
set_option maxRecDepth 20000 in
theorem ggX10_roster_X10_isOutside : GoodIn wsX10_roster wsX10_isOutside := goodIn_r _ [10] (by decide +kernel) (by decide +kernel)
set_option maxRecDepth 20000 in
theorem gX10_roster_X10_isOutside : GoodIn wsX10_roster (va_wsS RX10 87 yX10_isOutside wsX10_isOutside) := goodIn_app (goodIn_of _ (by decide +kernel)) ggX10_roster_X10_isOutside
theorem dX10_roster_0 : decode cX10_roster 0 = .ok (.iload_n 1, 1) := by decide +kernel
theorem dX10_roster_1 : decode cX10_roster 1 = .ok (.invokestatic 118, 3) := by decide +kernel
theorem dX10_roster_4 : decode cX10_roster 4 = .ok (.ifCond .ne 22, 3) := by decide +kernel
theorem dX10_roster_7 : decode cX10_roster 7 = .ok (.iload_n 2, 1) := by decide +kernel
theorem dX10_roster_8 : decode cX10_roster 8 = .ok (.iconst 0, 1) := by decide +kernel
theorem dX10_roster_9 : decode cX10_roster 9 = .ok (.iconst 1, 1) := by decide +kernel
theorem dX10_roster_10 : decode cX10_roster 10 = .ok (.invokestatic 87, 3) := by decide +kernel
theorem dX10_roster_13 : decode cX10_roster 13 = .ok (.ifCond .ne 13, 3) := by decide +kernel
theorem dX10_roster_16 : decode cX10_roster 16 = .ok (.iload_n 3, 1) := by decide +kernel
theorem dX10_roster_17 : decode cX10_roster 17 = .ok (.iconst 0, 1) := by decide +kernel
theorem dX10_roster_18 : decode cX10_roster 18 = .ok (.bipush 9, 2) := by decide +kernel
theorem dX10_roster_20 : decode cX10_roster 20 = .ok (.invokestatic 87, 3) := by decide +kernel
theorem dX10_roster_23 : decode cX10_roster 23 = .ok (.ifCond .eq 5, 3) := by decide +kernel
theorem dX10_roster_26 : decode cX10_roster 26 = .ok (.iconst (-1), 1) := by decide +kernel
theorem dX10_roster_27 : decode cX10_roster 27 = .ok (.ireturn, 1) := by decide +kernel
theorem dX10_roster_28 : decode cX10_roster 28 = .ok (.iload_n 2, 1) := by decide +kernel
theorem dX10_roster_29 : decode cX10_roster 29 = .ok (.ifCond .ne 13, 3) := by decide +kernel
theorem dX10_roster_32 : decode cX10_roster 32 = .ok (.aload_n 0, 1) := by decide +kernel
theorem dX10_roster_33 : decode cX10_roster 33 = .ok (.getfield 36, 3) := by decide +kernel
theorem dX10_roster_36 : decode cX10_roster 36 = .ok (.getfield 122, 3) := by decide +kernel
theorem dX10_roster_39 : decode cX10_roster 39 = .ok (.goto 10, 3) := by decide +kernel
theorem dX10_roster_42 : decode cX10_roster 42 = .ok (.aload_n 0, 1) := by decide +kernel
theorem dX10_roster_43 : decode cX10_roster 43 = .ok (.getfield 36, 3) := by decide +kernel
theorem dX10_roster_46 : decode cX10_roster 46 = .ok (.getfield 125, 3) := by decide +kernel
theorem dX10_roster_49 : decode cX10_roster 49 = .ok (.astore 4, 2) := by decide +kernel
theorem dX10_roster_51 : decode cX10_roster 51 = .ok (.aload 4, 2) := by decide +kernel
theorem dX10_roster_53 : decode cX10_roster 53 = .ok (.iload_n 1, 1) := by decide +kernel
theorem dX10_roster_54 : decode cX10_roster 54 = .ok (.iaload, 1) := by decide +kernel
theorem dX10_roster_55 : decode cX10_roster 55 = .ok (.istore 5, 2) := by decide +kernel
theorem dX10_roster_57 : decode cX10_roster 57 = .ok (.aload 4, 2) := by decide +kernel
theorem dX10_roster_59 : decode cX10_roster 59 = .ok (.iload_n 1, 1) := by decide +kernel
theorem dX10_roster_60 : decode cX10_roster 60 = .ok (.iload_n 3, 1) := by decide +kernel
theorem dX10_roster_61 : decode cX10_roster 61 = .ok (.iastore, 1) := by decide +kernel
theorem dX10_roster_62 : decode cX10_roster 62 = .ok (.iload 5, 2) := by decide +kernel
theorem dX10_roster_64 : decode cX10_roster 64 = .ok (.ireturn, 1) := by decide +kernel
set_option maxRecDepth 20000 in
theorem ggX10_rosterOf_X10_isNoRest : GoodIn wsX10_rosterOf wsX10_isNoRest := goodIn_r _ [7, 8, 9, 6, 10] (by decide +kernel) (by decide +kernel)
set_option maxRecDepth 20000 in
theorem gX10_rosterOf_X10_isNoRest : GoodIn wsX10_rosterOf (va_wsS RX10 118 yX10_isNoRest wsX10_isNoRest) := goodIn_app (goodIn_of _ (by decide +kernel)) ggX10_rosterOf_X10_isNoRest
set_option maxRecDepth 20000 in
theorem ggX10_rosterOf_X10_isOutside : GoodIn wsX10_rosterOf wsX10_isOutside := goodIn_r _ [10] (by decide +kernel) (by decide +kernel)
set_option maxRecDepth 20000 in
theorem gX10_rosterOf_X10_isOutside : GoodIn wsX10_rosterOf (va_wsS RX10 87 yX10_isOutside wsX10_isOutside) := goodIn_app (goodIn_of _ (by decide +kernel)) ggX10_rosterOf_X10_isOutside
theorem dX10_rosterOf_0 : decode cX10_rosterOf 0 = .ok (.iload_n 1, 1) := by decide +kernel
theorem dX10_rosterOf_1 : decode cX10_rosterOf 1 = .ok (.invokestatic 118, 3) := by decide +kernel
theorem dX10_rosterOf_4 : decode cX10_rosterOf 4 = .ok (.ifCond .ne 12, 3) := by decide +kernel
theorem dX10_rosterOf_7 : decode cX10_rosterOf 7 = .ok (.iload_n 2, 1) := by decide +kernel
theorem dX10_rosterOf_8 : decode cX10_rosterOf 8 = .ok (.iconst 0, 1) := by decide +kernel
theorem dX10_rosterOf_9 : decode cX10_rosterOf 9 = .ok (.iconst 1, 1) := by decide +kernel
theorem dX10_rosterOf_10 : decode cX10_rosterOf 10 = .ok (.invokestatic 87, 3) := by decide +kernel
theorem dX10_rosterOf_13 : decode cX10_rosterOf 13 = .ok (.ifCond .eq 5, 3) := by decide +kernel
theorem dX10_rosterOf_16 : decode cX10_rosterOf 16 = .ok (.iconst (-1), 1) := by decide +kernel
theorem dX10_rosterOf_17 : decode cX10_rosterOf 17 = .ok (.ireturn, 1) := by decide +kernel
theorem dX10_rosterOf_18 : decode cX10_rosterOf 18 = .ok (.iload_n 2, 1) := by decide +kernel
theorem dX10_rosterOf_19 : decode cX10_rosterOf 19 = .ok (.ifCond .ne 15, 3) := by decide +kernel
theorem dX10_rosterOf_22 : decode cX10_rosterOf 22 = .ok (.aload_n 0, 1) := by decide +kernel
theorem dX10_rosterOf_23 : decode cX10_rosterOf 23 = .ok (.getfield 36, 3) := by decide +kernel
theorem dX10_rosterOf_26 : decode cX10_rosterOf 26 = .ok (.getfield 122, 3) := by decide +kernel
theorem dX10_rosterOf_29 : decode cX10_rosterOf 29 = .ok (.iload_n 1, 1) := by decide +kernel
theorem dX10_rosterOf_30 : decode cX10_rosterOf 30 = .ok (.iaload, 1) := by decide +kernel
theorem dX10_rosterOf_31 : decode cX10_rosterOf 31 = .ok (.goto 12, 3) := by decide +kernel
theorem dX10_rosterOf_34 : decode cX10_rosterOf 34 = .ok (.aload_n 0, 1) := by decide +kernel
theorem dX10_rosterOf_35 : decode cX10_rosterOf 35 = .ok (.getfield 36, 3) := by decide +kernel
theorem dX10_rosterOf_38 : decode cX10_rosterOf 38 = .ok (.getfield 125, 3) := by decide +kernel
theorem dX10_rosterOf_41 : decode cX10_rosterOf 41 = .ok (.iload_n 1, 1) := by decide +kernel
theorem dX10_rosterOf_42 : decode cX10_rosterOf 42 = .ok (.iaload, 1) := by decide +kernel
theorem dX10_rosterOf_43 : decode cX10_rosterOf 43 = .ok (.ireturn, 1) := by decide +kernel
set_option maxRecDepth 20000 in
theorem ggX10_goer_X10_isNoKind : GoodIn wsX10_goer wsX10_isNoKind := goodIn_r _ [6, 7, 8, 5, 9] (by decide +kernel) (by decide +kernel)
set_option maxRecDepth 20000 in
theorem gX10_goer_X10_isNoKind : GoodIn wsX10_goer (va_wsS RX10 128 yX10_isNoKind wsX10_isNoKind) := goodIn_app (goodIn_of _ (by decide +kernel)) ggX10_goer_X10_isNoKind
set_option maxRecDepth 20000 in
theorem ggX10_goer_X10_isOutside : GoodIn wsX10_goer wsX10_isOutside := goodIn_r _ [9] (by decide +kernel) (by decide +kernel)
set_option maxRecDepth 20000 in
theorem gX10_goer_X10_isOutside : GoodIn wsX10_goer (va_wsS RX10 87 yX10_isOutside wsX10_isOutside) := goodIn_app (goodIn_of _ (by decide +kernel)) ggX10_goer_X10_isOutside
set_option maxRecDepth 20000 in
theorem ggX10_goer_X8_add : GoodIn wsX10_goer wsX8_add := goodIn_r _ [14, 15, 16, 17, 18, 19, 33, 34, 35, 36, 37, 38, 39, 40, 41, 42, 43] (by decide +kernel) (by decide +kernel)
set_option maxRecDepth 20000 in
theorem gX10_goer_X8_add : GoodIn wsX10_goer (wsV RX10 131 RX8 yX8_add wsX8_add) := goodIn_app (goodIn_of _ (by decide +kernel)) ggX10_goer_X8_add
