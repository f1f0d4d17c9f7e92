theorem dX2_only_13 : decode cX2_only 13 = .ok (.goto 4, 3) := by decide +kernel
theorem dX2_only_16 : decode cX2_only 16 = .ok (.lconst 0, 1) := by decide +kernel
theorem dX2_only_17 : decode cX2_only 17 = .ok (.lreturn, 1) := by decide +kernel
set_option maxRecDepth 20000 in
theorem ggX2_has_X2_only : GoodIn wsX2_has wsX2_only := goodIn_r _ [4] (by decide +kernel) (by decide +kernel)
set_option maxRecDepth 20000 in
theorem gX2_has_X2_only : GoodIn wsX2_has (va_wsS RX2 11 yX2_only wsX2_only) := goodIn_app (goodIn_of _ (by decide +kernel)) ggX2_has_X2_only
theorem dX2_has_0 : decode cX2_has 0 = .ok (.lload_n 0, 1) := by decide +kernel
theorem dX2_has_1 : decode cX2_has 1 = .ok (.iload_n 2, 1) := by decide +kernel
theorem dX2_has_2 : decode cX2_has 2 = .ok (.invokestatic 11, 3) := by decide +kernel
theorem dX2_has_5 : decode cX2_has 5 = .ok (.land, 1) := by decide +kernel
theorem dX2_has_6 : decode cX2_has 6 = .ok (.lconst 0, 1) := by decide +kernel
theorem dX2_has_7 : decode cX2_has 7 = .ok (.lcmp, 1) := by decide +kernel
theorem dX2_has_8 : decode cX2_has 8 = .ok (.ifCond .eq 7, 3) := by decide +kernel
theorem dX2_has_11 : decode cX2_has 11 = .ok (.iconst 1, 1) := by decide +kernel
theorem dX2_has_12 : decode cX2_has 12 = .ok (.goto 4, 3) := by decide +kernel
theorem dX2_has_15 : decode cX2_has 15 = .ok (.iconst 0, 1) := by decide +kernel
theorem dX2_has_16 : decode cX2_has 16 = .ok (.ireturn, 1) := by decide +kernel
set_option maxRecDepth 20000 in
theorem ggX2_howMany_J13_bitCount_95d88 : GoodIn wsX2_howMany wsJ13_bitCount_95d88 := goodIn_r _ [5, 6, 7, 8] (by decide +kernel) (by decide +kernel)
set_option maxRecDepth 20000 in
theorem gX2_howMany_J13_bitCount_95d88 : GoodIn wsX2_howMany (va_wsS RX2 17 yJ13_bitCount_95d88 wsJ13_bitCount_95d88) := goodIn_app (goodIn_of _ (by decide +kernel)) ggX2_howMany_J13_bitCount_95d88
theorem dX2_howMany_0 : decode cX2_howMany 0 = .ok (.lload_n 0, 1) := by decide +kernel
theorem dX2_howMany_1 : decode cX2_howMany 1 = .ok (.ldc2_w 15, 3) := by decide +kernel
theorem dX2_howMany_4 : decode cX2_howMany 4 = .ok (.land, 1) := by decide +kernel
theorem dX2_howMany_5 : decode cX2_howMany 5 = .ok (.invokestatic 17, 3) := by decide +kernel
theorem dX2_howMany_8 : decode cX2_howMany 8 = .ok (.ireturn, 1) := by decide +kernel
set_option maxRecDepth 20000 in
theorem ggX2_byNumber_X2_has : GoodIn wsX2_byNumber wsX2_has := goodIn_r _ [4, 5, 6, 3, 7] (by decide +kernel) (by decide +kernel)
set_option maxRecDepth 20000 in
theorem gX2_byNumber_X2_has : GoodIn wsX2_byNumber (va_wsS RX2 23 yX2_has wsX2_has) := goodIn_app (goodIn_of _ (by decide +kernel)) ggX2_byNumber_X2_has
theorem dX2_byNumber_0 : decode cX2_byNumber 0 = .ok (.iload_n 2, 1) := by decide +kernel
theorem dX2_byNumber_1 : decode cX2_byNumber 1 = .ok (.istore_n 3, 1) := by decide +kernel
theorem dX2_byNumber_2 : decode cX2_byNumber 2 = .ok (.iconst 0, 1) := by decide +kernel
theorem dX2_byNumber_3 : decode cX2_byNumber 3 = .ok (.istore 4, 2) := by decide +kernel
theorem dX2_byNumber_5 : decode cX2_byNumber 5 = .ok (.iload 4, 2) := by decide +kernel
theorem dX2_byNumber_7 : decode cX2_byNumber 7 = .ok (.bipush 36, 2) := by decide +kernel
theorem dX2_byNumber_9 : decode cX2_byNumber 9 = .ok (.if_icmp .ge 28, 3) := by decide +kernel
theorem dX2_byNumber_12 : decode cX2_byNumber 12 = .ok (.lload_n 0, 1) := by decide +kernel
theorem dX2_byNumber_13 : decode cX2_byNumber 13 = .ok (.iload 4, 2) := by decide +kernel
theorem dX2_byNumber_15 : decode cX2_byNumber 15 = .ok (.invokestatic 23, 3) := by decide +kernel
theorem dX2_byNumber_18 : decode cX2_byNumber 18 = .ok (.ifCond .eq 13, 3) := by decide +kernel
theorem dX2_byNumber_21 : decode cX2_byNumber 21 = .ok (.iload_n 3, 1) := by decide +kernel
theorem dX2_byNumber_22 : decode cX2_byNumber 22 = .ok (.ifCond .ne 6, 3) := by decide +kernel
theorem dX2_byNumber_25 : decode cX2_byNumber 25 = .ok (.iload 4, 2) := by decide +kernel
theorem dX2_byNumber_27 : decode cX2_byNumber 27 = .ok (.ireturn, 1) := by decide +kernel
theorem dX2_byNumber_28 : decode cX2_byNumber 28 = .ok (.iinc 3 (-1), 3) := by decide +kernel
theorem dX2_byNumber_31 : decode cX2_byNumber 31 = .ok (.iinc 4 1, 3) := by decide +kernel
theorem dX2_byNumber_34 : decode cX2_byNumber 34 = .ok (.goto (-29), 3) := by decide +kernel
theorem dX2_byNumber_37 : decode cX2_byNumber 37 = .ok (.bipush (-9), 2) := by decide +kernel
theorem dX2_byNumber_39 : decode cX2_byNumber 39 = .ok (.ireturn, 1) := by decide +kernel
theorem dX2_spread_0 : decode cX2_spread 0 = .ok (.lload_n 0, 1) := by decide +kernel
theorem dX2_spread_1 : decode cX2_spread 1 = .ok (.lload_n 2, 1) := by decide +kernel
theorem dX2_spread_2 : decode cX2_spread 2 = .ok (.land, 1) := by decide +kernel
theorem dX2_spread_3 : decode cX2_spread 3 = .ok (.lstore 4, 2) := by decide +kernel
theorem dX2_spread_5 : decode cX2_spread 5 = .ok (.lload 4, 2) := by decide +kernel
theorem dX2_spread_7 : decode cX2_spread 7 = .ok (.ldc2_w 27, 3) := by decide +kernel
theorem dX2_spread_10 : decode cX2_spread 10 = .ok (.land, 1) := by decide +kernel
theorem dX2_spread_11 : decode cX2_spread 11 = .ok (.iconst 1, 1) := by decide +kernel
theorem dX2_spread_12 : decode cX2_spread 12 = .ok (.lshl, 1) := by decide +kernel
theorem dX2_spread_13 : decode cX2_spread 13 = .ok (.lload 4, 2) := by decide +kernel
theorem dX2_spread_15 : decode cX2_spread 15 = .ok (.ldc2_w 29, 3) := by decide +kernel
theorem dX2_spread_18 : decode cX2_spread 18 = .ok (.land, 1) := by decide +kernel
theorem dX2_spread_19 : decode cX2_spread 19 = .ok (.iconst 1, 1) := by decide +kernel
theorem dX2_spread_20 : decode cX2_spread 20 = .ok (.lushr, 1) := by decide +kernel
theorem dX2_spread_21 : decode cX2_spread 21 = .ok (.lor, 1) := by decide +kernel
theorem dX2_spread_22 : decode cX2_spread 22 = .ok (.lstore 6, 2) := by decide +kernel
theorem dX2_spread_24 : decode cX2_spread 24 = .ok (.lload_n 0, 1) := by decide +kernel
theorem dX2_spread_25 : decode cX2_spread 25 = .ok (.lload 4, 2) := by decide +kernel
theorem dX2_spread_27 : decode cX2_spread 27 = .ok (.bipush 6, 2) := by decide +kernel
theorem dX2_spread_29 : decode cX2_spread 29 = .ok (.lshl, 1) := by decide +kernel
theorem dX2_spread_30 : decode cX2_spread 30 = .ok (.lload 4, 2) := by decide +kernel
theorem dX2_spread_32 : decode cX2_spread 32 = .ok (.bipush 6, 2) := by decide +kernel
theorem dX2_spread_34 : decode cX2_spread 34 = .ok (.lushr, 1) := by decide +kernel
theorem dX2_spread_35 : decode cX2_spread 35 = .ok (.lor, 1) := by decide +kernel
theorem dX2_spread_36 : decode cX2_spread 36 = .ok (.lload 6, 2) := by decide +kernel
theorem dX2_spread_38 : decode cX2_spread 38 = .ok (.lor, 1) := by decide +kernel
theorem dX2_spread_39 : decode cX2_spread 39 = .ok (.lload_n 2, 1) := by decide +kernel
theorem dX2_spread_40 : decode cX2_spread 40 = .ok (.land, 1) := by decide +kernel
theorem dX2_spread_41 : decode cX2_spread 41 = .ok (.lor, 1) := by decide +kernel
theorem dX2_spread_42 : decode cX2_spread 42 = .ok (.lreturn, 1) := by decide +kernel
set_option maxRecDepth 20000 in
theorem ggX2_within_X2_only : GoodIn wsX2_within wsX2_only := goodIn_r _ [4] (by decide +kernel) (by decide +kernel)
set_option maxRecDepth 20000 in
theorem gX2_within_X2_only : GoodIn wsX2_within (va_wsS RX2 11 yX2_only wsX2_only) := goodIn_app (goodIn_of _ (by decide +kernel)) ggX2_within_X2_only
set_option maxRecDepth 20000 in
theorem ggX2_within_X2_spread : GoodIn wsX2_within wsX2_spread := goodIn_r _ [7, 8, 9] (by decide +kernel) (by decide +kernel)
set_option maxRecDepth 20000 in
theorem gX2_within_X2_spread : GoodIn wsX2_within (va_wsS RX2 31 yX2_spread wsX2_spread) := goodIn_app (goodIn_of _ (by decide +kernel)) ggX2_within_X2_spread
theorem dX2_within_0 : decode cX2_within 0 = .ok (.iload_n 0, 1) := by decide +kernel
theorem dX2_within_1 : decode cX2_within 1 = .ok (.invokestatic 11, 3) := by decide +kernel
theorem dX2_within_4 : decode cX2_within 4 = .ok (.lstore 4, 2) := by decide +kernel
theorem dX2_within_6 : decode cX2_within 6 = .ok (.iconst 0, 1) := by decide +kernel
theorem dX2_within_7 : decode cX2_within 7 = .ok (.istore 6, 2) := by decide +kernel
theorem dX2_within_9 : decode cX2_within 9 = .ok (.iload 6, 2) := by decide +kernel
theorem dX2_within_11 : decode cX2_within 11 = .ok (.iload_n 1, 1) := by decide +kernel
theorem dX2_within_12 : decode cX2_within 12 = .ok (.if_icmp .ge 24, 3) := by decide +kernel
theorem dX2_within_15 : decode cX2_within 15 = .ok (.iload 6, 2) := by decide +kernel
theorem dX2_within_17 : decode cX2_within 17 = .ok (.bipush 36, 2) := by decide +kernel
theorem dX2_within_19 : decode cX2_within 19 = .ok (.if_icmp .ge 17, 3) := by decide +kernel
theorem dX2_within_22 : decode cX2_within 22 = .ok (.lload 4, 2) := by decide +kernel
theorem dX2_within_24 : decode cX2_within 24 = .ok (.lload_n 2, 1) := by decide +kernel
theorem dX2_within_25 : decode cX2_within 25 = .ok (.invokestatic 31, 3) := by decide +kernel
theorem dX2_within_28 : decode cX2_within 28 = .ok (.lstore 4, 2) := by decide +kernel
theorem dX2_within_30 : decode cX2_within 30 = .ok (.iinc 6 1, 3) := by decide +kernel
theorem dX2_within_33 : decode cX2_within 33 = .ok (.goto (-24), 3) := by decide +kernel
theorem dX2_within_36 : decode cX2_within 36 = .ok (.lload 4, 2) := by decide +kernel
theorem dX2_within_38 : decode cX2_within 38 = .ok (.lreturn, 1) := by decide +kernel
set_option maxRecDepth 20000 in
theorem ggX2_fewestSteps_X2_only : GoodIn wsX2_fewestSteps wsX2_only := goodIn_r _ [4] (by decide +kernel) (by decide +kernel)
set_option maxRecDepth 20000 in
theorem gX2_fewestSteps_X2_only : GoodIn wsX2_fewestSteps (va_wsS RX2 11 yX2_only wsX2_only) := goodIn_app (goodIn_of _ (by decide +kernel)) ggX2_fewestSteps_X2_only
set_option maxRecDepth 20000 in
theorem ggX2_fewestSteps_X2_has : GoodIn wsX2_fewestSteps wsX2_has := goodIn_r _ [7, 1, 2, 3, 4] (by decide +kernel) (by decide +kernel)
set_option maxRecDepth 20000 in
theorem gX2_fewestSteps_X2_has : GoodIn wsX2_fewestSteps (va_wsS RX2 23 yX2_has wsX2_has) := goodIn_app (goodIn_of _ (by decide +kernel)) ggX2_fewestSteps_X2_has
set_option maxRecDepth 20000 in
theorem ggX2_fewestSteps_X2_spread : GoodIn wsX2_fewestSteps wsX2_spread := goodIn_r _ [10, 11, 12] (by decide +kernel) (by decide +kernel)
set_option maxRecDepth 20000 in
theorem gX2_fewestSteps_X2_spread : GoodIn wsX2_fewestSteps (va_wsS RX2 31 yX2_spread wsX2_spread) := goodIn_app (goodIn_of _ (by decide +kernel)) ggX2_fewestSteps_X2_spread
theorem dX2_fewestSteps_0 : decode cX2_fewestSteps 0 = .ok (.iload_n 0, 1) := by decide +kernel
theorem dX2_fewestSteps_1 : decode cX2_fewestSteps 1 = .ok (.invokestatic 11, 3) := by decide +kernel
theorem dX2_fewestSteps_4 : decode cX2_fewestSteps 4 = .ok (.lload_n 2, 1) := by decide +kernel
theorem dX2_fewestSteps_5 : decode cX2_fewestSteps 5 = .ok (.land, 1) := by decide +kernel
theorem dX2_fewestSteps_6 : decode cX2_fewestSteps 6 = .ok (.lstore 4, 2) := by decide +kernel
theorem dX2_fewestSteps_8 : decode cX2_fewestSteps 8 = .ok (.iconst 0, 1) := by decide +kernel
theorem dX2_fewestSteps_9 : decode cX2_fewestSteps 9 = .ok (.istore 6, 2) := by decide +kernel
theorem dX2_fewestSteps_11 : decode cX2_fewestSteps 11 = .ok (.iload 6, 2) := by decide +kernel
theorem dX2_fewestSteps_13 : decode cX2_fewestSteps 13 = .ok (.bipush 36, 2) := by decide +kernel
theorem dX2_fewestSteps_15 : decode cX2_fewestSteps 15 = .ok (.if_icmp .ge 29, 3) := by decide +kernel
theorem dX2_fewestSteps_18 : decode cX2_fewestSteps 18 = .ok (.lload 4, 2) := by decide +kernel
theorem dX2_fewestSteps_20 : decode cX2_fewestSteps 20 = .ok (.iload_n 1, 1) := by decide +kernel
theorem dX2_fewestSteps_21 : decode cX2_fewestSteps 21 = .ok (.invokestatic 23, 3) := by decide +kernel
theorem dX2_fewestSteps_24 : decode cX2_fewestSteps 24 = .ok (.ifCond .eq 6, 3) := by decide +kernel
theorem dX2_fewestSteps_27 : decode cX2_fewestSteps 27 = .ok (.iload 6, 2) := by decide +kernel
theorem dX2_fewestSteps_29 : decode cX2_fewestSteps 29 = .ok (.ireturn, 1) := by decide +kernel
theorem dX2_fewestSteps_30 : decode cX2_fewestSteps 30 = .ok (.lload 4, 2) := by decide +kernel
theorem dX2_fewestSteps_32 : decode cX2_fewestSteps 32 = .ok (.lload_n 2, 1) := by decide +kernel
theorem dX2_fewestSteps_33 : decode cX2_fewestSteps 33 = .ok (.invokestatic 31, 3) := by decide +kernel
theorem dX2_fewestSteps_36 : decode cX2_fewestSteps 36 = .ok (.lstore 4, 2) := by decide +kernel
theorem dX2_fewestSteps_38 : decode cX2_fewestSteps 38 = .ok (.iinc 6 1, 3) := by decide +kernel
theorem dX2_fewestSteps_41 : decode cX2_fewestSteps 41 = .ok (.goto (-30), 3) := by decide +kernel
theorem dX2_fewestSteps_44 : decode cX2_fewestSteps 44 = .ok (.bipush (-9), 2) := by decide +kernel
theorem dX2_fewestSteps_46 : decode cX2_fewestSteps 46 = .ok (.ireturn, 1) := by decide +kernel
set_option maxRecDepth 20000 in
theorem ggX2_towards_X2_only : GoodIn wsX2_towards wsX2_only := goodIn_r _ [6] (by decide +kernel) (by decide +kernel)
set_option maxRecDepth 20000 in
theorem gX2_towards_X2_only : GoodIn wsX2_towards (va_wsS RX2 11 yX2_only wsX2_only) := goodIn_app (goodIn_of _ (by decide +kernel)) ggX2_towards_X2_only
theorem dX2_towards_0 : decode cX2_towards 0 = .ok (.iload_n 0, 1) := by decide +kernel
theorem dX2_towards_1 : decode cX2_towards 1 = .ok (.invokestatic 11, 3) := by decide +kernel
theorem dX2_towards_4 : decode cX2_towards 4 = .ok (.lstore_n 2, 1) := by decide +kernel
theorem dX2_towards_5 : decode cX2_towards 5 = .ok (.iload_n 1, 1) := by decide +kernel
theorem dX2_towards_6 : decode cX2_towards 6 = .ok (.tableswitch 69 0 2 #[26, 31, 50], 26) := by decide +kernel
theorem dX2_towards_32 : decode cX2_towards 32 = .ok (.iload_n 0, 1) := by decide +kernel
theorem dX2_towards_33 : decode cX2_towards 33 = .ok (.bipush 6, 2) := by decide +kernel
theorem dX2_towards_35 : decode cX2_towards 35 = .ok (.isub, 1) := by decide +kernel
theorem dX2_towards_36 : decode cX2_towards 36 = .ok (.ireturn, 1) := by decide +kernel
theorem dX2_towards_37 : decode cX2_towards 37 = .ok (.lload_n 2, 1) := by decide +kernel
theorem dX2_towards_38 : decode cX2_towards 38 = .ok (.ldc2_w 35, 3) := by decide +kernel
theorem dX2_towards_41 : decode cX2_towards 41 = .ok (.land, 1) := by decide +kernel
theorem dX2_towards_42 : decode cX2_towards 42 = .ok (.lconst 0, 1) := by decide +kernel
theorem dX2_towards_43 : decode cX2_towards 43 = .ok (.lcmp, 1) := by decide +kernel
theorem dX2_towards_44 : decode cX2_towards 44 = .ok (.ifCond .eq 8, 3) := by decide +kernel
theorem dX2_towards_47 : decode cX2_towards 47 = .ok (.bipush (-9), 2) := by decide +kernel
theorem dX2_towards_49 : decode cX2_towards 49 = .ok (.goto 6, 3) := by decide +kernel
theorem dX2_towards_52 : decode cX2_towards 52 = .ok (.iload_n 0, 1) := by decide +kernel
theorem dX2_towards_53 : decode cX2_towards 53 = .ok (.iconst 1, 1) := by decide +kernel
theorem dX2_towards_54 : decode cX2_towards 54 = .ok (.isub, 1) := by decide +kernel
theorem dX2_towards_55 : decode cX2_towards 55 = .ok (.ireturn, 1) := by decide +kernel
theorem dX2_towards_56 : decode cX2_towards 56 = .ok (.lload_n 2, 1) := by decide +kernel
theorem dX2_towards_57 : decode cX2_towards 57 = .ok (.ldc2_w 37, 3) := by decide +kernel
theorem dX2_towards_60 : decode cX2_towards 60 = .ok (.land, 1) := by decide +kernel
theorem dX2_towards_61 : decode cX2_towards 61 = .ok (.lconst 0, 1) := by decide +kernel
theorem dX2_towards_62 : decode cX2_towards 62 = .ok (.lcmp, 1) := by decide +kernel
theorem dX2_towards_63 : decode cX2_towards 63 = .ok (.ifCond .eq 8, 3) := by decide +kernel
theorem dX2_towards_66 : decode cX2_towards 66 = .ok (.bipush (-9), 2) := by decide +kernel
theorem dX2_towards_68 : decode cX2_towards 68 = .ok (.goto 6, 3) := by decide +kernel
theorem dX2_towards_71 : decode cX2_towards 71 = .ok (.iload_n 0, 1) := by decide +kernel
theorem dX2_towards_72 : decode cX2_towards 72 = .ok (.iconst 1, 1) := by decide +kernel
theorem dX2_towards_73 : decode cX2_towards 73 = .ok (.iadd, 1) := by decide +kernel
theorem dX2_towards_74 : decode cX2_towards 74 = .ok (.ireturn, 1) := by decide +kernel
theorem dX2_towards_75 : decode cX2_towards 75 = .ok (.iload_n 0, 1) := by decide +kernel
theorem dX2_towards_76 : decode cX2_towards 76 = .ok (.bipush 6, 2) := by decide +kernel
theorem dX2_towards_78 : decode cX2_towards 78 = .ok (.iadd, 1) := by decide +kernel
theorem dX2_towards_79 : decode cX2_towards 79 = .ok (.ireturn, 1) := by decide +kernel
set_option maxRecDepth 20000 in
theorem ggX3_init_X5_init : GoodIn wsX3_init wsX5_init := goodIn_r _ [3, 4, 5, 6, 7, 8, 9, 10, 11, 12, 13, 14, 15, 16, 17, 18, 19, 20, 21, 22, 23, 24, 25, 26, 27, 28, 29, 30, 31, 32, 33, 34, 35, 36, 37, 38, 39, 40, 41, 42, 43, 44] (by decide +kernel) (by decide +kernel)
set_option maxRecDepth 20000 in
theorem gX3_init_X5_init_n1 : GoodIn wsX3_init (wsX5_init) := ggX3_init_X5_init
theorem dX3_init_0 : decode cX3_init 0 = .ok (.aload_n 0, 1) := by decide +kernel
theorem dX3_init_1 : decode cX3_init 1 = .ok (.invokespecial 1, 3) := by decide +kernel
theorem dX3_init_4 : decode cX3_init 4 = .ok (.return_, 1) := by decide +kernel
theorem dX3_kind_0 : decode cX3_kind 0 = .ok (.iconst 1, 1) := by decide +kernel
theorem dX3_kind_1 : decode cX3_kind 1 = .ok (.ireturn, 1) := by decide +kernel
theorem dX3_whoKept_0 : decode cX3_whoKept 0 = .ok (.bipush 9, 2) := by decide +kernel
theorem dX3_whoKept_2 : decode cX3_whoKept 2 = .ok (.ireturn, 1) := by decide +kernel
set_option maxRecDepth 20000 in
theorem ggX4_init_X8_init : GoodIn wsX4_init wsX8_init := goodIn_r _ [3, 4, 5, 6, 7, 8, 9, 10, 11, 12, 13, 14, 15, 16, 17, 18, 19, 20, 21, 22, 23, 24, 25, 26, 27, 28, 29, 30, 31, 32, 33, 34, 35, 36, 37, 38, 39, 40, 41, 42, 43, 44, 45, 46, 47] (by decide +kernel) (by decide +kernel)
set_option maxRecDepth 20000 in
theorem gX4_init_X8_init_n1 : GoodIn wsX4_init (wsX8_init) := ggX4_init_X8_init
theorem dX4_init_0 : decode cX4_init 0 = .ok (.aload_n 0, 1) := by decide +kernel
theorem dX4_init_1 : decode cX4_init 1 = .ok (.invokespecial 1, 3) := by decide +kernel
theorem dX4_init_4 : decode cX4_init 4 = .ok (.return_, 1) := by decide +kernel
theorem dX4_kind_0 : decode cX4_kind 0 = .ok (.bipush 6, 2) := by decide +kernel
theorem dX4_kind_2 : decode cX4_kind 2 = .ok (.ireturn, 1) := by decide +kernel
theorem dX4_showsOldestFirst_0 : decode cX4_showsOldestFirst 0 = .ok (.iconst 1, 1) := by decide +kernel
theorem dX4_showsOldestFirst_1 : decode cX4_showsOldestFirst 1 = .ok (.ireturn, 1) := by decide +kernel
theorem dX5_init_0 : decode cX5_init 0 = .ok (.aload_n 0, 1) := by decide +kernel
theorem dX5_init_1 : decode cX5_init 1 = .ok (.invokespecial 3, 3) := by decide +kernel
theorem dX5_init_4 : decode cX5_init 4 = .ok (.aload_n 0, 1) := by decide +kernel
theorem dX5_init_5 : decode cX5_init 5 = .ok (.iconst 1, 1) := by decide +kernel
theorem dX5_init_6 : decode cX5_init 6 = .ok (.putfield 9, 3) := by decide +kernel
theorem dX5_init_9 : decode cX5_init 9 = .ok (.aload_n 0, 1) := by decide +kernel
theorem dX5_init_10 : decode cX5_init 10 = .ok (.bipush 9, 2) := by decide +kernel
theorem dX5_init_12 : decode cX5_init 12 = .ok (.newarray .int, 2) := by decide +kernel
theorem dX5_init_14 : decode cX5_init 14 = .ok (.putfield 15, 3) := by decide +kernel
theorem dX5_init_17 : decode cX5_init 17 = .ok (.return_, 1) := by decide +kernel
set_option maxRecDepth 20000 in
theorem ggX5_ofKind_X3_init : GoodIn wsX5_ofKind wsX3_init := goodIn_r _ [23, 24, 21, 25, 26, 27, 28, 29, 30, 31, 58, 59, 60, 61, 62, 53, 54, 55, 56, 57, 43, 44, 45, 46, 47, 68, 69, 70, 71, 72, 73, 74, 75, 76, 77, 48, 49, 50, 51, 52, 63, 64, 65, 66, 67] (by decide +kernel) (by decide +kernel)
set_option maxRecDepth 20000 in
theorem gX5_ofKind_X3_init_n21 : GoodIn wsX5_ofKind (wsX3_init) := ggX5_ofKind_X3_init
set_option maxRecDepth 20000 in
theorem ggX5_ofKind_X7_init : GoodIn wsX5_ofKind wsX7_init := goodIn_r _ [33, 24, 21, 25, 26, 27, 28, 29, 30, 31, 58, 59, 60, 61, 62, 53, 54, 55, 56, 57, 43, 44, 45, 46, 47, 68, 69, 70, 71, 72, 73, 74, 75, 76, 77, 48, 49, 50, 51, 52, 63, 64, 65, 66, 67] (by decide +kernel) (by decide +kernel)
set_option maxRecDepth 20000 in
theorem gX5_ofKind_X7_init_n24 : GoodIn wsX5_ofKind (wsX7_init) := ggX5_ofKind_X7_init
set_option maxRecDepth 20000 in
theorem ggX5_ofKind_X1_init : GoodIn wsX5_ofKind wsX1_init := goodIn_r _ [35, 24, 21, 25, 26, 27, 28, 29, 30, 31, 58, 59, 60, 61, 62, 53, 54, 55, 56, 57, 43, 44, 45, 46, 47, 68, 69, 70, 71, 72, 73, 74, 75, 76, 77, 48, 49, 50, 51, 52, 63, 64, 65, 66, 67] (by decide +kernel) (by decide +kernel)
set_option maxRecDepth 20000 in
theorem gX5_ofKind_X1_init_n27 : GoodIn wsX5_ofKind (wsX1_init) := ggX5_ofKind_X1_init
set_option maxRecDepth 20000 in
theorem ggX5_ofKind_X0_init : GoodIn wsX5_ofKind wsX0_init := goodIn_r _ [37, 22, 3, 23, 24, 21, 25, 26, 27, 28, 29, 30, 31, 58, 59, 60, 61, 62, 53, 54, 55, 56, 57, 43, 44, 45, 46, 47, 68, 69, 70, 71, 72, 73, 74, 75, 76, 77, 48, 49, 50, 51, 52, 63, 64, 65, 66, 67] (by decide +kernel) (by decide +kernel)
set_option maxRecDepth 20000 in
theorem gX5_ofKind_X0_init_n30 : GoodIn wsX5_ofKind (wsX0_init) := ggX5_ofKind_X0_init
set_option maxRecDepth 20000 in
theorem ggX5_ofKind_X8_init : GoodIn wsX5_ofKind wsX8_init := goodIn_r _ [39, 24, 21, 25, 26, 27, 28, 29, 30, 31, 58, 59, 60, 61, 62, 53, 54, 55, 56, 57, 43, 44, 45, 46, 47, 68, 69, 70, 71, 72, 73, 74, 75, 76, 77, 48, 49, 50, 51, 52, 63, 64, 65, 66, 67] (by decide +kernel) (by decide +kernel)
set_option maxRecDepth 20000 in
theorem gX5_ofKind_X8_init_n33 : GoodIn wsX5_ofKind (wsX8_init) := ggX5_ofKind_X8_init
set_option maxRecDepth 20000 in
theorem ggX5_ofKind_X4_init : GoodIn wsX5_ofKind wsX4_init := goodIn_r _ [41, 38, 15, 39, 24, 21, 25, 26, 27, 28, 29, 30, 31, 58, 59, 60, 61, 62, 53, 54, 55, 56, 57, 43, 44, 45, 46, 47, 68, 69, 70, 71, 72, 73, 74, 75, 76, 77, 48, 49, 50, 51, 52, 63, 64, 65, 66, 67] (by decide +kernel) (by decide +kernel)
set_option maxRecDepth 20000 in
theorem gX5_ofKind_X4_init_n36 : GoodIn wsX5_ofKind (wsX4_init) := ggX5_ofKind_X4_init
set_option maxRecDepth 20000 in
theorem ggX5_ofKind_X5_init : GoodIn wsX5_ofKind wsX5_init := goodIn_r _ [25, 26, 27, 28, 29, 30, 31, 58, 59, 60, 61, 62, 53, 54, 55, 56, 57, 43, 44, 45, 46, 47, 68, 69, 70, 71, 72, 73, 74, 75, 76, 77, 48, 49, 50, 51, 52, 63, 64, 65, 66, 67] (by decide +kernel) (by decide +kernel)
set_option maxRecDepth 20000 in
theorem gX5_ofKind_X5_init : GoodIn wsX5_ofKind (wsX5_init) := ggX5_ofKind_X5_init
theorem dX5_ofKind_0 : decode cX5_ofKind 0 = .ok (.iload_n 0, 1) := by decide +kernel
theorem dX5_ofKind_1 : decode cX5_ofKind 1 = .ok (.tableswitch 87 1 6 #[39, 47, 55, 63, 71, 79], 39) := by decide +kernel
theorem dX5_ofKind_40 : decode cX5_ofKind 40 = .ok (.new 19, 3) := by decide +kernel
theorem dX5_ofKind_43 : decode cX5_ofKind 43 = .ok (.dup, 1) := by decide +kernel
theorem dX5_ofKind_44 : decode cX5_ofKind 44 = .ok (.invokespecial 21, 3) := by decide +kernel
theorem dX5_ofKind_47 : decode cX5_ofKind 47 = .ok (.areturn, 1) := by decide +kernel
theorem dX5_ofKind_48 : decode cX5_ofKind 48 = .ok (.new 22, 3) := by decide +kernel
theorem dX5_ofKind_51 : decode cX5_ofKind 51 = .ok (.dup, 1) := by decide +kernel
theorem dX5_ofKind_52 : decode cX5_ofKind 52 = .ok (.invokespecial 24, 3) := by decide +kernel
theorem dX5_ofKind_55 : decode cX5_ofKind 55 = .ok (.areturn, 1) := by decide +kernel
theorem dX5_ofKind_56 : decode cX5_ofKind 56 = .ok (.new 25, 3) := by decide +kernel
theorem dX5_ofKind_59 : decode cX5_ofKind 59 = .ok (.dup, 1) := by decide +kernel
theorem dX5_ofKind_60 : decode cX5_ofKind 60 = .ok (.invokespecial 27, 3) := by decide +kernel
theorem dX5_ofKind_63 : decode cX5_ofKind 63 = .ok (.areturn, 1) := by decide +kernel
theorem dX5_ofKind_64 : decode cX5_ofKind 64 = .ok (.new 28, 3) := by decide +kernel
theorem dX5_ofKind_67 : decode cX5_ofKind 67 = .ok (.dup, 1) := by decide +kernel
theorem dX5_ofKind_68 : decode cX5_ofKind 68 = .ok (.invokespecial 30, 3) := by decide +kernel
theorem dX5_ofKind_71 : decode cX5_ofKind 71 = .ok (.areturn, 1) := by decide +kernel
theorem dX5_ofKind_72 : decode cX5_ofKind 72 = .ok (.new 31, 3) := by decide +kernel
theorem dX5_ofKind_75 : decode cX5_ofKind 75 = .ok (.dup, 1) := by decide +kernel
theorem dX5_ofKind_76 : decode cX5_ofKind 76 = .ok (.invokespecial 33, 3) := by decide +kernel
theorem dX5_ofKind_79 : decode cX5_ofKind 79 = .ok (.areturn, 1) := by decide +kernel
theorem dX5_ofKind_80 : decode cX5_ofKind 80 = .ok (.new 34, 3) := by decide +kernel
theorem dX5_ofKind_83 : decode cX5_ofKind 83 = .ok (.dup, 1) := by decide +kernel
theorem dX5_ofKind_84 : decode cX5_ofKind 84 = .ok (.invokespecial 36, 3) := by decide +kernel
theorem dX5_ofKind_87 : decode cX5_ofKind 87 = .ok (.areturn, 1) := by decide +kernel
theorem dX5_ofKind_88 : decode cX5_ofKind 88 = .ok (.new 10, 3) := by decide +kernel
theorem dX5_ofKind_91 : decode cX5_ofKind 91 = .ok (.dup, 1) := by decide +kernel
theorem dX5_ofKind_92 : decode cX5_ofKind 92 = .ok (.invokespecial 37, 3) := by decide +kernel
theorem dX5_ofKind_95 : decode cX5_ofKind 95 = .ok (.areturn, 1) := by decide +kernel
theorem dX5_kind_0 : decode cX5_kind 0 = .ok (.iconst 0, 1) := by decide +kernel
theorem dX5_kind_1 : decode cX5_kind 1 = .ok (.ireturn, 1) := by decide +kernel
theorem dX5_room_0 : decode cX5_room 0 = .ok (.bipush 9, 2) := by decide +kernel
theorem dX5_room_2 : decode cX5_room 2 = .ok (.ireturn, 1) := by decide +kernel
theorem dX5_whoKept_0 : decode cX5_whoKept 0 = .ok (.iload_n 1, 1) := by decide +kernel
theorem dX5_whoKept_1 : decode cX5_whoKept 1 = .ok (.ireturn, 1) := by decide +kernel
theorem dX5_cellNow_0 : decode cX5_cellNow 0 = .ok (.aload_n 0, 1) := by decide +kernel
theorem dX5_cellNow_1 : decode cX5_cellNow 1 = .ok (.getfield 38, 3) := by decide +kernel
theorem dX5_cellNow_4 : decode cX5_cellNow 4 = .ok (.ireturn, 1) := by decide +kernel
theorem dX5_showsOldestFirst_0 : decode cX5_showsOldestFirst 0 = .ok (.iconst 0, 1) := by decide +kernel
theorem dX5_showsOldestFirst_1 : decode cX5_showsOldestFirst 1 = .ok (.ireturn, 1) := by decide +kernel
theorem dX5_placeGivenUpFor_0 : decode cX5_placeGivenUpFor 0 = .ok (.bipush (-9), 2) := by decide +kernel
theorem dX5_placeGivenUpFor_2 : decode cX5_placeGivenUpFor 2 = .ok (.ireturn, 1) := by decide +kernel
set_option maxRecDepth 20000 in
theorem ggX5_keep_X5_placeGivenUpFor : GoodIn wsX5_keep wsX5_placeGivenUpFor := goodIn_r _ [8] (by decide +kernel) (by decide +kernel)
set_option maxRecDepth 20000 in
theorem gX5_keep_X5_placeGivenUpFor_u42X0 : GoodIn wsX5_keep (va_wsU RX5 42 RX0 "LampsThatRemember$Lamp" ⟨"LampsThatRemember$Lamp", "placeGivenUpFor", "(I)I"⟩ yX5_placeGivenUpFor wsX5_placeGivenUpFor) := goodIn_app (goodIn_of _ (by decide +kernel)) ggX5_keep_X5_placeGivenUpFor
set_option maxRecDepth 20000 in
theorem gX5_keep_X5_placeGivenUpFor_u42X1 : GoodIn wsX5_keep (va_wsU RX5 42 RX1 "LampsThatRemember$Lamp" ⟨"LampsThatRemember$Lamp", "placeGivenUpFor", "(I)I"⟩ yX5_placeGivenUpFor wsX5_placeGivenUpFor) := goodIn_app (goodIn_of _ (by decide +kernel)) ggX5_keep_X5_placeGivenUpFor
set_option maxRecDepth 20000 in
theorem gX5_keep_X5_placeGivenUpFor_u42X3 : GoodIn wsX5_keep (va_wsU RX5 42 RX3 "LampsThatRemember$Lamp" ⟨"LampsThatRemember$Lamp", "placeGivenUpFor", "(I)I"⟩ yX5_placeGivenUpFor wsX5_placeGivenUpFor) := goodIn_app (goodIn_of _ (by decide +kernel)) ggX5_keep_X5_placeGivenUpFor
set_option maxRecDepth 20000 in
theorem ggX5_keep_X8_placeGivenUpFor : GoodIn wsX5_keep wsX8_placeGivenUpFor := goodIn_r _ [15, 16, 17, 18, 19, 20, 21, 7, 22, 1, 2, 23, 24, 25, 26, 27, 82, 83, 84, 85, 86, 87, 88, 89, 90, 91, 92, 93, 94, 95, 96, 97, 98, 99, 100, 101, 102, 103, 104, 105, 106, 107, 108, 109, 110, 111, 112, 113, 114, 115, 116] (by decide +kernel) (by decide +kernel)
set_option maxRecDepth 20000 in
theorem gX5_keep_X8_placeGivenUpFor_u42X4 : GoodIn wsX5_keep (va_wsO RX5 42 RX4 "LampsThatRemember$Lamp" ⟨"LampsThatRemember$Lamp", "placeGivenUpFor", "(I)I"⟩ yX8_placeGivenUpFor wsX8_placeGivenUpFor) := goodIn_app (goodIn_of _ (by decide +kernel)) ggX5_keep_X8_placeGivenUpFor
set_option maxRecDepth 20000 in
theorem gX5_keep_X5_placeGivenUpFor : GoodIn wsX5_keep (wsV RX5 42 RX5 yX5_placeGivenUpFor wsX5_placeGivenUpFor) := goodIn_app (goodIn_of _ (by decide +kernel)) ggX5_keep_X5_placeGivenUpFor
set_option maxRecDepth 20000 in
theorem gX5_keep_X5_placeGivenUpFor_u42X7 : GoodIn wsX5_keep (va_wsU RX5 42 RX7 "LampsThatRemember$Lamp" ⟨"LampsThatRemember$Lamp", "placeGivenUpFor", "(I)I"⟩ yX5_placeGivenUpFor wsX5_placeGivenUpFor) := goodIn_app (goodIn_of _ (by decide +kernel)) ggX5_keep_X5_placeGivenUpFor
set_option maxRecDepth 20000 in
theorem gX5_keep_X8_placeGivenUpFor_u42X8 : GoodIn wsX5_keep (va_wsO RX5 42 RX8 "LampsThatRemember$Lamp" ⟨"LampsThatRemember$Lamp", "placeGivenUpFor", "(I)I"⟩ yX8_placeGivenUpFor wsX8_placeGivenUpFor) := goodIn_app (goodIn_of _ (by decide +kernel)) ggX5_keep_X8_placeGivenUpFor
set_option maxRecDepth 20000 in
theorem ggX5_keep_X5_takeOut : GoodIn wsX5_keep wsX5_takeOut := goodIn_r _ [36, 1, 2, 82, 83, 84, 85, 86, 87, 88, 89, 90, 91, 92, 93, 94, 95, 96, 97, 98, 99, 100, 101, 102, 103, 104, 105, 106, 107, 108, 109, 110, 111, 112, 113, 114, 115, 116] (by decide +kernel) (by decide +kernel)
set_option maxRecDepth 20000 in
theorem gX5_keep_X5_takeOut_u46X0 : GoodIn wsX5_keep (va_wsU RX5 46 RX0 "LampsThatRemember$Lamp" ⟨"LampsThatRemember$Lamp", "takeOut", "(I)V"⟩ yX5_takeOut wsX5_takeOut) := goodIn_app (goodIn_of _ (by decide +kernel)) ggX5_keep_X5_takeOut
set_option maxRecDepth 20000 in
theorem gX5_keep_X5_takeOut_u46X1 : GoodIn wsX5_keep (va_wsU RX5 46 RX1 "LampsThatRemember$Lamp" ⟨"LampsThatRemember$Lamp", "takeOut", "(I)V"⟩ yX5_takeOut wsX5_takeOut) := goodIn_app (goodIn_of _ (by decide +kernel)) ggX5_keep_X5_takeOut
set_option maxRecDepth 20000 in
theorem gX5_keep_X5_takeOut_u46X3 : GoodIn wsX5_keep (va_wsU RX5 46 RX3 "LampsThatRemember$Lamp" ⟨"LampsThatRemember$Lamp", "takeOut", "(I)V"⟩ yX5_takeOut wsX5_takeOut) := goodIn_app (goodIn_of _ (by decide +kernel)) ggX5_keep_X5_takeOut
set_option maxRecDepth 20000 in
theorem gX5_keep_X5_takeOut_u46X4 : GoodIn wsX5_keep (va_wsU RX5 46 RX4 "LampsThatRemember$Lamp" ⟨"LampsThatRemember$Lamp", "takeOut", "(I)V"⟩ yX5_takeOut wsX5_takeOut) := goodIn_app (goodIn_of _ (by decide +kernel)) ggX5_keep_X5_takeOut
set_option maxRecDepth 20000 in
theorem gX5_keep_X5_takeOut : GoodIn wsX5_keep (wsV RX5 46 RX5 yX5_takeOut wsX5_takeOut) := goodIn_app (goodIn_of _ (by decide +kernel)) ggX5_keep_X5_takeOut
set_option maxRecDepth 20000 in
theorem gX5_keep_X5_takeOut_u46X7 : GoodIn wsX5_keep (va_wsU RX5 46 RX7 "LampsThatRemember$Lamp" ⟨"LampsThatRemember$Lamp", "takeOut", "(I)V"⟩ yX5_takeOut wsX5_takeOut) := goodIn_app (goodIn_of _ (by decide +kernel)) ggX5_keep_X5_takeOut
set_option maxRecDepth 20000 in
theorem gX5_keep_X5_takeOut_u46X8 : GoodIn wsX5_keep (va_wsU RX5 46 RX8 "LampsThatRemember$Lamp" ⟨"LampsThatRemember$Lamp", "takeOut", "(I)V"⟩ yX5_takeOut wsX5_takeOut) := goodIn_app (goodIn_of _ (by decide +kernel)) ggX5_keep_X5_takeOut
set_option maxRecDepth 20000 in
theorem ggX5_keep_X0_room : GoodIn wsX5_keep wsX0_room := goodIn_r _ [50] (by decide +kernel) (by decide +kernel)
set_option maxRecDepth 20000 in
theorem gX5_keep_X0_room_u53X0 : GoodIn wsX5_keep (va_wsO RX5 53 RX0 "LampsThatRemember$Lamp" ⟨"LampsThatRemember$Lamp", "room", "()I"⟩ yX0_room wsX0_room) := goodIn_app (goodIn_of _ (by decide +kernel)) ggX5_keep_X0_room
set_option maxRecDepth 20000 in
theorem ggX5_keep_X5_room : GoodIn wsX5_keep wsX5_room := goodIn_r _ [51] (by decide +kernel) (by decide +kernel)
set_option maxRecDepth 20000 in
theorem gX5_keep_X5_room_u53X1 : GoodIn wsX5_keep (va_wsU RX5 53 RX1 "LampsThatRemember$Lamp" ⟨"LampsThatRemember$Lamp", "room", "()I"⟩ yX5_room wsX5_room) := goodIn_app (goodIn_of _ (by decide +kernel)) ggX5_keep_X5_room
set_option maxRecDepth 20000 in
theorem gX5_keep_X5_room_u53X3 : GoodIn wsX5_keep (va_wsU RX5 53 RX3 "LampsThatRemember$Lamp" ⟨"LampsThatRemember$Lamp", "room", "()I"⟩ yX5_room wsX5_room) := goodIn_app (goodIn_of _ (by decide +kernel)) ggX5_keep_X5_room
set_option maxRecDepth 20000 in
theorem gX5_keep_X5_room_u53X4 : GoodIn wsX5_keep (va_wsU RX5 53 RX4 "LampsThatRemember$Lamp" ⟨"LampsThatRemember$Lamp", "room", "()I"⟩ yX5_room wsX5_room) := goodIn_app (goodIn_of _ (by decide +kernel)) ggX5_keep_X5_room
set_option maxRecDepth 20000 in
theorem gX5_keep_X5_room : GoodIn wsX5_keep (wsV RX5 53 RX5 yX5_room wsX5_room) := goodIn_app (goodIn_of _ (by decide +kernel)) ggX5_keep_X5_room
set_option maxRecDepth 20000 in
theorem ggX5_keep_X7_room : GoodIn wsX5_keep wsX7_room := goodIn_r _ [61] (by decide +kernel) (by decide +kernel)
set_option maxRecDepth 20000 in
theorem gX5_keep_X7_room_u53X7 : GoodIn wsX5_keep (va_wsO RX5 53 RX7 "LampsThatRemember$Lamp" ⟨"LampsThatRemember$Lamp", "room", "()I"⟩ yX7_room wsX7_room) := goodIn_app (goodIn_of _ (by decide +kernel)) ggX5_keep_X7_room
set_option maxRecDepth 20000 in
theorem gX5_keep_X5_room_u53X8 : GoodIn wsX5_keep (va_wsU RX5 53 RX8 "LampsThatRemember$Lamp" ⟨"LampsThatRemember$Lamp", "room", "()I"⟩ yX5_room wsX5_room) := goodIn_app (goodIn_of _ (by decide +kernel)) ggX5_keep_X5_room
set_option maxRecDepth 20000 in
theorem ggX5_keep_X3_whoKept : GoodIn wsX5_keep wsX3_whoKept := goodIn_r _ [69] (by decide +kernel) (by decide +kernel)
set_option maxRecDepth 20000 in
theorem gX5_keep_X3_whoKept_u57X0 : GoodIn wsX5_keep (va_wsO RX5 57 RX0 "LampsThatRemember$Lamp" ⟨"LampsThatRemember$Lamp", "whoKept", "(I)I"⟩ yX3_whoKept wsX3_whoKept) := goodIn_app (goodIn_of _ (by decide +kernel)) ggX5_keep_X3_whoKept
set_option maxRecDepth 20000 in
theorem ggX5_keep_X5_whoKept : GoodIn wsX5_keep wsX5_whoKept := goodIn_r _ [70] (by decide +kernel) (by decide +kernel)
set_option maxRecDepth 20000 in
theorem gX5_keep_X5_whoKept_u57X1 : GoodIn wsX5_keep (va_wsU RX5 57 RX1 "LampsThatRemember$Lamp" ⟨"LampsThatRemember$Lamp", "whoKept", "(I)I"⟩ yX5_whoKept wsX5_whoKept) := goodIn_app (goodIn_of _ (by decide +kernel)) ggX5_keep_X5_whoKept
set_option maxRecDepth 20000 in
theorem gX5_keep_X3_whoKept_u57X3 : GoodIn wsX5_keep (va_wsO RX5 57 RX3 "LampsThatRemember$Lamp" ⟨"LampsThatRemember$Lamp", "whoKept", "(I)I"⟩ yX3_whoKept wsX3_whoKept) := goodIn_app (goodIn_of _ (by decide +kernel)) ggX5_keep_X3_whoKept
set_option maxRecDepth 20000 in
theorem gX5_keep_X5_whoKept_u57X4 : GoodIn wsX5_keep (va_wsU RX5 57 RX4 "LampsThatRemember$Lamp" ⟨"LampsThatRemember$Lamp", "whoKept", "(I)I"⟩ yX5_whoKept wsX5_whoKept) := goodIn_app (goodIn_of _ (by decide +kernel)) ggX5_keep_X5_whoKept
set_option maxRecDepth 20000 in
theorem gX5_keep_X5_whoKept : GoodIn wsX5_keep (wsV RX5 57 RX5 yX5_whoKept wsX5_whoKept) := goodIn_app (goodIn_of _ (by decide +kernel)) ggX5_keep_X5_whoKept
set_option maxRecDepth 20000 in
theorem gX5_keep_X5_whoKept_u57X7 : GoodIn wsX5_keep (va_wsU RX5 57 RX7 "LampsThatRemember$Lamp" ⟨"LampsThatRemember$Lamp", "whoKept", "(I)I"⟩ yX5_whoKept wsX5_whoKept) := goodIn_app (goodIn_of _ (by decide +kernel)) ggX5_keep_X5_whoKept
set_option maxRecDepth 20000 in
theorem gX5_keep_X5_whoKept_u57X8 : GoodIn wsX5_keep (va_wsU RX5 57 RX8 "LampsThatRemember$Lamp" ⟨"LampsThatRemember$Lamp", "whoKept", "(I)I"⟩ yX5_whoKept wsX5_whoKept) := goodIn_app (goodIn_of _ (by decide +kernel)) ggX5_keep_X5_whoKept
set_option maxRecDepth 20000 in
theorem ggX5_keep_X9_of : GoodIn wsX5_keep wsX9_of := goodIn_r _ [81] (by decide +kernel) (by decide +kernel)
set_option maxRecDepth 20000 in
theorem gX5_keep_X9_of : GoodIn wsX5_keep (va_wsS RX5 60 yX9_of wsX9_of) := goodIn_app (goodIn_of _ (by decide +kernel)) ggX5_keep_X9_of
theorem dX5_keep_0 : decode cX5_keep 0 = .ok (.aload_n 0, 1) := by decide +kernel
theorem dX5_keep_1 : decode cX5_keep 1 = .ok (.aload_n 0, 1) := by decide +kernel
theorem dX5_keep_2 : decode cX5_keep 2 = .ok (.iload_n 2, 1) := by decide +kernel
theorem dX5_keep_3 : decode cX5_keep 3 = .ok (.invokevirtual 42, 3) := by decide +kernel
theorem dX5_keep_6 : decode cX5_keep 6 = .ok (.invokevirtual 46, 3) := by decide +kernel
theorem dX5_keep_9 : decode cX5_keep 9 = .ok (.aload_n 0, 1) := by decide +kernel
theorem dX5_keep_10 : decode cX5_keep 10 = .ok (.getfield 50, 3) := by decide +kernel
theorem dX5_keep_13 : decode cX5_keep 13 = .ok (.aload_n 0, 1) := by decide +kernel
theorem dX5_keep_14 : decode cX5_keep 14 = .ok (.invokevirtual 53, 3) := by decide +kernel
theorem dX5_keep_17 : decode cX5_keep 17 = .ok (.if_icmp .lt 8, 3) := by decide +kernel
theorem dX5_keep_20 : decode cX5_keep 20 = .ok (.aload_n 0, 1) := by decide +kernel
theorem dX5_keep_21 : decode cX5_keep 21 = .ok (.iconst 0, 1) := by decide +kernel
theorem dX5_keep_22 : decode cX5_keep 22 = .ok (.invokevirtual 46, 3) := by decide +kernel
theorem dX5_keep_25 : decode cX5_keep 25 = .ok (.aload_n 0, 1) := by decide +kernel
theorem dX5_keep_26 : decode cX5_keep 26 = .ok (.getfield 50, 3) := by decide +kernel
theorem dX5_keep_29 : decode cX5_keep 29 = .ok (.ifCond .lt 55, 3) := by decide +kernel
theorem dX5_keep_32 : decode cX5_keep 32 = .ok (.aload_n 0, 1) := by decide +kernel
theorem dX5_keep_33 : decode cX5_keep 33 = .ok (.getfield 50, 3) := by decide +kernel
theorem dX5_keep_36 : decode cX5_keep 36 = .ok (.aload_n 0, 1) := by decide +kernel
theorem dX5_keep_37 : decode cX5_keep 37 = .ok (.invokevirtual 53, 3) := by decide +kernel
theorem dX5_keep_40 : decode cX5_keep 40 = .ok (.if_icmp .ge 44, 3) := by decide +kernel
theorem dX5_keep_43 : decode cX5_keep 43 = .ok (.aload_n 0, 1) := by decide +kernel
theorem dX5_keep_44 : decode cX5_keep 44 = .ok (.getfield 50, 3) := by decide +kernel
theorem dX5_keep_47 : decode cX5_keep 47 = .ok (.aload_n 0, 1) := by decide +kernel
theorem dX5_keep_48 : decode cX5_keep 48 = .ok (.getfield 15, 3) := by decide +kernel
theorem dX5_keep_51 : decode cX5_keep 51 = .ok (.arraylength, 1) := by decide +kernel
theorem dX5_keep_52 : decode cX5_keep 52 = .ok (.if_icmp .ge 32, 3) := by decide +kernel
theorem dX5_keep_55 : decode cX5_keep 55 = .ok (.aload_n 0, 1) := by decide +kernel
theorem dX5_keep_56 : decode cX5_keep 56 = .ok (.getfield 15, 3) := by decide +kernel
theorem dX5_keep_59 : decode cX5_keep 59 = .ok (.aload_n 0, 1) := by decide +kernel
theorem dX5_keep_60 : decode cX5_keep 60 = .ok (.getfield 50, 3) := by decide +kernel
theorem dX5_keep_63 : decode cX5_keep 63 = .ok (.aload_n 0, 1) := by decide +kernel
theorem dX5_keep_64 : decode cX5_keep 64 = .ok (.iload_n 1, 1) := by decide +kernel
theorem dX5_keep_65 : decode cX5_keep 65 = .ok (.invokevirtual 57, 3) := by decide +kernel
theorem dX5_keep_68 : decode cX5_keep 68 = .ok (.iload_n 2, 1) := by decide +kernel
theorem dX5_keep_69 : decode cX5_keep 69 = .ok (.iload_n 3, 1) := by decide +kernel
theorem dX5_keep_70 : decode cX5_keep 70 = .ok (.invokestatic 60, 3) := by decide +kernel
theorem dX5_keep_73 : decode cX5_keep 73 = .ok (.iastore, 1) := by decide +kernel
theorem dX5_keep_74 : decode cX5_keep 74 = .ok (.aload_n 0, 1) := by decide +kernel
theorem dX5_keep_75 : decode cX5_keep 75 = .ok (.dup, 1) := by decide +kernel
theorem dX5_keep_76 : decode cX5_keep 76 = .ok (.getfield 50, 3) := by decide +kernel
theorem dX5_keep_79 : decode cX5_keep 79 = .ok (.iconst 1, 1) := by decide +kernel
theorem dX5_keep_80 : decode cX5_keep 80 = .ok (.iadd, 1) := by decide +kernel
theorem dX5_keep_81 : decode cX5_keep 81 = .ok (.putfield 50, 3) := by decide +kernel
theorem dX5_keep_84 : decode cX5_keep 84 = .ok (.return_, 1) := by decide +kernel
theorem dX5_takeOut_0 : decode cX5_takeOut 0 = .ok (.iload_n 1, 1) := by decide +kernel
theorem dX5_takeOut_1 : decode cX5_takeOut 1 = .ok (.ifCond .lt 11, 3) := by decide +kernel
theorem dX5_takeOut_4 : decode cX5_takeOut 4 = .ok (.iload_n 1, 1) := by decide +kernel
theorem dX5_takeOut_5 : decode cX5_takeOut 5 = .ok (.aload_n 0, 1) := by decide +kernel
theorem dX5_takeOut_6 : decode cX5_takeOut 6 = .ok (.getfield 50, 3) := by decide +kernel
theorem dX5_takeOut_9 : decode cX5_takeOut 9 = .ok (.if_icmp .lt 4, 3) := by decide +kernel
theorem dX5_takeOut_12 : decode cX5_takeOut 12 = .ok (.return_, 1) := by decide +kernel
theorem dX5_takeOut_13 : decode cX5_takeOut 13 = .ok (.iload_n 1, 1) := by decide +kernel
theorem dX5_takeOut_14 : decode cX5_takeOut 14 = .ok (.istore_n 2, 1) := by decide +kernel
theorem dX5_takeOut_15 : decode cX5_takeOut 15 = .ok (.iload_n 2, 1) := by decide +kernel
theorem dX5_takeOut_16 : decode cX5_takeOut 16 = .ok (.iconst 1, 1) := by decide +kernel
theorem dX5_takeOut_17 : decode cX5_takeOut 17 = .ok (.iadd, 1) := by decide +kernel
theorem dX5_takeOut_18 : decode cX5_takeOut 18 = .ok (.aload_n 0, 1) := by decide +kernel
theorem dX5_takeOut_19 : decode cX5_takeOut 19 = .ok (.getfield 50, 3) := by decide +kernel
theorem dX5_takeOut_22 : decode cX5_takeOut 22 = .ok (.if_icmp .ge 34, 3) := by decide +kernel
theorem dX5_takeOut_25 : decode cX5_takeOut 25 = .ok (.iload_n 2, 1) := by decide +kernel
theorem dX5_takeOut_26 : decode cX5_takeOut 26 = .ok (.iconst 1, 1) := by decide +kernel
theorem dX5_takeOut_27 : decode cX5_takeOut 27 = .ok (.iadd, 1) := by decide +kernel
theorem dX5_takeOut_28 : decode cX5_takeOut 28 = .ok (.aload_n 0, 1) := by decide +kernel
theorem dX5_takeOut_29 : decode cX5_takeOut 29 = .ok (.getfield 15, 3) := by decide +kernel
theorem dX5_takeOut_32 : decode cX5_takeOut 32 = .ok (.arraylength, 1) := by decide +kernel
theorem dX5_takeOut_33 : decode cX5_takeOut 33 = .ok (.if_icmp .ge 23, 3) := by decide +kernel
theorem dX5_takeOut_36 : decode cX5_takeOut 36 = .ok (.aload_n 0, 1) := by decide +kernel
theorem dX5_takeOut_37 : decode cX5_takeOut 37 = .ok (.getfield 15, 3) := by decide +kernel
theorem dX5_takeOut_40 : decode cX5_takeOut 40 = .ok (.iload_n 2, 1) := by decide +kernel
theorem dX5_takeOut_41 : decode cX5_takeOut 41 = .ok (.aload_n 0, 1) := by decide +kernel
theorem dX5_takeOut_42 : decode cX5_takeOut 42 = .ok (.getfield 15, 3) := by decide +kernel
theorem dX5_takeOut_45 : decode cX5_takeOut 45 = .ok (.iload_n 2, 1) := by decide +kernel
theorem dX5_takeOut_46 : decode cX5_takeOut 46 = .ok (.iconst 1, 1) := by decide +kernel
theorem dX5_takeOut_47 : decode cX5_takeOut 47 = .ok (.iadd, 1) := by decide +kernel
theorem dX5_takeOut_48 : decode cX5_takeOut 48 = .ok (.iaload, 1) := by decide +kernel
theorem dX5_takeOut_49 : decode cX5_takeOut 49 = .ok (.iastore, 1) := by decide +kernel
theorem dX5_takeOut_50 : decode cX5_takeOut 50 = .ok (.iinc 2 1, 3) := by decide +kernel
theorem dX5_takeOut_53 : decode cX5_takeOut 53 = .ok (.goto (-38), 3) := by decide +kernel
theorem dX5_takeOut_56 : decode cX5_takeOut 56 = .ok (.aload_n 0, 1) := by decide +kernel
theorem dX5_takeOut_57 : decode cX5_takeOut 57 = .ok (.dup, 1) := by decide +kernel
theorem dX5_takeOut_58 : decode cX5_takeOut 58 = .ok (.getfield 50, 3) := by decide +kernel
theorem dX5_takeOut_61 : decode cX5_takeOut 61 = .ok (.iconst 1, 1) := by decide +kernel
theorem dX5_takeOut_62 : decode cX5_takeOut 62 = .ok (.isub, 1) := by decide +kernel
theorem dX5_takeOut_63 : decode cX5_takeOut 63 = .ok (.putfield 50, 3) := by decide +kernel
theorem dX5_takeOut_66 : decode cX5_takeOut 66 = .ok (.return_, 1) := by decide +kernel
theorem dX5_breakDown_0 : decode cX5_breakDown 0 = .ok (.aload_n 0, 1) := by decide +kernel
theorem dX5_breakDown_1 : decode cX5_breakDown 1 = .ok (.iconst 0, 1) := by decide +kernel
theorem dX5_breakDown_2 : decode cX5_breakDown 2 = .ok (.putfield 50, 3) := by decide +kernel
theorem dX5_breakDown_5 : decode cX5_breakDown 5 = .ok (.aload_n 0, 1) := by decide +kernel
theorem dX5_breakDown_6 : decode cX5_breakDown 6 = .ok (.iconst 0, 1) := by decide +kernel
theorem dX5_breakDown_7 : decode cX5_breakDown 7 = .ok (.putfield 9, 3) := by decide +kernel
theorem dX5_breakDown_10 : decode cX5_breakDown 10 = .ok (.return_, 1) := by decide +kernel
set_option maxRecDepth 20000 in
theorem ggX5_twin_X0_kind : GoodIn wsX5_twin wsX0_kind := goodIn_r _ [12] (by decide +kernel) (by decide +kernel)
set_option maxRecDepth 20000 in
theorem gX5_twin_X0_kind_u66X0 : GoodIn wsX5_twin (va_wsO RX5 66 RX0 "LampsThatRemember$Lamp" ⟨"LampsThatRemember$Lamp", "kind", "()I"⟩ yX0_kind wsX0_kind) := goodIn_app (goodIn_of _ (by decide +kernel)) ggX5_twin_X0_kind
set_option maxRecDepth 20000 in
theorem ggX5_twin_X1_kind : GoodIn wsX5_twin wsX1_kind := goodIn_r _ [17] (by decide +kernel) (by decide +kernel)
set_option maxRecDepth 20000 in
theorem gX5_twin_X1_kind_u66X1 : GoodIn wsX5_twin (va_wsO RX5 66 RX1 "LampsThatRemember$Lamp" ⟨"LampsThatRemember$Lamp", "kind", "()I"⟩ yX1_kind wsX1_kind) := goodIn_app (goodIn_of _ (by decide +kernel)) ggX5_twin_X1_kind
set_option maxRecDepth 20000 in
theorem ggX5_twin_X3_kind : GoodIn wsX5_twin wsX3_kind := goodIn_r _ [21] (by decide +kernel) (by decide +kernel)
set_option maxRecDepth 20000 in
theorem gX5_twin_X3_kind_u66X3 : GoodIn wsX5_twin (va_wsO RX5 66 RX3 "LampsThatRemember$Lamp" ⟨"LampsThatRemember$Lamp", "kind", "()I"⟩ yX3_kind wsX3_kind) := goodIn_app (goodIn_of _ (by decide +kernel)) ggX5_twin_X3_kind
set_option maxRecDepth 20000 in
theorem ggX5_twin_X4_kind : GoodIn wsX5_twin wsX4_kind := goodIn_r _ [25] (by decide +kernel) (by decide +kernel)
set_option maxRecDepth 20000 in
theorem gX5_twin_X4_kind_u66X4 : GoodIn wsX5_twin (va_wsO RX5 66 RX4 "LampsThatRemember$Lamp" ⟨"LampsThatRemember$Lamp", "kind", "()I"⟩ yX4_kind wsX4_kind) := goodIn_app (goodIn_of _ (by decide +kernel)) ggX5_twin_X4_kind
set_option maxRecDepth 20000 in
theorem ggX5_twin_X5_kind : GoodIn wsX5_twin wsX5_kind := goodIn_r _ [13] (by decide +kernel) (by decide +kernel)
set_option maxRecDepth 20000 in
theorem gX5_twin_X5_kind : GoodIn wsX5_twin (wsV RX5 66 RX5 yX5_kind wsX5_kind) := goodIn_app (goodIn_of _ (by decide +kernel)) ggX5_twin_X5_kind
set_option maxRecDepth 20000 in
theorem ggX5_twin_X7_kind : GoodIn wsX5_twin wsX7_kind := goodIn_r _ [33] (by decide +kernel) (by decide +kernel)
set_option maxRecDepth 20000 in
theorem gX5_twin_X7_kind_u66X7 : GoodIn wsX5_twin (va_wsO RX5 66 RX7 "LampsThatRemember$Lamp" ⟨"LampsThatRemember$Lamp", "kind", "()I"⟩ yX7_kind wsX7_kind) := goodIn_app (goodIn_of _ (by decide +kernel)) ggX5_twin_X7_kind
set_option maxRecDepth 20000 in
theorem ggX5_twin_X8_kind : GoodIn wsX5_twin wsX8_kind := goodIn_r _ [37] (by decide +kernel) (by decide +kernel)
set_option maxRecDepth 20000 in
theorem gX5_twin_X8_kind_u66X8 : GoodIn wsX5_twin (va_wsO RX5 66 RX8 "LampsThatRemember$Lamp" ⟨"LampsThatRemember$Lamp", "kind", "()I"⟩ yX8_kind wsX8_kind) := goodIn_app (goodIn_of _ (by decide +kernel)) ggX5_twin_X8_kind
set_option maxRecDepth 20000 in
theorem ggX5_twin_X5_ofKind : GoodIn wsX5_twin wsX5_ofKind := goodIn_r _ [40, 41, 42, 20, 43, 44, 32, 45, 46, 16, 47, 48, 11, 49, 50, 36, 51, 52, 24, 53, 54, 29, 55, 56, 57, 58, 59, 60, 61, 3, 62, 5, 63, 64, 65, 66, 67, 68, 69, 70, 71, 72, 73, 84, 85, 86, 87, 88, 99, 100, 101, 102, 103, 79, 80, 81, 82, 83, 74, 75, 76, 77, 78, 104, 105, 106, 107, 108, 89, 90, 91, 92, 93, 94, 95, 96, 97, 98] (by decide +kernel) (by decide +kernel)
set_option maxRecDepth 20000 in
theorem gX5_twin_X5_ofKind : GoodIn wsX5_twin (va_wsS RX5 69 yX5_ofKind wsX5_ofKind) := goodIn_app (goodIn_of _ (by decide +kernel)) ggX5_twin_X5_ofKind
theorem dX5_twin_0 : decode cX5_twin 0 = .ok (.aload_n 0, 1) := by decide +kernel
theorem dX5_twin_1 : decode cX5_twin 1 = .ok (.invokevirtual 66, 3) := by decide +kernel
theorem dX5_twin_4 : decode cX5_twin 4 = .ok (.invokestatic 69, 3) := by decide +kernel
theorem dX5_twin_7 : decode cX5_twin 7 = .ok (.astore_n 1, 1) := by decide +kernel
theorem dX5_twin_8 : decode cX5_twin 8 = .ok (.aload_n 1, 1) := by decide +kernel
theorem dX5_twin_9 : decode cX5_twin 9 = .ok (.aload_n 0, 1) := by decide +kernel
theorem dX5_twin_10 : decode cX5_twin 10 = .ok (.getfield 38, 3) := by decide +kernel
theorem dX5_twin_13 : decode cX5_twin 13 = .ok (.putfield 38, 3) := by decide +kernel
theorem dX5_twin_16 : decode cX5_twin 16 = .ok (.aload_n 1, 1) := by decide +kernel
theorem dX5_twin_17 : decode cX5_twin 17 = .ok (.aload_n 0, 1) := by decide +kernel
theorem dX5_twin_18 : decode cX5_twin 18 = .ok (.getfield 73, 3) := by decide +kernel
theorem dX5_twin_21 : decode cX5_twin 21 = .ok (.putfield 73, 3) := by decide +kernel
theorem dX5_twin_24 : decode cX5_twin 24 = .ok (.aload_n 1, 1) := by decide +kernel
theorem dX5_twin_25 : decode cX5_twin 25 = .ok (.aload_n 0, 1) := by decide +kernel
theorem dX5_twin_26 : decode cX5_twin 26 = .ok (.getfield 9, 3) := by decide +kernel
theorem dX5_twin_29 : decode cX5_twin 29 = .ok (.putfield 9, 3) := by decide +kernel
theorem dX5_twin_32 : decode cX5_twin 32 = .ok (.aload_n 1, 1) := by decide +kernel
theorem dX5_twin_33 : decode cX5_twin 33 = .ok (.aload_n 0, 1) := by decide +kernel
theorem dX5_twin_34 : decode cX5_twin 34 = .ok (.getfield 50, 3) := by decide +kernel
theorem dX5_twin_37 : decode cX5_twin 37 = .ok (.putfield 50, 3) := by decide +kernel
theorem dX5_twin_40 : decode cX5_twin 40 = .ok (.iconst 0, 1) := by decide +kernel
theorem dX5_twin_41 : decode cX5_twin 41 = .ok (.istore_n 2, 1) := by decide +kernel
theorem dX5_twin_42 : decode cX5_twin 42 = .ok (.iload_n 2, 1) := by decide +kernel
theorem dX5_twin_43 : decode cX5_twin 43 = .ok (.aload_n 0, 1) := by decide +kernel
theorem dX5_twin_44 : decode cX5_twin 44 = .ok (.getfield 15, 3) := by decide +kernel
theorem dX5_twin_47 : decode cX5_twin 47 = .ok (.arraylength, 1) := by decide +kernel
theorem dX5_twin_48 : decode cX5_twin 48 = .ok (.if_icmp .ge 30, 3) := by decide +kernel
theorem dX5_twin_51 : decode cX5_twin 51 = .ok (.iload_n 2, 1) := by decide +kernel
theorem dX5_twin_52 : decode cX5_twin 52 = .ok (.aload_n 1, 1) := by decide +kernel
theorem dX5_twin_53 : decode cX5_twin 53 = .ok (.getfield 15, 3) := by decide +kernel
theorem dX5_twin_56 : decode cX5_twin 56 = .ok (.arraylength, 1) := by decide +kernel
theorem dX5_twin_57 : decode cX5_twin 57 = .ok (.if_icmp .ge 21, 3) := by decide +kernel
theorem dX5_twin_60 : decode cX5_twin 60 = .ok (.aload_n 1, 1) := by decide +kernel
theorem dX5_twin_61 : decode cX5_twin 61 = .ok (.getfield 15, 3) := by decide +kernel
theorem dX5_twin_64 : decode cX5_twin 64 = .ok (.iload_n 2, 1) := by decide +kernel
theorem dX5_twin_65 : decode cX5_twin 65 = .ok (.aload_n 0, 1) := by decide +kernel
theorem dX5_twin_66 : decode cX5_twin 66 = .ok (.getfield 15, 3) := by decide +kernel
theorem dX5_twin_69 : decode cX5_twin 69 = .ok (.iload_n 2, 1) := by decide +kernel
theorem dX5_twin_70 : decode cX5_twin 70 = .ok (.iaload, 1) := by decide +kernel
theorem dX5_twin_71 : decode cX5_twin 71 = .ok (.iastore, 1) := by decide +kernel
theorem dX5_twin_72 : decode cX5_twin 72 = .ok (.iinc 2 1, 3) := by decide +kernel
theorem dX5_twin_75 : decode cX5_twin 75 = .ok (.goto (-33), 3) := by decide +kernel
theorem dX5_twin_78 : decode cX5_twin 78 = .ok (.aload_n 1, 1) := by decide +kernel
theorem dX5_twin_79 : decode cX5_twin 79 = .ok (.areturn, 1) := by decide +kernel
set_option maxRecDepth 20000 in
theorem ggX5_glow_X5_cellNow : GoodIn wsX5_glow wsX5_cellNow := goodIn_r _ [7, 8, 48, 49, 50, 51, 52, 53, 54, 55, 56, 57, 58, 59, 60, 61, 62, 63, 64, 65, 66, 67, 68, 69, 70, 71, 72, 73, 74, 75, 76, 77, 78, 79, 80, 81, 82] (by decide +kernel) (by decide +kernel)
set_option maxRecDepth 20000 in
theorem gX5_glow_X5_cellNow_u76X0 : GoodIn wsX5_glow (va_wsU RX5 76 RX0 "LampsThatRemember$Lamp" ⟨"LampsThatRemember$Lamp", "cellNow", "(LLampsThatRemember$Town;)I"⟩ yX5_cellNow wsX5_cellNow) := goodIn_app (goodIn_of _ (by decide +kernel)) ggX5_glow_X5_cellNow
set_option maxRecDepth 20000 in
theorem ggX5_glow_X1_cellNow : GoodIn wsX5_glow wsX1_cellNow := goodIn_r _ [13, 14, 15, 16, 17, 18, 19, 20, 21, 22, 48, 49, 50, 51, 52, 53, 54, 55, 56, 57, 58, 59, 60, 61, 62, 63, 64, 65, 66, 67, 68, 69, 70, 71, 72, 73, 74, 75, 76, 77, 78, 79, 80, 81, 82, 83, 84, 85, 86, 87, 88] (by decide +kernel) (by decide +kernel)
set_option maxRecDepth 20000 in
theorem gX5_glow_X1_cellNow_u76X1 : GoodIn wsX5_glow (va_wsO RX5 76 RX1 "LampsThatRemember$Lamp" ⟨"LampsThatRemember$Lamp", "cellNow", "(LLampsThatRemember$Town;)I"⟩ yX1_cellNow wsX1_cellNow) := goodIn_app (goodIn_of _ (by decide +kernel)) ggX5_glow_X1_cellNow
set_option maxRecDepth 20000 in
theorem gX5_glow_X5_cellNow_u76X3 : GoodIn wsX5_glow (va_wsU RX5 76 RX3 "LampsThatRemember$Lamp" ⟨"LampsThatRemember$Lamp", "cellNow", "(LLampsThatRemember$Town;)I"⟩ yX5_cellNow wsX5_cellNow) := goodIn_app (goodIn_of _ (by decide +kernel)) ggX5_glow_X5_cellNow
set_option maxRecDepth 20000 in
theorem gX5_glow_X5_cellNow_u76X4 : GoodIn wsX5_glow (va_wsU RX5 76 RX4 "LampsThatRemember$Lamp" ⟨"LampsThatRemember$Lamp", "cellNow", "(LLampsThatRemember$Town;)I"⟩ yX5_cellNow wsX5_cellNow) := goodIn_app (goodIn_of _ (by decide +kernel)) ggX5_glow_X5_cellNow
set_option maxRecDepth 20000 in
theorem gX5_glow_X5_cellNow : GoodIn wsX5_glow (wsV RX5 76 RX5 yX5_cellNow wsX5_cellNow) := goodIn_app (goodIn_of _ (by decide +kernel)) ggX5_glow_X5_cellNow
set_option maxRecDepth 20000 in
theorem gX5_glow_X5_cellNow_u76X7 : GoodIn wsX5_glow (va_wsU RX5 76 RX7 "LampsThatRemember$Lamp" ⟨"LampsThatRemember$Lamp", "cellNow", "(LLampsThatRemember$Town;)I"⟩ yX5_cellNow wsX5_cellNow) := goodIn_app (goodIn_of _ (by decide +kernel)) ggX5_glow_X5_cellNow
set_option maxRecDepth 20000 in
theorem gX5_glow_X5_cellNow_u76X8 : GoodIn wsX5_glow (va_wsU RX5 76 RX8 "LampsThatRemember$Lamp" ⟨"LampsThatRemember$Lamp", "cellNow", "(LLampsThatRemember$Town;)I"⟩ yX5_cellNow wsX5_cellNow) := goodIn_app (goodIn_of _ (by decide +kernel)) ggX5_glow_X5_cellNow
set_option maxRecDepth 20000 in
theorem ggX5_glow_X10_free : GoodIn wsX5_glow wsX10_free := goodIn_r _ [32, 33, 34, 35, 83, 84, 85, 86, 87, 88] (by decide +kernel) (by decide +kernel)
set_option maxRecDepth 20000 in
theorem gX5_glow_X10_free : GoodIn wsX5_glow (wsV RX5 80 RX10 yX10_free wsX10_free) := goodIn_app (goodIn_of _ (by decide +kernel)) ggX5_glow_X10_free
set_option maxRecDepth 20000 in
theorem ggX5_glow_X2_within : GoodIn wsX5_glow wsX2_within := goodIn_r _ [39, 40, 41, 38, 42, 43, 44, 45, 46, 47] (by decide +kernel) (by decide +kernel)
set_option maxRecDepth 20000 in
theorem gX5_glow_X2_within : GoodIn wsX5_glow (va_wsS RX5 86 yX2_within wsX2_within) := goodIn_app (goodIn_of _ (by decide +kernel)) ggX5_glow_X2_within
theorem dX5_glow_0 : decode cX5_glow 0 = .ok (.aload_n 1, 1) := by decide +kernel
theorem dX5_glow_1 : decode cX5_glow 1 = .ok (.ifnonnull 7, 3) := by decide +kernel
theorem dX5_glow_4 : decode cX5_glow 4 = .ok (.lconst 0, 1) := by decide +kernel
theorem dX5_glow_5 : decode cX5_glow 5 = .ok (.goto 19, 3) := by decide +kernel
theorem dX5_glow_8 : decode cX5_glow 8 = .ok (.aload_n 0, 1) := by decide +kernel
theorem dX5_glow_9 : decode cX5_glow 9 = .ok (.aload_n 1, 1) := by decide +kernel
theorem dX5_glow_10 : decode cX5_glow 10 = .ok (.invokevirtual 76, 3) := by decide +kernel
theorem dX5_glow_13 : decode cX5_glow 13 = .ok (.aload_n 0, 1) := by decide +kernel
theorem dX5_glow_14 : decode cX5_glow 14 = .ok (.getfield 73, 3) := by decide +kernel
theorem dX5_glow_17 : decode cX5_glow 17 = .ok (.aload_n 1, 1) := by decide +kernel
theorem dX5_glow_18 : decode cX5_glow 18 = .ok (.invokevirtual 80, 3) := by decide +kernel
theorem dX5_glow_21 : decode cX5_glow 21 = .ok (.invokestatic 86, 3) := by decide +kernel
theorem dX5_glow_24 : decode cX5_glow 24 = .ok (.lreturn, 1) := by decide +kernel
theorem dX5_sceneAt_0 : decode cX5_sceneAt 0 = .ok (.iload_n 1, 1) := by decide +kernel
theorem dX5_sceneAt_1 : decode cX5_sceneAt 1 = .ok (.ifCond .lt 29, 3) := by decide +kernel
theorem dX5_sceneAt_4 : decode cX5_sceneAt 4 = .ok (.iload_n 1, 1) := by decide +kernel
theorem dX5_sceneAt_5 : decode cX5_sceneAt 5 = .ok (.aload_n 0, 1) := by decide +kernel
theorem dX5_sceneAt_6 : decode cX5_sceneAt 6 = .ok (.getfield 50, 3) := by decide +kernel
theorem dX5_sceneAt_9 : decode cX5_sceneAt 9 = .ok (.if_icmp .ge 21, 3) := by decide +kernel
theorem dX5_sceneAt_12 : decode cX5_sceneAt 12 = .ok (.iload_n 1, 1) := by decide +kernel
theorem dX5_sceneAt_13 : decode cX5_sceneAt 13 = .ok (.aload_n 0, 1) := by decide +kernel
theorem dX5_sceneAt_14 : decode cX5_sceneAt 14 = .ok (.getfield 15, 3) := by decide +kernel
theorem dX5_sceneAt_17 : decode cX5_sceneAt 17 = .ok (.arraylength, 1) := by decide +kernel
theorem dX5_sceneAt_18 : decode cX5_sceneAt 18 = .ok (.if_icmp .ge 12, 3) := by decide +kernel
theorem dX5_sceneAt_21 : decode cX5_sceneAt 21 = .ok (.aload_n 0, 1) := by decide +kernel
theorem dX5_sceneAt_22 : decode cX5_sceneAt 22 = .ok (.getfield 15, 3) := by decide +kernel
theorem dX5_sceneAt_25 : decode cX5_sceneAt 25 = .ok (.iload_n 1, 1) := by decide +kernel
theorem dX5_sceneAt_26 : decode cX5_sceneAt 26 = .ok (.iaload, 1) := by decide +kernel
theorem dX5_sceneAt_27 : decode cX5_sceneAt 27 = .ok (.goto 5, 3) := by decide +kernel
theorem dX5_sceneAt_30 : decode cX5_sceneAt 30 = .ok (.bipush (-9), 2) := by decide +kernel
theorem dX5_sceneAt_32 : decode cX5_sceneAt 32 = .ok (.ireturn, 1) := by decide +kernel
set_option maxRecDepth 20000 in
theorem ggX5_sceneShown_X5_showsOldestFirst : GoodIn wsX5_sceneShown wsX5_showsOldestFirst := goodIn_r _ [7] (by decide +kernel) (by decide +kernel)
set_option maxRecDepth 20000 in
theorem gX5_sceneShown_X5_showsOldestFirst_u92X0 : GoodIn wsX5_sceneShown (va_wsU RX5 92 RX0 "LampsThatRemember$Lamp" ⟨"LampsThatRemember$Lamp", "showsOldestFirst", "()Z"⟩ yX5_showsOldestFirst wsX5_showsOldestFirst) := goodIn_app (goodIn_of _ (by decide +kernel)) ggX5_sceneShown_X5_showsOldestFirst
set_option maxRecDepth 20000 in
theorem gX5_sceneShown_X5_showsOldestFirst_u92X1 : GoodIn wsX5_sceneShown (va_wsU RX5 92 RX1 "LampsThatRemember$Lamp" ⟨"LampsThatRemember$Lamp", "showsOldestFirst", "()Z"⟩ yX5_showsOldestFirst wsX5_showsOldestFirst) := goodIn_app (goodIn_of _ (by decide +kernel)) ggX5_sceneShown_X5_showsOldestFirst
set_option maxRecDepth 20000 in
theorem gX5_sceneShown_X5_showsOldestFirst_u92X3 : GoodIn wsX5_sceneShown (va_wsU RX5 92 RX3 "LampsThatRemember$Lamp" ⟨"LampsThatRemember$Lamp", "showsOldestFirst", "()Z"⟩ yX5_showsOldestFirst wsX5_showsOldestFirst) := goodIn_app (goodIn_of _ (by decide +kernel)) ggX5_sceneShown_X5_showsOldestFirst
set_option maxRecDepth 20000 in
theorem ggX5_sceneShown_X4_showsOldestFirst : GoodIn wsX5_sceneShown wsX4_showsOldestFirst := goodIn_r _ [14] (by decide +kernel) (by decide +kernel)
set_option maxRecDepth 20000 in
theorem gX5_sceneShown_X4_showsOldestFirst_u92X4 : GoodIn wsX5_sceneShown (va_wsO RX5 92 RX4 "LampsThatRemember$Lamp" ⟨"LampsThatRemember$Lamp", "showsOldestFirst", "()Z"⟩ yX4_showsOldestFirst wsX4_showsOldestFirst) := goodIn_app (goodIn_of _ (by decide +kernel)) ggX5_sceneShown_X4_showsOldestFirst
set_option maxRecDepth 20000 in
theorem gX5_sceneShown_X5_showsOldestFirst : GoodIn wsX5_sceneShown (wsV RX5 92 RX5 yX5_showsOldestFirst wsX5_showsOldestFirst) := goodIn_app (goodIn_of _ (by decide +kernel)) ggX5_sceneShown_X5_showsOldestFirst
set_option maxRecDepth 20000 in
theorem gX5_sceneShown_X5_showsOldestFirst_u92X7 : GoodIn wsX5_sceneShown (va_wsU RX5 92 RX7 "LampsThatRemember$Lamp" ⟨"LampsThatRemember$Lamp", "showsOldestFirst", "()Z"⟩ yX5_showsOldestFirst wsX5_showsOldestFirst) := goodIn_app (goodIn_of _ (by decide +kernel)) ggX5_sceneShown_X5_showsOldestFirst
set_option maxRecDepth 20000 in
theorem gX5_sceneShown_X5_showsOldestFirst_u92X8 : GoodIn wsX5_sceneShown (va_wsU RX5 92 RX8 "LampsThatRemember$Lamp" ⟨"LampsThatRemember$Lamp", "showsOldestFirst", "()Z"⟩ yX5_showsOldestFirst wsX5_showsOldestFirst) := goodIn_app (goodIn_of _ (by decide +kernel)) ggX5_sceneShown_X5_showsOldestFirst
set_option maxRecDepth 20000 in
theorem ggX5_sceneShown_X5_sceneAt : GoodIn wsX5_sceneShown wsX5_sceneAt := goodIn_r _ [23, 1, 24, 32, 33, 34, 35, 36, 37, 38, 39, 40, 41, 42, 43, 44, 45, 46, 47, 48, 49, 50, 51, 52, 53, 54, 55, 56, 57, 58, 59, 60, 61, 62, 63, 64, 65, 66] (by decide +kernel) (by decide +kernel)
set_option maxRecDepth 20000 in
theorem gX5_sceneShown_X5_sceneAt_u96X0 : GoodIn wsX5_sceneShown (va_wsU RX5 96 RX0 "LampsThatRemember$Lamp" ⟨"LampsThatRemember$Lamp", "sceneAt", "(I)I"⟩ yX5_sceneAt wsX5_sceneAt) := goodIn_app (goodIn_of _ (by decide +kernel)) ggX5_sceneShown_X5_sceneAt
set_option maxRecDepth 20000 in
theorem gX5_sceneShown_X5_sceneAt_u96X1 : GoodIn wsX5_sceneShown (va_wsU RX5 96 RX1 "LampsThatRemember$Lamp" ⟨"LampsThatRemember$Lamp", "sceneAt", "(I)I"⟩ yX5_sceneAt wsX5_sceneAt) := goodIn_app (goodIn_of _ (by decide +kernel)) ggX5_sceneShown_X5_sceneAt
set_option maxRecDepth 20000 in
theorem gX5_sceneShown_X5_sceneAt_u96X3 : GoodIn wsX5_sceneShown (va_wsU RX5 96 RX3 "LampsThatRemember$Lamp" ⟨"LampsThatRemember$Lamp", "sceneAt", "(I)I"⟩ yX5_sceneAt wsX5_sceneAt) := goodIn_app (goodIn_of _ (by decide +kernel)) ggX5_sceneShown_X5_sceneAt
set_option maxRecDepth 20000 in
theorem gX5_sceneShown_X5_sceneAt_u96X4 : GoodIn wsX5_sceneShown (va_wsU RX5 96 RX4 "LampsThatRemember$Lamp" ⟨"LampsThatRemember$Lamp", "sceneAt", "(I)I"⟩ yX5_sceneAt wsX5_sceneAt) := goodIn_app (goodIn_of _ (by decide +kernel)) ggX5_sceneShown_X5_sceneAt
set_option maxRecDepth 20000 in
theorem gX5_sceneShown_X5_sceneAt : GoodIn wsX5_sceneShown (wsV RX5 96 RX5 yX5_sceneAt wsX5_sceneAt) := goodIn_app (goodIn_of _ (by decide +kernel)) ggX5_sceneShown_X5_sceneAt
set_option maxRecDepth 20000 in
theorem gX5_sceneShown_X5_sceneAt_u96X7 : GoodIn wsX5_sceneShown (va_wsU RX5 96 RX7 "LampsThatRemember$Lamp" ⟨"LampsThatRemember$Lamp", "sceneAt", "(I)I"⟩ yX5_sceneAt wsX5_sceneAt) := goodIn_app (goodIn_of _ (by decide +kernel)) ggX5_sceneShown_X5_sceneAt
set_option maxRecDepth 20000 in
theorem gX5_sceneShown_X5_sceneAt_u96X8 : GoodIn wsX5_sceneShown (va_wsU RX5 96 RX8 "LampsThatRemember$Lamp" ⟨"LampsThatRemember$Lamp", "sceneAt", "(I)I"⟩ yX5_sceneAt wsX5_sceneAt) := goodIn_app (goodIn_of _ (by decide +kernel)) ggX5_sceneShown_X5_sceneAt
theorem dX5_sceneShown_0 : decode cX5_sceneShown 0 = .ok (.aload_n 0, 1) := by decide +kernel
theorem dX5_sceneShown_1 : decode cX5_sceneShown 1 = .ok (.aload_n 0, 1) := by decide +kernel
theorem dX5_sceneShown_2 : decode cX5_sceneShown 2 = .ok (.invokevirtual 92, 3) := by decide +kernel
theorem dX5_sceneShown_5 : decode cX5_sceneShown 5 = .ok (.ifCond .eq 7, 3) := by decide +kernel
theorem dX5_sceneShown_8 : decode cX5_sceneShown 8 = .ok (.iload_n 1, 1) := by decide +kernel
theorem dX5_sceneShown_9 : decode cX5_sceneShown 9 = .ok (.goto 11, 3) := by decide +kernel
theorem dX5_sceneShown_12 : decode cX5_sceneShown 12 = .ok (.aload_n 0, 1) := by decide +kernel
theorem dX5_sceneShown_13 : decode cX5_sceneShown 13 = .ok (.getfield 50, 3) := by decide +kernel
theorem dX5_sceneShown_16 : decode cX5_sceneShown 16 = .ok (.iconst 1, 1) := by decide +kernel
theorem dX5_sceneShown_17 : decode cX5_sceneShown 17 = .ok (.isub, 1) := by decide +kernel
theorem dX5_sceneShown_18 : decode cX5_sceneShown 18 = .ok (.iload_n 1, 1) := by decide +kernel
theorem dX5_sceneShown_19 : decode cX5_sceneShown 19 = .ok (.isub, 1) := by decide +kernel
theorem dX5_sceneShown_20 : decode cX5_sceneShown 20 = .ok (.invokevirtual 96, 3) := by decide +kernel
theorem dX5_sceneShown_23 : decode cX5_sceneShown 23 = .ok (.ireturn, 1) := by decide +kernel
set_option maxRecDepth 20000 in
theorem ggX5_placeOfMinute_X5_sceneAt : GoodIn wsX5_placeOfMinute wsX5_sceneAt := goodIn_r _ [7, 1, 8, 20, 21, 22, 23, 24, 25, 26, 27, 28, 29, 30, 31, 32, 33, 34, 35, 36, 37, 38, 39, 40, 41, 42, 43, 44, 45, 46, 47, 48, 49, 50, 51, 52, 53, 54] (by decide +kernel) (by decide +kernel)
set_option maxRecDepth 20000 in
theorem gX5_placeOfMinute_X5_sceneAt_u96X0 : GoodIn wsX5_placeOfMinute (va_wsU RX5 96 RX0 "LampsThatRemember$Lamp" ⟨"LampsThatRemember$Lamp", "sceneAt", "(I)I"⟩ yX5_sceneAt wsX5_sceneAt) := goodIn_app (goodIn_of _ (by decide +kernel)) ggX5_placeOfMinute_X5_sceneAt
set_option maxRecDepth 20000 in
theorem gX5_placeOfMinute_X5_sceneAt_u96X1 : GoodIn wsX5_placeOfMinute (va_wsU RX5 96 RX1 "LampsThatRemember$Lamp" ⟨"LampsThatRemember$Lamp", "sceneAt", "(I)I"⟩ yX5_sceneAt wsX5_sceneAt) := goodIn_app (goodIn_of _ (by decide +kernel)) ggX5_placeOfMinute_X5_sceneAt
set_option maxRecDepth 20000 in
theorem gX5_placeOfMinute_X5_sceneAt_u96X3 : GoodIn wsX5_placeOfMinute (va_wsU RX5 96 RX3 "LampsThatRemember$Lamp" ⟨"LampsThatRemember$Lamp", "sceneAt", "(I)I"⟩ yX5_sceneAt wsX5_sceneAt) := goodIn_app (goodIn_of _ (by decide +kernel)) ggX5_placeOfMinute_X5_sceneAt
set_option maxRecDepth 20000 in
theorem gX5_placeOfMinute_X5_sceneAt_u96X4 : GoodIn wsX5_placeOfMinute (va_wsU RX5 96 RX4 "LampsThatRemember$Lamp" ⟨"LampsThatRemember$Lamp", "sceneAt", "(I)I"⟩ yX5_sceneAt wsX5_sceneAt) := goodIn_app (goodIn_of _ (by decide +kernel)) ggX5_placeOfMinute_X5_sceneAt
set_option maxRecDepth 20000 in
theorem gX5_placeOfMinute_X5_sceneAt : GoodIn wsX5_placeOfMinute (wsV RX5 96 RX5 yX5_sceneAt wsX5_sceneAt) := goodIn_app (goodIn_of _ (by decide +kernel)) ggX5_placeOfMinute_X5_sceneAt
set_option maxRecDepth 20000 in
theorem gX5_placeOfMinute_X5_sceneAt_u96X7 : GoodIn wsX5_placeOfMinute (va_wsU RX5 96 RX7 "LampsThatRemember$Lamp" ⟨"LampsThatRemember$Lamp", "sceneAt", "(I)I"⟩ yX5_sceneAt wsX5_sceneAt) := goodIn_app (goodIn_of _ (by decide +kernel)) ggX5_placeOfMinute_X5_sceneAt
set_option maxRecDepth 20000 in
theorem gX5_placeOfMinute_X5_sceneAt_u96X8 : GoodIn wsX5_placeOfMinute (va_wsU RX5 96 RX8 "LampsThatRemember$Lamp" ⟨"LampsThatRemember$Lamp", "sceneAt", "(I)I"⟩ yX5_sceneAt wsX5_sceneAt) := goodIn_app (goodIn_of _ (by decide +kernel)) ggX5_placeOfMinute_X5_sceneAt
set_option maxRecDepth 20000 in
theorem ggX5_placeOfMinute_X9_minuteIn : GoodIn wsX5_placeOfMinute wsX9_minuteIn := goodIn_r _ [19] (by decide +kernel) (by decide +kernel)
set_option maxRecDepth 20000 in
theorem gX5_placeOfMinute_X9_minuteIn : GoodIn wsX5_placeOfMinute (va_wsS RX5 99 yX9_minuteIn wsX9_minuteIn) := goodIn_app (goodIn_of _ (by decide +kernel)) ggX5_placeOfMinute_X9_minuteIn
theorem dX5_placeOfMinute_0 : decode cX5_placeOfMinute 0 = .ok (.iconst 0, 1) := by decide +kernel
theorem dX5_placeOfMinute_1 : decode cX5_placeOfMinute 1 = .ok (.istore_n 2, 1) := by decide +kernel
theorem dX5_placeOfMinute_2 : decode cX5_placeOfMinute 2 = .ok (.iload_n 2, 1) := by decide +kernel
theorem dX5_placeOfMinute_3 : decode cX5_placeOfMinute 3 = .ok (.aload_n 0, 1) := by decide +kernel
theorem dX5_placeOfMinute_4 : decode cX5_placeOfMinute 4 = .ok (.getfield 50, 3) := by decide +kernel
theorem dX5_placeOfMinute_7 : decode cX5_placeOfMinute 7 = .ok (.if_icmp .ge 23, 3) := by decide +kernel
theorem dX5_placeOfMinute_10 : decode cX5_placeOfMinute 10 = .ok (.aload_n 0, 1) := by decide +kernel
theorem dX5_placeOfMinute_11 : decode cX5_placeOfMinute 11 = .ok (.iload_n 2, 1) := by decide +kernel
theorem dX5_placeOfMinute_12 : decode cX5_placeOfMinute 12 = .ok (.invokevirtual 96, 3) := by decide +kernel
theorem dX5_placeOfMinute_15 : decode cX5_placeOfMinute 15 = .ok (.invokestatic 99, 3) := by decide +kernel
theorem dX5_placeOfMinute_18 : decode cX5_placeOfMinute 18 = .ok (.iload_n 1, 1) := by decide +kernel
theorem dX5_placeOfMinute_19 : decode cX5_placeOfMinute 19 = .ok (.if_icmp .ne 5, 3) := by decide +kernel
theorem dX5_placeOfMinute_22 : decode cX5_placeOfMinute 22 = .ok (.iload_n 2, 1) := by decide +kernel
theorem dX5_placeOfMinute_23 : decode cX5_placeOfMinute 23 = .ok (.ireturn, 1) := by decide +kernel
theorem dX5_placeOfMinute_24 : decode cX5_placeOfMinute 24 = .ok (.iinc 2 1, 3) := by decide +kernel
theorem dX5_placeOfMinute_27 : decode cX5_placeOfMinute 27 = .ok (.goto (-25), 3) := by decide +kernel
theorem dX5_placeOfMinute_30 : decode cX5_placeOfMinute 30 = .ok (.bipush (-9), 2) := by decide +kernel
theorem dX5_placeOfMinute_32 : decode cX5_placeOfMinute 32 = .ok (.ireturn, 1) := by decide +kernel
set_option maxRecDepth 20000 in
theorem ggX5_hasScene_X9_minuteIn : GoodIn wsX5_hasScene wsX9_minuteIn := goodIn_r _ [4] (by decide +kernel) (by decide +kernel)
set_option maxRecDepth 20000 in
theorem gX5_hasScene_X9_minuteIn : GoodIn wsX5_hasScene (va_wsS RX5 99 yX9_minuteIn wsX9_minuteIn) := goodIn_app (goodIn_of _ (by decide +kernel)) ggX5_hasScene_X9_minuteIn
set_option maxRecDepth 20000 in
theorem ggX5_hasScene_X5_placeOfMinute : GoodIn wsX5_hasScene wsX5_placeOfMinute := goodIn_r _ [10, 11, 12, 13, 14, 15, 9, 16, 17, 18, 19, 20, 21, 22, 23, 24, 1, 2, 3, 4, 32, 33, 34, 35, 36, 37, 38, 39, 40, 41, 42, 43, 44, 45, 46, 47, 48, 49, 50, 51, 52, 53, 54, 55, 56, 57, 58, 59, 60, 61, 62, 63, 64, 65, 66] (by decide +kernel) (by decide +kernel)
set_option maxRecDepth 20000 in
theorem gX5_hasScene_X5_placeOfMinute_u102X0 : GoodIn wsX5_hasScene (va_wsU RX5 102 RX0 "LampsThatRemember$Lamp" ⟨"LampsThatRemember$Lamp", "placeOfMinute", "(I)I"⟩ yX5_placeOfMinute wsX5_placeOfMinute) := goodIn_app (goodIn_of _ (by decide +kernel)) ggX5_hasScene_X5_placeOfMinute
set_option maxRecDepth 20000 in
theorem gX5_hasScene_X5_placeOfMinute_u102X1 : GoodIn wsX5_hasScene (va_wsU RX5 102 RX1 "LampsThatRemember$Lamp" ⟨"LampsThatRemember$Lamp", "placeOfMinute", "(I)I"⟩ yX5_placeOfMinute wsX5_placeOfMinute) := goodIn_app (goodIn_of _ (by decide +kernel)) ggX5_hasScene_X5_placeOfMinute
set_option maxRecDepth 20000 in
theorem gX5_hasScene_X5_placeOfMinute_u102X3 : GoodIn wsX5_hasScene (va_wsU RX5 102 RX3 "LampsThatRemember$Lamp" ⟨"LampsThatRemember$Lamp", "placeOfMinute", "(I)I"⟩ yX5_placeOfMinute wsX5_placeOfMinute) := goodIn_app (goodIn_of _ (by decide +kernel)) ggX5_hasScene_X5_placeOfMinute
set_option maxRecDepth 20000 in
theorem gX5_hasScene_X5_placeOfMinute_u102X4 : GoodIn wsX5_hasScene (va_wsU RX5 102 RX4 "LampsThatRemember$Lamp" ⟨"LampsThatRemember$Lamp", "placeOfMinute", "(I)I"⟩ yX5_placeOfMinute wsX5_placeOfMinute) := goodIn_app (goodIn_of _ (by decide +kernel)) ggX5_hasScene_X5_placeOfMinute
set_option maxRecDepth 20000 in
theorem gX5_hasScene_X5_placeOfMinute : GoodIn wsX5_hasScene (wsV RX5 102 RX5 yX5_placeOfMinute wsX5_placeOfMinute) := goodIn_app (goodIn_of _ (by decide +kernel)) ggX5_hasScene_X5_placeOfMinute
set_option maxRecDepth 20000 in
theorem gX5_hasScene_X5_placeOfMinute_u102X7 : GoodIn wsX5_hasScene (va_wsU RX5 102 RX7 "LampsThatRemember$Lamp" ⟨"LampsThatRemember$Lamp", "placeOfMinute", "(I)I"⟩ yX5_placeOfMinute wsX5_placeOfMinute) := goodIn_app (goodIn_of _ (by decide +kernel)) ggX5_hasScene_X5_placeOfMinute
set_option maxRecDepth 20000 in
theorem gX5_hasScene_X5_placeOfMinute_u102X8 : GoodIn wsX5_hasScene (va_wsU RX5 102 RX8 "LampsThatRemember$Lamp" ⟨"LampsThatRemember$Lamp", "placeOfMinute", "(I)I"⟩ yX5_placeOfMinute wsX5_placeOfMinute) := goodIn_app (goodIn_of _ (by decide +kernel)) ggX5_hasScene_X5_placeOfMinute
set_option maxRecDepth 20000 in
theorem ggX5_hasScene_X5_sceneAt : GoodIn wsX5_hasScene wsX5_sceneAt := goodIn_r _ [16, 11, 17, 32, 33, 34, 35, 36, 37, 38, 39, 40, 41, 42, 43, 44, 45, 46, 47, 48, 49, 50, 51, 52, 53, 54, 55, 56, 57, 58, 59, 60, 61, 62, 63, 64, 65, 66] (by decide +kernel) (by decide +kernel)
set_option maxRecDepth 20000 in
theorem gX5_hasScene_X5_sceneAt_u96X0 : GoodIn wsX5_hasScene (va_wsU RX5 96 RX0 "LampsThatRemember$Lamp" ⟨"LampsThatRemember$Lamp", "sceneAt", "(I)I"⟩ yX5_sceneAt wsX5_sceneAt) := goodIn_app (goodIn_of _ (by decide +kernel)) ggX5_hasScene_X5_sceneAt
set_option maxRecDepth 20000 in
theorem gX5_hasScene_X5_sceneAt_u96X1 : GoodIn wsX5_hasScene (va_wsU RX5 96 RX1 "LampsThatRemember$Lamp" ⟨"LampsThatRemember$Lamp", "sceneAt", "(I)I"⟩ yX5_sceneAt wsX5_sceneAt) := goodIn_app (goodIn_of _ (by decide +kernel)) ggX5_hasScene_X5_sceneAt
set_option maxRecDepth 20000 in
theorem gX5_hasScene_X5_sceneAt_u96X3 : GoodIn wsX5_hasScene (va_wsU RX5 96 RX3 "LampsThatRemember$Lamp" ⟨"LampsThatRemember$Lamp", "sceneAt", "(I)I"⟩ yX5_sceneAt wsX5_sceneAt) := goodIn_app (goodIn_of _ (by decide +kernel)) ggX5_hasScene_X5_sceneAt
set_option maxRecDepth 20000 in
theorem gX5_hasScene_X5_sceneAt_u96X4 : GoodIn wsX5_hasScene (va_wsU RX5 96 RX4 "LampsThatRemember$Lamp" ⟨"LampsThatRemember$Lamp", "sceneAt", "(I)I"⟩ yX5_sceneAt wsX5_sceneAt) := goodIn_app (goodIn_of _ (by decide +kernel)) ggX5_hasScene_X5_sceneAt
set_option maxRecDepth 20000 in
theorem gX5_hasScene_X5_sceneAt : GoodIn wsX5_hasScene (wsV RX5 96 RX5 yX5_sceneAt wsX5_sceneAt) := goodIn_app (goodIn_of _ (by decide +kernel)) ggX5_hasScene_X5_sceneAt
set_option maxRecDepth 20000 in
theorem gX5_hasScene_X5_sceneAt_u96X7 : GoodIn wsX5_hasScene (va_wsU RX5 96 RX7 "LampsThatRemember$Lamp" ⟨"LampsThatRemember$Lamp", "sceneAt", "(I)I"⟩ yX5_sceneAt wsX5_sceneAt) := goodIn_app (goodIn_of _ (by decide +kernel)) ggX5_hasScene_X5_sceneAt
set_option maxRecDepth 20000 in
theorem gX5_hasScene_X5_sceneAt_u96X8 : GoodIn wsX5_hasScene (va_wsU RX5 96 RX8 "LampsThatRemember$Lamp" ⟨"LampsThatRemember$Lamp", "sceneAt", "(I)I"⟩ yX5_sceneAt wsX5_sceneAt) := goodIn_app (goodIn_of _ (by decide +kernel)) ggX5_hasScene_X5_sceneAt
theorem dX5_hasScene_0 : decode cX5_hasScene 0 = .ok (.aload_n 0, 1) := by decide +kernel
theorem dX5_hasScene_1 : decode cX5_hasScene 1 = .ok (.iload_n 1, 1) := by decide +kernel
theorem dX5_hasScene_2 : decode cX5_hasScene 2 = .ok (.invokestatic 99, 3) := by decide +kernel
theorem dX5_hasScene_5 : decode cX5_hasScene 5 = .ok (.invokevirtual 102, 3) := by decide +kernel
theorem dX5_hasScene_8 : decode cX5_hasScene 8 = .ok (.istore_n 2, 1) := by decide +kernel
theorem dX5_hasScene_9 : decode cX5_hasScene 9 = .ok (.iload_n 2, 1) := by decide +kernel
theorem dX5_hasScene_10 : decode cX5_hasScene 10 = .ok (.ifCond .lt 16, 3) := by decide +kernel
theorem dX5_hasScene_13 : decode cX5_hasScene 13 = .ok (.aload_n 0, 1) := by decide +kernel
theorem dX5_hasScene_14 : decode cX5_hasScene 14 = .ok (.iload_n 2, 1) := by decide +kernel
theorem dX5_hasScene_15 : decode cX5_hasScene 15 = .ok (.invokevirtual 96, 3) := by decide +kernel
theorem dX5_hasScene_18 : decode cX5_hasScene 18 = .ok (.iload_n 1, 1) := by decide +kernel
theorem dX5_hasScene_19 : decode cX5_hasScene 19 = .ok (.if_icmp .ne 7, 3) := by decide +kernel
theorem dX5_hasScene_22 : decode cX5_hasScene 22 = .ok (.iconst 1, 1) := by decide +kernel
theorem dX5_hasScene_23 : decode cX5_hasScene 23 = .ok (.goto 4, 3) := by decide +kernel
theorem dX5_hasScene_26 : decode cX5_hasScene 26 = .ok (.iconst 0, 1) := by decide +kernel
theorem dX5_hasScene_27 : decode cX5_hasScene 27 = .ok (.ireturn, 1) := by decide +kernel
set_option maxRecDepth 20000 in
theorem ggX5_sawAt_X5_placeOfMinute : GoodIn wsX5_sawAt wsX5_placeOfMinute := goodIn_r _ [6, 7, 8, 9, 10, 11, 5, 12, 13, 14, 15, 16, 17, 18, 19, 20, 21, 22, 23, 24, 35, 36, 37, 38, 39, 40, 41, 42, 43, 44, 45, 46, 47, 48, 49, 50, 51, 52, 53, 54, 55, 56, 57, 58, 59, 60, 61, 62, 63, 64, 65, 66, 67, 68, 69] (by decide +kernel) (by decide +kernel)
set_option maxRecDepth 20000 in
theorem gX5_sawAt_X5_placeOfMinute_u102X0 : GoodIn wsX5_sawAt (va_wsU RX5 102 RX0 "LampsThatRemember$Lamp" ⟨"LampsThatRemember$Lamp", "placeOfMinute", "(I)I"⟩ yX5_placeOfMinute wsX5_placeOfMinute) := goodIn_app (goodIn_of _ (by decide +kernel)) ggX5_sawAt_X5_placeOfMinute
set_option maxRecDepth 20000 in
theorem gX5_sawAt_X5_placeOfMinute_u102X1 : GoodIn wsX5_sawAt (va_wsU RX5 102 RX1 "LampsThatRemember$Lamp" ⟨"LampsThatRemember$Lamp", "placeOfMinute", "(I)I"⟩ yX5_placeOfMinute wsX5_placeOfMinute) := goodIn_app (goodIn_of _ (by decide +kernel)) ggX5_sawAt_X5_placeOfMinute
set_option maxRecDepth 20000 in
theorem gX5_sawAt_X5_placeOfMinute_u102X3 : GoodIn wsX5_sawAt (va_wsU RX5 102 RX3 "LampsThatRemember$Lamp" ⟨"LampsThatRemember$Lamp", "placeOfMinute", "(I)I"⟩ yX5_placeOfMinute wsX5_placeOfMinute) := goodIn_app (goodIn_of _ (by decide +kernel)) ggX5_sawAt_X5_placeOfMinute
set_option maxRecDepth 20000 in
theorem gX5_sawAt_X5_placeOfMinute_u102X4 : GoodIn wsX5_sawAt (va_wsU RX5 102 RX4 "LampsThatRemember$Lamp" ⟨"LampsThatRemember$Lamp", "placeOfMinute", "(I)I"⟩ yX5_placeOfMinute wsX5_placeOfMinute) := goodIn_app (goodIn_of _ (by decide +kernel)) ggX5_sawAt_X5_placeOfMinute
set_option maxRecDepth 20000 in
theorem gX5_sawAt_X5_placeOfMinute : GoodIn wsX5_sawAt (wsV RX5 102 RX5 yX5_placeOfMinute wsX5_placeOfMinute) := goodIn_app (goodIn_of _ (by decide +kernel)) ggX5_sawAt_X5_placeOfMinute
set_option maxRecDepth 20000 in
theorem gX5_sawAt_X5_placeOfMinute_u102X7 : GoodIn wsX5_sawAt (va_wsU RX5 102 RX7 "LampsThatRemember$Lamp" ⟨"LampsThatRemember$Lamp", "placeOfMinute", "(I)I"⟩ yX5_placeOfMinute wsX5_placeOfMinute) := goodIn_app (goodIn_of _ (by decide +kernel)) ggX5_sawAt_X5_placeOfMinute
set_option maxRecDepth 20000 in
theorem gX5_sawAt_X5_placeOfMinute_u102X8 : GoodIn wsX5_sawAt (va_wsU RX5 102 RX8 "LampsThatRemember$Lamp" ⟨"LampsThatRemember$Lamp", "placeOfMinute", "(I)I"⟩ yX5_placeOfMinute wsX5_placeOfMinute) := goodIn_app (goodIn_of _ (by decide +kernel)) ggX5_sawAt_X5_placeOfMinute
set_option maxRecDepth 20000 in
theorem ggX5_sawAt_X5_sceneAt : GoodIn wsX5_sawAt wsX5_sceneAt := goodIn_r _ [12, 7, 13, 35, 36, 37, 38, 39, 40, 41, 42, 43, 44, 45, 46, 47, 48, 49, 50, 51, 52, 53, 54, 55, 56, 57, 58, 59, 60, 61, 62, 63, 64, 65, 66, 67, 68, 69] (by decide +kernel) (by decide +kernel)
set_option maxRecDepth 20000 in
theorem gX5_sawAt_X5_sceneAt_u96X0 : GoodIn wsX5_sawAt (va_wsU RX5 96 RX0 "LampsThatRemember$Lamp" ⟨"LampsThatRemember$Lamp", "sceneAt", "(I)I"⟩ yX5_sceneAt wsX5_sceneAt) := goodIn_app (goodIn_of _ (by decide +kernel)) ggX5_sawAt_X5_sceneAt
set_option maxRecDepth 20000 in
theorem gX5_sawAt_X5_sceneAt_u96X1 : GoodIn wsX5_sawAt (va_wsU RX5 96 RX1 "LampsThatRemember$Lamp" ⟨"LampsThatRemember$Lamp", "sceneAt", "(I)I"⟩ yX5_sceneAt wsX5_sceneAt) := goodIn_app (goodIn_of _ (by decide +kernel)) ggX5_sawAt_X5_sceneAt
set_option maxRecDepth 20000 in
theorem gX5_sawAt_X5_sceneAt_u96X3 : GoodIn wsX5_sawAt (va_wsU RX5 96 RX3 "LampsThatRemember$Lamp" ⟨"LampsThatRemember$Lamp", "sceneAt", "(I)I"⟩ yX5_sceneAt wsX5_sceneAt) := goodIn_app (goodIn_of _ (by decide +kernel)) ggX5_sawAt_X5_sceneAt
set_option maxRecDepth 20000 in
theorem gX5_sawAt_X5_sceneAt_u96X4 : GoodIn wsX5_sawAt (va_wsU RX5 96 RX4 "LampsThatRemember$Lamp" ⟨"LampsThatRemember$Lamp", "sceneAt", "(I)I"⟩ yX5_sceneAt wsX5_sceneAt) := goodIn_app (goodIn_of _ (by decide +kernel)) ggX5_sawAt_X5_sceneAt
set_option maxRecDepth 20000 in
theorem gX5_sawAt_X5_sceneAt : GoodIn wsX5_sawAt (wsV RX5 96 RX5 yX5_sceneAt wsX5_sceneAt) := goodIn_app (goodIn_of _ (by decide +kernel)) ggX5_sawAt_X5_sceneAt
set_option maxRecDepth 20000 in
theorem gX5_sawAt_X5_sceneAt_u96X7 : GoodIn wsX5_sawAt (va_wsU RX5 96 RX7 "LampsThatRemember$Lamp" ⟨"LampsThatRemember$Lamp", "sceneAt", "(I)I"⟩ yX5_sceneAt wsX5_sceneAt) := goodIn_app (goodIn_of _ (by decide +kernel)) ggX5_sawAt_X5_sceneAt
set_option maxRecDepth 20000 in
theorem gX5_sawAt_X5_sceneAt_u96X8 : GoodIn wsX5_sawAt (va_wsU RX5 96 RX8 "LampsThatRemember$Lamp" ⟨"LampsThatRemember$Lamp", "sceneAt", "(I)I"⟩ yX5_sceneAt wsX5_sceneAt) := goodIn_app (goodIn_of _ (by decide +kernel)) ggX5_sawAt_X5_sceneAt
set_option maxRecDepth 20000 in
theorem ggX5_sawAt_X9_whoIn : GoodIn wsX5_sawAt wsX9_whoIn := goodIn_r _ [34] (by decide +kernel) (by decide +kernel)
set_option maxRecDepth 20000 in
theorem gX5_sawAt_X9_whoIn : GoodIn wsX5_sawAt (va_wsS RX5 105 yX9_whoIn wsX9_whoIn) := goodIn_app (goodIn_of _ (by decide +kernel)) ggX5_sawAt_X9_whoIn
theorem dX5_sawAt_0 : decode cX5_sawAt 0 = .ok (.aload_n 0, 1) := by decide +kernel
theorem dX5_sawAt_1 : decode cX5_sawAt 1 = .ok (.iload_n 2, 1) := by decide +kernel
theorem dX5_sawAt_2 : decode cX5_sawAt 2 = .ok (.invokevirtual 102, 3) := by decide +kernel
theorem dX5_sawAt_5 : decode cX5_sawAt 5 = .ok (.istore_n 3, 1) := by decide +kernel
theorem dX5_sawAt_6 : decode cX5_sawAt 6 = .ok (.iload_n 3, 1) := by decide +kernel
theorem dX5_sawAt_7 : decode cX5_sawAt 7 = .ok (.ifCond .lt 19, 3) := by decide +kernel
theorem dX5_sawAt_10 : decode cX5_sawAt 10 = .ok (.aload_n 0, 1) := by decide +kernel
theorem dX5_sawAt_11 : decode cX5_sawAt 11 = .ok (.iload_n 3, 1) := by decide +kernel
theorem dX5_sawAt_12 : decode cX5_sawAt 12 = .ok (.invokevirtual 96, 3) := by decide +kernel
theorem dX5_sawAt_15 : decode cX5_sawAt 15 = .ok (.invokestatic 105, 3) := by decide +kernel
theorem dX5_sawAt_18 : decode cX5_sawAt 18 = .ok (.iload_n 1, 1) := by decide +kernel
theorem dX5_sawAt_19 : decode cX5_sawAt 19 = .ok (.if_icmp .ne 7, 3) := by decide +kernel
theorem dX5_sawAt_22 : decode cX5_sawAt 22 = .ok (.iconst 1, 1) := by decide +kernel
theorem dX5_sawAt_23 : decode cX5_sawAt 23 = .ok (.goto 4, 3) := by decide +kernel
theorem dX5_sawAt_26 : decode cX5_sawAt 26 = .ok (.iconst 0, 1) := by decide +kernel
theorem dX5_sawAt_27 : decode cX5_sawAt 27 = .ok (.ireturn, 1) := by decide +kernel
set_option maxRecDepth 20000 in
theorem ggX5_everSeen_X5_sceneAt : GoodIn wsX5_everSeen wsX5_sceneAt := goodIn_r _ [7, 1, 8, 20, 21, 22, 23, 24, 25, 26, 27, 28, 29, 30, 31, 32, 33, 34, 35, 36, 37, 38, 39, 40, 41, 42, 43, 44, 45, 46, 47, 48, 49, 50, 51, 52, 53, 54] (by decide +kernel) (by decide +kernel)
set_option maxRecDepth 20000 in
theorem gX5_everSeen_X5_sceneAt_u96X0 : GoodIn wsX5_everSeen (va_wsU RX5 96 RX0 "LampsThatRemember$Lamp" ⟨"LampsThatRemember$Lamp", "sceneAt", "(I)I"⟩ yX5_sceneAt wsX5_sceneAt) := goodIn_app (goodIn_of _ (by decide +kernel)) ggX5_everSeen_X5_sceneAt
set_option maxRecDepth 20000 in
theorem gX5_everSeen_X5_sceneAt_u96X1 : GoodIn wsX5_everSeen (va_wsU RX5 96 RX1 "LampsThatRemember$Lamp" ⟨"LampsThatRemember$Lamp", "sceneAt", "(I)I"⟩ yX5_sceneAt wsX5_sceneAt) := goodIn_app (goodIn_of _ (by decide +kernel)) ggX5_everSeen_X5_sceneAt
set_option maxRecDepth 20000 in
theorem gX5_everSeen_X5_sceneAt_u96X3 : GoodIn wsX5_everSeen (va_wsU RX5 96 RX3 "LampsThatRemember$Lamp" ⟨"LampsThatRemember$Lamp", "sceneAt", "(I)I"⟩ yX5_sceneAt wsX5_sceneAt) := goodIn_app (goodIn_of _ (by decide +kernel)) ggX5_everSeen_X5_sceneAt
set_option maxRecDepth 20000 in
theorem gX5_everSeen_X5_sceneAt_u96X4 : GoodIn wsX5_everSeen (va_wsU RX5 96 RX4 "LampsThatRemember$Lamp" ⟨"LampsThatRemember$Lamp", "sceneAt", "(I)I"⟩ yX5_sceneAt wsX5_sceneAt) := goodIn_app (goodIn_of _ (by decide +kernel)) ggX5_everSeen_X5_sceneAt
set_option maxRecDepth 20000 in
theorem gX5_everSeen_X5_sceneAt : GoodIn wsX5_everSeen (wsV RX5 96 RX5 yX5_sceneAt wsX5_sceneAt) := goodIn_app (goodIn_of _ (by decide +kernel)) ggX5_everSeen_X5_sceneAt
set_option maxRecDepth 20000 in
theorem gX5_everSeen_X5_sceneAt_u96X7 : GoodIn wsX5_everSeen (va_wsU RX5 96 RX7 "LampsThatRemember$Lamp" ⟨"LampsThatRemember$Lamp", "sceneAt", "(I)I"⟩ yX5_sceneAt wsX5_sceneAt) := goodIn_app (goodIn_of _ (by decide +kernel)) ggX5_everSeen_X5_sceneAt
set_option maxRecDepth 20000 in
theorem gX5_everSeen_X5_sceneAt_u96X8 : GoodIn wsX5_everSeen (va_wsU RX5 96 RX8 "LampsThatRemember$Lamp" ⟨"LampsThatRemember$Lamp", "sceneAt", "(I)I"⟩ yX5_sceneAt wsX5_sceneAt) := goodIn_app (goodIn_of _ (by decide +kernel)) ggX5_everSeen_X5_sceneAt
set_option maxRecDepth 20000 in
theorem ggX5_everSeen_X9_whoIn : GoodIn wsX5_everSeen wsX9_whoIn := goodIn_r _ [19] (by decide +kernel) (by decide +kernel)
set_option maxRecDepth 20000 in
theorem gX5_everSeen_X9_whoIn : GoodIn wsX5_everSeen (va_wsS RX5 105 yX9_whoIn wsX9_whoIn) := goodIn_app (goodIn_of _ (by decide +kernel)) ggX5_everSeen_X9_whoIn
theorem dX5_everSeen_0 : decode cX5_everSeen 0 = .ok (.iconst 0, 1) := by decide +kernel
theorem dX5_everSeen_1 : decode cX5_everSeen 1 = .ok (.istore_n 1, 1) := by decide +kernel
theorem dX5_everSeen_2 : decode cX5_everSeen 2 = .ok (.iconst 0, 1) := by decide +kernel
theorem dX5_everSeen_3 : decode cX5_everSeen 3 = .ok (.istore_n 2, 1) := by decide +kernel
theorem dX5_everSeen_4 : decode cX5_everSeen 4 = .ok (.iload_n 2, 1) := by decide +kernel
theorem dX5_everSeen_5 : decode cX5_everSeen 5 = .ok (.aload_n 0, 1) := by decide +kernel
theorem dX5_everSeen_6 : decode cX5_everSeen 6 = .ok (.getfield 50, 3) := by decide +kernel
theorem dX5_everSeen_9 : decode cX5_everSeen 9 = .ok (.if_icmp .ge 30, 3) := by decide +kernel
theorem dX5_everSeen_12 : decode cX5_everSeen 12 = .ok (.aload_n 0, 1) := by decide +kernel
theorem dX5_everSeen_13 : decode cX5_everSeen 13 = .ok (.iload_n 2, 1) := by decide +kernel
theorem dX5_everSeen_14 : decode cX5_everSeen 14 = .ok (.invokevirtual 96, 3) := by decide +kernel
theorem dX5_everSeen_17 : decode cX5_everSeen 17 = .ok (.invokestatic 105, 3) := by decide +kernel
theorem dX5_everSeen_20 : decode cX5_everSeen 20 = .ok (.istore_n 3, 1) := by decide +kernel
theorem dX5_everSeen_21 : decode cX5_everSeen 21 = .ok (.iload_n 3, 1) := by decide +kernel
theorem dX5_everSeen_22 : decode cX5_everSeen 22 = .ok (.bipush 9, 2) := by decide +kernel
theorem dX5_everSeen_24 : decode cX5_everSeen 24 = .ok (.if_icmp .eq 9, 3) := by decide +kernel
theorem dX5_everSeen_27 : decode cX5_everSeen 27 = .ok (.iload_n 1, 1) := by decide +kernel
theorem dX5_everSeen_28 : decode cX5_everSeen 28 = .ok (.iconst 1, 1) := by decide +kernel
theorem dX5_everSeen_29 : decode cX5_everSeen 29 = .ok (.iload_n 3, 1) := by decide +kernel
theorem dX5_everSeen_30 : decode cX5_everSeen 30 = .ok (.ishl, 1) := by decide +kernel
theorem dX5_everSeen_31 : decode cX5_everSeen 31 = .ok (.ior, 1) := by decide +kernel
theorem dX5_everSeen_32 : decode cX5_everSeen 32 = .ok (.istore_n 1, 1) := by decide +kernel
theorem dX5_everSeen_33 : decode cX5_everSeen 33 = .ok (.iinc 2 1, 3) := by decide +kernel
theorem dX5_everSeen_36 : decode cX5_everSeen 36 = .ok (.goto (-32), 3) := by decide +kernel
theorem dX5_everSeen_39 : decode cX5_everSeen 39 = .ok (.iload_n 1, 1) := by decide +kernel
theorem dX5_everSeen_40 : decode cX5_everSeen 40 = .ok (.ireturn, 1) := by decide +kernel
set_option maxRecDepth 20000 in
theorem ggX5_leftByScenes_X5_sceneAt : GoodIn wsX5_leftByScenes wsX5_sceneAt := goodIn_r _ [11, 1, 12, 42, 43, 44, 45, 46, 47, 48, 49, 50, 51, 52, 53, 54, 55, 56, 57, 58, 59, 60, 61, 62, 63, 64, 65, 66, 67, 68, 69, 70, 71, 72, 73, 74, 75, 76] (by decide +kernel) (by decide +kernel)
set_option maxRecDepth 20000 in
theorem gX5_leftByScenes_X5_sceneAt_u96X0 : GoodIn wsX5_leftByScenes (va_wsU RX5 96 RX0 "LampsThatRemember$Lamp" ⟨"LampsThatRemember$Lamp", "sceneAt", "(I)I"⟩ yX5_sceneAt wsX5_sceneAt) := goodIn_app (goodIn_of _ (by decide +kernel)) ggX5_leftByScenes_X5_sceneAt
set_option maxRecDepth 20000 in
theorem gX5_leftByScenes_X5_sceneAt_u96X1 : GoodIn wsX5_leftByScenes (va_wsU RX5 96 RX1 "LampsThatRemember$Lamp" ⟨"LampsThatRemember$Lamp", "sceneAt", "(I)I"⟩ yX5_sceneAt wsX5_sceneAt) := goodIn_app (goodIn_of _ (by decide +kernel)) ggX5_leftByScenes_X5_sceneAt
set_option maxRecDepth 20000 in
theorem gX5_leftByScenes_X5_sceneAt_u96X3 : GoodIn wsX5_leftByScenes (va_wsU RX5 96 RX3 "LampsThatRemember$Lamp" ⟨"LampsThatRemember$Lamp", "sceneAt", "(I)I"⟩ yX5_sceneAt wsX5_sceneAt) := goodIn_app (goodIn_of _ (by decide +kernel)) ggX5_leftByScenes_X5_sceneAt
set_option maxRecDepth 20000 in
theorem gX5_leftByScenes_X5_sceneAt_u96X4 : GoodIn wsX5_leftByScenes (va_wsU RX5 96 RX4 "LampsThatRemember$Lamp" ⟨"LampsThatRemember$Lamp", "sceneAt", "(I)I"⟩ yX5_sceneAt wsX5_sceneAt) := goodIn_app (goodIn_of _ (by decide +kernel)) ggX5_leftByScenes_X5_sceneAt
set_option maxRecDepth 20000 in
theorem gX5_leftByScenes_X5_sceneAt : GoodIn wsX5_leftByScenes (wsV RX5 96 RX5 yX5_sceneAt wsX5_sceneAt) := goodIn_app (goodIn_of _ (by decide +kernel)) ggX5_leftByScenes_X5_sceneAt
set_option maxRecDepth 20000 in
theorem gX5_leftByScenes_X5_sceneAt_u96X7 : GoodIn wsX5_leftByScenes (va_wsU RX5 96 RX7 "LampsThatRemember$Lamp" ⟨"LampsThatRemember$Lamp", "sceneAt", "(I)I"⟩ yX5_sceneAt wsX5_sceneAt) := goodIn_app (goodIn_of _ (by decide +kernel)) ggX5_leftByScenes_X5_sceneAt
set_option maxRecDepth 20000 in
theorem gX5_leftByScenes_X5_sceneAt_u96X8 : GoodIn wsX5_leftByScenes (va_wsU RX5 96 RX8 "LampsThatRemember$Lamp" ⟨"LampsThatRemember$Lamp", "sceneAt", "(I)I"⟩ yX5_sceneAt wsX5_sceneAt) := goodIn_app (goodIn_of _ (by decide +kernel)) ggX5_leftByScenes_X5_sceneAt
set_option maxRecDepth 20000 in
theorem ggX5_leftByScenes_X9_whoIn : GoodIn wsX5_leftByScenes wsX9_whoIn := goodIn_r _ [23] (by decide +kernel) (by decide +kernel)
set_option maxRecDepth 20000 in
theorem gX5_leftByScenes_X9_whoIn : GoodIn wsX5_leftByScenes (va_wsS RX5 105 yX9_whoIn wsX9_whoIn) := goodIn_app (goodIn_of _ (by decide +kernel)) ggX5_leftByScenes_X9_whoIn
set_option maxRecDepth 20000 in
theorem ggX5_leftByScenes_X9_minuteIn : GoodIn wsX5_leftByScenes wsX9_minuteIn := goodIn_r _ [26] (by decide +kernel) (by decide +kernel)
set_option maxRecDepth 20000 in
theorem gX5_leftByScenes_X9_minuteIn : GoodIn wsX5_leftByScenes (va_wsS RX5 99 yX9_minuteIn wsX9_minuteIn) := goodIn_app (goodIn_of _ (by decide +kernel)) ggX5_leftByScenes_X9_minuteIn
set_option maxRecDepth 20000 in
theorem ggX5_leftByScenes_X9_cellIn : GoodIn wsX5_leftByScenes wsX9_cellIn := goodIn_r _ [29] (by decide +kernel) (by decide +kernel)
set_option maxRecDepth 20000 in
theorem gX5_leftByScenes_X9_cellIn : GoodIn wsX5_leftByScenes (va_wsS RX5 113 yX9_cellIn wsX9_cellIn) := goodIn_app (goodIn_of _ (by decide +kernel)) ggX5_leftByScenes_X9_cellIn
set_option maxRecDepth 20000 in
theorem ggX5_leftByScenes_X2_within : GoodIn wsX5_leftByScenes wsX2_within := goodIn_r _ [33, 34, 35, 32, 36, 37, 38, 39, 40, 41] (by decide +kernel) (by decide +kernel)
set_option maxRecDepth 20000 in
theorem gX5_leftByScenes_X2_within : GoodIn wsX5_leftByScenes (va_wsS RX5 86 yX2_within wsX2_within) := goodIn_app (goodIn_of _ (by decide +kernel)) ggX5_leftByScenes_X2_within
theorem dX5_leftByScenes_0 : decode cX5_leftByScenes 0 = .ok (.lload_n 3, 1) := by decide +kernel
theorem dX5_leftByScenes_1 : decode cX5_leftByScenes 1 = .ok (.lstore 5, 2) := by decide +kernel
theorem dX5_leftByScenes_3 : decode cX5_leftByScenes 3 = .ok (.iconst 0, 1) := by decide +kernel
theorem dX5_leftByScenes_4 : decode cX5_leftByScenes 4 = .ok (.istore 7, 2) := by decide +kernel
theorem dX5_leftByScenes_6 : decode cX5_leftByScenes 6 = .ok (.iload 7, 2) := by decide +kernel
theorem dX5_leftByScenes_8 : decode cX5_leftByScenes 8 = .ok (.aload_n 0, 1) := by decide +kernel
theorem dX5_leftByScenes_9 : decode cX5_leftByScenes 9 = .ok (.getfield 50, 3) := by decide +kernel
theorem dX5_leftByScenes_12 : decode cX5_leftByScenes 12 = .ok (.if_icmp .ge 54, 3) := by decide +kernel
theorem dX5_leftByScenes_15 : decode cX5_leftByScenes 15 = .ok (.aload_n 0, 1) := by decide +kernel
theorem dX5_leftByScenes_16 : decode cX5_leftByScenes 16 = .ok (.iload 7, 2) := by decide +kernel
theorem dX5_leftByScenes_18 : decode cX5_leftByScenes 18 = .ok (.invokevirtual 96, 3) := by decide +kernel
theorem dX5_leftByScenes_21 : decode cX5_leftByScenes 21 = .ok (.istore 8, 2) := by decide +kernel
theorem dX5_leftByScenes_23 : decode cX5_leftByScenes 23 = .ok (.iload 8, 2) := by decide +kernel
theorem dX5_leftByScenes_25 : decode cX5_leftByScenes 25 = .ok (.invokestatic 105, 3) := by decide +kernel
theorem dX5_leftByScenes_28 : decode cX5_leftByScenes 28 = .ok (.iload_n 1, 1) := by decide +kernel
theorem dX5_leftByScenes_29 : decode cX5_leftByScenes 29 = .ok (.if_icmp .ne 31, 3) := by decide +kernel
theorem dX5_leftByScenes_32 : decode cX5_leftByScenes 32 = .ok (.iload_n 2, 1) := by decide +kernel
theorem dX5_leftByScenes_33 : decode cX5_leftByScenes 33 = .ok (.iload 8, 2) := by decide +kernel
theorem dX5_leftByScenes_35 : decode cX5_leftByScenes 35 = .ok (.invokestatic 99, 3) := by decide +kernel
theorem dX5_leftByScenes_38 : decode cX5_leftByScenes 38 = .ok (.isub, 1) := by decide +kernel
theorem dX5_leftByScenes_39 : decode cX5_leftByScenes 39 = .ok (.invokestatic 108, 3) := by decide +kernel
theorem dX5_leftByScenes_42 : decode cX5_leftByScenes 42 = .ok (.istore 9, 2) := by decide +kernel
theorem dX5_leftByScenes_44 : decode cX5_leftByScenes 44 = .ok (.lload 5, 2) := by decide +kernel
theorem dX5_leftByScenes_46 : decode cX5_leftByScenes 46 = .ok (.iload 8, 2) := by decide +kernel
theorem dX5_leftByScenes_48 : decode cX5_leftByScenes 48 = .ok (.invokestatic 113, 3) := by decide +kernel
theorem dX5_leftByScenes_51 : decode cX5_leftByScenes 51 = .ok (.iload 9, 2) := by decide +kernel
theorem dX5_leftByScenes_53 : decode cX5_leftByScenes 53 = .ok (.lload_n 3, 1) := by decide +kernel
theorem dX5_leftByScenes_54 : decode cX5_leftByScenes 54 = .ok (.invokestatic 86, 3) := by decide +kernel
theorem dX5_leftByScenes_57 : decode cX5_leftByScenes 57 = .ok (.land, 1) := by decide +kernel
theorem dX5_leftByScenes_58 : decode cX5_leftByScenes 58 = .ok (.lstore 5, 2) := by decide +kernel
theorem dX5_leftByScenes_60 : decode cX5_leftByScenes 60 = .ok (.iinc 7 1, 3) := by decide +kernel
theorem dX5_leftByScenes_63 : decode cX5_leftByScenes 63 = .ok (.goto (-57), 3) := by decide +kernel
theorem dX5_leftByScenes_66 : decode cX5_leftByScenes 66 = .ok (.lload 5, 2) := by decide +kernel
theorem dX5_leftByScenes_68 : decode cX5_leftByScenes 68 = .ok (.lreturn, 1) := by decide +kernel
set_option maxRecDepth 20000 in
theorem ggX5_missed_X0_kind : GoodIn wsX5_missed wsX0_kind := goodIn_r _ [9] (by decide +kernel) (by decide +kernel)
set_option maxRecDepth 20000 in
theorem gX5_missed_X0_kind_u66X0 : GoodIn wsX5_missed (va_wsO RX5 66 RX0 "LampsThatRemember$Lamp" ⟨"LampsThatRemember$Lamp", "kind", "()I"⟩ yX0_kind wsX0_kind) := goodIn_app (goodIn_of _ (by decide +kernel)) ggX5_missed_X0_kind
set_option maxRecDepth 20000 in
theorem ggX5_missed_X1_kind : GoodIn wsX5_missed wsX1_kind := goodIn_r _ [14] (by decide +kernel) (by decide +kernel)
set_option maxRecDepth 20000 in
theorem gX5_missed_X1_kind_u66X1 : GoodIn wsX5_missed (va_wsO RX5 66 RX1 "LampsThatRemember$Lamp" ⟨"LampsThatRemember$Lamp", "kind", "()I"⟩ yX1_kind wsX1_kind) := goodIn_app (goodIn_of _ (by decide +kernel)) ggX5_missed_X1_kind
set_option maxRecDepth 20000 in
theorem ggX5_missed_X3_kind : GoodIn wsX5_missed wsX3_kind := goodIn_r _ [18] (by decide +kernel) (by decide +kernel)
set_option maxRecDepth 20000 in
theorem gX5_missed_X3_kind_u66X3 : GoodIn wsX5_missed (va_wsO RX5 66 RX3 "LampsThatRemember$Lamp" ⟨"LampsThatRemember$Lamp", "kind", "()I"⟩ yX3_kind wsX3_kind) := goodIn_app (goodIn_of _ (by decide +kernel)) ggX5_missed_X3_kind
set_option maxRecDepth 20000 in
theorem ggX5_missed_X4_kind : GoodIn wsX5_missed wsX4_kind := goodIn_r _ [22] (by decide +kernel) (by decide +kernel)
set_option maxRecDepth 20000 in
theorem gX5_missed_X4_kind_u66X4 : GoodIn wsX5_missed (va_wsO RX5 66 RX4 "LampsThatRemember$Lamp" ⟨"LampsThatRemember$Lamp", "kind", "()I"⟩ yX4_kind wsX4_kind) := goodIn_app (goodIn_of _ (by decide +kernel)) ggX5_missed_X4_kind
set_option maxRecDepth 20000 in
theorem ggX5_missed_X5_kind : GoodIn wsX5_missed wsX5_kind := goodIn_r _ [10] (by decide +kernel) (by decide +kernel)
set_option maxRecDepth 20000 in
theorem gX5_missed_X5_kind : GoodIn wsX5_missed (wsV RX5 66 RX5 yX5_kind wsX5_kind) := goodIn_app (goodIn_of _ (by decide +kernel)) ggX5_missed_X5_kind
set_option maxRecDepth 20000 in
theorem ggX5_missed_X7_kind : GoodIn wsX5_missed wsX7_kind := goodIn_r _ [30] (by decide +kernel) (by decide +kernel)
set_option maxRecDepth 20000 in
theorem gX5_missed_X7_kind_u66X7 : GoodIn wsX5_missed (va_wsO RX5 66 RX7 "LampsThatRemember$Lamp" ⟨"LampsThatRemember$Lamp", "kind", "()I"⟩ yX7_kind wsX7_kind) := goodIn_app (goodIn_of _ (by decide +kernel)) ggX5_missed_X7_kind
set_option maxRecDepth 20000 in
theorem ggX5_missed_X8_kind : GoodIn wsX5_missed wsX8_kind := goodIn_r _ [34] (by decide +kernel) (by decide +kernel)
set_option maxRecDepth 20000 in
theorem gX5_missed_X8_kind_u66X8 : GoodIn wsX5_missed (va_wsO RX5 66 RX8 "LampsThatRemember$Lamp" ⟨"LampsThatRemember$Lamp", "kind", "()I"⟩ yX8_kind wsX8_kind) := goodIn_app (goodIn_of _ (by decide +kernel)) ggX5_missed_X8_kind
set_option maxRecDepth 20000 in
theorem ggX5_missed_X5_sawAt : GoodIn wsX5_missed wsX5_sawAt := goodIn_r _ [39, 40, 41, 42, 43, 26, 44, 2, 45, 46, 47, 48, 49, 50, 51, 52, 53, 54, 55, 56, 57, 58, 59, 60, 61, 62, 63, 64, 65, 66, 67, 68, 69, 70, 71, 79, 80, 81, 82, 83, 84, 85, 86, 87, 88, 89, 90, 91, 92, 93, 94, 95, 96, 97, 98, 99, 100, 101, 102, 103, 104, 105, 106, 107, 108, 109, 110, 111, 112, 113] (by decide +kernel) (by decide +kernel)
set_option maxRecDepth 20000 in
theorem gX5_missed_X5_sawAt_u116X0 : GoodIn wsX5_missed (va_wsU RX5 116 RX0 "LampsThatRemember$Lamp" ⟨"LampsThatRemember$Lamp", "sawAt", "(II)Z"⟩ yX5_sawAt wsX5_sawAt) := goodIn_app (goodIn_of _ (by decide +kernel)) ggX5_missed_X5_sawAt
set_option maxRecDepth 20000 in
theorem gX5_missed_X5_sawAt_u116X1 : GoodIn wsX5_missed (va_wsU RX5 116 RX1 "LampsThatRemember$Lamp" ⟨"LampsThatRemember$Lamp", "sawAt", "(II)Z"⟩ yX5_sawAt wsX5_sawAt) := goodIn_app (goodIn_of _ (by decide +kernel)) ggX5_missed_X5_sawAt
set_option maxRecDepth 20000 in
theorem gX5_missed_X5_sawAt_u116X3 : GoodIn wsX5_missed (va_wsU RX5 116 RX3 "LampsThatRemember$Lamp" ⟨"LampsThatRemember$Lamp", "sawAt", "(II)Z"⟩ yX5_sawAt wsX5_sawAt) := goodIn_app (goodIn_of _ (by decide +kernel)) ggX5_missed_X5_sawAt
set_option maxRecDepth 20000 in
theorem gX5_missed_X5_sawAt_u116X4 : GoodIn wsX5_missed (va_wsU RX5 116 RX4 "LampsThatRemember$Lamp" ⟨"LampsThatRemember$Lamp", "sawAt", "(II)Z"⟩ yX5_sawAt wsX5_sawAt) := goodIn_app (goodIn_of _ (by decide +kernel)) ggX5_missed_X5_sawAt
set_option maxRecDepth 20000 in
theorem gX5_missed_X5_sawAt : GoodIn wsX5_missed (wsV RX5 116 RX5 yX5_sawAt wsX5_sawAt) := goodIn_app (goodIn_of _ (by decide +kernel)) ggX5_missed_X5_sawAt
set_option maxRecDepth 20000 in
theorem gX5_missed_X5_sawAt_u116X7 : GoodIn wsX5_missed (va_wsU RX5 116 RX7 "LampsThatRemember$Lamp" ⟨"LampsThatRemember$Lamp", "sawAt", "(II)Z"⟩ yX5_sawAt wsX5_sawAt) := goodIn_app (goodIn_of _ (by decide +kernel)) ggX5_missed_X5_sawAt
set_option maxRecDepth 20000 in
theorem gX5_missed_X5_sawAt_u116X8 : GoodIn wsX5_missed (va_wsU RX5 116 RX8 "LampsThatRemember$Lamp" ⟨"LampsThatRemember$Lamp", "sawAt", "(II)Z"⟩ yX5_sawAt wsX5_sawAt) := goodIn_app (goodIn_of _ (by decide +kernel)) ggX5_missed_X5_sawAt
theorem dX5_missed_0 : decode cX5_missed 0 = .ok (.aload_n 0, 1) := by decide +kernel
theorem dX5_missed_1 : decode cX5_missed 1 = .ok (.invokevirtual 66, 3) := by decide +kernel
theorem dX5_missed_4 : decode cX5_missed 4 = .ok (.ifCond .ne 32, 3) := by decide +kernel
theorem dX5_missed_7 : decode cX5_missed 7 = .ok (.aload_n 0, 1) := by decide +kernel
theorem dX5_missed_8 : decode cX5_missed 8 = .ok (.getfield 9, 3) := by decide +kernel
theorem dX5_missed_11 : decode cX5_missed 11 = .ok (.ifCond .eq 25, 3) := by decide +kernel
theorem dX5_missed_14 : decode cX5_missed 14 = .ok (.aload_n 0, 1) := by decide +kernel
theorem dX5_missed_15 : decode cX5_missed 15 = .ok (.getfield 50, 3) := by decide +kernel
theorem dX5_missed_18 : decode cX5_missed 18 = .ok (.bipush 9, 2) := by decide +kernel
theorem dX5_missed_20 : decode cX5_missed 20 = .ok (.if_icmp .ge 16, 3) := by decide +kernel
theorem dX5_missed_23 : decode cX5_missed 23 = .ok (.aload_n 0, 1) := by decide +kernel
theorem dX5_missed_24 : decode cX5_missed 24 = .ok (.iload_n 1, 1) := by decide +kernel
theorem dX5_missed_25 : decode cX5_missed 25 = .ok (.iload_n 2, 1) := by decide +kernel
theorem dX5_missed_26 : decode cX5_missed 26 = .ok (.invokevirtual 116, 3) := by decide +kernel
theorem dX5_missed_29 : decode cX5_missed 29 = .ok (.ifCond .ne 7, 3) := by decide +kernel
theorem dX5_missed_32 : decode cX5_missed 32 = .ok (.iconst 1, 1) := by decide +kernel
theorem dX5_missed_33 : decode cX5_missed 33 = .ok (.goto 4, 3) := by decide +kernel
theorem dX5_missed_36 : decode cX5_missed 36 = .ok (.iconst 0, 1) := by decide +kernel
theorem dX5_missed_37 : decode cX5_missed 37 = .ok (.ireturn, 1) := by decide +kernel
theorem dX6_init_0 : decode cX6_init 0 = .ok (.aload_n 0, 1) := by decide +kernel
theorem dX6_init_1 : decode cX6_init 1 = .ok (.invokespecial 3, 3) := by decide +kernel
theorem dX6_init_4 : decode cX6_init 4 = .ok (.aload_n 0, 1) := by decide +kernel
theorem dX6_init_5 : decode cX6_init 5 = .ok (.bipush 96, 2) := by decide +kernel
theorem dX6_init_7 : decode cX6_init 7 = .ok (.newarray .int, 2) := by decide +kernel
theorem dX6_init_9 : decode cX6_init 9 = .ok (.putfield 9, 3) := by decide +kernel
theorem dX6_init_12 : decode cX6_init 12 = .ok (.return_, 1) := by decide +kernel
theorem dX6_isFull_0 : decode cX6_isFull 0 = .ok (.aload_n 0, 1) := by decide +kernel
theorem dX6_isFull_1 : decode cX6_isFull 1 = .ok (.getfield 15, 3) := by decide +kernel
theorem dX6_isFull_4 : decode cX6_isFull 4 = .ok (.aload_n 0, 1) := by decide +kernel
theorem dX6_isFull_5 : decode cX6_isFull 5 = .ok (.getfield 9, 3) := by decide +kernel
theorem dX6_isFull_8 : decode cX6_isFull 8 = .ok (.arraylength, 1) := by decide +kernel
theorem dX6_isFull_9 : decode cX6_isFull 9 = .ok (.if_icmp .lt 7, 3) := by decide +kernel
theorem dX6_isFull_12 : decode cX6_isFull 12 = .ok (.iconst 1, 1) := by decide +kernel
theorem dX6_isFull_13 : decode cX6_isFull 13 = .ok (.goto 4, 3) := by decide +kernel
theorem dX6_isFull_16 : decode cX6_isFull 16 = .ok (.iconst 0, 1) := by decide +kernel
theorem dX6_isFull_17 : decode cX6_isFull 17 = .ok (.ireturn, 1) := by decide +kernel
theorem dX6_add_0 : decode cX6_add 0 = .ok (.aload_n 0, 1) := by decide +kernel
theorem dX6_add_1 : decode cX6_add 1 = .ok (.getfield 15, 3) := by decide +kernel
theorem dX6_add_4 : decode cX6_add 4 = .ok (.ifCond .lt 35, 3) := by decide +kernel
theorem dX6_add_7 : decode cX6_add 7 = .ok (.aload_n 0, 1) := by decide +kernel
theorem dX6_add_8 : decode cX6_add 8 = .ok (.getfield 15, 3) := by decide +kernel
theorem dX6_add_11 : decode cX6_add 11 = .ok (.aload_n 0, 1) := by decide +kernel
theorem dX6_add_12 : decode cX6_add 12 = .ok (.getfield 9, 3) := by decide +kernel
theorem dX6_add_15 : decode cX6_add 15 = .ok (.arraylength, 1) := by decide +kernel
theorem dX6_add_16 : decode cX6_add 16 = .ok (.if_icmp .ge 23, 3) := by decide +kernel
theorem dX6_add_19 : decode cX6_add 19 = .ok (.aload_n 0, 1) := by decide +kernel
theorem dX6_add_20 : decode cX6_add 20 = .ok (.getfield 9, 3) := by decide +kernel
theorem dX6_add_23 : decode cX6_add 23 = .ok (.aload_n 0, 1) := by decide +kernel
theorem dX6_add_24 : decode cX6_add 24 = .ok (.getfield 15, 3) := by decide +kernel
theorem dX6_add_27 : decode cX6_add 27 = .ok (.iload_n 1, 1) := by decide +kernel
theorem dX6_add_28 : decode cX6_add 28 = .ok (.iastore, 1) := by decide +kernel
theorem dX6_add_29 : decode cX6_add 29 = .ok (.aload_n 0, 1) := by decide +kernel
theorem dX6_add_30 : decode cX6_add 30 = .ok (.dup, 1) := by decide +kernel
theorem dX6_add_31 : decode cX6_add 31 = .ok (.getfield 15, 3) := by decide +kernel
theorem dX6_add_34 : decode cX6_add 34 = .ok (.iconst 1, 1) := by decide +kernel
theorem dX6_add_35 : decode cX6_add 35 = .ok (.iadd, 1) := by decide +kernel
theorem dX6_add_36 : decode cX6_add 36 = .ok (.putfield 15, 3) := by decide +kernel
theorem dX6_add_39 : decode cX6_add 39 = .ok (.aload_n 0, 1) := by decide +kernel
theorem dX6_add_40 : decode cX6_add 40 = .ok (.getfield 15, 3) := by decide +kernel
theorem dX6_add_43 : decode cX6_add 43 = .ok (.ireturn, 1) := by decide +kernel
theorem dX6_clear_0 : decode cX6_clear 0 = .ok (.aload_n 0, 1) := by decide +kernel
theorem dX6_clear_1 : decode cX6_clear 1 = .ok (.iconst 0, 1) := by decide +kernel
theorem dX6_clear_2 : decode cX6_clear 2 = .ok (.putfield 15, 3) := by decide +kernel
theorem dX6_clear_5 : decode cX6_clear 5 = .ok (.return_, 1) := by decide +kernel
theorem dX6_at_0 : decode cX6_at 0 = .ok (.iload_n 1, 1) := by decide +kernel
theorem dX6_at_1 : decode cX6_at 1 = .ok (.ifCond .lt 29, 3) := by decide +kernel
theorem dX6_at_4 : decode cX6_at 4 = .ok (.iload_n 1, 1) := by decide +kernel
theorem dX6_at_5 : decode cX6_at 5 = .ok (.aload_n 0, 1) := by decide +kernel
theorem dX6_at_6 : decode cX6_at 6 = .ok (.getfield 15, 3) := by decide +kernel
theorem dX6_at_9 : decode cX6_at 9 = .ok (.if_icmp .ge 21, 3) := by decide +kernel
theorem dX6_at_12 : decode cX6_at 12 = .ok (.iload_n 1, 1) := by decide +kernel
theorem dX6_at_13 : decode cX6_at 13 = .ok (.aload_n 0, 1) := by decide +kernel
theorem dX6_at_14 : decode cX6_at 14 = .ok (.getfield 9, 3) := by decide +kernel
theorem dX6_at_17 : decode cX6_at 17 = .ok (.arraylength, 1) := by decide +kernel
theorem dX6_at_18 : decode cX6_at 18 = .ok (.if_icmp .ge 12, 3) := by decide +kernel
theorem dX6_at_21 : decode cX6_at 21 = .ok (.aload_n 0, 1) := by decide +kernel
theorem dX6_at_22 : decode cX6_at 22 = .ok (.getfield 9, 3) := by decide +kernel
theorem dX6_at_25 : decode cX6_at 25 = .ok (.iload_n 1, 1) := by decide +kernel
theorem dX6_at_26 : decode cX6_at 26 = .ok (.iaload, 1) := by decide +kernel
theorem dX6_at_27 : decode cX6_at 27 = .ok (.goto 5, 3) := by decide +kernel
theorem dX6_at_30 : decode cX6_at 30 = .ok (.bipush (-9), 2) := by decide +kernel
theorem dX6_at_32 : decode cX6_at 32 = .ok (.ireturn, 1) := by decide +kernel
theorem dX6_formAfter_0 : decode cX6_formAfter 0 = .ok (.iload_n 0, 1) := by decide +kernel
theorem dX6_formAfter_1 : decode cX6_formAfter 1 = .ok (.lookupswitch 71 #[(98, 68), (103, 62), (108, 59), (112, 65), (115, 68), (119, 65)], 59) := by decide +kernel
theorem dX6_formAfter_60 : decode cX6_formAfter 60 = .ok (.ldc 19, 2) := by decide +kernel
theorem dX6_formAfter_62 : decode cX6_formAfter 62 = .ok (.areturn, 1) := by decide +kernel
theorem dX6_formAfter_63 : decode cX6_formAfter 63 = .ok (.ldc 21, 2) := by decide +kernel
theorem dX6_formAfter_65 : decode cX6_formAfter 65 = .ok (.areturn, 1) := by decide +kernel
theorem dX6_formAfter_66 : decode cX6_formAfter 66 = .ok (.ldc 23, 2) := by decide +kernel
theorem dX6_formAfter_68 : decode cX6_formAfter 68 = .ok (.areturn, 1) := by decide +kernel
theorem dX6_formAfter_69 : decode cX6_formAfter 69 = .ok (.ldc 25, 2) := by decide +kernel
theorem dX6_formAfter_71 : decode cX6_formAfter 71 = .ok (.areturn, 1) := by decide +kernel
theorem dX6_formAfter_72 : decode cX6_formAfter 72 = .ok (.ldc 27, 2) := by decide +kernel
theorem dX6_formAfter_74 : decode cX6_formAfter 74 = .ok (.areturn, 1) := by decide +kernel
set_option maxRecDepth 20000 in
theorem ggX6_fits_J0_indexOf_0f7a4 : GoodIn wsX6_fits wsJ0_indexOf_0f7a4 := goodIn_r _ [5, 6, 7, 8, 4, 9, 10, 11, 12, 13, 14, 15, 16, 17, 18, 19, 20, 21, 22, 23, 24, 25, 26, 27, 28, 29, 30, 31, 32, 33, 34, 35, 36, 37, 38, 39, 40, 41, 42, 43, 44, 45, 46, 47, 48, 49, 50, 51, 52, 53, 54, 55, 56, 57, 58, 59, 60, 61, 62, 63, 64, 65, 66, 67, 68, 69, 70, 71, 72, 73, 74, 75, 76, 77, 78, 79, 80, 81, 82, 83, 84, 85, 86, 87, 88, 89] (by decide +kernel) (by decide +kernel)
set_option maxRecDepth 20000 in
theorem gX6_fits_J0_indexOf_0f7a4 : GoodIn wsX6_fits (wsV RX6 31 RJ0 yJ0_indexOf_0f7a4 wsJ0_indexOf_0f7a4) := goodIn_app (goodIn_of _ (by decide +kernel)) ggX6_fits_J0_indexOf_0f7a4
theorem dX6_fits_0 : decode cX6_fits 0 = .ok (.iload_n 0, 1) := by decide +kernel
theorem dX6_fits_1 : decode cX6_fits 1 = .ok (.lookupswitch 65 #[(100, 47), (107, 27)], 27) := by decide +kernel
theorem dX6_fits_28 : decode cX6_fits 28 = .ok (.iload_n 1, 1) := by decide +kernel
theorem dX6_fits_29 : decode cX6_fits 29 = .ok (.ifCond .le 17, 3) := by decide +kernel
theorem dX6_fits_32 : decode cX6_fits 32 = .ok (.ldc 29, 2) := by decide +kernel
theorem dX6_fits_34 : decode cX6_fits 34 = .ok (.iload_n 1, 1) := by decide +kernel
theorem dX6_fits_35 : decode cX6_fits 35 = .ok (.i2c, 1) := by decide +kernel
theorem dX6_fits_36 : decode cX6_fits 36 = .ok (.invokevirtual 31, 3) := by decide +kernel
theorem dX6_fits_39 : decode cX6_fits 39 = .ok (.ifCond .lt 7, 3) := by decide +kernel
theorem dX6_fits_42 : decode cX6_fits 42 = .ok (.iconst 1, 1) := by decide +kernel
theorem dX6_fits_43 : decode cX6_fits 43 = .ok (.goto 4, 3) := by decide +kernel
theorem dX6_fits_46 : decode cX6_fits 46 = .ok (.iconst 0, 1) := by decide +kernel
theorem dX6_fits_47 : decode cX6_fits 47 = .ok (.ireturn, 1) := by decide +kernel
theorem dX6_fits_48 : decode cX6_fits 48 = .ok (.iload_n 1, 1) := by decide +kernel
theorem dX6_fits_49 : decode cX6_fits 49 = .ok (.bipush 48, 2) := by decide +kernel
theorem dX6_fits_51 : decode cX6_fits 51 = .ok (.if_icmp .lt 13, 3) := by decide +kernel
theorem dX6_fits_54 : decode cX6_fits 54 = .ok (.iload_n 1, 1) := by decide +kernel
theorem dX6_fits_55 : decode cX6_fits 55 = .ok (.bipush 57, 2) := by decide +kernel
theorem dX6_fits_57 : decode cX6_fits 57 = .ok (.if_icmp .gt 7, 3) := by decide +kernel
theorem dX6_fits_60 : decode cX6_fits 60 = .ok (.iconst 1, 1) := by decide +kernel
theorem dX6_fits_61 : decode cX6_fits 61 = .ok (.goto 4, 3) := by decide +kernel
theorem dX6_fits_64 : decode cX6_fits 64 = .ok (.iconst 0, 1) := by decide +kernel
theorem dX6_fits_65 : decode cX6_fits 65 = .ok (.ireturn, 1) := by decide +kernel
theorem dX6_fits_66 : decode cX6_fits 66 = .ok (.iload_n 1, 1) := by decide +kernel
theorem dX6_fits_67 : decode cX6_fits 67 = .ok (.iload_n 0, 1) := by decide +kernel
theorem dX6_fits_68 : decode cX6_fits 68 = .ok (.if_icmp .ne 7, 3) := by decide +kernel
theorem dX6_fits_71 : decode cX6_fits 71 = .ok (.iconst 1, 1) := by decide +kernel
theorem dX6_fits_72 : decode cX6_fits 72 = .ok (.goto 4, 3) := by decide +kernel
theorem dX6_fits_75 : decode cX6_fits 75 = .ok (.iconst 0, 1) := by decide +kernel
theorem dX6_fits_76 : decode cX6_fits 76 = .ok (.ireturn, 1) := by decide +kernel
set_option maxRecDepth 20000 in
theorem ggX6_misplaced_X6_at : GoodIn wsX6_misplaced wsX6_at := goodIn_r _ [6, 1, 7, 128, 129] (by decide +kernel) (by decide +kernel)
set_option maxRecDepth 20000 in
theorem gX6_misplaced_X6_at : GoodIn wsX6_misplaced (wsV RX6 37 RX6 yX6_at wsX6_at) := goodIn_app (goodIn_of _ (by decide +kernel)) ggX6_misplaced_X6_at
set_option maxRecDepth 20000 in
theorem ggX6_misplaced_X6_formAfter : GoodIn wsX6_misplaced wsX6_formAfter := goodIn_r _ [10] (by decide +kernel) (by decide +kernel)
set_option maxRecDepth 20000 in
theorem gX6_misplaced_X6_formAfter : GoodIn wsX6_misplaced (va_wsS RX6 40 yX6_formAfter wsX6_formAfter) := goodIn_app (goodIn_of _ (by decide +kernel)) ggX6_misplaced_X6_formAfter
set_option maxRecDepth 20000 in
theorem ggX6_misplaced_J0_isEmpty_aae02 : GoodIn wsX6_misplaced wsJ0_isEmpty_aae02 := goodIn_r _ [15, 16] (by decide +kernel) (by decide +kernel)
set_option maxRecDepth 20000 in
theorem gX6_misplaced_J0_isEmpty_aae02 : GoodIn wsX6_misplaced (wsV RX6 44 RJ0 yJ0_isEmpty_aae02 wsJ0_isEmpty_aae02) := goodIn_app (goodIn_of _ (by decide +kernel)) ggX6_misplaced_J0_isEmpty_aae02
set_option maxRecDepth 20000 in
theorem ggX6_misplaced_J0_length_8abf5 : GoodIn wsX6_misplaced wsJ0_length_8abf5 := goodIn_r _ [20, 16, 21, 22, 23, 14, 24, 25, 26] (by decide +kernel) (by decide +kernel)
set_option maxRecDepth 20000 in
theorem gX6_misplaced_J0_length_8abf5 : GoodIn wsX6_misplaced (wsV RX6 48 RJ0 yJ0_length_8abf5 wsJ0_length_8abf5) := goodIn_app (goodIn_of _ (by decide +kernel)) ggX6_misplaced_J0_length_8abf5
set_option maxRecDepth 20000 in
theorem ggX6_misplaced_J0_charAt_5068e : GoodIn wsX6_misplaced wsJ0_charAt_5068e := goodIn_r _ [30, 16, 31, 32, 33, 14, 34, 25, 26, 35, 36, 37, 38, 39, 40, 41, 42, 43, 44, 45, 46, 47, 48, 49, 50, 51, 52, 53, 54, 55, 56, 57, 58, 59, 60, 61, 62, 63] (by decide +kernel) (by decide +kernel)
set_option maxRecDepth 20000 in
theorem gX6_misplaced_J0_charAt_5068e : GoodIn wsX6_misplaced (wsV RX6 51 RJ0 yJ0_charAt_5068e wsJ0_charAt_5068e) := goodIn_app (goodIn_of _ (by decide +kernel)) ggX6_misplaced_J0_charAt_5068e
set_option maxRecDepth 20000 in
theorem ggX6_misplaced_X6_fits : GoodIn wsX6_misplaced wsX6_fits := goodIn_r _ [66, 67, 68, 69, 14, 70, 71, 72, 73, 74, 16, 31, 32, 33, 34, 25, 26, 75, 18, 19, 20, 21, 22, 23, 24, 76, 77, 37, 78, 79, 80, 81, 82, 83, 84, 85, 86, 87, 88, 89, 90, 91, 92, 93, 49, 94, 95, 96, 97, 98, 99, 100, 101, 102, 103, 54, 55, 56, 104, 105, 106, 42, 107, 108, 45, 109, 110, 111, 112, 58, 59, 60, 61, 62, 63, 113, 114, 115, 116, 117, 118, 119, 120, 121, 122, 123, 124, 125, 126, 127] (by decide +kernel) (by decide +kernel)
set_option maxRecDepth 20000 in
theorem gX6_misplaced_X6_fits : GoodIn wsX6_misplaced (va_wsS RX6 55 yX6_fits wsX6_fits) := goodIn_app (goodIn_of _ (by decide +kernel)) ggX6_misplaced_X6_fits
theorem dX6_misplaced_0 : decode cX6_misplaced 0 = .ok (.iconst 0, 1) := by decide +kernel
theorem dX6_misplaced_1 : decode cX6_misplaced 1 = .ok (.istore_n 1, 1) := by decide +kernel
theorem dX6_misplaced_2 : decode cX6_misplaced 2 = .ok (.aload_n 0, 1) := by decide +kernel
theorem dX6_misplaced_3 : decode cX6_misplaced 3 = .ok (.iload_n 1, 1) := by decide +kernel
theorem dX6_misplaced_4 : decode cX6_misplaced 4 = .ok (.invokevirtual 37, 3) := by decide +kernel
theorem dX6_misplaced_7 : decode cX6_misplaced 7 = .ok (.invokestatic 40, 3) := by decide +kernel
theorem dX6_misplaced_10 : decode cX6_misplaced 10 = .ok (.astore_n 2, 1) := by decide +kernel
theorem dX6_misplaced_11 : decode cX6_misplaced 11 = .ok (.aload_n 2, 1) := by decide +kernel
theorem dX6_misplaced_12 : decode cX6_misplaced 12 = .ok (.invokevirtual 44, 3) := by decide +kernel
theorem dX6_misplaced_15 : decode cX6_misplaced 15 = .ok (.ifCond .eq 5, 3) := by decide +kernel
theorem dX6_misplaced_18 : decode cX6_misplaced 18 = .ok (.iload_n 1, 1) := by decide +kernel
theorem dX6_misplaced_19 : decode cX6_misplaced 19 = .ok (.ireturn, 1) := by decide +kernel
theorem dX6_misplaced_20 : decode cX6_misplaced 20 = .ok (.iconst 0, 1) := by decide +kernel
theorem dX6_misplaced_21 : decode cX6_misplaced 21 = .ok (.istore_n 3, 1) := by decide +kernel
theorem dX6_misplaced_22 : decode cX6_misplaced 22 = .ok (.iload_n 3, 1) := by decide +kernel
theorem dX6_misplaced_23 : decode cX6_misplaced 23 = .ok (.aload_n 2, 1) := by decide +kernel
theorem dX6_misplaced_24 : decode cX6_misplaced 24 = .ok (.invokevirtual 48, 3) := by decide +kernel
theorem dX6_misplaced_27 : decode cX6_misplaced 27 = .ok (.if_icmp .ge 30, 3) := by decide +kernel
theorem dX6_misplaced_30 : decode cX6_misplaced 30 = .ok (.iinc 1 1, 3) := by decide +kernel
theorem dX6_misplaced_33 : decode cX6_misplaced 33 = .ok (.aload_n 2, 1) := by decide +kernel
theorem dX6_misplaced_34 : decode cX6_misplaced 34 = .ok (.iload_n 3, 1) := by decide +kernel
theorem dX6_misplaced_35 : decode cX6_misplaced 35 = .ok (.invokevirtual 51, 3) := by decide +kernel
theorem dX6_misplaced_38 : decode cX6_misplaced 38 = .ok (.aload_n 0, 1) := by decide +kernel
theorem dX6_misplaced_39 : decode cX6_misplaced 39 = .ok (.iload_n 1, 1) := by decide +kernel
theorem dX6_misplaced_40 : decode cX6_misplaced 40 = .ok (.invokevirtual 37, 3) := by decide +kernel
theorem dX6_misplaced_43 : decode cX6_misplaced 43 = .ok (.invokestatic 55, 3) := by decide +kernel
theorem dX6_misplaced_46 : decode cX6_misplaced 46 = .ok (.ifCond .ne 5, 3) := by decide +kernel
theorem dX6_misplaced_49 : decode cX6_misplaced 49 = .ok (.iload_n 1, 1) := by decide +kernel
theorem dX6_misplaced_50 : decode cX6_misplaced 50 = .ok (.ireturn, 1) := by decide +kernel
theorem dX6_misplaced_51 : decode cX6_misplaced 51 = .ok (.iinc 3 1, 3) := by decide +kernel
theorem dX6_misplaced_54 : decode cX6_misplaced 54 = .ok (.goto (-32), 3) := by decide +kernel
theorem dX6_misplaced_57 : decode cX6_misplaced 57 = .ok (.iinc 1 1, 3) := by decide +kernel
theorem dX6_misplaced_60 : decode cX6_misplaced 60 = .ok (.iload_n 1, 1) := by decide +kernel
theorem dX6_misplaced_61 : decode cX6_misplaced 61 = .ok (.aload_n 0, 1) := by decide +kernel
theorem dX6_misplaced_62 : decode cX6_misplaced 62 = .ok (.getfield 15, 3) := by decide +kernel
theorem dX6_misplaced_65 : decode cX6_misplaced 65 = .ok (.if_icmp .lt (-63), 3) := by decide +kernel
theorem dX6_misplaced_68 : decode cX6_misplaced 68 = .ok (.bipush (-9), 2) := by decide +kernel
theorem dX6_misplaced_70 : decode cX6_misplaced 70 = .ok (.ireturn, 1) := by decide +kernel
set_option maxRecDepth 20000 in
theorem ggX6_tellTo_X6_misplaced : GoodIn wsX6_tellTo wsX6_misplaced := goodIn_r _ [6, 1, 7, 8, 9, 5, 10, 11, 12, 13, 14, 15, 16, 17, 18, 19, 20, 21, 22, 23, 24, 25, 26, 27, 28, 29, 30, 31, 32, 33, 34, 35, 36, 37, 38, 39, 40, 41, 42, 43, 44, 45, 46, 47, 48, 49, 50, 51, 52, 53, 54, 55, 56, 57, 58, 59, 60, 61, 62, 63, 64, 65, 66, 67, 68, 69, 70, 71, 72, 73, 74, 75, 76, 77, 78, 79, 80, 81, 82, 83, 84, 85, 86, 87, 88, 89, 90, 91, 92, 93, 94, 95, 96, 97, 98, 99, 100, 101, 102, 103, 104, 105, 106, 107, 108, 109, 110, 111, 112, 113, 114, 115, 116, 117, 118, 119, 120, 121, 122, 123, 124, 125, 126, 127, 128, 129, 130, 131, 426, 427] (by decide +kernel) (by decide +kernel)
set_option maxRecDepth 20000 in
theorem gX6_tellTo_X6_misplaced : GoodIn wsX6_tellTo (wsV RX6 59 RX6 yX6_misplaced wsX6_misplaced) := goodIn_app (goodIn_of _ (by decide +kernel)) ggX6_tellTo_X6_misplaced
set_option maxRecDepth 20000 in
theorem ggX6_tellTo_X6_obey : GoodIn wsX6_tellTo wsX6_obey := goodIn_r _ [135, 7, 8, 9, 5, 10, 1, 11, 136, 137, 138, 139, 71, 72, 73, 18, 74, 75, 76, 77, 78, 20, 35, 36, 37, 38, 29, 30, 79, 22, 23, 24, 25, 26, 27, 28, 80, 81, 41, 82, 83, 84, 85, 86, 87, 88, 89, 90, 91, 92, 93, 94, 95, 96, 97, 53, 98, 99, 100, 101, 102, 103, 104, 105, 106, 107, 58, 59, 60, 108, 109, 110, 46, 111, 112, 49, 113, 114, 115, 116, 62, 63, 64, 65, 66, 67, 117, 118, 119, 120, 121, 122, 123, 124, 125, 126, 127, 128, 129, 130, 131, 140, 141, 142, 143, 144, 145, 146, 147, 148, 149, 150, 151, 152, 153, 154, 155, 156, 157, 158, 159, 160, 161, 162, 163, 164, 165, 166, 167, 168, 169, 170, 171, 172, 173, 174, 175, 176, 177, 178, 179, 180, 181, 182, 183, 184, 185, 186, 187, 188, 189, 190, 191, 192, 193, 194, 195, 196, 197, 198, 199, 200, 201, 202, 203, 204, 205, 206, 207, 208, 209, 210, 211, 212, 213, 214, 215, 216, 217, 218, 219, 220, 221, 222, 223, 224, 225, 226, 227, 228, 229, 230, 231, 232, 233, 234, 235, 236, 237, 238, 239, 240, 241, 242, 243, 244, 245, 246, 247, 248, 249, 250, 251, 252, 253, 254, 255, 256, 257, 258, 259, 260, 261, 262, 263, 264, 265, 266, 267, 268, 269, 270, 271, 272, 273, 274, 275, 276, 277, 278, 279, 280, 281, 282, 283, 284, 285, 286, 287, 288, 289, 290, 291, 292, 293, 294, 295, 296, 297, 298, 299, 300, 301, 302, 303, 304, 305, 306, 307, 308, 309, 310, 311, 312, 313, 314, 315, 316, 317, 318, 319, 320, 321, 322, 323, 324, 325, 326, 327, 328, 329, 330, 331, 332, 333, 334, 335, 336, 337, 338, 339, 340, 341, 342, 343, 344, 345, 346, 347, 348, 349, 350, 351, 352, 353, 354, 355, 356, 357, 358, 359, 360, 361, 362, 363, 364, 365, 366, 367, 368, 369, 370, 371, 372, 373, 374, 375, 376, 377, 378, 379, 380, 381, 382, 383, 384, 385, 386, 387, 388, 389, 390, 391, 392, 393, 394, 395, 396, 397, 398, 399, 400, 401, 402, 403, 404, 405, 406, 407, 408, 409, 410, 411, 412, 413, 414, 415, 416, 417, 418, 419, 420, 421, 422, 423, 424, 425, 426, 427, 428, 429, 430, 431, 432, 433, 434, 435, 436, 437, 438, 439, 440, 441, 442, 443, 444, 445, 446, 447, 448, 449, 450, 451, 452, 453, 454, 455, 456, 457, 458, 459, 460, 461, 462, 463, 464, 465, 466, 467, 468] (by decide +kernel) (by decide +kernel)
set_option maxRecDepth 20000 in
theorem gX6_tellTo_X6_obey : GoodIn wsX6_tellTo (wsV RX6 62 RX6 yX6_obey wsX6_obey) := goodIn_app (goodIn_of _ (by decide +kernel)) ggX6_tellTo_X6_obey
set_option maxRecDepth 20000 in
theorem ggX6_tellTo_X6_at : GoodIn wsX6_tellTo wsX6_at := goodIn_r _ [10, 1, 11, 426, 427] (by decide +kernel) (by decide +kernel)
set_option maxRecDepth 20000 in
theorem gX6_tellTo_X6_at : GoodIn wsX6_tellTo (wsV RX6 37 RX6 yX6_at wsX6_at) := goodIn_app (goodIn_of _ (by decide +kernel)) ggX6_tellTo_X6_at
set_option maxRecDepth 20000 in
theorem ggX6_tellTo_X6_formAfter : GoodIn wsX6_tellTo wsX6_formAfter := goodIn_r _ [14] (by decide +kernel) (by decide +kernel)
set_option maxRecDepth 20000 in
theorem gX6_tellTo_X6_formAfter : GoodIn wsX6_tellTo (va_wsS RX6 40 yX6_formAfter wsX6_formAfter) := goodIn_app (goodIn_of _ (by decide +kernel)) ggX6_tellTo_X6_formAfter
set_option maxRecDepth 20000 in
theorem ggX6_tellTo_J0_length_8abf5 : GoodIn wsX6_tellTo wsJ0_length_8abf5 := goodIn_r _ [24, 20, 25, 26, 27, 18, 28, 29, 30] (by decide +kernel) (by decide +kernel)
set_option maxRecDepth 20000 in
theorem gX6_tellTo_J0_length_8abf5 : GoodIn wsX6_tellTo (wsV RX6 48 RJ0 yJ0_length_8abf5 wsJ0_length_8abf5) := goodIn_app (goodIn_of _ (by decide +kernel)) ggX6_tellTo_J0_length_8abf5
theorem dX6_tellTo_0 : decode cX6_tellTo 0 = .ok (.aload_n 0, 1) := by decide +kernel
theorem dX6_tellTo_1 : decode cX6_tellTo 1 = .ok (.invokevirtual 59, 3) := by decide +kernel
theorem dX6_tellTo_4 : decode cX6_tellTo 4 = .ok (.istore_n 2, 1) := by decide +kernel
theorem dX6_tellTo_5 : decode cX6_tellTo 5 = .ok (.iload_n 2, 1) := by decide +kernel
theorem dX6_tellTo_6 : decode cX6_tellTo 6 = .ok (.ifCond .lt 9, 3) := by decide +kernel
theorem dX6_tellTo_9 : decode cX6_tellTo 9 = .ok (.sipush (-1000), 3) := by decide +kernel
theorem dX6_tellTo_12 : decode cX6_tellTo 12 = .ok (.iload_n 2, 1) := by decide +kernel
theorem dX6_tellTo_13 : decode cX6_tellTo 13 = .ok (.isub, 1) := by decide +kernel
theorem dX6_tellTo_14 : decode cX6_tellTo 14 = .ok (.ireturn, 1) := by decide +kernel
theorem dX6_tellTo_15 : decode cX6_tellTo 15 = .ok (.iconst 0, 1) := by decide +kernel
theorem dX6_tellTo_16 : decode cX6_tellTo 16 = .ok (.istore_n 3, 1) := by decide +kernel
theorem dX6_tellTo_17 : decode cX6_tellTo 17 = .ok (.iconst 0, 1) := by decide +kernel
theorem dX6_tellTo_18 : decode cX6_tellTo 18 = .ok (.istore 4, 2) := by decide +kernel
theorem dX6_tellTo_20 : decode cX6_tellTo 20 = .ok (.iload 4, 2) := by decide +kernel
theorem dX6_tellTo_22 : decode cX6_tellTo 22 = .ok (.aload_n 0, 1) := by decide +kernel
theorem dX6_tellTo_23 : decode cX6_tellTo 23 = .ok (.getfield 15, 3) := by decide +kernel
theorem dX6_tellTo_26 : decode cX6_tellTo 26 = .ok (.if_icmp .ge 49, 3) := by decide +kernel
theorem dX6_tellTo_29 : decode cX6_tellTo 29 = .ok (.aload_n 1, 1) := by decide +kernel
theorem dX6_tellTo_30 : decode cX6_tellTo 30 = .ok (.ifnull 13, 3) := by decide +kernel
theorem dX6_tellTo_33 : decode cX6_tellTo 33 = .ok (.aload_n 0, 1) := by decide +kernel
theorem dX6_tellTo_34 : decode cX6_tellTo 34 = .ok (.aload_n 1, 1) := by decide +kernel
theorem dX6_tellTo_35 : decode cX6_tellTo 35 = .ok (.iload 4, 2) := by decide +kernel
theorem dX6_tellTo_37 : decode cX6_tellTo 37 = .ok (.invokevirtual 62, 3) := by decide +kernel
theorem dX6_tellTo_40 : decode cX6_tellTo 40 = .ok (.ifCond .ge 10, 3) := by decide +kernel
theorem dX6_tellTo_43 : decode cX6_tellTo 43 = .ok (.sipush (-2000), 3) := by decide +kernel
theorem dX6_tellTo_46 : decode cX6_tellTo 46 = .ok (.iload 4, 2) := by decide +kernel
theorem dX6_tellTo_48 : decode cX6_tellTo 48 = .ok (.isub, 1) := by decide +kernel
theorem dX6_tellTo_49 : decode cX6_tellTo 49 = .ok (.ireturn, 1) := by decide +kernel
theorem dX6_tellTo_50 : decode cX6_tellTo 50 = .ok (.iinc 3 1, 3) := by decide +kernel
theorem dX6_tellTo_53 : decode cX6_tellTo 53 = .ok (.iload 4, 2) := by decide +kernel
theorem dX6_tellTo_55 : decode cX6_tellTo 55 = .ok (.iconst 1, 1) := by decide +kernel
theorem dX6_tellTo_56 : decode cX6_tellTo 56 = .ok (.aload_n 0, 1) := by decide +kernel
theorem dX6_tellTo_57 : decode cX6_tellTo 57 = .ok (.iload 4, 2) := by decide +kernel
theorem dX6_tellTo_59 : decode cX6_tellTo 59 = .ok (.invokevirtual 37, 3) := by decide +kernel
theorem dX6_tellTo_62 : decode cX6_tellTo 62 = .ok (.invokestatic 40, 3) := by decide +kernel
theorem dX6_tellTo_65 : decode cX6_tellTo 65 = .ok (.invokevirtual 48, 3) := by decide +kernel
theorem dX6_tellTo_68 : decode cX6_tellTo 68 = .ok (.iadd, 1) := by decide +kernel
theorem dX6_tellTo_69 : decode cX6_tellTo 69 = .ok (.iadd, 1) := by decide +kernel
theorem dX6_tellTo_70 : decode cX6_tellTo 70 = .ok (.istore 4, 2) := by decide +kernel
theorem dX6_tellTo_72 : decode cX6_tellTo 72 = .ok (.goto (-52), 3) := by decide +kernel
theorem dX6_tellTo_75 : decode cX6_tellTo 75 = .ok (.iload_n 3, 1) := by decide +kernel
theorem dX6_tellTo_76 : decode cX6_tellTo 76 = .ok (.ireturn, 1) := by decide +kernel
set_option maxRecDepth 20000 in
theorem ggX6_obey_X6_at : GoodIn wsX6_obey wsX6_at := goodIn_r _ [5, 6, 7, 387, 388] (by decide +kernel) (by decide +kernel)
set_option maxRecDepth 20000 in
theorem gX6_obey_X6_at : GoodIn wsX6_obey (wsV RX6 37 RX6 yX6_at wsX6_at) := goodIn_app (goodIn_of _ (by decide +kernel)) ggX6_obey_X6_at
set_option maxRecDepth 20000 in
theorem ggX6_obey_X6_kindAt : GoodIn wsX6_obey wsX6_kindAt := goodIn_r _ [11, 1, 2, 3, 4, 5, 6, 7, 12, 13, 14, 15, 16, 17, 18, 19, 20, 21, 22, 23, 24, 25, 26, 27, 28, 29, 30, 31, 32, 33, 34, 35, 36, 37, 38, 39, 40, 41, 42, 43, 44, 45, 46, 47, 48, 49, 50, 51, 52, 53, 54, 55, 56, 57, 58, 59, 60, 61, 62, 63, 64, 65, 66, 67, 68, 69, 70, 71, 72, 73, 74, 75, 76, 77, 78, 79, 80, 81, 82, 83, 84, 85, 86, 87, 88, 89, 90, 91, 92, 93, 94, 95, 96, 97, 98, 99, 100, 387, 388] (by decide +kernel) (by decide +kernel)
set_option maxRecDepth 20000 in
theorem gX6_obey_X6_kindAt : GoodIn wsX6_obey (wsV RX6 66 RX6 yX6_kindAt wsX6_kindAt) := goodIn_app (goodIn_of _ (by decide +kernel)) ggX6_obey_X6_kindAt
set_option maxRecDepth 20000 in
theorem ggX6_obey_X6_cellAt : GoodIn wsX6_obey wsX6_cellAt := goodIn_r _ [104, 105, 106, 107, 4, 108, 1, 2, 3, 5, 6, 7, 387, 388] (by decide +kernel) (by decide +kernel)
set_option maxRecDepth 20000 in
theorem gX6_obey_X6_cellAt : GoodIn wsX6_obey (wsV RX6 69 RX6 yX6_cellAt wsX6_cellAt) := goodIn_app (goodIn_of _ (by decide +kernel)) ggX6_obey_X6_cellAt
set_option maxRecDepth 20000 in
theorem ggX6_obey_X6_digitAt : GoodIn wsX6_obey wsX6_digitAt := goodIn_r _ [108, 1, 2, 3, 4, 5, 6, 7, 387, 388] (by decide +kernel) (by decide +kernel)
set_option maxRecDepth 20000 in
theorem gX6_obey_X6_digitAt : GoodIn wsX6_obey (wsV RX6 72 RX6 yX6_digitAt wsX6_digitAt) := goodIn_app (goodIn_of _ (by decide +kernel)) ggX6_obey_X6_digitAt
set_option maxRecDepth 20000 in
theorem ggX6_obey_X10_addLamp : GoodIn wsX6_obey wsX10_addLamp := goodIn_r _ [113, 114, 115, 116, 117, 118, 119, 120, 121, 122, 123, 124, 125, 126, 127, 128, 129, 130, 131, 132, 133, 134, 135, 136, 137, 138, 139, 140, 141, 142, 143, 144, 145, 146, 147, 148, 149, 150, 151, 152, 153, 154, 155, 156, 157, 158, 159, 160, 161, 162, 163, 164, 165, 166, 389, 390, 391, 392, 393, 394, 395, 396, 397, 398, 399, 400, 401, 402, 403, 404, 405, 406, 407, 408, 409, 410, 411, 412, 413, 414, 415, 416, 417, 418, 419, 420, 421, 422, 423, 424, 425, 426, 427, 428, 429] (by decide +kernel) (by decide +kernel)
set_option maxRecDepth 20000 in
theorem gX6_obey_X10_addLamp : GoodIn wsX6_obey (wsV RX6 75 RX10 yX10_addLamp wsX10_addLamp) := goodIn_app (goodIn_of _ (by decide +kernel)) ggX6_obey_X10_addLamp
set_option maxRecDepth 20000 in
theorem ggX6_obey_X10_turnWall : GoodIn wsX6_obey wsX10_turnWall := goodIn_r _ [170, 171, 118, 119, 120, 121, 172, 173, 174, 112, 175, 176, 177, 178, 179, 180, 181, 182, 183, 184, 185, 186, 187, 188, 189, 190, 191, 192, 193, 194, 195, 196, 197, 198, 199, 200, 201, 202, 389, 390, 391, 392, 393, 394] (by decide +kernel) (by decide +kernel)
set_option maxRecDepth 20000 in
theorem gX6_obey_X10_turnWall : GoodIn wsX6_obey (wsV RX6 81 RX10 yX10_turnWall wsX10_turnWall) := goodIn_app (goodIn_of _ (by decide +kernel)) ggX6_obey_X10_turnWall
set_option maxRecDepth 20000 in
theorem ggX6_obey_X10_addPerson : GoodIn wsX6_obey wsX10_addPerson := goodIn_r _ [206, 171, 176, 181, 118, 119, 120, 121, 185, 186, 187, 188, 183, 184, 389, 390, 391, 392, 393, 394] (by decide +kernel) (by decide +kernel)
set_option maxRecDepth 20000 in
theorem gX6_obey_X10_addPerson : GoodIn wsX6_obey (wsV RX6 84 RX10 yX10_addPerson wsX10_addPerson) := goodIn_app (goodIn_of _ (by decide +kernel)) ggX6_obey_X10_addPerson
set_option maxRecDepth 20000 in
theorem ggX6_obey_X10_walk : GoodIn wsX6_obey wsX10_walk := goodIn_r _ [210, 181, 211, 212, 213, 214, 112, 215, 176, 118, 119, 120, 121, 216, 217, 218, 219, 220, 171, 221, 222, 223, 224, 188, 183, 184, 225, 186, 187, 226, 227, 228, 229, 230, 231, 232, 233, 234, 235, 236, 237, 238, 239, 240, 114, 241, 242, 243, 244, 245, 115, 246, 247, 248, 249, 124, 250, 251, 252, 253, 254, 255, 256, 257, 258, 259, 260, 134, 261, 262, 263, 264, 178, 179, 180, 265, 266, 267, 268, 269, 270, 271, 272, 273, 274, 275, 276, 277, 278, 279, 185, 280, 281, 282, 283, 284, 285, 155, 286, 287, 288, 289, 290, 291, 292, 293, 294, 295, 140, 296, 297, 298, 299, 300, 301, 302, 303, 304, 305, 306, 307, 308, 309, 310, 311, 312, 313, 314, 315, 316, 317, 318, 319, 320, 321, 322, 323, 324, 325, 326, 327, 328, 329, 137, 330, 331, 332, 333, 334, 335, 336, 337, 338, 339, 131, 340, 341, 342, 343, 344, 345, 346, 128, 347, 348, 349, 350, 351, 352, 353, 354, 355, 356, 357, 358, 359, 360, 361, 362, 363, 364, 365, 366, 389, 390, 391, 392, 393, 394, 395, 396, 397, 398, 399, 400, 401, 402, 403, 404, 405, 406, 407, 408, 409, 410, 411, 412, 413, 414, 415, 416, 417, 418, 419, 420, 421, 422, 423, 424, 425, 426, 427, 428, 429] (by decide +kernel) (by decide +kernel)
set_option maxRecDepth 20000 in
theorem gX6_obey_X10_walk : GoodIn wsX6_obey (wsV RX6 87 RX10 yX10_walk wsX10_walk) := goodIn_app (goodIn_of _ (by decide +kernel)) ggX6_obey_X10_walk
set_option maxRecDepth 20000 in
theorem ggX6_obey_X10_lampAt : GoodIn wsX6_obey wsX10_lampAt := goodIn_r _ [245, 114, 115, 389, 390, 391, 392, 393, 394] (by decide +kernel) (by decide +kernel)
set_option maxRecDepth 20000 in
theorem gX6_obey_X10_lampAt : GoodIn wsX6_obey (wsV RX6 91 RX10 yX10_lampAt wsX10_lampAt) := goodIn_app (goodIn_of _ (by decide +kernel)) ggX6_obey_X10_lampAt
set_option maxRecDepth 20000 in
theorem ggX6_obey_X6_turnLamp : GoodIn wsX6_obey wsX6_turnLamp := goodIn_r _ [370, 371, 200, 201, 202, 395, 396, 397, 398, 399, 400, 401, 402, 403, 404, 405, 406, 407, 408, 409, 410, 411, 412, 413, 414, 415, 416, 417, 418, 419, 420, 421, 422, 423, 424, 425, 426, 427, 428, 429] (by decide +kernel) (by decide +kernel)
set_option maxRecDepth 20000 in
theorem gX6_obey_X6_turnLamp : GoodIn wsX6_obey (va_wsS RX6 95 yX6_turnLamp wsX6_turnLamp) := goodIn_app (goodIn_of _ (by decide +kernel)) ggX6_obey_X6_turnLamp
set_option maxRecDepth 20000 in
theorem ggX6_obey_X6_breakLamp : GoodIn wsX6_obey wsX6_breakLamp := goodIn_r _ [374, 375, 376, 377, 378, 124, 379, 285, 153, 380, 381, 382, 383, 384, 385, 386, 395, 396, 397, 398, 399, 400, 401, 402, 403, 404, 405, 406, 407, 408, 409, 410, 411, 412, 413, 414, 415, 416, 417, 418, 419, 420, 421, 422, 423, 424, 425, 426, 427, 428, 429] (by decide +kernel) (by decide +kernel)
set_option maxRecDepth 20000 in
theorem gX6_obey_X6_breakLamp : GoodIn wsX6_obey (va_wsS RX6 99 yX6_breakLamp wsX6_breakLamp) := goodIn_app (goodIn_of _ (by decide +kernel)) ggX6_obey_X6_breakLamp
theorem dX6_obey_0 : decode cX6_obey 0 = .ok (.aload_n 0, 1) := by decide +kernel
theorem dX6_obey_1 : decode cX6_obey 1 = .ok (.iload_n 2, 1) := by decide +kernel
theorem dX6_obey_2 : decode cX6_obey 2 = .ok (.invokevirtual 37, 3) := by decide +kernel
theorem dX6_obey_5 : decode cX6_obey 5 = .ok (.lookupswitch 158 #[(98, 143), (103, 109), (108, 59), (112, 97), (115, 128), (119, 85)], 59) := by decide +kernel
theorem dX6_obey_64 : decode cX6_obey 64 = .ok (.aload_n 1, 1) := by decide +kernel
theorem dX6_obey_65 : decode cX6_obey 65 = .ok (.aload_n 0, 1) := by decide +kernel
theorem dX6_obey_66 : decode cX6_obey 66 = .ok (.iload_n 2, 1) := by decide +kernel
theorem dX6_obey_67 : decode cX6_obey 67 = .ok (.iconst 1, 1) := by decide +kernel
theorem dX6_obey_68 : decode cX6_obey 68 = .ok (.iadd, 1) := by decide +kernel
theorem dX6_obey_69 : decode cX6_obey 69 = .ok (.invokevirtual 66, 3) := by decide +kernel
theorem dX6_obey_72 : decode cX6_obey 72 = .ok (.aload_n 0, 1) := by decide +kernel
theorem dX6_obey_73 : decode cX6_obey 73 = .ok (.iload_n 2, 1) := by decide +kernel
theorem dX6_obey_74 : decode cX6_obey 74 = .ok (.iconst 2, 1) := by decide +kernel
theorem dX6_obey_75 : decode cX6_obey 75 = .ok (.iadd, 1) := by decide +kernel
theorem dX6_obey_76 : decode cX6_obey 76 = .ok (.invokevirtual 69, 3) := by decide +kernel
theorem dX6_obey_79 : decode cX6_obey 79 = .ok (.aload_n 0, 1) := by decide +kernel
theorem dX6_obey_80 : decode cX6_obey 80 = .ok (.iload_n 2, 1) := by decide +kernel
theorem dX6_obey_81 : decode cX6_obey 81 = .ok (.iconst 4, 1) := by decide +kernel
theorem dX6_obey_82 : decode cX6_obey 82 = .ok (.iadd, 1) := by decide +kernel
theorem dX6_obey_83 : decode cX6_obey 83 = .ok (.invokevirtual 72, 3) := by decide +kernel
theorem dX6_obey_86 : decode cX6_obey 86 = .ok (.invokevirtual 75, 3) := by decide +kernel
theorem dX6_obey_89 : decode cX6_obey 89 = .ok (.ireturn, 1) := by decide +kernel
theorem dX6_obey_90 : decode cX6_obey 90 = .ok (.aload_n 1, 1) := by decide +kernel
theorem dX6_obey_91 : decode cX6_obey 91 = .ok (.aload_n 0, 1) := by decide +kernel
theorem dX6_obey_92 : decode cX6_obey 92 = .ok (.iload_n 2, 1) := by decide +kernel
theorem dX6_obey_93 : decode cX6_obey 93 = .ok (.iconst 1, 1) := by decide +kernel
theorem dX6_obey_94 : decode cX6_obey 94 = .ok (.iadd, 1) := by decide +kernel
theorem dX6_obey_95 : decode cX6_obey 95 = .ok (.invokevirtual 69, 3) := by decide +kernel
theorem dX6_obey_98 : decode cX6_obey 98 = .ok (.invokevirtual 81, 3) := by decide +kernel
theorem dX6_obey_101 : decode cX6_obey 101 = .ok (.ireturn, 1) := by decide +kernel
theorem dX6_obey_102 : decode cX6_obey 102 = .ok (.aload_n 1, 1) := by decide +kernel
theorem dX6_obey_103 : decode cX6_obey 103 = .ok (.aload_n 0, 1) := by decide +kernel
theorem dX6_obey_104 : decode cX6_obey 104 = .ok (.iload_n 2, 1) := by decide +kernel
theorem dX6_obey_105 : decode cX6_obey 105 = .ok (.iconst 1, 1) := by decide +kernel
theorem dX6_obey_106 : decode cX6_obey 106 = .ok (.iadd, 1) := by decide +kernel
theorem dX6_obey_107 : decode cX6_obey 107 = .ok (.invokevirtual 69, 3) := by decide +kernel
theorem dX6_obey_110 : decode cX6_obey 110 = .ok (.invokevirtual 84, 3) := by decide +kernel
theorem dX6_obey_113 : decode cX6_obey 113 = .ok (.ireturn, 1) := by decide +kernel
theorem dX6_obey_114 : decode cX6_obey 114 = .ok (.aload_n 1, 1) := by decide +kernel
theorem dX6_obey_115 : decode cX6_obey 115 = .ok (.aload_n 0, 1) := by decide +kernel
theorem dX6_obey_116 : decode cX6_obey 116 = .ok (.iload_n 2, 1) := by decide +kernel
theorem dX6_obey_117 : decode cX6_obey 117 = .ok (.iconst 1, 1) := by decide +kernel
theorem dX6_obey_118 : decode cX6_obey 118 = .ok (.iadd, 1) := by decide +kernel
theorem dX6_obey_119 : decode cX6_obey 119 = .ok (.invokevirtual 72, 3) := by decide +kernel
theorem dX6_obey_122 : decode cX6_obey 122 = .ok (.aload_n 0, 1) := by decide +kernel
theorem dX6_obey_123 : decode cX6_obey 123 = .ok (.iload_n 2, 1) := by decide +kernel
theorem dX6_obey_124 : decode cX6_obey 124 = .ok (.iconst 2, 1) := by decide +kernel
theorem dX6_obey_125 : decode cX6_obey 125 = .ok (.iadd, 1) := by decide +kernel
theorem dX6_obey_126 : decode cX6_obey 126 = .ok (.invokevirtual 69, 3) := by decide +kernel
theorem dX6_obey_129 : decode cX6_obey 129 = .ok (.invokevirtual 87, 3) := by decide +kernel
theorem dX6_obey_132 : decode cX6_obey 132 = .ok (.ireturn, 1) := by decide +kernel
theorem dX6_obey_133 : decode cX6_obey 133 = .ok (.aload_n 1, 1) := by decide +kernel
theorem dX6_obey_134 : decode cX6_obey 134 = .ok (.aload_n 0, 1) := by decide +kernel
theorem dX6_obey_135 : decode cX6_obey 135 = .ok (.iload_n 2, 1) := by decide +kernel
theorem dX6_obey_136 : decode cX6_obey 136 = .ok (.iconst 1, 1) := by decide +kernel
theorem dX6_obey_137 : decode cX6_obey 137 = .ok (.iadd, 1) := by decide +kernel
theorem dX6_obey_138 : decode cX6_obey 138 = .ok (.invokevirtual 72, 3) := by decide +kernel
theorem dX6_obey_141 : decode cX6_obey 141 = .ok (.invokevirtual 91, 3) := by decide +kernel
theorem dX6_obey_144 : decode cX6_obey 144 = .ok (.invokestatic 95, 3) := by decide +kernel
theorem dX6_obey_147 : decode cX6_obey 147 = .ok (.ireturn, 1) := by decide +kernel
theorem dX6_obey_148 : decode cX6_obey 148 = .ok (.aload_n 1, 1) := by decide +kernel
theorem dX6_obey_149 : decode cX6_obey 149 = .ok (.aload_n 0, 1) := by decide +kernel
theorem dX6_obey_150 : decode cX6_obey 150 = .ok (.iload_n 2, 1) := by decide +kernel
theorem dX6_obey_151 : decode cX6_obey 151 = .ok (.iconst 1, 1) := by decide +kernel
theorem dX6_obey_152 : decode cX6_obey 152 = .ok (.iadd, 1) := by decide +kernel
theorem dX6_obey_153 : decode cX6_obey 153 = .ok (.invokevirtual 72, 3) := by decide +kernel
theorem dX6_obey_156 : decode cX6_obey 156 = .ok (.invokevirtual 91, 3) := by decide +kernel
theorem dX6_obey_159 : decode cX6_obey 159 = .ok (.invokestatic 99, 3) := by decide +kernel
theorem dX6_obey_162 : decode cX6_obey 162 = .ok (.ireturn, 1) := by decide +kernel
theorem dX6_obey_163 : decode cX6_obey 163 = .ok (.bipush (-2), 2) := by decide +kernel
theorem dX6_obey_165 : decode cX6_obey 165 = .ok (.ireturn, 1) := by decide +kernel
set_option maxRecDepth 20000 in
theorem ggX6_turnLamp_X11_yes : GoodIn wsX6_turnLamp wsX11_yes := goodIn_r _ [4] (by decide +kernel) (by decide +kernel)
set_option maxRecDepth 20000 in
theorem gX6_turnLamp_X11_yes_n108 : GoodIn wsX6_turnLamp (wsX11_yes) := ggX6_turnLamp_X11_yes
theorem dX6_turnLamp_0 : decode cX6_turnLamp 0 = .ok (.aload_n 0, 1) := by decide +kernel
theorem dX6_turnLamp_1 : decode cX6_turnLamp 1 = .ok (.ifnonnull 5, 3) := by decide +kernel
theorem dX6_turnLamp_4 : decode cX6_turnLamp 4 = .ok (.iconst (-1), 1) := by decide +kernel
theorem dX6_turnLamp_5 : decode cX6_turnLamp 5 = .ok (.ireturn, 1) := by decide +kernel
theorem dX6_turnLamp_6 : decode cX6_turnLamp 6 = .ok (.aload_n 0, 1) := by decide +kernel
theorem dX6_turnLamp_7 : decode cX6_turnLamp 7 = .ok (.aload_n 0, 1) := by decide +kernel
theorem dX6_turnLamp_8 : decode cX6_turnLamp 8 = .ok (.getfield 102, 3) := by decide +kernel
theorem dX6_turnLamp_11 : decode cX6_turnLamp 11 = .ok (.ifCond .ne 7, 3) := by decide +kernel
theorem dX6_turnLamp_14 : decode cX6_turnLamp 14 = .ok (.iconst 1, 1) := by decide +kernel
theorem dX6_turnLamp_15 : decode cX6_turnLamp 15 = .ok (.goto 4, 3) := by decide +kernel
theorem dX6_turnLamp_18 : decode cX6_turnLamp 18 = .ok (.iconst 0, 1) := by decide +kernel
theorem dX6_turnLamp_19 : decode cX6_turnLamp 19 = .ok (.putfield 102, 3) := by decide +kernel
theorem dX6_turnLamp_22 : decode cX6_turnLamp 22 = .ok (.aload_n 0, 1) := by decide +kernel
theorem dX6_turnLamp_23 : decode cX6_turnLamp 23 = .ok (.getfield 102, 3) := by decide +kernel
theorem dX6_turnLamp_26 : decode cX6_turnLamp 26 = .ok (.invokestatic 108, 3) := by decide +kernel
theorem dX6_turnLamp_29 : decode cX6_turnLamp 29 = .ok (.ireturn, 1) := by decide +kernel
set_option maxRecDepth 20000 in
theorem ggX6_breakLamp_X5_breakDown : GoodIn wsX6_breakLamp wsX5_breakDown := goodIn_r _ [6, 7, 8, 16, 17, 18, 19, 20, 21, 22, 23, 24, 25, 26, 27, 28, 29, 30, 31, 32, 33, 34, 35, 36, 37, 38, 39, 40, 41, 42, 43, 44, 45, 46, 47, 48, 49, 50] (by decide +kernel) (by decide +kernel)
set_option maxRecDepth 20000 in
theorem gX6_breakLamp_X5_breakDown_u112X0 : GoodIn wsX6_breakLamp (va_wsU RX6 112 RX0 "LampsThatRemember$Lamp" ⟨"LampsThatRemember$Lamp", "breakDown", "()V"⟩ yX5_breakDown wsX5_breakDown) := goodIn_app (goodIn_of _ (by decide +kernel)) ggX6_breakLamp_X5_breakDown
set_option maxRecDepth 20000 in
theorem gX6_breakLamp_X5_breakDown_u112X1 : GoodIn wsX6_breakLamp (va_wsU RX6 112 RX1 "LampsThatRemember$Lamp" ⟨"LampsThatRemember$Lamp", "breakDown", "()V"⟩ yX5_breakDown wsX5_breakDown) := goodIn_app (goodIn_of _ (by decide +kernel)) ggX6_breakLamp_X5_breakDown
set_option maxRecDepth 20000 in
theorem gX6_breakLamp_X5_breakDown_u112X3 : GoodIn wsX6_breakLamp (va_wsU RX6 112 RX3 "LampsThatRemember$Lamp" ⟨"LampsThatRemember$Lamp", "breakDown", "()V"⟩ yX5_breakDown wsX5_breakDown) := goodIn_app (goodIn_of _ (by decide +kernel)) ggX6_breakLamp_X5_breakDown
set_option maxRecDepth 20000 in
theorem gX6_breakLamp_X5_breakDown_u112X4 : GoodIn wsX6_breakLamp (va_wsU RX6 112 RX4 "LampsThatRemember$Lamp" ⟨"LampsThatRemember$Lamp", "breakDown", "()V"⟩ yX5_breakDown wsX5_breakDown) := goodIn_app (goodIn_of _ (by decide +kernel)) ggX6_breakLamp_X5_breakDown
set_option maxRecDepth 20000 in
theorem gX6_breakLamp_X5_breakDown : GoodIn wsX6_breakLamp (wsV RX6 112 RX5 yX5_breakDown wsX5_breakDown) := goodIn_app (goodIn_of _ (by decide +kernel)) ggX6_breakLamp_X5_breakDown
set_option maxRecDepth 20000 in
theorem gX6_breakLamp_X5_breakDown_u112X7 : GoodIn wsX6_breakLamp (va_wsU RX6 112 RX7 "LampsThatRemember$Lamp" ⟨"LampsThatRemember$Lamp", "breakDown", "()V"⟩ yX5_breakDown wsX5_breakDown) := goodIn_app (goodIn_of _ (by decide +kernel)) ggX6_breakLamp_X5_breakDown
set_option maxRecDepth 20000 in
theorem gX6_breakLamp_X5_breakDown_u112X8 : GoodIn wsX6_breakLamp (va_wsU RX6 112 RX8 "LampsThatRemember$Lamp" ⟨"LampsThatRemember$Lamp", "breakDown", "()V"⟩ yX5_breakDown wsX5_breakDown) := goodIn_app (goodIn_of _ (by decide +kernel)) ggX6_breakLamp_X5_breakDown
theorem dX6_breakLamp_0 : decode cX6_breakLamp 0 = .ok (.aload_n 0, 1) := by decide +kernel
theorem dX6_breakLamp_1 : decode cX6_breakLamp 1 = .ok (.ifnonnull 5, 3) := by decide +kernel
theorem dX6_breakLamp_4 : decode cX6_breakLamp 4 = .ok (.iconst (-1), 1) := by decide +kernel
theorem dX6_breakLamp_5 : decode cX6_breakLamp 5 = .ok (.ireturn, 1) := by decide +kernel
theorem dX6_breakLamp_6 : decode cX6_breakLamp 6 = .ok (.aload_n 0, 1) := by decide +kernel
theorem dX6_breakLamp_7 : decode cX6_breakLamp 7 = .ok (.invokevirtual 112, 3) := by decide +kernel
theorem dX6_breakLamp_10 : decode cX6_breakLamp 10 = .ok (.iconst 0, 1) := by decide +kernel
theorem dX6_breakLamp_11 : decode cX6_breakLamp 11 = .ok (.ireturn, 1) := by decide +kernel
set_option maxRecDepth 20000 in
theorem ggX6_kindAt_X6_at : GoodIn wsX6_kindAt wsX6_at := goodIn_r _ [5, 6, 7, 97, 98] (by decide +kernel) (by decide +kernel)
set_option maxRecDepth 20000 in
theorem gX6_kindAt_X6_at : GoodIn wsX6_kindAt (wsV RX6 37 RX6 yX6_at wsX6_at) := goodIn_app (goodIn_of _ (by decide +kernel)) ggX6_kindAt_X6_at
set_option maxRecDepth 20000 in
theorem ggX6_kindAt_J0_indexOf_0f7a4 : GoodIn wsX6_kindAt wsJ0_indexOf_0f7a4 := goodIn_r _ [12, 13, 14, 15, 11, 16, 17, 18, 19, 20, 21, 22, 23, 24, 25, 26, 27, 28, 29, 30, 31, 32, 33, 34, 35, 36, 37, 38, 39, 40, 41, 42, 43, 44, 45, 46, 47, 48, 49, 50, 51, 52, 53, 54, 55, 56, 57, 58, 59, 60, 61, 62, 63, 64, 65, 66, 67, 68, 69, 70, 71, 72, 73, 74, 75, 76, 77, 78, 79, 80, 81, 82, 83, 84, 85, 86, 87, 88, 89, 90, 91, 92, 93, 94, 95, 96] (by decide +kernel) (by decide +kernel)
set_option maxRecDepth 20000 in
theorem gX6_kindAt_J0_indexOf_0f7a4 : GoodIn wsX6_kindAt (wsV RX6 31 RJ0 yJ0_indexOf_0f7a4 wsJ0_indexOf_0f7a4) := goodIn_app (goodIn_of _ (by decide +kernel)) ggX6_kindAt_J0_indexOf_0f7a4
theorem dX6_kindAt_0 : decode cX6_kindAt 0 = .ok (.aload_n 0, 1) := by decide +kernel
theorem dX6_kindAt_1 : decode cX6_kindAt 1 = .ok (.iload_n 1, 1) := by decide +kernel
theorem dX6_kindAt_2 : decode cX6_kindAt 2 = .ok (.invokevirtual 37, 3) := by decide +kernel
theorem dX6_kindAt_5 : decode cX6_kindAt 5 = .ok (.istore_n 2, 1) := by decide +kernel
theorem dX6_kindAt_6 : decode cX6_kindAt 6 = .ok (.iload_n 2, 1) := by decide +kernel
theorem dX6_kindAt_7 : decode cX6_kindAt 7 = .ok (.ifCond .le 13, 3) := by decide +kernel
theorem dX6_kindAt_10 : decode cX6_kindAt 10 = .ok (.ldc 29, 2) := by decide +kernel
theorem dX6_kindAt_12 : decode cX6_kindAt 12 = .ok (.iload_n 2, 1) := by decide +kernel
theorem dX6_kindAt_13 : decode cX6_kindAt 13 = .ok (.i2c, 1) := by decide +kernel
theorem dX6_kindAt_14 : decode cX6_kindAt 14 = .ok (.invokevirtual 31, 3) := by decide +kernel
theorem dX6_kindAt_17 : decode cX6_kindAt 17 = .ok (.goto 5, 3) := by decide +kernel
theorem dX6_kindAt_20 : decode cX6_kindAt 20 = .ok (.bipush (-9), 2) := by decide +kernel
theorem dX6_kindAt_22 : decode cX6_kindAt 22 = .ok (.ireturn, 1) := by decide +kernel
set_option maxRecDepth 20000 in
theorem ggX6_digitAt_X6_at : GoodIn wsX6_digitAt wsX6_at := goodIn_r _ [5, 6, 7, 8, 9] (by decide +kernel) (by decide +kernel)
set_option maxRecDepth 20000 in
theorem gX6_digitAt_X6_at : GoodIn wsX6_digitAt (wsV RX6 37 RX6 yX6_at wsX6_at) := goodIn_app (goodIn_of _ (by decide +kernel)) ggX6_digitAt_X6_at
theorem dX6_digitAt_0 : decode cX6_digitAt 0 = .ok (.aload_n 0, 1) := by decide +kernel
theorem dX6_digitAt_1 : decode cX6_digitAt 1 = .ok (.iload_n 1, 1) := by decide +kernel
theorem dX6_digitAt_2 : decode cX6_digitAt 2 = .ok (.invokevirtual 37, 3) := by decide +kernel
theorem dX6_digitAt_5 : decode cX6_digitAt 5 = .ok (.bipush 48, 2) := by decide +kernel
theorem dX6_digitAt_7 : decode cX6_digitAt 7 = .ok (.isub, 1) := by decide +kernel
theorem dX6_digitAt_8 : decode cX6_digitAt 8 = .ok (.ireturn, 1) := by decide +kernel
set_option maxRecDepth 20000 in
theorem ggX6_cellAt_X6_digitAt : GoodIn wsX6_cellAt wsX6_digitAt := goodIn_r _ [5, 6, 7, 8, 4, 9, 10, 11, 12, 13] (by decide +kernel) (by decide +kernel)
set_option maxRecDepth 20000 in
theorem gX6_cellAt_X6_digitAt : GoodIn wsX6_cellAt (wsV RX6 72 RX6 yX6_digitAt wsX6_digitAt) := goodIn_app (goodIn_of _ (by decide +kernel)) ggX6_cellAt_X6_digitAt
theorem dX6_cellAt_0 : decode cX6_cellAt 0 = .ok (.aload_n 0, 1) := by decide +kernel
theorem dX6_cellAt_1 : decode cX6_cellAt 1 = .ok (.iload_n 1, 1) := by decide +kernel
theorem dX6_cellAt_2 : decode cX6_cellAt 2 = .ok (.invokevirtual 72, 3) := by decide +kernel
theorem dX6_cellAt_5 : decode cX6_cellAt 5 = .ok (.bipush 10, 2) := by decide +kernel
theorem dX6_cellAt_7 : decode cX6_cellAt 7 = .ok (.imul, 1) := by decide +kernel
theorem dX6_cellAt_8 : decode cX6_cellAt 8 = .ok (.aload_n 0, 1) := by decide +kernel
theorem dX6_cellAt_9 : decode cX6_cellAt 9 = .ok (.iload_n 1, 1) := by decide +kernel
theorem dX6_cellAt_10 : decode cX6_cellAt 10 = .ok (.iconst 1, 1) := by decide +kernel
theorem dX6_cellAt_11 : decode cX6_cellAt 11 = .ok (.iadd, 1) := by decide +kernel
theorem dX6_cellAt_12 : decode cX6_cellAt 12 = .ok (.invokevirtual 72, 3) := by decide +kernel
theorem dX6_cellAt_15 : decode cX6_cellAt 15 = .ok (.iadd, 1) := by decide +kernel
theorem dX6_cellAt_16 : decode cX6_cellAt 16 = .ok (.ireturn, 1) := by decide +kernel
set_option maxRecDepth 20000 in
theorem ggX7_init_X5_init : GoodIn wsX7_init wsX5_init := goodIn_r _ [3, 4, 5, 6, 7, 8, 9, 10, 11, 12, 13, 14, 15, 16, 17, 18, 19, 20, 21, 22, 23, 24, 25, 26, 27, 28, 29, 30, 31, 32, 33, 34, 35, 36, 37, 38, 39, 40, 41, 42, 43, 44] (by decide +kernel) (by decide +kernel)
set_option maxRecDepth 20000 in
theorem gX7_init_X5_init_n1 : GoodIn wsX7_init (wsX5_init) := ggX7_init_X5_init
theorem dX7_init_0 : decode cX7_init 0 = .ok (.aload_n 0, 1) := by decide +kernel
theorem dX7_init_1 : decode cX7_init 1 = .ok (.invokespecial 1, 3) := by decide +kernel
theorem dX7_init_4 : decode cX7_init 4 = .ok (.return_, 1) := by decide +kernel
theorem dX7_kind_0 : decode cX7_kind 0 = .ok (.iconst 2, 1) := by decide +kernel
theorem dX7_kind_1 : decode cX7_kind 1 = .ok (.ireturn, 1) := by decide +kernel
theorem dX7_room_0 : decode cX7_room 0 = .ok (.iconst 0, 1) := by decide +kernel
theorem dX7_room_1 : decode cX7_room 1 = .ok (.ireturn, 1) := by decide +kernel
set_option maxRecDepth 20000 in
theorem ggX8_init_X5_init : GoodIn wsX8_init wsX5_init := goodIn_r _ [3, 4, 5, 6, 7, 8, 9, 10, 11, 12, 13, 14, 15, 16, 17, 18, 19, 20, 21, 22, 23, 24, 25, 26, 27, 28, 29, 30, 31, 32, 33, 34, 35, 36, 37, 38, 39, 40, 41, 42, 43, 44] (by decide +kernel) (by decide +kernel)
set_option maxRecDepth 20000 in
theorem gX8_init_X5_init_n3 : GoodIn wsX8_init (wsX5_init) := ggX8_init_X5_init
theorem dX8_init_0 : decode cX8_init 0 = .ok (.aload_n 0, 1) := by decide +kernel
theorem dX8_init_1 : decode cX8_init 1 = .ok (.invokespecial 3, 3) := by decide +kernel
theorem dX8_init_4 : decode cX8_init 4 = .ok (.return_, 1) := by decide +kernel
theorem dX8_kind_0 : decode cX8_kind 0 = .ok (.iconst 5, 1) := by decide +kernel
theorem dX8_kind_1 : decode cX8_kind 1 = .ok (.ireturn, 1) := by decide +kernel
set_option maxRecDepth 20000 in
theorem ggX8_placeGivenUpFor_X5_sceneAt : GoodIn wsX8_placeGivenUpFor wsX5_sceneAt := goodIn_r _ [8, 9, 10, 16, 17, 18, 19, 20, 21, 22, 23, 24, 25, 26, 27, 28, 29, 30, 31, 32, 33, 34, 35, 36, 37, 38, 39, 40, 41, 42, 43, 44, 45, 46, 47, 48, 49, 50] (by decide +kernel) (by decide +kernel)
set_option maxRecDepth 20000 in
theorem gX8_placeGivenUpFor_X5_sceneAt_u15X4 : GoodIn wsX8_placeGivenUpFor (va_wsU RX8 15 RX4 "LampsThatRemember$Lamp" ⟨"LampsThatRemember$Overlaid", "sceneAt", "(I)I"⟩ yX5_sceneAt wsX5_sceneAt) := goodIn_app (goodIn_of _ (by decide +kernel)) ggX8_placeGivenUpFor_X5_sceneAt
set_option maxRecDepth 20000 in
theorem gX8_placeGivenUpFor_X5_sceneAt_u15X8 : GoodIn wsX8_placeGivenUpFor (va_wsU RX8 15 RX8 "LampsThatRemember$Lamp" ⟨"LampsThatRemember$Overlaid", "sceneAt", "(I)I"⟩ yX5_sceneAt wsX5_sceneAt) := goodIn_app (goodIn_of _ (by decide +kernel)) ggX8_placeGivenUpFor_X5_sceneAt
set_option maxRecDepth 20000 in
theorem ggX8_placeGivenUpFor_X9_cellIn : GoodIn wsX8_placeGivenUpFor wsX9_cellIn := goodIn_r _ [15] (by decide +kernel) (by decide +kernel)
set_option maxRecDepth 20000 in
theorem gX8_placeGivenUpFor_X9_cellIn : GoodIn wsX8_placeGivenUpFor (va_wsS RX8 19 yX9_cellIn wsX9_cellIn) := goodIn_app (goodIn_of _ (by decide +kernel)) ggX8_placeGivenUpFor_X9_cellIn
theorem dX8_placeGivenUpFor_0 : decode cX8_placeGivenUpFor 0 = .ok (.iconst 0, 1) := by decide +kernel
theorem dX8_placeGivenUpFor_1 : decode cX8_placeGivenUpFor 1 = .ok (.istore_n 2, 1) := by decide +kernel
theorem dX8_placeGivenUpFor_2 : decode cX8_placeGivenUpFor 2 = .ok (.iload_n 2, 1) := by decide +kernel
theorem dX8_placeGivenUpFor_3 : decode cX8_placeGivenUpFor 3 = .ok (.aload_n 0, 1) := by decide +kernel
theorem dX8_placeGivenUpFor_4 : decode cX8_placeGivenUpFor 4 = .ok (.getfield 9, 3) := by decide +kernel
theorem dX8_placeGivenUpFor_7 : decode cX8_placeGivenUpFor 7 = .ok (.if_icmp .ge 23, 3) := by decide +kernel
theorem dX8_placeGivenUpFor_10 : decode cX8_placeGivenUpFor 10 = .ok (.aload_n 0, 1) := by decide +kernel
theorem dX8_placeGivenUpFor_11 : decode cX8_placeGivenUpFor 11 = .ok (.iload_n 2, 1) := by decide +kernel
theorem dX8_placeGivenUpFor_12 : decode cX8_placeGivenUpFor 12 = .ok (.invokevirtual 15, 3) := by decide +kernel
theorem dX8_placeGivenUpFor_15 : decode cX8_placeGivenUpFor 15 = .ok (.invokestatic 19, 3) := by decide +kernel
theorem dX8_placeGivenUpFor_18 : decode cX8_placeGivenUpFor 18 = .ok (.iload_n 1, 1) := by decide +kernel
theorem dX8_placeGivenUpFor_19 : decode cX8_placeGivenUpFor 19 = .ok (.if_icmp .ne 5, 3) := by decide +kernel
theorem dX8_placeGivenUpFor_22 : decode cX8_placeGivenUpFor 22 = .ok (.iload_n 2, 1) := by decide +kernel
theorem dX8_placeGivenUpFor_23 : decode cX8_placeGivenUpFor 23 = .ok (.ireturn, 1) := by decide +kernel
theorem dX8_placeGivenUpFor_24 : decode cX8_placeGivenUpFor 24 = .ok (.iinc 2 1, 3) := by decide +kernel
theorem dX8_placeGivenUpFor_27 : decode cX8_placeGivenUpFor 27 = .ok (.goto (-25), 3) := by decide +kernel
theorem dX8_placeGivenUpFor_30 : decode cX8_placeGivenUpFor 30 = .ok (.bipush (-9), 2) := by decide +kernel
theorem dX8_placeGivenUpFor_32 : decode cX8_placeGivenUpFor 32 = .ok (.ireturn, 1) := by decide +kernel
theorem dX9_of_0 : decode cX9_of 0 = .ok (.iload_n 2, 1) := by decide +kernel
theorem dX9_of_1 : decode cX9_of 1 = .ok (.sipush 1000, 3) := by decide +kernel
theorem dX9_of_4 : decode cX9_of 4 = .ok (.imul, 1) := by decide +kernel
theorem dX9_of_5 : decode cX9_of 5 = .ok (.iload_n 1, 1) := by decide +kernel
theorem dX9_of_6 : decode cX9_of 6 = .ok (.bipush 10, 2) := by decide +kernel
theorem dX9_of_8 : decode cX9_of 8 = .ok (.imul, 1) := by decide +kernel
theorem dX9_of_9 : decode cX9_of 9 = .ok (.iadd, 1) := by decide +kernel
theorem dX9_of_10 : decode cX9_of 10 = .ok (.iload_n 0, 1) := by decide +kernel
theorem dX9_of_11 : decode cX9_of 11 = .ok (.iadd, 1) := by decide +kernel
theorem dX9_of_12 : decode cX9_of 12 = .ok (.ireturn, 1) := by decide +kernel
theorem dX9_whoIn_0 : decode cX9_whoIn 0 = .ok (.iload_n 0, 1) := by decide +kernel
theorem dX9_whoIn_1 : decode cX9_whoIn 1 = .ok (.bipush 10, 2) := by decide +kernel
theorem dX9_whoIn_3 : decode cX9_whoIn 3 = .ok (.irem, 1) := by decide +kernel
theorem dX9_whoIn_4 : decode cX9_whoIn 4 = .ok (.ireturn, 1) := by decide +kernel
theorem dX9_cellIn_0 : decode cX9_cellIn 0 = .ok (.iload_n 0, 1) := by decide +kernel
theorem dX9_cellIn_1 : decode cX9_cellIn 1 = .ok (.bipush 10, 2) := by decide +kernel
theorem dX9_cellIn_3 : decode cX9_cellIn 3 = .ok (.idiv, 1) := by decide +kernel
theorem dX9_cellIn_4 : decode cX9_cellIn 4 = .ok (.bipush 100, 2) := by decide +kernel
theorem dX9_cellIn_6 : decode cX9_cellIn 6 = .ok (.irem, 1) := by decide +kernel
theorem dX9_cellIn_7 : decode cX9_cellIn 7 = .ok (.ireturn, 1) := by decide +kernel
theorem dX9_minuteIn_0 : decode cX9_minuteIn 0 = .ok (.iload_n 0, 1) := by decide +kernel
theorem dX9_minuteIn_1 : decode cX9_minuteIn 1 = .ok (.sipush 1000, 3) := by decide +kernel
theorem dX9_minuteIn_4 : decode cX9_minuteIn 4 = .ok (.idiv, 1) := by decide +kernel
theorem dX9_minuteIn_5 : decode cX9_minuteIn 5 = .ok (.ireturn, 1) := by decide +kernel
theorem dX10_init_0 : decode cX10_init 0 = .ok (.aload_n 0, 1) := by decide +kernel
theorem dX10_init_1 : decode cX10_init 1 = .ok (.invokespecial 3, 3) := by decide +kernel
theorem dX10_init_4 : decode cX10_init 4 = .ok (.aload_n 0, 1) := by decide +kernel
theorem dX10_init_5 : decode cX10_init 5 = .ok (.bipush 6, 2) := by decide +kernel
theorem dX10_init_7 : decode cX10_init 7 = .ok (.anewarray 9, 3) := by decide +kernel
theorem dX10_init_10 : decode cX10_init 10 = .ok (.putfield 11, 3) := by decide +kernel
theorem dX10_init_13 : decode cX10_init 13 = .ok (.aload_n 0, 1) := by decide +kernel
theorem dX10_init_14 : decode cX10_init 14 = .ok (.iconst 4, 1) := by decide +kernel
theorem dX10_init_15 : decode cX10_init 15 = .ok (.newarray .int, 2) := by decide +kernel
theorem dX10_init_17 : decode cX10_init 17 = .ok (.putfield 17, 3) := by decide +kernel
theorem dX10_init_20 : decode cX10_init 20 = .ok (.return_, 1) := by decide +kernel
set_option maxRecDepth 20000 in
theorem ggX10_become_X10_lampAt : GoodIn wsX10_become wsX10_lampAt := goodIn_r _ [11, 4, 1, 101, 102, 103, 104, 105, 106] (by decide +kernel) (by decide +kernel)
set_option maxRecDepth 20000 in
theorem gX10_become_X10_lampAt : GoodIn wsX10_become (wsV RX10 21 RX10 yX10_lampAt wsX10_lampAt) := goodIn_app (goodIn_of _ (by decide +kernel)) ggX10_become_X10_lampAt
set_option maxRecDepth 20000 in
theorem ggX10_become_X5_twin : GoodIn wsX10_become wsX5_twin := goodIn_r _ [17, 18, 19, 20, 21, 22, 23, 24, 25, 26, 27, 28, 29, 30, 31, 32, 33, 34, 35, 36, 37, 38, 39, 40, 41, 42, 43, 44, 45, 16, 46, 47, 48, 49, 50, 51, 52, 53, 54, 55, 56, 57, 58, 59, 60, 61, 62, 63, 64, 65, 66, 67, 68, 69, 70, 71, 72, 73, 74, 75, 76, 77, 78, 79, 80, 81, 82, 83, 84, 85, 86, 87, 88, 89, 107, 108, 109, 110, 111, 112, 113, 114, 115, 116, 117, 118, 119, 120, 121, 122, 123, 124, 125, 126, 127, 128, 129, 130, 131, 132, 133, 134, 135, 136, 137, 138, 139, 140, 141] (by decide +kernel) (by decide +kernel)
set_option maxRecDepth 20000 in
theorem gX10_become_X5_twin_u25X0 : GoodIn wsX10_become (va_wsU RX10 25 RX0 "LampsThatRemember$Lamp" ⟨"LampsThatRemember$Lamp", "twin", "()LLampsThatRemember$Lamp;"⟩ yX5_twin wsX5_twin) := goodIn_app (goodIn_of _ (by decide +kernel)) ggX10_become_X5_twin
set_option maxRecDepth 20000 in
theorem gX10_become_X5_twin_u25X1 : GoodIn wsX10_become (va_wsU RX10 25 RX1 "LampsThatRemember$Lamp" ⟨"LampsThatRemember$Lamp", "twin", "()LLampsThatRemember$Lamp;"⟩ yX5_twin wsX5_twin) := goodIn_app (goodIn_of _ (by decide +kernel)) ggX10_become_X5_twin
set_option maxRecDepth 20000 in
theorem gX10_become_X5_twin_u25X3 : GoodIn wsX10_become (va_wsU RX10 25 RX3 "LampsThatRemember$Lamp" ⟨"LampsThatRemember$Lamp", "twin", "()LLampsThatRemember$Lamp;"⟩ yX5_twin wsX5_twin) := goodIn_app (goodIn_of _ (by decide +kernel)) ggX10_become_X5_twin
set_option maxRecDepth 20000 in
theorem gX10_become_X5_twin_u25X4 : GoodIn wsX10_become (va_wsU RX10 25 RX4 "LampsThatRemember$Lamp" ⟨"LampsThatRemember$Lamp", "twin", "()LLampsThatRemember$Lamp;"⟩ yX5_twin wsX5_twin) := goodIn_app (goodIn_of _ (by decide +kernel)) ggX10_become_X5_twin
set_option maxRecDepth 20000 in
theorem gX10_become_X5_twin : GoodIn wsX10_become (wsV RX10 25 RX5 yX5_twin wsX5_twin) := goodIn_app (goodIn_of _ (by decide +kernel)) ggX10_become_X5_twin
set_option maxRecDepth 20000 in
theorem gX10_become_X5_twin_u25X7 : GoodIn wsX10_become (va_wsU RX10 25 RX7 "LampsThatRemember$Lamp" ⟨"LampsThatRemember$Lamp", "twin", "()LLampsThatRemember$Lamp;"⟩ yX5_twin wsX5_twin) := goodIn_app (goodIn_of _ (by decide +kernel)) ggX10_become_X5_twin
set_option maxRecDepth 20000 in
theorem gX10_become_X5_twin_u25X8 : GoodIn wsX10_become (va_wsU RX10 25 RX8 "LampsThatRemember$Lamp" ⟨"LampsThatRemember$Lamp", "twin", "()LLampsThatRemember$Lamp;"⟩ yX5_twin wsX5_twin) := goodIn_app (goodIn_of _ (by decide +kernel)) ggX10_become_X5_twin
set_option maxRecDepth 20000 in
theorem ggX10_become_X10_cellOf : GoodIn wsX10_become wsX10_cellOf := goodIn_r _ [100, 5, 2, 101, 102, 103, 104, 105, 106] (by decide +kernel) (by decide +kernel)
set_option maxRecDepth 20000 in
theorem gX10_become_X10_cellOf : GoodIn wsX10_become (wsV RX10 29 RX10 yX10_cellOf wsX10_cellOf) := goodIn_app (goodIn_of _ (by decide +kernel)) ggX10_become_X10_cellOf
theorem dX10_become_0 : decode cX10_become 0 = .ok (.aload_n 1, 1) := by decide +kernel
theorem dX10_become_1 : decode cX10_become 1 = .ok (.ifnonnull 4, 3) := by decide +kernel
theorem dX10_become_4 : decode cX10_become 4 = .ok (.return_, 1) := by decide +kernel
theorem dX10_become_5 : decode cX10_become 5 = .ok (.iconst 0, 1) := by decide +kernel
theorem dX10_become_6 : decode cX10_become 6 = .ok (.istore_n 2, 1) := by decide +kernel
theorem dX10_become_7 : decode cX10_become 7 = .ok (.iload_n 2, 1) := by decide +kernel
theorem dX10_become_8 : decode cX10_become 8 = .ok (.aload_n 0, 1) := by decide +kernel
theorem dX10_become_9 : decode cX10_become 9 = .ok (.getfield 11, 3) := by decide +kernel
theorem dX10_become_12 : decode cX10_become 12 = .ok (.arraylength, 1) := by decide +kernel
theorem dX10_become_13 : decode cX10_become 13 = .ok (.if_icmp .ge 33, 3) := by decide +kernel
theorem dX10_become_16 : decode cX10_become 16 = .ok (.aload_n 1, 1) := by decide +kernel
theorem dX10_become_17 : decode cX10_become 17 = .ok (.iload_n 2, 1) := by decide +kernel
theorem dX10_become_18 : decode cX10_become 18 = .ok (.invokevirtual 21, 3) := by decide +kernel
theorem dX10_become_21 : decode cX10_become 21 = .ok (.astore_n 3, 1) := by decide +kernel
theorem dX10_become_22 : decode cX10_become 22 = .ok (.aload_n 0, 1) := by decide +kernel
theorem dX10_become_23 : decode cX10_become 23 = .ok (.getfield 11, 3) := by decide +kernel
theorem dX10_become_26 : decode cX10_become 26 = .ok (.iload_n 2, 1) := by decide +kernel
theorem dX10_become_27 : decode cX10_become 27 = .ok (.aload_n 3, 1) := by decide +kernel
theorem dX10_become_28 : decode cX10_become 28 = .ok (.ifnonnull 7, 3) := by decide +kernel
theorem dX10_become_31 : decode cX10_become 31 = .ok (.aconst_null, 1) := by decide +kernel
theorem dX10_become_32 : decode cX10_become 32 = .ok (.goto 7, 3) := by decide +kernel
theorem dX10_become_35 : decode cX10_become 35 = .ok (.aload_n 3, 1) := by decide +kernel
theorem dX10_become_36 : decode cX10_become 36 = .ok (.invokevirtual 25, 3) := by decide +kernel
theorem dX10_become_39 : decode cX10_become 39 = .ok (.aastore, 1) := by decide +kernel
theorem dX10_become_40 : decode cX10_become 40 = .ok (.iinc 2 1, 3) := by decide +kernel
theorem dX10_become_43 : decode cX10_become 43 = .ok (.goto (-36), 3) := by decide +kernel
theorem dX10_become_46 : decode cX10_become 46 = .ok (.iconst 0, 1) := by decide +kernel
theorem dX10_become_47 : decode cX10_become 47 = .ok (.istore_n 2, 1) := by decide +kernel
theorem dX10_become_48 : decode cX10_become 48 = .ok (.iload_n 2, 1) := by decide +kernel
theorem dX10_become_49 : decode cX10_become 49 = .ok (.aload_n 0, 1) := by decide +kernel
theorem dX10_become_50 : decode cX10_become 50 = .ok (.getfield 17, 3) := by decide +kernel
theorem dX10_become_53 : decode cX10_become 53 = .ok (.arraylength, 1) := by decide +kernel
theorem dX10_become_54 : decode cX10_become 54 = .ok (.if_icmp .ge 20, 3) := by decide +kernel
theorem dX10_become_57 : decode cX10_become 57 = .ok (.aload_n 0, 1) := by decide +kernel
theorem dX10_become_58 : decode cX10_become 58 = .ok (.getfield 17, 3) := by decide +kernel
theorem dX10_become_61 : decode cX10_become 61 = .ok (.iload_n 2, 1) := by decide +kernel
theorem dX10_become_62 : decode cX10_become 62 = .ok (.aload_n 1, 1) := by decide +kernel
theorem dX10_become_63 : decode cX10_become 63 = .ok (.iload_n 2, 1) := by decide +kernel
theorem dX10_become_64 : decode cX10_become 64 = .ok (.invokevirtual 29, 3) := by decide +kernel
theorem dX10_become_67 : decode cX10_become 67 = .ok (.iastore, 1) := by decide +kernel
theorem dX10_become_68 : decode cX10_become 68 = .ok (.iinc 2 1, 3) := by decide +kernel
theorem dX10_become_71 : decode cX10_become 71 = .ok (.goto (-23), 3) := by decide +kernel
theorem dX10_become_74 : decode cX10_become 74 = .ok (.aload_n 0, 1) := by decide +kernel
theorem dX10_become_75 : decode cX10_become 75 = .ok (.aload_n 1, 1) := by decide +kernel
theorem dX10_become_76 : decode cX10_become 76 = .ok (.getfield 33, 3) := by decide +kernel
theorem dX10_become_79 : decode cX10_become 79 = .ok (.putfield 33, 3) := by decide +kernel
theorem dX10_become_82 : decode cX10_become 82 = .ok (.aload_n 0, 1) := by decide +kernel
theorem dX10_become_83 : decode cX10_become 83 = .ok (.aload_n 1, 1) := by decide +kernel
theorem dX10_become_84 : decode cX10_become 84 = .ok (.getfield 37, 3) := by decide +kernel
theorem dX10_become_87 : decode cX10_become 87 = .ok (.putfield 37, 3) := by decide +kernel
theorem dX10_become_90 : decode cX10_become 90 = .ok (.aload_n 0, 1) := by decide +kernel
theorem dX10_become_91 : decode cX10_become 91 = .ok (.aload_n 1, 1) := by decide +kernel
theorem dX10_become_92 : decode cX10_become 92 = .ok (.getfield 41, 3) := by decide +kernel
theorem dX10_become_95 : decode cX10_become 95 = .ok (.putfield 41, 3) := by decide +kernel
theorem dX10_become_98 : decode cX10_become 98 = .ok (.aload_n 0, 1) := by decide +kernel
theorem dX10_become_99 : decode cX10_become 99 = .ok (.aload_n 1, 1) := by decide +kernel
theorem dX10_become_100 : decode cX10_become 100 = .ok (.getfield 44, 3) := by decide +kernel
theorem dX10_become_103 : decode cX10_become 103 = .ok (.putfield 44, 3) := by decide +kernel
theorem dX10_become_106 : decode cX10_become 106 = .ok (.return_, 1) := by decide +kernel
theorem dX10_lampAt_0 : decode cX10_lampAt 0 = .ok (.iload_n 1, 1) := by decide +kernel
theorem dX10_lampAt_1 : decode cX10_lampAt 1 = .ok (.ifCond .lt 29, 3) := by decide +kernel
theorem dX10_lampAt_4 : decode cX10_lampAt 4 = .ok (.iload_n 1, 1) := by decide +kernel
theorem dX10_lampAt_5 : decode cX10_lampAt 5 = .ok (.aload_n 0, 1) := by decide +kernel
theorem dX10_lampAt_6 : decode cX10_lampAt 6 = .ok (.getfield 37, 3) := by decide +kernel
theorem dX10_lampAt_9 : decode cX10_lampAt 9 = .ok (.if_icmp .ge 21, 3) := by decide +kernel
theorem dX10_lampAt_12 : decode cX10_lampAt 12 = .ok (.iload_n 1, 1) := by decide +kernel
theorem dX10_lampAt_13 : decode cX10_lampAt 13 = .ok (.aload_n 0, 1) := by decide +kernel
theorem dX10_lampAt_14 : decode cX10_lampAt 14 = .ok (.getfield 11, 3) := by decide +kernel
theorem dX10_lampAt_17 : decode cX10_lampAt 17 = .ok (.arraylength, 1) := by decide +kernel
theorem dX10_lampAt_18 : decode cX10_lampAt 18 = .ok (.if_icmp .ge 12, 3) := by decide +kernel
theorem dX10_lampAt_21 : decode cX10_lampAt 21 = .ok (.aload_n 0, 1) := by decide +kernel
theorem dX10_lampAt_22 : decode cX10_lampAt 22 = .ok (.getfield 11, 3) := by decide +kernel
theorem dX10_lampAt_25 : decode cX10_lampAt 25 = .ok (.iload_n 1, 1) := by decide +kernel
theorem dX10_lampAt_26 : decode cX10_lampAt 26 = .ok (.aaload, 1) := by decide +kernel
theorem dX10_lampAt_27 : decode cX10_lampAt 27 = .ok (.goto 4, 3) := by decide +kernel
theorem dX10_lampAt_30 : decode cX10_lampAt 30 = .ok (.aconst_null, 1) := by decide +kernel
theorem dX10_lampAt_31 : decode cX10_lampAt 31 = .ok (.areturn, 1) := by decide +kernel
theorem dX10_isPerson_0 : decode cX10_isPerson 0 = .ok (.iload_n 1, 1) := by decide +kernel
theorem dX10_isPerson_1 : decode cX10_isPerson 1 = .ok (.ifCond .lt 15, 3) := by decide +kernel
theorem dX10_isPerson_4 : decode cX10_isPerson 4 = .ok (.iload_n 1, 1) := by decide +kernel
theorem dX10_isPerson_5 : decode cX10_isPerson 5 = .ok (.aload_n 0, 1) := by decide +kernel
theorem dX10_isPerson_6 : decode cX10_isPerson 6 = .ok (.getfield 41, 3) := by decide +kernel
theorem dX10_isPerson_9 : decode cX10_isPerson 9 = .ok (.if_icmp .ge 7, 3) := by decide +kernel
theorem dX10_isPerson_12 : decode cX10_isPerson 12 = .ok (.iconst 1, 1) := by decide +kernel
theorem dX10_isPerson_13 : decode cX10_isPerson 13 = .ok (.goto 4, 3) := by decide +kernel
theorem dX10_isPerson_16 : decode cX10_isPerson 16 = .ok (.iconst 0, 1) := by decide +kernel
theorem dX10_isPerson_17 : decode cX10_isPerson 17 = .ok (.ireturn, 1) := by decide +kernel
theorem dX10_cellOf_0 : decode cX10_cellOf 0 = .ok (.iload_n 1, 1) := by decide +kernel
theorem dX10_cellOf_1 : decode cX10_cellOf 1 = .ok (.ifCond .lt 24, 3) := by decide +kernel
theorem dX10_cellOf_4 : decode cX10_cellOf 4 = .ok (.iload_n 1, 1) := by decide +kernel
theorem dX10_cellOf_5 : decode cX10_cellOf 5 = .ok (.aload_n 0, 1) := by decide +kernel
theorem dX10_cellOf_6 : decode cX10_cellOf 6 = .ok (.getfield 41, 3) := by decide +kernel
theorem dX10_cellOf_9 : decode cX10_cellOf 9 = .ok (.if_icmp .ge 16, 3) := by decide +kernel
theorem dX10_cellOf_12 : decode cX10_cellOf 12 = .ok (.iload_n 1, 1) := by decide +kernel
theorem dX10_cellOf_13 : decode cX10_cellOf 13 = .ok (.aload_n 0, 1) := by decide +kernel
theorem dX10_cellOf_14 : decode cX10_cellOf 14 = .ok (.getfield 17, 3) := by decide +kernel
theorem dX10_cellOf_17 : decode cX10_cellOf 17 = .ok (.arraylength, 1) := by decide +kernel
theorem dX10_cellOf_18 : decode cX10_cellOf 18 = .ok (.if_icmp .ge 7, 3) := by decide +kernel
theorem dX10_cellOf_21 : decode cX10_cellOf 21 = .ok (.iconst 1, 1) := by decide +kernel
theorem dX10_cellOf_22 : decode cX10_cellOf 22 = .ok (.goto 4, 3) := by decide +kernel
theorem dX10_cellOf_25 : decode cX10_cellOf 25 = .ok (.iconst 0, 1) := by decide +kernel
theorem dX10_cellOf_26 : decode cX10_cellOf 26 = .ok (.istore_n 2, 1) := by decide +kernel
theorem dX10_cellOf_27 : decode cX10_cellOf 27 = .ok (.iload_n 2, 1) := by decide +kernel
theorem dX10_cellOf_28 : decode cX10_cellOf 28 = .ok (.ifCond .eq 12, 3) := by decide +kernel
theorem dX10_cellOf_31 : decode cX10_cellOf 31 = .ok (.aload_n 0, 1) := by decide +kernel
theorem dX10_cellOf_32 : decode cX10_cellOf 32 = .ok (.getfield 17, 3) := by decide +kernel
theorem dX10_cellOf_35 : decode cX10_cellOf 35 = .ok (.iload_n 1, 1) := by decide +kernel
theorem dX10_cellOf_36 : decode cX10_cellOf 36 = .ok (.iaload, 1) := by decide +kernel
theorem dX10_cellOf_37 : decode cX10_cellOf 37 = .ok (.goto 5, 3) := by decide +kernel
theorem dX10_cellOf_40 : decode cX10_cellOf 40 = .ok (.bipush (-9), 2) := by decide +kernel
theorem dX10_cellOf_42 : decode cX10_cellOf 42 = .ok (.ireturn, 1) := by decide +kernel
theorem dX10_free_0 : decode cX10_free 0 = .ok (.ldc2_w 49, 3) := by decide +kernel
theorem dX10_free_3 : decode cX10_free 3 = .ok (.aload_n 0, 1) := by decide +kernel
theorem dX10_free_4 : decode cX10_free 4 = .ok (.getfield 33, 3) := by decide +kernel
theorem dX10_free_7 : decode cX10_free 7 = .ok (.ldc2_w 51, 3) := by decide +kernel
theorem dX10_free_10 : decode cX10_free 10 = .ok (.lxor, 1) := by decide +kernel
theorem dX10_free_11 : decode cX10_free 11 = .ok (.land, 1) := by decide +kernel
theorem dX10_free_12 : decode cX10_free 12 = .ok (.lreturn, 1) := by decide +kernel
set_option maxRecDepth 20000 in
theorem ggX10_peopled_X10_cellOf : GoodIn wsX10_peopled wsX10_cellOf := goodIn_r _ [6, 1, 7, 12, 13, 14, 15, 16, 17] (by decide +kernel) (by decide +kernel)
set_option maxRecDepth 20000 in
theorem gX10_peopled_X10_cellOf : GoodIn wsX10_peopled (wsV RX10 29 RX10 yX10_cellOf wsX10_cellOf) := goodIn_app (goodIn_of _ (by decide +kernel)) ggX10_peopled_X10_cellOf
set_option maxRecDepth 20000 in
theorem ggX10_peopled_X2_only : GoodIn wsX10_peopled wsX2_only := goodIn_r _ [11] (by decide +kernel) (by decide +kernel)
set_option maxRecDepth 20000 in
theorem gX10_peopled_X2_only : GoodIn wsX10_peopled (va_wsS RX10 53 yX2_only wsX2_only) := goodIn_app (goodIn_of _ (by decide +kernel)) ggX10_peopled_X2_only
theorem dX10_peopled_0 : decode cX10_peopled 0 = .ok (.lconst 0, 1) := by decide +kernel
theorem dX10_peopled_1 : decode cX10_peopled 1 = .ok (.lstore_n 1, 1) := by decide +kernel
theorem dX10_peopled_2 : decode cX10_peopled 2 = .ok (.iconst 0, 1) := by decide +kernel
theorem dX10_peopled_3 : decode cX10_peopled 3 = .ok (.istore_n 3, 1) := by decide +kernel
theorem dX10_peopled_4 : decode cX10_peopled 4 = .ok (.iload_n 3, 1) := by decide +kernel
theorem dX10_peopled_5 : decode cX10_peopled 5 = .ok (.aload_n 0, 1) := by decide +kernel
theorem dX10_peopled_6 : decode cX10_peopled 6 = .ok (.getfield 41, 3) := by decide +kernel
theorem dX10_peopled_9 : decode cX10_peopled 9 = .ok (.if_icmp .ge 20, 3) := by decide +kernel
theorem dX10_peopled_12 : decode cX10_peopled 12 = .ok (.lload_n 1, 1) := by decide +kernel
theorem dX10_peopled_13 : decode cX10_peopled 13 = .ok (.aload_n 0, 1) := by decide +kernel
theorem dX10_peopled_14 : decode cX10_peopled 14 = .ok (.iload_n 3, 1) := by decide +kernel
theorem dX10_peopled_15 : decode cX10_peopled 15 = .ok (.invokevirtual 29, 3) := by decide +kernel
theorem dX10_peopled_18 : decode cX10_peopled 18 = .ok (.invokestatic 53, 3) := by decide +kernel
theorem dX10_peopled_21 : decode cX10_peopled 21 = .ok (.lor, 1) := by decide +kernel
theorem dX10_peopled_22 : decode cX10_peopled 22 = .ok (.lstore_n 1, 1) := by decide +kernel
theorem dX10_peopled_23 : decode cX10_peopled 23 = .ok (.iinc 3 1, 3) := by decide +kernel
theorem dX10_peopled_26 : decode cX10_peopled 26 = .ok (.goto (-22), 3) := by decide +kernel
theorem dX10_peopled_29 : decode cX10_peopled 29 = .ok (.lload_n 1, 1) := by decide +kernel
theorem dX10_peopled_30 : decode cX10_peopled 30 = .ok (.lreturn, 1) := by decide +kernel
set_option maxRecDepth 20000 in
theorem ggX10_addLamp_X2_isOne : GoodIn wsX10_addLamp wsX2_isOne := goodIn_r _ [8] (by decide +kernel) (by decide +kernel)
set_option maxRecDepth 20000 in
theorem gX10_addLamp_X2_isOne : GoodIn wsX10_addLamp (va_wsS RX10 57 yX2_isOne wsX2_isOne) := goodIn_app (goodIn_of _ (by decide +kernel)) ggX10_addLamp_X2_isOne
set_option maxRecDepth 20000 in
theorem ggX10_addLamp_X5_ofKind : GoodIn wsX10_addLamp wsX5_ofKind := goodIn_r _ [12, 13, 14, 15, 16, 17, 18, 19, 20, 21, 22, 23, 24, 25, 26, 27, 28, 29, 30, 31, 32, 11, 33, 34, 35, 36, 37, 38, 39, 40, 41, 42, 43, 44, 45, 46, 47, 48, 49, 50, 51, 52, 53, 70, 71, 72, 73, 74, 85, 86, 87, 88, 89, 65, 66, 67, 68, 69, 60, 61, 62, 63, 64, 90, 91, 92, 93, 94, 75, 76, 77, 78, 79, 80, 81, 82, 83, 84] (by decide +kernel) (by decide +kernel)
set_option maxRecDepth 20000 in
theorem gX10_addLamp_X5_ofKind : GoodIn wsX10_addLamp (va_wsS RX10 61 yX5_ofKind wsX5_ofKind) := goodIn_app (goodIn_of _ (by decide +kernel)) ggX10_addLamp_X5_ofKind
theorem dX10_addLamp_0 : decode cX10_addLamp 0 = .ok (.iload_n 2, 1) := by decide +kernel
theorem dX10_addLamp_1 : decode cX10_addLamp 1 = .ok (.invokestatic 57, 3) := by decide +kernel
theorem dX10_addLamp_4 : decode cX10_addLamp 4 = .ok (.ifCond .eq 12, 3) := by decide +kernel
theorem dX10_addLamp_7 : decode cX10_addLamp 7 = .ok (.iload_n 3, 1) := by decide +kernel
theorem dX10_addLamp_8 : decode cX10_addLamp 8 = .ok (.ifCond .lt 8, 3) := by decide +kernel
theorem dX10_addLamp_11 : decode cX10_addLamp 11 = .ok (.iload_n 3, 1) := by decide +kernel
theorem dX10_addLamp_12 : decode cX10_addLamp 12 = .ok (.iconst 5, 1) := by decide +kernel
theorem dX10_addLamp_13 : decode cX10_addLamp 13 = .ok (.if_icmp .le 5, 3) := by decide +kernel
theorem dX10_addLamp_16 : decode cX10_addLamp 16 = .ok (.iconst (-1), 1) := by decide +kernel
theorem dX10_addLamp_17 : decode cX10_addLamp 17 = .ok (.ireturn, 1) := by decide +kernel
theorem dX10_addLamp_18 : decode cX10_addLamp 18 = .ok (.aload_n 0, 1) := by decide +kernel
theorem dX10_addLamp_19 : decode cX10_addLamp 19 = .ok (.getfield 37, 3) := by decide +kernel
theorem dX10_addLamp_22 : decode cX10_addLamp 22 = .ok (.ifCond .lt 15, 3) := by decide +kernel
theorem dX10_addLamp_25 : decode cX10_addLamp 25 = .ok (.aload_n 0, 1) := by decide +kernel
theorem dX10_addLamp_26 : decode cX10_addLamp 26 = .ok (.getfield 37, 3) := by decide +kernel
theorem dX10_addLamp_29 : decode cX10_addLamp 29 = .ok (.aload_n 0, 1) := by decide +kernel
theorem dX10_addLamp_30 : decode cX10_addLamp 30 = .ok (.getfield 11, 3) := by decide +kernel
theorem dX10_addLamp_33 : decode cX10_addLamp 33 = .ok (.arraylength, 1) := by decide +kernel
theorem dX10_addLamp_34 : decode cX10_addLamp 34 = .ok (.if_icmp .lt 6, 3) := by decide +kernel
theorem dX10_addLamp_37 : decode cX10_addLamp 37 = .ok (.bipush (-6), 2) := by decide +kernel
theorem dX10_addLamp_39 : decode cX10_addLamp 39 = .ok (.ireturn, 1) := by decide +kernel
theorem dX10_addLamp_40 : decode cX10_addLamp 40 = .ok (.iload_n 1, 1) := by decide +kernel
theorem dX10_addLamp_41 : decode cX10_addLamp 41 = .ok (.invokestatic 61, 3) := by decide +kernel
theorem dX10_addLamp_44 : decode cX10_addLamp 44 = .ok (.astore 4, 2) := by decide +kernel
theorem dX10_addLamp_46 : decode cX10_addLamp 46 = .ok (.aload 4, 2) := by decide +kernel
theorem dX10_addLamp_48 : decode cX10_addLamp 48 = .ok (.iload_n 2, 1) := by decide +kernel
theorem dX10_addLamp_49 : decode cX10_addLamp 49 = .ok (.putfield 64, 3) := by decide +kernel
theorem dX10_addLamp_52 : decode cX10_addLamp 52 = .ok (.aload 4, 2) := by decide +kernel
theorem dX10_addLamp_54 : decode cX10_addLamp 54 = .ok (.iload_n 3, 1) := by decide +kernel
theorem dX10_addLamp_55 : decode cX10_addLamp 55 = .ok (.putfield 67, 3) := by decide +kernel
theorem dX10_addLamp_58 : decode cX10_addLamp 58 = .ok (.aload_n 0, 1) := by decide +kernel
theorem dX10_addLamp_59 : decode cX10_addLamp 59 = .ok (.getfield 11, 3) := by decide +kernel
theorem dX10_addLamp_62 : decode cX10_addLamp 62 = .ok (.aload_n 0, 1) := by decide +kernel
theorem dX10_addLamp_63 : decode cX10_addLamp 63 = .ok (.getfield 37, 3) := by decide +kernel
theorem dX10_addLamp_66 : decode cX10_addLamp 66 = .ok (.aload 4, 2) := by decide +kernel
theorem dX10_addLamp_68 : decode cX10_addLamp 68 = .ok (.aastore, 1) := by decide +kernel
theorem dX10_addLamp_69 : decode cX10_addLamp 69 = .ok (.aload_n 0, 1) := by decide +kernel
theorem dX10_addLamp_70 : decode cX10_addLamp 70 = .ok (.dup, 1) := by decide +kernel
theorem dX10_addLamp_71 : decode cX10_addLamp 71 = .ok (.getfield 37, 3) := by decide +kernel
theorem dX10_addLamp_74 : decode cX10_addLamp 74 = .ok (.iconst 1, 1) := by decide +kernel
theorem dX10_addLamp_75 : decode cX10_addLamp 75 = .ok (.iadd, 1) := by decide +kernel
theorem dX10_addLamp_76 : decode cX10_addLamp 76 = .ok (.putfield 37, 3) := by decide +kernel
theorem dX10_addLamp_79 : decode cX10_addLamp 79 = .ok (.aload_n 0, 1) := by decide +kernel
theorem dX10_addLamp_80 : decode cX10_addLamp 80 = .ok (.getfield 37, 3) := by decide +kernel
theorem dX10_addLamp_83 : decode cX10_addLamp 83 = .ok (.iconst 1, 1) := by decide +kernel
theorem dX10_addLamp_84 : decode cX10_addLamp 84 = .ok (.isub, 1) := by decide +kernel
theorem dX10_addLamp_85 : decode cX10_addLamp 85 = .ok (.ireturn, 1) := by decide +kernel
set_option maxRecDepth 20000 in
theorem ggX10_turnWall_X2_isOne : GoodIn wsX10_turnWall wsX2_isOne := goodIn_r _ [5] (by decide +kernel) (by decide +kernel)
set_option maxRecDepth 20000 in
theorem gX10_turnWall_X2_isOne : GoodIn wsX10_turnWall (va_wsS RX10 57 yX2_isOne wsX2_isOne) := goodIn_app (goodIn_of _ (by decide +kernel)) ggX10_turnWall_X2_isOne
set_option maxRecDepth 20000 in
theorem ggX10_turnWall_X10_peopled : GoodIn wsX10_turnWall wsX10_peopled := goodIn_r _ [10, 11, 12, 13, 14, 9, 15, 16, 17, 18, 4, 19, 38, 39, 40, 41, 42, 43] (by decide +kernel) (by decide +kernel)
set_option maxRecDepth 20000 in
theorem gX10_turnWall_X10_peopled : GoodIn wsX10_turnWall (wsV RX10 70 RX10 yX10_peopled wsX10_peopled) := goodIn_app (goodIn_of _ (by decide +kernel)) ggX10_turnWall_X10_peopled
set_option maxRecDepth 20000 in
theorem ggX10_turnWall_X2_has : GoodIn wsX10_turnWall wsX2_has := goodIn_r _ [22, 23, 18, 4, 19] (by decide +kernel) (by decide +kernel)
set_option maxRecDepth 20000 in
theorem gX10_turnWall_X2_has : GoodIn wsX10_turnWall (va_wsS RX10 74 yX2_has wsX2_has) := goodIn_app (goodIn_of _ (by decide +kernel)) ggX10_turnWall_X2_has
set_option maxRecDepth 20000 in
theorem ggX10_turnWall_X2_howMany : GoodIn wsX10_turnWall wsX2_howMany := goodIn_r _ [26, 27, 28, 29, 30, 31, 32, 33, 34] (by decide +kernel) (by decide +kernel)
set_option maxRecDepth 20000 in
theorem gX10_turnWall_X2_howMany : GoodIn wsX10_turnWall (va_wsS RX10 78 yX2_howMany wsX2_howMany) := goodIn_app (goodIn_of _ (by decide +kernel)) ggX10_turnWall_X2_howMany
set_option maxRecDepth 20000 in
theorem ggX10_turnWall_X2_only : GoodIn wsX10_turnWall wsX2_only := goodIn_r _ [19] (by decide +kernel) (by decide +kernel)
set_option maxRecDepth 20000 in
theorem gX10_turnWall_X2_only : GoodIn wsX10_turnWall (va_wsS RX10 53 yX2_only wsX2_only) := goodIn_app (goodIn_of _ (by decide +kernel)) ggX10_turnWall_X2_only
set_option maxRecDepth 20000 in
theorem ggX10_turnWall_X11_yes : GoodIn wsX10_turnWall wsX11_yes := goodIn_r _ [37] (by decide +kernel) (by decide +kernel)
set_option maxRecDepth 20000 in
theorem gX10_turnWall_X11_yes_n82 : GoodIn wsX10_turnWall (wsX11_yes) := ggX10_turnWall_X11_yes
theorem dX10_turnWall_0 : decode cX10_turnWall 0 = .ok (.iload_n 1, 1) := by decide +kernel
theorem dX10_turnWall_1 : decode cX10_turnWall 1 = .ok (.invokestatic 57, 3) := by decide +kernel
theorem dX10_turnWall_4 : decode cX10_turnWall 4 = .ok (.ifCond .ne 5, 3) := by decide +kernel
theorem dX10_turnWall_7 : decode cX10_turnWall 7 = .ok (.iconst (-1), 1) := by decide +kernel
theorem dX10_turnWall_8 : decode cX10_turnWall 8 = .ok (.ireturn, 1) := by decide +kernel
theorem dX10_turnWall_9 : decode cX10_turnWall 9 = .ok (.aload_n 0, 1) := by decide +kernel
theorem dX10_turnWall_10 : decode cX10_turnWall 10 = .ok (.invokevirtual 70, 3) := by decide +kernel
theorem dX10_turnWall_13 : decode cX10_turnWall 13 = .ok (.iload_n 1, 1) := by decide +kernel
theorem dX10_turnWall_14 : decode cX10_turnWall 14 = .ok (.invokestatic 74, 3) := by decide +kernel
theorem dX10_turnWall_17 : decode cX10_turnWall 17 = .ok (.ifCond .eq 6, 3) := by decide +kernel
theorem dX10_turnWall_20 : decode cX10_turnWall 20 = .ok (.bipush (-3), 2) := by decide +kernel
theorem dX10_turnWall_22 : decode cX10_turnWall 22 = .ok (.ireturn, 1) := by decide +kernel
theorem dX10_turnWall_23 : decode cX10_turnWall 23 = .ok (.aload_n 0, 1) := by decide +kernel
theorem dX10_turnWall_24 : decode cX10_turnWall 24 = .ok (.getfield 33, 3) := by decide +kernel
theorem dX10_turnWall_27 : decode cX10_turnWall 27 = .ok (.iload_n 1, 1) := by decide +kernel
theorem dX10_turnWall_28 : decode cX10_turnWall 28 = .ok (.invokestatic 74, 3) := by decide +kernel
theorem dX10_turnWall_31 : decode cX10_turnWall 31 = .ok (.istore_n 2, 1) := by decide +kernel
theorem dX10_turnWall_32 : decode cX10_turnWall 32 = .ok (.iload_n 2, 1) := by decide +kernel
theorem dX10_turnWall_33 : decode cX10_turnWall 33 = .ok (.ifCond .ne 18, 3) := by decide +kernel
theorem dX10_turnWall_36 : decode cX10_turnWall 36 = .ok (.aload_n 0, 1) := by decide +kernel
theorem dX10_turnWall_37 : decode cX10_turnWall 37 = .ok (.getfield 33, 3) := by decide +kernel
theorem dX10_turnWall_40 : decode cX10_turnWall 40 = .ok (.invokestatic 78, 3) := by decide +kernel
theorem dX10_turnWall_43 : decode cX10_turnWall 43 = .ok (.bipush 18, 2) := by decide +kernel
theorem dX10_turnWall_45 : decode cX10_turnWall 45 = .ok (.if_icmp .lt 6, 3) := by decide +kernel
theorem dX10_turnWall_48 : decode cX10_turnWall 48 = .ok (.bipush (-6), 2) := by decide +kernel
theorem dX10_turnWall_50 : decode cX10_turnWall 50 = .ok (.ireturn, 1) := by decide +kernel
theorem dX10_turnWall_51 : decode cX10_turnWall 51 = .ok (.aload_n 0, 1) := by decide +kernel
theorem dX10_turnWall_52 : decode cX10_turnWall 52 = .ok (.dup, 1) := by decide +kernel
theorem dX10_turnWall_53 : decode cX10_turnWall 53 = .ok (.getfield 33, 3) := by decide +kernel
theorem dX10_turnWall_56 : decode cX10_turnWall 56 = .ok (.iload_n 1, 1) := by decide +kernel
theorem dX10_turnWall_57 : decode cX10_turnWall 57 = .ok (.invokestatic 53, 3) := by decide +kernel
theorem dX10_turnWall_60 : decode cX10_turnWall 60 = .ok (.lxor, 1) := by decide +kernel
theorem dX10_turnWall_61 : decode cX10_turnWall 61 = .ok (.putfield 33, 3) := by decide +kernel
theorem dX10_turnWall_64 : decode cX10_turnWall 64 = .ok (.iload_n 2, 1) := by decide +kernel
theorem dX10_turnWall_65 : decode cX10_turnWall 65 = .ok (.ifCond .ne 7, 3) := by decide +kernel
theorem dX10_turnWall_68 : decode cX10_turnWall 68 = .ok (.iconst 1, 1) := by decide +kernel
theorem dX10_turnWall_69 : decode cX10_turnWall 69 = .ok (.goto 4, 3) := by decide +kernel
theorem dX10_turnWall_72 : decode cX10_turnWall 72 = .ok (.iconst 0, 1) := by decide +kernel
theorem dX10_turnWall_73 : decode cX10_turnWall 73 = .ok (.invokestatic 82, 3) := by decide +kernel
theorem dX10_turnWall_76 : decode cX10_turnWall 76 = .ok (.ireturn, 1) := by decide +kernel
set_option maxRecDepth 20000 in
theorem ggX10_addPerson_X2_isOne : GoodIn wsX10_addPerson wsX2_isOne := goodIn_r _ [7] (by decide +kernel) (by decide +kernel)
set_option maxRecDepth 20000 in
theorem gX10_addPerson_X2_isOne : GoodIn wsX10_addPerson (va_wsS RX10 57 yX2_isOne wsX2_isOne) := goodIn_app (goodIn_of _ (by decide +kernel)) ggX10_addPerson_X2_isOne
set_option maxRecDepth 20000 in
theorem ggX10_addPerson_X2_has : GoodIn wsX10_addPerson wsX2_has := goodIn_r _ [10, 11, 12, 6, 13] (by decide +kernel) (by decide +kernel)
set_option maxRecDepth 20000 in
theorem gX10_addPerson_X2_has : GoodIn wsX10_addPerson (va_wsS RX10 74 yX2_has wsX2_has) := goodIn_app (goodIn_of _ (by decide +kernel)) ggX10_addPerson_X2_has
theorem dX10_addPerson_0 : decode cX10_addPerson 0 = .ok (.iload_n 1, 1) := by decide +kernel
theorem dX10_addPerson_1 : decode cX10_addPerson 1 = .ok (.invokestatic 57, 3) := by decide +kernel
theorem dX10_addPerson_4 : decode cX10_addPerson 4 = .ok (.ifCond .ne 5, 3) := by decide +kernel
theorem dX10_addPerson_7 : decode cX10_addPerson 7 = .ok (.iconst (-1), 1) := by decide +kernel
theorem dX10_addPerson_8 : decode cX10_addPerson 8 = .ok (.ireturn, 1) := by decide +kernel
theorem dX10_addPerson_9 : decode cX10_addPerson 9 = .ok (.aload_n 0, 1) := by decide +kernel
theorem dX10_addPerson_10 : decode cX10_addPerson 10 = .ok (.getfield 33, 3) := by decide +kernel
theorem dX10_addPerson_13 : decode cX10_addPerson 13 = .ok (.iload_n 1, 1) := by decide +kernel
theorem dX10_addPerson_14 : decode cX10_addPerson 14 = .ok (.invokestatic 74, 3) := by decide +kernel
theorem dX10_addPerson_17 : decode cX10_addPerson 17 = .ok (.ifCond .eq 6, 3) := by decide +kernel
theorem dX10_addPerson_20 : decode cX10_addPerson 20 = .ok (.bipush (-3), 2) := by decide +kernel
theorem dX10_addPerson_22 : decode cX10_addPerson 22 = .ok (.ireturn, 1) := by decide +kernel
theorem dX10_addPerson_23 : decode cX10_addPerson 23 = .ok (.aload_n 0, 1) := by decide +kernel
theorem dX10_addPerson_24 : decode cX10_addPerson 24 = .ok (.getfield 41, 3) := by decide +kernel
theorem dX10_addPerson_27 : decode cX10_addPerson 27 = .ok (.ifCond .lt 15, 3) := by decide +kernel
theorem dX10_addPerson_30 : decode cX10_addPerson 30 = .ok (.aload_n 0, 1) := by decide +kernel
theorem dX10_addPerson_31 : decode cX10_addPerson 31 = .ok (.getfield 41, 3) := by decide +kernel
theorem dX10_addPerson_34 : decode cX10_addPerson 34 = .ok (.aload_n 0, 1) := by decide +kernel
theorem dX10_addPerson_35 : decode cX10_addPerson 35 = .ok (.getfield 17, 3) := by decide +kernel
theorem dX10_addPerson_38 : decode cX10_addPerson 38 = .ok (.arraylength, 1) := by decide +kernel
theorem dX10_addPerson_39 : decode cX10_addPerson 39 = .ok (.if_icmp .lt 6, 3) := by decide +kernel
theorem dX10_addPerson_42 : decode cX10_addPerson 42 = .ok (.bipush (-6), 2) := by decide +kernel
theorem dX10_addPerson_44 : decode cX10_addPerson 44 = .ok (.ireturn, 1) := by decide +kernel
theorem dX10_addPerson_45 : decode cX10_addPerson 45 = .ok (.aload_n 0, 1) := by decide +kernel
theorem dX10_addPerson_46 : decode cX10_addPerson 46 = .ok (.getfield 17, 3) := by decide +kernel
theorem dX10_addPerson_49 : decode cX10_addPerson 49 = .ok (.aload_n 0, 1) := by decide +kernel
theorem dX10_addPerson_50 : decode cX10_addPerson 50 = .ok (.getfield 41, 3) := by decide +kernel
theorem dX10_addPerson_53 : decode cX10_addPerson 53 = .ok (.iload_n 1, 1) := by decide +kernel
theorem dX10_addPerson_54 : decode cX10_addPerson 54 = .ok (.iastore, 1) := by decide +kernel
theorem dX10_addPerson_55 : decode cX10_addPerson 55 = .ok (.aload_n 0, 1) := by decide +kernel
theorem dX10_addPerson_56 : decode cX10_addPerson 56 = .ok (.dup, 1) := by decide +kernel
theorem dX10_addPerson_57 : decode cX10_addPerson 57 = .ok (.getfield 41, 3) := by decide +kernel
theorem dX10_addPerson_60 : decode cX10_addPerson 60 = .ok (.iconst 1, 1) := by decide +kernel
theorem dX10_addPerson_61 : decode cX10_addPerson 61 = .ok (.iadd, 1) := by decide +kernel
theorem dX10_addPerson_62 : decode cX10_addPerson 62 = .ok (.putfield 41, 3) := by decide +kernel
theorem dX10_addPerson_65 : decode cX10_addPerson 65 = .ok (.aload_n 0, 1) := by decide +kernel
theorem dX10_addPerson_66 : decode cX10_addPerson 66 = .ok (.getfield 41, 3) := by decide +kernel
theorem dX10_addPerson_69 : decode cX10_addPerson 69 = .ok (.iconst 1, 1) := by decide +kernel
theorem dX10_addPerson_70 : decode cX10_addPerson 70 = .ok (.isub, 1) := by decide +kernel
theorem dX10_addPerson_71 : decode cX10_addPerson 71 = .ok (.ireturn, 1) := by decide +kernel
set_option maxRecDepth 20000 in
theorem ggX10_walk_X10_isPerson : GoodIn wsX10_walk wsX10_isPerson := goodIn_r _ [7, 8, 183, 184, 185, 186, 187, 188] (by decide +kernel) (by decide +kernel)
set_option maxRecDepth 20000 in
theorem gX10_walk_X10_isPerson : GoodIn wsX10_walk (wsV RX10 86 RX10 yX10_isPerson wsX10_isPerson) := goodIn_app (goodIn_of _ (by decide +kernel)) ggX10_walk_X10_isPerson
set_option maxRecDepth 20000 in
theorem ggX10_walk_X2_isOne : GoodIn wsX10_walk wsX2_isOne := goodIn_r _ [12] (by decide +kernel) (by decide +kernel)
set_option maxRecDepth 20000 in
theorem gX10_walk_X2_isOne : GoodIn wsX10_walk (va_wsS RX10 57 yX2_isOne wsX2_isOne) := goodIn_app (goodIn_of _ (by decide +kernel)) ggX10_walk_X2_isOne
set_option maxRecDepth 20000 in
theorem ggX10_walk_X10_free : GoodIn wsX10_walk wsX10_free := goodIn_r _ [16, 17, 18, 19, 183, 184, 185, 186, 187, 188] (by decide +kernel) (by decide +kernel)
set_option maxRecDepth 20000 in
theorem gX10_walk_X10_free : GoodIn wsX10_walk (wsV RX10 89 RX10 yX10_free wsX10_free) := goodIn_app (goodIn_of _ (by decide +kernel)) ggX10_walk_X10_free
set_option maxRecDepth 20000 in
theorem ggX10_walk_X2_fewestSteps : GoodIn wsX10_walk wsX2_fewestSteps := goodIn_r _ [22, 23, 24, 11, 25, 26, 27, 28, 29, 30, 31, 32, 33] (by decide +kernel) (by decide +kernel)
set_option maxRecDepth 20000 in
theorem gX10_walk_X2_fewestSteps : GoodIn wsX10_walk (va_wsS RX10 92 yX2_fewestSteps wsX2_fewestSteps) := goodIn_app (goodIn_of _ (by decide +kernel)) ggX10_walk_X2_fewestSteps
set_option maxRecDepth 20000 in
theorem ggX10_walk_X2_within : GoodIn wsX10_walk wsX2_within := goodIn_r _ [36, 23, 24, 11, 25, 29, 30, 31, 32, 33] (by decide +kernel) (by decide +kernel)
set_option maxRecDepth 20000 in
theorem gX10_walk_X2_within : GoodIn wsX10_walk (va_wsS RX10 96 yX2_within wsX2_within) := goodIn_app (goodIn_of _ (by decide +kernel)) ggX10_walk_X2_within
set_option maxRecDepth 20000 in
theorem ggX10_walk_X2_byNumber : GoodIn wsX10_walk wsX2_byNumber := goodIn_r _ [39, 26, 27, 11, 28, 23, 24, 25] (by decide +kernel) (by decide +kernel)
set_option maxRecDepth 20000 in
theorem gX10_walk_X2_byNumber : GoodIn wsX10_walk (va_wsS RX10 100 yX2_byNumber wsX2_byNumber) := goodIn_app (goodIn_of _ (by decide +kernel)) ggX10_walk_X2_byNumber
set_option maxRecDepth 20000 in
theorem ggX10_walk_X10_lampsKeep : GoodIn wsX10_walk wsX10_lampsKeep := goodIn_r _ [43, 44, 45, 2, 46, 47, 48, 6, 49, 50, 51, 52, 53, 54, 55, 56, 57, 58, 59, 60, 61, 62, 63, 64, 65, 66, 67, 68, 69, 70, 71, 72, 73, 74, 8, 1, 75, 76, 77, 78, 79, 80, 81, 14, 15, 16, 17, 18, 19, 82, 35, 11, 36, 23, 24, 25, 29, 30, 31, 32, 33, 83, 84, 85, 86, 87, 88, 89, 90, 27, 28, 91, 92, 93, 94, 95, 96, 97, 98, 99, 100, 101, 102, 103, 104, 105, 106, 107, 108, 109, 110, 111, 112, 113, 114, 115, 116, 117, 118, 119, 120, 121, 122, 123, 124, 125, 126, 127, 128, 129, 130, 131, 132, 133, 134, 135, 136, 137, 138, 139, 140, 141, 142, 143, 144, 145, 146, 147, 148, 149, 150, 151, 152, 153, 154, 155, 156, 157, 158, 159, 160, 161, 162, 163, 164, 165, 166, 167, 168, 169, 170, 171, 172, 173, 174, 175, 176, 177, 178, 179, 180, 181, 182, 183, 184, 185, 186, 187, 188, 189, 190, 191, 192, 193, 194, 195, 196, 197, 198, 199, 200, 201, 202, 203, 204, 205, 206, 207, 208, 209, 210, 211, 212, 213, 214, 215, 216, 217, 218, 219, 220, 221, 222, 223] (by decide +kernel) (by decide +kernel)
set_option maxRecDepth 20000 in
theorem gX10_walk_X10_lampsKeep : GoodIn wsX10_walk (wsV RX10 104 RX10 yX10_lampsKeep wsX10_lampsKeep) := goodIn_app (goodIn_of _ (by decide +kernel)) ggX10_walk_X10_lampsKeep
theorem dX10_walk_0 : decode cX10_walk 0 = .ok (.aload_n 0, 1) := by decide +kernel
theorem dX10_walk_1 : decode cX10_walk 1 = .ok (.iload_n 1, 1) := by decide +kernel
theorem dX10_walk_2 : decode cX10_walk 2 = .ok (.invokevirtual 86, 3) := by decide +kernel
theorem dX10_walk_5 : decode cX10_walk 5 = .ok (.ifCond .eq 19, 3) := by decide +kernel
theorem dX10_walk_8 : decode cX10_walk 8 = .ok (.iload_n 1, 1) := by decide +kernel
theorem dX10_walk_9 : decode cX10_walk 9 = .ok (.aload_n 0, 1) := by decide +kernel
theorem dX10_walk_10 : decode cX10_walk 10 = .ok (.getfield 17, 3) := by decide +kernel
theorem dX10_walk_13 : decode cX10_walk 13 = .ok (.arraylength, 1) := by decide +kernel
theorem dX10_walk_14 : decode cX10_walk 14 = .ok (.if_icmp .ge 10, 3) := by decide +kernel
theorem dX10_walk_17 : decode cX10_walk 17 = .ok (.iload_n 2, 1) := by decide +kernel
theorem dX10_walk_18 : decode cX10_walk 18 = .ok (.invokestatic 57, 3) := by decide +kernel
theorem dX10_walk_21 : decode cX10_walk 21 = .ok (.ifCond .ne 5, 3) := by decide +kernel
theorem dX10_walk_24 : decode cX10_walk 24 = .ok (.iconst (-1), 1) := by decide +kernel
theorem dX10_walk_25 : decode cX10_walk 25 = .ok (.ireturn, 1) := by decide +kernel
theorem dX10_walk_26 : decode cX10_walk 26 = .ok (.aload_n 0, 1) := by decide +kernel
theorem dX10_walk_27 : decode cX10_walk 27 = .ok (.getfield 17, 3) := by decide +kernel
theorem dX10_walk_30 : decode cX10_walk 30 = .ok (.iload_n 1, 1) := by decide +kernel
theorem dX10_walk_31 : decode cX10_walk 31 = .ok (.iaload, 1) := by decide +kernel
theorem dX10_walk_32 : decode cX10_walk 32 = .ok (.iload_n 2, 1) := by decide +kernel
theorem dX10_walk_33 : decode cX10_walk 33 = .ok (.aload_n 0, 1) := by decide +kernel
theorem dX10_walk_34 : decode cX10_walk 34 = .ok (.invokevirtual 89, 3) := by decide +kernel
theorem dX10_walk_37 : decode cX10_walk 37 = .ok (.invokestatic 92, 3) := by decide +kernel
theorem dX10_walk_40 : decode cX10_walk 40 = .ok (.istore_n 3, 1) := by decide +kernel
theorem dX10_walk_41 : decode cX10_walk 41 = .ok (.iload_n 3, 1) := by decide +kernel
theorem dX10_walk_42 : decode cX10_walk 42 = .ok (.ifCond .ge 6, 3) := by decide +kernel
theorem dX10_walk_45 : decode cX10_walk 45 = .ok (.bipush (-3), 2) := by decide +kernel
theorem dX10_walk_47 : decode cX10_walk 47 = .ok (.ireturn, 1) := by decide +kernel
theorem dX10_walk_48 : decode cX10_walk 48 = .ok (.aload_n 0, 1) := by decide +kernel
theorem dX10_walk_49 : decode cX10_walk 49 = .ok (.getfield 44, 3) := by decide +kernel
theorem dX10_walk_52 : decode cX10_walk 52 = .ok (.iload_n 3, 1) := by decide +kernel
theorem dX10_walk_53 : decode cX10_walk 53 = .ok (.iadd, 1) := by decide +kernel
theorem dX10_walk_54 : decode cX10_walk 54 = .ok (.sipush 9999, 3) := by decide +kernel
theorem dX10_walk_57 : decode cX10_walk 57 = .ok (.if_icmp .le 6, 3) := by decide +kernel
theorem dX10_walk_60 : decode cX10_walk 60 = .ok (.bipush (-6), 2) := by decide +kernel
theorem dX10_walk_62 : decode cX10_walk 62 = .ok (.ireturn, 1) := by decide +kernel
theorem dX10_walk_63 : decode cX10_walk 63 = .ok (.iload_n 3, 1) := by decide +kernel
theorem dX10_walk_64 : decode cX10_walk 64 = .ok (.iconst 1, 1) := by decide +kernel
theorem dX10_walk_65 : decode cX10_walk 65 = .ok (.isub, 1) := by decide +kernel
theorem dX10_walk_66 : decode cX10_walk 66 = .ok (.istore 4, 2) := by decide +kernel
theorem dX10_walk_68 : decode cX10_walk 68 = .ok (.iload 4, 2) := by decide +kernel
theorem dX10_walk_70 : decode cX10_walk 70 = .ok (.ifCond .lt 69, 3) := by decide +kernel
theorem dX10_walk_73 : decode cX10_walk 73 = .ok (.aload_n 0, 1) := by decide +kernel
theorem dX10_walk_74 : decode cX10_walk 74 = .ok (.getfield 17, 3) := by decide +kernel
theorem dX10_walk_77 : decode cX10_walk 77 = .ok (.iload_n 1, 1) := by decide +kernel
theorem dX10_walk_78 : decode cX10_walk 78 = .ok (.iaload, 1) := by decide +kernel
theorem dX10_walk_79 : decode cX10_walk 79 = .ok (.iconst 1, 1) := by decide +kernel
theorem dX10_walk_80 : decode cX10_walk 80 = .ok (.aload_n 0, 1) := by decide +kernel
theorem dX10_walk_81 : decode cX10_walk 81 = .ok (.invokevirtual 89, 3) := by decide +kernel
theorem dX10_walk_84 : decode cX10_walk 84 = .ok (.invokestatic 96, 3) := by decide +kernel
theorem dX10_walk_87 : decode cX10_walk 87 = .ok (.iload_n 2, 1) := by decide +kernel
theorem dX10_walk_88 : decode cX10_walk 88 = .ok (.iload 4, 2) := by decide +kernel
theorem dX10_walk_90 : decode cX10_walk 90 = .ok (.aload_n 0, 1) := by decide +kernel
theorem dX10_walk_91 : decode cX10_walk 91 = .ok (.invokevirtual 89, 3) := by decide +kernel
theorem dX10_walk_94 : decode cX10_walk 94 = .ok (.invokestatic 96, 3) := by decide +kernel
theorem dX10_walk_97 : decode cX10_walk 97 = .ok (.land, 1) := by decide +kernel
theorem dX10_walk_98 : decode cX10_walk 98 = .ok (.lstore 5, 2) := by decide +kernel
theorem dX10_walk_100 : decode cX10_walk 100 = .ok (.aload_n 0, 1) := by decide +kernel
theorem dX10_walk_101 : decode cX10_walk 101 = .ok (.getfield 17, 3) := by decide +kernel
theorem dX10_walk_104 : decode cX10_walk 104 = .ok (.iload_n 1, 1) := by decide +kernel
theorem dX10_walk_105 : decode cX10_walk 105 = .ok (.lload 5, 2) := by decide +kernel
theorem dX10_walk_107 : decode cX10_walk 107 = .ok (.iconst 0, 1) := by decide +kernel
theorem dX10_walk_108 : decode cX10_walk 108 = .ok (.invokestatic 100, 3) := by decide +kernel
theorem dX10_walk_111 : decode cX10_walk 111 = .ok (.iastore, 1) := by decide +kernel
theorem dX10_walk_112 : decode cX10_walk 112 = .ok (.aload_n 0, 1) := by decide +kernel
theorem dX10_walk_113 : decode cX10_walk 113 = .ok (.dup, 1) := by decide +kernel
theorem dX10_walk_114 : decode cX10_walk 114 = .ok (.getfield 44, 3) := by decide +kernel
theorem dX10_walk_117 : decode cX10_walk 117 = .ok (.iconst 1, 1) := by decide +kernel
theorem dX10_walk_118 : decode cX10_walk 118 = .ok (.iadd, 1) := by decide +kernel
theorem dX10_walk_119 : decode cX10_walk 119 = .ok (.putfield 44, 3) := by decide +kernel
theorem dX10_walk_122 : decode cX10_walk 122 = .ok (.aload_n 0, 1) := by decide +kernel
theorem dX10_walk_123 : decode cX10_walk 123 = .ok (.iload_n 1, 1) := by decide +kernel
theorem dX10_walk_124 : decode cX10_walk 124 = .ok (.aload_n 0, 1) := by decide +kernel
theorem dX10_walk_125 : decode cX10_walk 125 = .ok (.getfield 17, 3) := by decide +kernel
theorem dX10_walk_128 : decode cX10_walk 128 = .ok (.iload_n 1, 1) := by decide +kernel
theorem dX10_walk_129 : decode cX10_walk 129 = .ok (.iaload, 1) := by decide +kernel
theorem dX10_walk_130 : decode cX10_walk 130 = .ok (.invokevirtual 104, 3) := by decide +kernel
theorem dX10_walk_133 : decode cX10_walk 133 = .ok (.iinc 4 (-1), 3) := by decide +kernel
theorem dX10_walk_136 : decode cX10_walk 136 = .ok (.goto (-68), 3) := by decide +kernel
theorem dX10_walk_139 : decode cX10_walk 139 = .ok (.iload_n 3, 1) := by decide +kernel
theorem dX10_walk_140 : decode cX10_walk 140 = .ok (.ireturn, 1) := by decide +kernel
set_option maxRecDepth 20000 in
theorem ggX10_lampsKeep_X10_lampAt : GoodIn wsX10_lampsKeep wsX10_lampAt := goodIn_r _ [8, 1, 9, 163, 164, 165, 166, 167, 168] (by decide +kernel) (by decide +kernel)
set_option maxRecDepth 20000 in
theorem gX10_lampsKeep_X10_lampAt : GoodIn wsX10_lampsKeep (wsV RX10 21 RX10 yX10_lampAt wsX10_lampAt) := goodIn_app (goodIn_of _ (by decide +kernel)) ggX10_lampsKeep_X10_lampAt
set_option maxRecDepth 20000 in
theorem ggX10_lampsKeep_X5_glow : GoodIn wsX10_lampsKeep wsX5_glow := goodIn_r _ [15, 16, 17, 18, 19, 20, 14, 21, 22, 23, 24, 25, 26, 27, 28, 29, 30, 31, 32, 7, 33, 34, 35, 36, 37, 38, 39, 40, 41, 42, 43, 44, 45, 46, 47, 48, 49, 50, 51, 52, 53, 54, 55, 56, 57, 58, 59, 60, 169, 170, 171, 172, 173, 174, 175, 176, 177, 178, 179, 180, 181, 182, 183, 184, 185, 186, 187, 188, 189, 190, 191, 192, 193, 194, 195, 196, 197, 198, 199, 200, 201, 202, 203, 163, 164, 165, 166, 167, 168] (by decide +kernel) (by decide +kernel)
set_option maxRecDepth 20000 in
theorem gX10_lampsKeep_X5_glow_u112X0 : GoodIn wsX10_lampsKeep (va_wsU RX10 112 RX0 "LampsThatRemember$Lamp" ⟨"LampsThatRemember$Lamp", "glow", "(LLampsThatRemember$Town;)J"⟩ yX5_glow wsX5_glow) := goodIn_app (goodIn_of _ (by decide +kernel)) ggX10_lampsKeep_X5_glow
set_option maxRecDepth 20000 in
theorem gX10_lampsKeep_X5_glow_u112X1 : GoodIn wsX10_lampsKeep (va_wsU RX10 112 RX1 "LampsThatRemember$Lamp" ⟨"LampsThatRemember$Lamp", "glow", "(LLampsThatRemember$Town;)J"⟩ yX5_glow wsX5_glow) := goodIn_app (goodIn_of _ (by decide +kernel)) ggX10_lampsKeep_X5_glow
set_option maxRecDepth 20000 in
theorem gX10_lampsKeep_X5_glow_u112X3 : GoodIn wsX10_lampsKeep (va_wsU RX10 112 RX3 "LampsThatRemember$Lamp" ⟨"LampsThatRemember$Lamp", "glow", "(LLampsThatRemember$Town;)J"⟩ yX5_glow wsX5_glow) := goodIn_app (goodIn_of _ (by decide +kernel)) ggX10_lampsKeep_X5_glow
set_option maxRecDepth 20000 in
theorem gX10_lampsKeep_X5_glow_u112X4 : GoodIn wsX10_lampsKeep (va_wsU RX10 112 RX4 "LampsThatRemember$Lamp" ⟨"LampsThatRemember$Lamp", "glow", "(LLampsThatRemember$Town;)J"⟩ yX5_glow wsX5_glow) := goodIn_app (goodIn_of _ (by decide +kernel)) ggX10_lampsKeep_X5_glow
set_option maxRecDepth 20000 in
theorem gX10_lampsKeep_X5_glow : GoodIn wsX10_lampsKeep (wsV RX10 112 RX5 yX5_glow wsX5_glow) := goodIn_app (goodIn_of _ (by decide +kernel)) ggX10_lampsKeep_X5_glow
set_option maxRecDepth 20000 in
theorem gX10_lampsKeep_X5_glow_u112X7 : GoodIn wsX10_lampsKeep (va_wsU RX10 112 RX7 "LampsThatRemember$Lamp" ⟨"LampsThatRemember$Lamp", "glow", "(LLampsThatRemember$Town;)J"⟩ yX5_glow wsX5_glow) := goodIn_app (goodIn_of _ (by decide +kernel)) ggX10_lampsKeep_X5_glow
set_option maxRecDepth 20000 in
theorem gX10_lampsKeep_X5_glow_u112X8 : GoodIn wsX10_lampsKeep (va_wsU RX10 112 RX8 "LampsThatRemember$Lamp" ⟨"LampsThatRemember$Lamp", "glow", "(LLampsThatRemember$Town;)J"⟩ yX5_glow wsX5_glow) := goodIn_app (goodIn_of _ (by decide +kernel)) ggX10_lampsKeep_X5_glow
set_option maxRecDepth 20000 in
theorem ggX10_lampsKeep_X2_has : GoodIn wsX10_lampsKeep wsX2_has := goodIn_r _ [70, 53, 54, 51, 55] (by decide +kernel) (by decide +kernel)
set_option maxRecDepth 20000 in
theorem gX10_lampsKeep_X2_has : GoodIn wsX10_lampsKeep (va_wsS RX10 74 yX2_has wsX2_has) := goodIn_app (goodIn_of _ (by decide +kernel)) ggX10_lampsKeep_X2_has
set_option maxRecDepth 20000 in
theorem ggX10_lampsKeep_X5_keep : GoodIn wsX10_lampsKeep wsX5_keep := goodIn_r _ [75, 76, 77, 78, 79, 80, 81, 14, 82, 83, 84, 85, 86, 87, 88, 89, 90, 91, 92, 93, 94, 95, 96, 97, 98, 99, 100, 101, 102, 103, 104, 105, 106, 107, 108, 109, 110, 111, 112, 113, 114, 115, 116, 117, 118, 119, 120, 121, 122, 123, 124, 125, 126, 127, 128, 129, 130, 131, 132, 133, 134, 135, 136, 137, 138, 139, 140, 141, 142, 143, 144, 145, 146, 147, 148, 149, 150, 151, 152, 153, 154, 155, 169, 170, 171, 172, 173, 174, 175, 176, 177, 178, 179, 180, 181, 182, 183, 184, 185, 186, 187, 188, 189, 190, 191, 192, 193, 194, 195, 196, 197, 198, 199, 200, 201, 202, 203] (by decide +kernel) (by decide +kernel)
set_option maxRecDepth 20000 in
theorem gX10_lampsKeep_X5_keep_u116X0 : GoodIn wsX10_lampsKeep (va_wsU RX10 116 RX0 "LampsThatRemember$Lamp" ⟨"LampsThatRemember$Lamp", "keep", "(III)V"⟩ yX5_keep wsX5_keep) := goodIn_app (goodIn_of _ (by decide +kernel)) ggX10_lampsKeep_X5_keep
set_option maxRecDepth 20000 in
theorem gX10_lampsKeep_X5_keep_u116X1 : GoodIn wsX10_lampsKeep (va_wsU RX10 116 RX1 "LampsThatRemember$Lamp" ⟨"LampsThatRemember$Lamp", "keep", "(III)V"⟩ yX5_keep wsX5_keep) := goodIn_app (goodIn_of _ (by decide +kernel)) ggX10_lampsKeep_X5_keep
set_option maxRecDepth 20000 in
theorem gX10_lampsKeep_X5_keep_u116X3 : GoodIn wsX10_lampsKeep (va_wsU RX10 116 RX3 "LampsThatRemember$Lamp" ⟨"LampsThatRemember$Lamp", "keep", "(III)V"⟩ yX5_keep wsX5_keep) := goodIn_app (goodIn_of _ (by decide +kernel)) ggX10_lampsKeep_X5_keep
set_option maxRecDepth 20000 in
theorem gX10_lampsKeep_X5_keep_u116X4 : GoodIn wsX10_lampsKeep (va_wsU RX10 116 RX4 "LampsThatRemember$Lamp" ⟨"LampsThatRemember$Lamp", "keep", "(III)V"⟩ yX5_keep wsX5_keep) := goodIn_app (goodIn_of _ (by decide +kernel)) ggX10_lampsKeep_X5_keep
set_option maxRecDepth 20000 in
theorem gX10_lampsKeep_X5_keep : GoodIn wsX10_lampsKeep (wsV RX10 116 RX5 yX5_keep wsX5_keep) := goodIn_app (goodIn_of _ (by decide +kernel)) ggX10_lampsKeep_X5_keep
set_option maxRecDepth 20000 in
theorem gX10_lampsKeep_X5_keep_u116X7 : GoodIn wsX10_lampsKeep (va_wsU RX10 116 RX7 "LampsThatRemember$Lamp" ⟨"LampsThatRemember$Lamp", "keep", "(III)V"⟩ yX5_keep wsX5_keep) := goodIn_app (goodIn_of _ (by decide +kernel)) ggX10_lampsKeep_X5_keep
set_option maxRecDepth 20000 in
theorem gX10_lampsKeep_X5_keep_u116X8 : GoodIn wsX10_lampsKeep (va_wsU RX10 116 RX8 "LampsThatRemember$Lamp" ⟨"LampsThatRemember$Lamp", "keep", "(III)V"⟩ yX5_keep wsX5_keep) := goodIn_app (goodIn_of _ (by decide +kernel)) ggX10_lampsKeep_X5_keep
theorem dX10_lampsKeep_0 : decode cX10_lampsKeep 0 = .ok (.iconst 0, 1) := by decide +kernel
theorem dX10_lampsKeep_1 : decode cX10_lampsKeep 1 = .ok (.istore_n 3, 1) := by decide +kernel
theorem dX10_lampsKeep_2 : decode cX10_lampsKeep 2 = .ok (.iload_n 3, 1) := by decide +kernel
theorem dX10_lampsKeep_3 : decode cX10_lampsKeep 3 = .ok (.aload_n 0, 1) := by decide +kernel
theorem dX10_lampsKeep_4 : decode cX10_lampsKeep 4 = .ok (.getfield 37, 3) := by decide +kernel
theorem dX10_lampsKeep_7 : decode cX10_lampsKeep 7 = .ok (.if_icmp .ge 53, 3) := by decide +kernel
theorem dX10_lampsKeep_10 : decode cX10_lampsKeep 10 = .ok (.aload_n 0, 1) := by decide +kernel
theorem dX10_lampsKeep_11 : decode cX10_lampsKeep 11 = .ok (.iload_n 3, 1) := by decide +kernel
theorem dX10_lampsKeep_12 : decode cX10_lampsKeep 12 = .ok (.invokevirtual 21, 3) := by decide +kernel
theorem dX10_lampsKeep_15 : decode cX10_lampsKeep 15 = .ok (.astore 4, 2) := by decide +kernel
theorem dX10_lampsKeep_17 : decode cX10_lampsKeep 17 = .ok (.aload 4, 2) := by decide +kernel
theorem dX10_lampsKeep_19 : decode cX10_lampsKeep 19 = .ok (.ifnull 35, 3) := by decide +kernel
theorem dX10_lampsKeep_22 : decode cX10_lampsKeep 22 = .ok (.aload 4, 2) := by decide +kernel
theorem dX10_lampsKeep_24 : decode cX10_lampsKeep 24 = .ok (.getfield 108, 3) := by decide +kernel
theorem dX10_lampsKeep_27 : decode cX10_lampsKeep 27 = .ok (.ifCond .eq 27, 3) := by decide +kernel
theorem dX10_lampsKeep_30 : decode cX10_lampsKeep 30 = .ok (.aload 4, 2) := by decide +kernel
theorem dX10_lampsKeep_32 : decode cX10_lampsKeep 32 = .ok (.aload_n 0, 1) := by decide +kernel
theorem dX10_lampsKeep_33 : decode cX10_lampsKeep 33 = .ok (.invokevirtual 112, 3) := by decide +kernel
theorem dX10_lampsKeep_36 : decode cX10_lampsKeep 36 = .ok (.iload_n 2, 1) := by decide +kernel
theorem dX10_lampsKeep_37 : decode cX10_lampsKeep 37 = .ok (.invokestatic 74, 3) := by decide +kernel
theorem dX10_lampsKeep_40 : decode cX10_lampsKeep 40 = .ok (.ifCond .eq 14, 3) := by decide +kernel
theorem dX10_lampsKeep_43 : decode cX10_lampsKeep 43 = .ok (.aload 4, 2) := by decide +kernel
theorem dX10_lampsKeep_45 : decode cX10_lampsKeep 45 = .ok (.iload_n 1, 1) := by decide +kernel
theorem dX10_lampsKeep_46 : decode cX10_lampsKeep 46 = .ok (.iload_n 2, 1) := by decide +kernel
theorem dX10_lampsKeep_47 : decode cX10_lampsKeep 47 = .ok (.aload_n 0, 1) := by decide +kernel
theorem dX10_lampsKeep_48 : decode cX10_lampsKeep 48 = .ok (.getfield 44, 3) := by decide +kernel
theorem dX10_lampsKeep_51 : decode cX10_lampsKeep 51 = .ok (.invokevirtual 116, 3) := by decide +kernel
theorem dX10_lampsKeep_54 : decode cX10_lampsKeep 54 = .ok (.iinc 3 1, 3) := by decide +kernel
theorem dX10_lampsKeep_57 : decode cX10_lampsKeep 57 = .ok (.goto (-55), 3) := by decide +kernel
theorem dX10_lampsKeep_60 : decode cX10_lampsKeep 60 = .ok (.return_, 1) := by decide +kernel
set_option maxRecDepth 20000 in
theorem ggX10_litBut_X10_litLamps : GoodIn wsX10_litBut wsX10_litLamps := goodIn_r _ [5, 6, 7, 8, 9, 10, 4, 11, 12, 75, 76, 77, 78, 79, 80, 81, 82, 83, 84, 85, 86, 87, 88, 89, 90, 91, 92, 93, 94, 95, 96, 97, 98, 99, 100, 101, 102, 103, 104, 105, 106, 107, 108, 109, 110, 111, 112, 113, 114, 115] (by decide +kernel) (by decide +kernel)
set_option maxRecDepth 20000 in
theorem gX10_litBut_X10_litLamps : GoodIn wsX10_litBut (wsV RX10 120 RX10 yX10_litLamps wsX10_litLamps) := goodIn_app (goodIn_of _ (by decide +kernel)) ggX10_litBut_X10_litLamps
set_option maxRecDepth 20000 in
theorem ggX10_litBut_X10_glowOf : GoodIn wsX10_litBut wsX10_glowOf := goodIn_r _ [16, 6, 8, 9, 10, 4, 11, 12, 17, 18, 19, 20, 21, 22, 23, 24, 25, 26, 27, 28, 29, 30, 31, 32, 33, 34, 35, 36, 37, 38, 39, 40, 41, 42, 43, 44, 45, 46, 47, 48, 49, 50, 51, 52, 53, 54, 55, 56, 57, 58, 59, 60, 61, 62, 63, 64, 65, 66, 67, 68, 69, 70, 71, 72, 73, 74, 75, 76, 77, 78, 79, 80, 81, 82, 83, 84, 85, 86, 87, 88, 89, 90, 91, 92, 93, 94, 95, 96, 97, 98, 99, 100, 101, 102, 103, 104, 105, 106, 107, 108, 109, 110, 111, 112, 113, 114, 115] (by decide +kernel) (by decide +kernel)
set_option maxRecDepth 20000 in
theorem gX10_litBut_X10_glowOf : GoodIn wsX10_litBut (wsV RX10 124 RX10 yX10_glowOf wsX10_glowOf) := goodIn_app (goodIn_of _ (by decide +kernel)) ggX10_litBut_X10_glowOf
theorem dX10_litBut_0 : decode cX10_litBut 0 = .ok (.aload_n 0, 1) := by decide +kernel
theorem dX10_litBut_1 : decode cX10_litBut 1 = .ok (.aload_n 0, 1) := by decide +kernel
theorem dX10_litBut_2 : decode cX10_litBut 2 = .ok (.invokevirtual 120, 3) := by decide +kernel
theorem dX10_litBut_5 : decode cX10_litBut 5 = .ok (.iload_n 1, 1) := by decide +kernel
theorem dX10_litBut_6 : decode cX10_litBut 6 = .ok (.iconst (-1), 1) := by decide +kernel
theorem dX10_litBut_7 : decode cX10_litBut 7 = .ok (.ixor, 1) := by decide +kernel
theorem dX10_litBut_8 : decode cX10_litBut 8 = .ok (.iand, 1) := by decide +kernel
theorem dX10_litBut_9 : decode cX10_litBut 9 = .ok (.invokevirtual 124, 3) := by decide +kernel
theorem dX10_litBut_12 : decode cX10_litBut 12 = .ok (.lreturn, 1) := by decide +kernel
set_option maxRecDepth 20000 in
theorem ggX10_glowOf_X10_lampAt : GoodIn wsX10_glowOf wsX10_lampAt := goodIn_r _ [6, 1, 7, 66, 67, 68, 69, 70, 71] (by decide +kernel) (by decide +kernel)
set_option maxRecDepth 20000 in
theorem gX10_glowOf_X10_lampAt : GoodIn wsX10_glowOf (wsV RX10 21 RX10 yX10_lampAt wsX10_lampAt) := goodIn_app (goodIn_of _ (by decide +kernel)) ggX10_glowOf_X10_lampAt
set_option maxRecDepth 20000 in
theorem ggX10_glowOf_X5_glow : GoodIn wsX10_glowOf wsX5_glow := goodIn_r _ [13, 14, 15, 16, 17, 18, 12, 19, 20, 21, 22, 23, 24, 25, 26, 27, 28, 29, 30, 5, 31, 32, 33, 34, 35, 36, 37, 38, 39, 40, 41, 42, 43, 44, 45, 46, 47, 48, 49, 50, 51, 52, 53, 54, 55, 56, 57, 58, 72, 73, 74, 75, 76, 77, 78, 79, 80, 81, 82, 83, 84, 85, 86, 87, 88, 89, 90, 91, 92, 93, 94, 95, 96, 97, 98, 99, 100, 101, 102, 103, 104, 105, 106, 66, 67, 68, 69, 70, 71] (by decide +kernel) (by decide +kernel)
set_option maxRecDepth 20000 in
theorem gX10_glowOf_X5_glow_u112X0 : GoodIn wsX10_glowOf (va_wsU RX10 112 RX0 "LampsThatRemember$Lamp" ⟨"LampsThatRemember$Lamp", "glow", "(LLampsThatRemember$Town;)J"⟩ yX5_glow wsX5_glow) := goodIn_app (goodIn_of _ (by decide +kernel)) ggX10_glowOf_X5_glow
set_option maxRecDepth 20000 in
theorem gX10_glowOf_X5_glow_u112X1 : GoodIn wsX10_glowOf (va_wsU RX10 112 RX1 "LampsThatRemember$Lamp" ⟨"LampsThatRemember$Lamp", "glow", "(LLampsThatRemember$Town;)J"⟩ yX5_glow wsX5_glow) := goodIn_app (goodIn_of _ (by decide +kernel)) ggX10_glowOf_X5_glow
set_option maxRecDepth 20000 in
theorem gX10_glowOf_X5_glow_u112X3 : GoodIn wsX10_glowOf (va_wsU RX10 112 RX3 "LampsThatRemember$Lamp" ⟨"LampsThatRemember$Lamp", "glow", "(LLampsThatRemember$Town;)J"⟩ yX5_glow wsX5_glow) := goodIn_app (goodIn_of _ (by decide +kernel)) ggX10_glowOf_X5_glow
set_option maxRecDepth 20000 in
theorem gX10_glowOf_X5_glow_u112X4 : GoodIn wsX10_glowOf (va_wsU RX10 112 RX4 "LampsThatRemember$Lamp" ⟨"LampsThatRemember$Lamp", "glow", "(LLampsThatRemember$Town;)J"⟩ yX5_glow wsX5_glow) := goodIn_app (goodIn_of _ (by decide +kernel)) ggX10_glowOf_X5_glow
set_option maxRecDepth 20000 in
theorem gX10_glowOf_X5_glow : GoodIn wsX10_glowOf (wsV RX10 112 RX5 yX5_glow wsX5_glow) := goodIn_app (goodIn_of _ (by decide +kernel)) ggX10_glowOf_X5_glow
set_option maxRecDepth 20000 in
theorem gX10_glowOf_X5_glow_u112X7 : GoodIn wsX10_glowOf (va_wsU RX10 112 RX7 "LampsThatRemember$Lamp" ⟨"LampsThatRemember$Lamp", "glow", "(LLampsThatRemember$Town;)J"⟩ yX5_glow wsX5_glow) := goodIn_app (goodIn_of _ (by decide +kernel)) ggX10_glowOf_X5_glow
set_option maxRecDepth 20000 in
theorem gX10_glowOf_X5_glow_u112X8 : GoodIn wsX10_glowOf (va_wsU RX10 112 RX8 "LampsThatRemember$Lamp" ⟨"LampsThatRemember$Lamp", "glow", "(LLampsThatRemember$Town;)J"⟩ yX5_glow wsX5_glow) := goodIn_app (goodIn_of _ (by decide +kernel)) ggX10_glowOf_X5_glow
theorem dX10_glowOf_0 : decode cX10_glowOf 0 = .ok (.lconst 0, 1) := by decide +kernel
theorem dX10_glowOf_1 : decode cX10_glowOf 1 = .ok (.lstore_n 2, 1) := by decide +kernel
theorem dX10_glowOf_2 : decode cX10_glowOf 2 = .ok (.iconst 0, 1) := by decide +kernel
theorem dX10_glowOf_3 : decode cX10_glowOf 3 = .ok (.istore 4, 2) := by decide +kernel
theorem dX10_glowOf_5 : decode cX10_glowOf 5 = .ok (.iload 4, 2) := by decide +kernel
theorem dX10_glowOf_7 : decode cX10_glowOf 7 = .ok (.aload_n 0, 1) := by decide +kernel
theorem dX10_glowOf_8 : decode cX10_glowOf 8 = .ok (.getfield 37, 3) := by decide +kernel
theorem dX10_glowOf_11 : decode cX10_glowOf 11 = .ok (.if_icmp .ge 41, 3) := by decide +kernel
theorem dX10_glowOf_14 : decode cX10_glowOf 14 = .ok (.aload_n 0, 1) := by decide +kernel
theorem dX10_glowOf_15 : decode cX10_glowOf 15 = .ok (.iload 4, 2) := by decide +kernel
theorem dX10_glowOf_17 : decode cX10_glowOf 17 = .ok (.invokevirtual 21, 3) := by decide +kernel
theorem dX10_glowOf_20 : decode cX10_glowOf 20 = .ok (.astore 5, 2) := by decide +kernel
theorem dX10_glowOf_22 : decode cX10_glowOf 22 = .ok (.aload 5, 2) := by decide +kernel
theorem dX10_glowOf_24 : decode cX10_glowOf 24 = .ok (.ifnull 22, 3) := by decide +kernel
theorem dX10_glowOf_27 : decode cX10_glowOf 27 = .ok (.iload_n 1, 1) := by decide +kernel
theorem dX10_glowOf_28 : decode cX10_glowOf 28 = .ok (.iload 4, 2) := by decide +kernel
theorem dX10_glowOf_30 : decode cX10_glowOf 30 = .ok (.ishr, 1) := by decide +kernel
theorem dX10_glowOf_31 : decode cX10_glowOf 31 = .ok (.iconst 1, 1) := by decide +kernel
theorem dX10_glowOf_32 : decode cX10_glowOf 32 = .ok (.iand, 1) := by decide +kernel
theorem dX10_glowOf_33 : decode cX10_glowOf 33 = .ok (.iconst 1, 1) := by decide +kernel
theorem dX10_glowOf_34 : decode cX10_glowOf 34 = .ok (.if_icmp .ne 12, 3) := by decide +kernel
theorem dX10_glowOf_37 : decode cX10_glowOf 37 = .ok (.lload_n 2, 1) := by decide +kernel
theorem dX10_glowOf_38 : decode cX10_glowOf 38 = .ok (.aload 5, 2) := by decide +kernel
theorem dX10_glowOf_40 : decode cX10_glowOf 40 = .ok (.aload_n 0, 1) := by decide +kernel
theorem dX10_glowOf_41 : decode cX10_glowOf 41 = .ok (.invokevirtual 112, 3) := by decide +kernel
theorem dX10_glowOf_44 : decode cX10_glowOf 44 = .ok (.lor, 1) := by decide +kernel
theorem dX10_glowOf_45 : decode cX10_glowOf 45 = .ok (.lstore_n 2, 1) := by decide +kernel
theorem dX10_glowOf_46 : decode cX10_glowOf 46 = .ok (.iinc 4 1, 3) := by decide +kernel
theorem dX10_glowOf_49 : decode cX10_glowOf 49 = .ok (.goto (-44), 3) := by decide +kernel
theorem dX10_glowOf_52 : decode cX10_glowOf 52 = .ok (.lload_n 2, 1) := by decide +kernel
theorem dX10_glowOf_53 : decode cX10_glowOf 53 = .ok (.lreturn, 1) := by decide +kernel
set_option maxRecDepth 20000 in
theorem ggX10_litLamps_X10_lampAt : GoodIn wsX10_litLamps wsX10_lampAt := goodIn_r _ [7, 1, 8, 9, 10, 11, 12, 13, 14] (by decide +kernel) (by decide +kernel)
set_option maxRecDepth 20000 in
theorem gX10_litLamps_X10_lampAt : GoodIn wsX10_litLamps (wsV RX10 21 RX10 yX10_lampAt wsX10_lampAt) := goodIn_app (goodIn_of _ (by decide +kernel)) ggX10_litLamps_X10_lampAt
theorem dX10_litLamps_0 : decode cX10_litLamps 0 = .ok (.iconst 0, 1) := by decide +kernel
theorem dX10_litLamps_1 : decode cX10_litLamps 1 = .ok (.istore_n 1, 1) := by decide +kernel
theorem dX10_litLamps_2 : decode cX10_litLamps 2 = .ok (.iconst 0, 1) := by decide +kernel
theorem dX10_litLamps_3 : decode cX10_litLamps 3 = .ok (.istore_n 2, 1) := by decide +kernel
theorem dX10_litLamps_4 : decode cX10_litLamps 4 = .ok (.iload_n 2, 1) := by decide +kernel
theorem dX10_litLamps_5 : decode cX10_litLamps 5 = .ok (.aload_n 0, 1) := by decide +kernel
theorem dX10_litLamps_6 : decode cX10_litLamps 6 = .ok (.getfield 37, 3) := by decide +kernel
theorem dX10_litLamps_9 : decode cX10_litLamps 9 = .ok (.if_icmp .ge 32, 3) := by decide +kernel
theorem dX10_litLamps_12 : decode cX10_litLamps 12 = .ok (.aload_n 0, 1) := by decide +kernel
theorem dX10_litLamps_13 : decode cX10_litLamps 13 = .ok (.iload_n 2, 1) := by decide +kernel
theorem dX10_litLamps_14 : decode cX10_litLamps 14 = .ok (.invokevirtual 21, 3) := by decide +kernel
theorem dX10_litLamps_17 : decode cX10_litLamps 17 = .ok (.astore_n 3, 1) := by decide +kernel
theorem dX10_litLamps_18 : decode cX10_litLamps 18 = .ok (.aload_n 3, 1) := by decide +kernel
theorem dX10_litLamps_19 : decode cX10_litLamps 19 = .ok (.ifnull 16, 3) := by decide +kernel
theorem dX10_litLamps_22 : decode cX10_litLamps 22 = .ok (.aload_n 3, 1) := by decide +kernel
theorem dX10_litLamps_23 : decode cX10_litLamps 23 = .ok (.getfield 108, 3) := by decide +kernel
theorem dX10_litLamps_26 : decode cX10_litLamps 26 = .ok (.ifCond .eq 9, 3) := by decide +kernel
theorem dX10_litLamps_29 : decode cX10_litLamps 29 = .ok (.iload_n 1, 1) := by decide +kernel
theorem dX10_litLamps_30 : decode cX10_litLamps 30 = .ok (.iconst 1, 1) := by decide +kernel
theorem dX10_litLamps_31 : decode cX10_litLamps 31 = .ok (.iload_n 2, 1) := by decide +kernel
theorem dX10_litLamps_32 : decode cX10_litLamps 32 = .ok (.ishl, 1) := by decide +kernel
theorem dX10_litLamps_33 : decode cX10_litLamps 33 = .ok (.ior, 1) := by decide +kernel
theorem dX10_litLamps_34 : decode cX10_litLamps 34 = .ok (.istore_n 1, 1) := by decide +kernel
theorem dX10_litLamps_35 : decode cX10_litLamps 35 = .ok (.iinc 2 1, 3) := by decide +kernel
theorem dX10_litLamps_38 : decode cX10_litLamps 38 = .ok (.goto (-34), 3) := by decide +kernel
theorem dX10_litLamps_41 : decode cX10_litLamps 41 = .ok (.iload_n 1, 1) := by decide +kernel
theorem dX10_litLamps_42 : decode cX10_litLamps 42 = .ok (.ireturn, 1) := by decide +kernel
set_option maxRecDepth 20000 in
theorem ggX10_allScenes_X10_lampAt : GoodIn wsX10_allScenes wsX10_lampAt := goodIn_r _ [7, 1, 8, 9, 10, 11, 12, 13, 14] (by decide +kernel) (by decide +kernel)
set_option maxRecDepth 20000 in
theorem gX10_allScenes_X10_lampAt : GoodIn wsX10_allScenes (wsV RX10 21 RX10 yX10_lampAt wsX10_lampAt) := goodIn_app (goodIn_of _ (by decide +kernel)) ggX10_allScenes_X10_lampAt
theorem dX10_allScenes_0 : decode cX10_allScenes 0 = .ok (.iconst 0, 1) := by decide +kernel
theorem dX10_allScenes_1 : decode cX10_allScenes 1 = .ok (.istore_n 1, 1) := by decide +kernel
theorem dX10_allScenes_2 : decode cX10_allScenes 2 = .ok (.iconst 0, 1) := by decide +kernel
theorem dX10_allScenes_3 : decode cX10_allScenes 3 = .ok (.istore_n 2, 1) := by decide +kernel
theorem dX10_allScenes_4 : decode cX10_allScenes 4 = .ok (.iload_n 2, 1) := by decide +kernel
theorem dX10_allScenes_5 : decode cX10_allScenes 5 = .ok (.aload_n 0, 1) := by decide +kernel
theorem dX10_allScenes_6 : decode cX10_allScenes 6 = .ok (.getfield 37, 3) := by decide +kernel
theorem dX10_allScenes_9 : decode cX10_allScenes 9 = .ok (.if_icmp .ge 30, 3) := by decide +kernel
theorem dX10_allScenes_12 : decode cX10_allScenes 12 = .ok (.aload_n 0, 1) := by decide +kernel
theorem dX10_allScenes_13 : decode cX10_allScenes 13 = .ok (.iload_n 2, 1) := by decide +kernel
theorem dX10_allScenes_14 : decode cX10_allScenes 14 = .ok (.invokevirtual 21, 3) := by decide +kernel
theorem dX10_allScenes_17 : decode cX10_allScenes 17 = .ok (.astore_n 3, 1) := by decide +kernel
theorem dX10_allScenes_18 : decode cX10_allScenes 18 = .ok (.iload_n 1, 1) := by decide +kernel
theorem dX10_allScenes_19 : decode cX10_allScenes 19 = .ok (.aload_n 3, 1) := by decide +kernel
theorem dX10_allScenes_20 : decode cX10_allScenes 20 = .ok (.ifnonnull 7, 3) := by decide +kernel
theorem dX10_allScenes_23 : decode cX10_allScenes 23 = .ok (.iconst 0, 1) := by decide +kernel
theorem dX10_allScenes_24 : decode cX10_allScenes 24 = .ok (.goto 7, 3) := by decide +kernel
theorem dX10_allScenes_27 : decode cX10_allScenes 27 = .ok (.aload_n 3, 1) := by decide +kernel
theorem dX10_allScenes_28 : decode cX10_allScenes 28 = .ok (.getfield 127, 3) := by decide +kernel
theorem dX10_allScenes_31 : decode cX10_allScenes 31 = .ok (.iadd, 1) := by decide +kernel
theorem dX10_allScenes_32 : decode cX10_allScenes 32 = .ok (.istore_n 1, 1) := by decide +kernel
theorem dX10_allScenes_33 : decode cX10_allScenes 33 = .ok (.iinc 2 1, 3) := by decide +kernel
theorem dX10_allScenes_36 : decode cX10_allScenes 36 = .ok (.goto (-32), 3) := by decide +kernel
theorem dX10_allScenes_39 : decode cX10_allScenes 39 = .ok (.iload_n 1, 1) := by decide +kernel
theorem dX10_allScenes_40 : decode cX10_allScenes 40 = .ok (.ireturn, 1) := by decide +kernel
set_option maxRecDepth 20000 in
theorem ggX10_peopleOn_X10_cellOf : GoodIn wsX10_peopleOn wsX10_cellOf := goodIn_r _ [6, 1, 7, 15, 16, 17, 18, 19, 20] (by decide +kernel) (by decide +kernel)
set_option maxRecDepth 20000 in
theorem gX10_peopleOn_X10_cellOf : GoodIn wsX10_peopleOn (wsV RX10 29 RX10 yX10_cellOf wsX10_cellOf) := goodIn_app (goodIn_of _ (by decide +kernel)) ggX10_peopleOn_X10_cellOf
set_option maxRecDepth 20000 in
theorem ggX10_peopleOn_X2_has : GoodIn wsX10_peopleOn wsX2_has := goodIn_r _ [11, 12, 13, 10, 14] (by decide +kernel) (by decide +kernel)
set_option maxRecDepth 20000 in
theorem gX10_peopleOn_X2_has : GoodIn wsX10_peopleOn (va_wsS RX10 74 yX2_has wsX2_has) := goodIn_app (goodIn_of _ (by decide +kernel)) ggX10_peopleOn_X2_has
theorem dX10_peopleOn_0 : decode cX10_peopleOn 0 = .ok (.iconst 0, 1) := by decide +kernel
theorem dX10_peopleOn_1 : decode cX10_peopleOn 1 = .ok (.istore_n 3, 1) := by decide +kernel
theorem dX10_peopleOn_2 : decode cX10_peopleOn 2 = .ok (.iconst 0, 1) := by decide +kernel
theorem dX10_peopleOn_3 : decode cX10_peopleOn 3 = .ok (.istore 4, 2) := by decide +kernel
theorem dX10_peopleOn_5 : decode cX10_peopleOn 5 = .ok (.iload 4, 2) := by decide +kernel
theorem dX10_peopleOn_7 : decode cX10_peopleOn 7 = .ok (.aload_n 0, 1) := by decide +kernel
theorem dX10_peopleOn_8 : decode cX10_peopleOn 8 = .ok (.getfield 41, 3) := by decide +kernel
theorem dX10_peopleOn_11 : decode cX10_peopleOn 11 = .ok (.if_icmp .ge 29, 3) := by decide +kernel
theorem dX10_peopleOn_14 : decode cX10_peopleOn 14 = .ok (.lload_n 1, 1) := by decide +kernel
theorem dX10_peopleOn_15 : decode cX10_peopleOn 15 = .ok (.aload_n 0, 1) := by decide +kernel
theorem dX10_peopleOn_16 : decode cX10_peopleOn 16 = .ok (.iload 4, 2) := by decide +kernel
theorem dX10_peopleOn_18 : decode cX10_peopleOn 18 = .ok (.invokevirtual 29, 3) := by decide +kernel
theorem dX10_peopleOn_21 : decode cX10_peopleOn 21 = .ok (.invokestatic 74, 3) := by decide +kernel
theorem dX10_peopleOn_24 : decode cX10_peopleOn 24 = .ok (.ifCond .eq 10, 3) := by decide +kernel
theorem dX10_peopleOn_27 : decode cX10_peopleOn 27 = .ok (.iload_n 3, 1) := by decide +kernel
theorem dX10_peopleOn_28 : decode cX10_peopleOn 28 = .ok (.iconst 1, 1) := by decide +kernel
theorem dX10_peopleOn_29 : decode cX10_peopleOn 29 = .ok (.iload 4, 2) := by decide +kernel
theorem dX10_peopleOn_31 : decode cX10_peopleOn 31 = .ok (.ishl, 1) := by decide +kernel
theorem dX10_peopleOn_32 : decode cX10_peopleOn 32 = .ok (.ior, 1) := by decide +kernel
theorem dX10_peopleOn_33 : decode cX10_peopleOn 33 = .ok (.istore_n 3, 1) := by decide +kernel
theorem dX10_peopleOn_34 : decode cX10_peopleOn 34 = .ok (.iinc 4 1, 3) := by decide +kernel
theorem dX10_peopleOn_37 : decode cX10_peopleOn 37 = .ok (.goto (-32), 3) := by decide +kernel
theorem dX10_peopleOn_40 : decode cX10_peopleOn 40 = .ok (.iload_n 3, 1) := by decide +kernel
theorem dX10_peopleOn_41 : decode cX10_peopleOn 41 = .ok (.ireturn, 1) := by decide +kernel
set_option maxRecDepth 20000 in
theorem ggX10_unlikeScenesShownTo_X10_lampAt : GoodIn wsX10_unlikeScenesShownTo wsX10_lampAt := goodIn_r _ [6, 1, 7, 122, 123, 124, 125, 126, 127] (by decide +kernel) (by decide +kernel)
set_option maxRecDepth 20000 in
theorem gX10_unlikeScenesShownTo_X10_lampAt : GoodIn wsX10_unlikeScenesShownTo (wsV RX10 21 RX10 yX10_lampAt wsX10_lampAt) := goodIn_app (goodIn_of _ (by decide +kernel)) ggX10_unlikeScenesShownTo_X10_lampAt
set_option maxRecDepth 20000 in
theorem ggX10_unlikeScenesShownTo_X5_glow : GoodIn wsX10_unlikeScenesShownTo wsX5_glow := goodIn_r _ [13, 14, 15, 16, 17, 18, 12, 19, 20, 21, 22, 23, 24, 25, 26, 27, 28, 29, 30, 5, 31, 32, 33, 34, 35, 36, 37, 38, 39, 40, 41, 42, 43, 44, 45, 46, 47, 48, 49, 50, 51, 52, 53, 54, 55, 56, 57, 58, 128, 129, 130, 131, 132, 133, 134, 135, 136, 137, 138, 139, 140, 141, 142, 143, 144, 145, 146, 147, 148, 149, 150, 151, 152, 153, 154, 155, 156, 157, 158, 159, 160, 161, 162, 122, 123, 124, 125, 126, 127] (by decide +kernel) (by decide +kernel)
set_option maxRecDepth 20000 in
theorem gX10_unlikeScenesShownTo_X5_glow_u112X0 : GoodIn wsX10_unlikeScenesShownTo (va_wsU RX10 112 RX0 "LampsThatRemember$Lamp" ⟨"LampsThatRemember$Lamp", "glow", "(LLampsThatRemember$Town;)J"⟩ yX5_glow wsX5_glow) := goodIn_app (goodIn_of _ (by decide +kernel)) ggX10_unlikeScenesShownTo_X5_glow
set_option maxRecDepth 20000 in
theorem gX10_unlikeScenesShownTo_X5_glow_u112X1 : GoodIn wsX10_unlikeScenesShownTo (va_wsU RX10 112 RX1 "LampsThatRemember$Lamp" ⟨"LampsThatRemember$Lamp", "glow", "(LLampsThatRemember$Town;)J"⟩ yX5_glow wsX5_glow) := goodIn_app (goodIn_of _ (by decide +kernel)) ggX10_unlikeScenesShownTo_X5_glow
set_option maxRecDepth 20000 in
theorem gX10_unlikeScenesShownTo_X5_glow_u112X3 : GoodIn wsX10_unlikeScenesShownTo (va_wsU RX10 112 RX3 "LampsThatRemember$Lamp" ⟨"LampsThatRemember$Lamp", "glow", "(LLampsThatRemember$Town;)J"⟩ yX5_glow wsX5_glow) := goodIn_app (goodIn_of _ (by decide +kernel)) ggX10_unlikeScenesShownTo_X5_glow
set_option maxRecDepth 20000 in
theorem gX10_unlikeScenesShownTo_X5_glow_u112X4 : GoodIn wsX10_unlikeScenesShownTo (va_wsU RX10 112 RX4 "LampsThatRemember$Lamp" ⟨"LampsThatRemember$Lamp", "glow", "(LLampsThatRemember$Town;)J"⟩ yX5_glow wsX5_glow) := goodIn_app (goodIn_of _ (by decide +kernel)) ggX10_unlikeScenesShownTo_X5_glow
set_option maxRecDepth 20000 in
theorem gX10_unlikeScenesShownTo_X5_glow : GoodIn wsX10_unlikeScenesShownTo (wsV RX10 112 RX5 yX5_glow wsX5_glow) := goodIn_app (goodIn_of _ (by decide +kernel)) ggX10_unlikeScenesShownTo_X5_glow
set_option maxRecDepth 20000 in
theorem gX10_unlikeScenesShownTo_X5_glow_u112X7 : GoodIn wsX10_unlikeScenesShownTo (va_wsU RX10 112 RX7 "LampsThatRemember$Lamp" ⟨"LampsThatRemember$Lamp", "glow", "(LLampsThatRemember$Town;)J"⟩ yX5_glow wsX5_glow) := goodIn_app (goodIn_of _ (by decide +kernel)) ggX10_unlikeScenesShownTo_X5_glow
set_option maxRecDepth 20000 in
theorem gX10_unlikeScenesShownTo_X5_glow_u112X8 : GoodIn wsX10_unlikeScenesShownTo (va_wsU RX10 112 RX8 "LampsThatRemember$Lamp" ⟨"LampsThatRemember$Lamp", "glow", "(LLampsThatRemember$Town;)J"⟩ yX5_glow wsX5_glow) := goodIn_app (goodIn_of _ (by decide +kernel)) ggX10_unlikeScenesShownTo_X5_glow
set_option maxRecDepth 20000 in
theorem ggX10_unlikeScenesShownTo_X10_scenesNotOf : GoodIn wsX10_unlikeScenesShownTo wsX10_scenesNotOf := goodIn_r _ [69, 70, 71, 72, 73, 74, 12, 75, 76, 77, 78, 79, 80, 81, 82, 83, 84, 85, 86, 87, 5, 88, 1, 2, 3, 4, 6, 7, 89, 90, 91, 92, 93, 94, 95, 96, 97, 98, 99, 100, 101, 102, 103, 104, 105, 106, 107, 108, 109, 110, 111, 112, 113, 114, 115, 116, 117, 118, 119, 120, 121, 128, 129, 130, 131, 132, 133, 134, 135, 136, 137, 138, 139, 140, 141, 142, 143, 144, 145, 146, 147, 148, 149, 150, 151, 152, 153, 154, 155, 156, 157, 158, 159, 160, 161, 162, 122, 123, 124, 125, 126, 127] (by decide +kernel) (by decide +kernel)
set_option maxRecDepth 20000 in
theorem gX10_unlikeScenesShownTo_X10_scenesNotOf : GoodIn wsX10_unlikeScenesShownTo (wsV RX10 130 RX10 yX10_scenesNotOf wsX10_scenesNotOf) := goodIn_app (goodIn_of _ (by decide +kernel)) ggX10_unlikeScenesShownTo_X10_scenesNotOf
theorem dX10_unlikeScenesShownTo_0 : decode cX10_unlikeScenesShownTo 0 = .ok (.iconst 0, 1) := by decide +kernel
theorem dX10_unlikeScenesShownTo_1 : decode cX10_unlikeScenesShownTo 1 = .ok (.istore_n 3, 1) := by decide +kernel
theorem dX10_unlikeScenesShownTo_2 : decode cX10_unlikeScenesShownTo 2 = .ok (.iconst 0, 1) := by decide +kernel
theorem dX10_unlikeScenesShownTo_3 : decode cX10_unlikeScenesShownTo 3 = .ok (.istore 4, 2) := by decide +kernel
theorem dX10_unlikeScenesShownTo_5 : decode cX10_unlikeScenesShownTo 5 = .ok (.iconst 0, 1) := by decide +kernel
theorem dX10_unlikeScenesShownTo_6 : decode cX10_unlikeScenesShownTo 6 = .ok (.istore 5, 2) := by decide +kernel
theorem dX10_unlikeScenesShownTo_8 : decode cX10_unlikeScenesShownTo 8 = .ok (.iload 5, 2) := by decide +kernel
theorem dX10_unlikeScenesShownTo_10 : decode cX10_unlikeScenesShownTo 10 = .ok (.aload_n 0, 1) := by decide +kernel
theorem dX10_unlikeScenesShownTo_11 : decode cX10_unlikeScenesShownTo 11 = .ok (.getfield 37, 3) := by decide +kernel
theorem dX10_unlikeScenesShownTo_14 : decode cX10_unlikeScenesShownTo 14 = .ok (.if_icmp .ge 55, 3) := by decide +kernel
theorem dX10_unlikeScenesShownTo_17 : decode cX10_unlikeScenesShownTo 17 = .ok (.aload_n 0, 1) := by decide +kernel
theorem dX10_unlikeScenesShownTo_18 : decode cX10_unlikeScenesShownTo 18 = .ok (.iload 5, 2) := by decide +kernel
theorem dX10_unlikeScenesShownTo_20 : decode cX10_unlikeScenesShownTo 20 = .ok (.invokevirtual 21, 3) := by decide +kernel
theorem dX10_unlikeScenesShownTo_23 : decode cX10_unlikeScenesShownTo 23 = .ok (.astore 6, 2) := by decide +kernel
theorem dX10_unlikeScenesShownTo_25 : decode cX10_unlikeScenesShownTo 25 = .ok (.aload 6, 2) := by decide +kernel
theorem dX10_unlikeScenesShownTo_27 : decode cX10_unlikeScenesShownTo 27 = .ok (.ifnull 36, 3) := by decide +kernel
theorem dX10_unlikeScenesShownTo_30 : decode cX10_unlikeScenesShownTo 30 = .ok (.aload 6, 2) := by decide +kernel
theorem dX10_unlikeScenesShownTo_32 : decode cX10_unlikeScenesShownTo 32 = .ok (.aload_n 0, 1) := by decide +kernel
theorem dX10_unlikeScenesShownTo_33 : decode cX10_unlikeScenesShownTo 33 = .ok (.invokevirtual 112, 3) := by decide +kernel
theorem dX10_unlikeScenesShownTo_36 : decode cX10_unlikeScenesShownTo 36 = .ok (.lload_n 1, 1) := by decide +kernel
theorem dX10_unlikeScenesShownTo_37 : decode cX10_unlikeScenesShownTo 37 = .ok (.land, 1) := by decide +kernel
theorem dX10_unlikeScenesShownTo_38 : decode cX10_unlikeScenesShownTo 38 = .ok (.lconst 0, 1) := by decide +kernel
theorem dX10_unlikeScenesShownTo_39 : decode cX10_unlikeScenesShownTo 39 = .ok (.lcmp, 1) := by decide +kernel
theorem dX10_unlikeScenesShownTo_40 : decode cX10_unlikeScenesShownTo 40 = .ok (.ifCond .eq 23, 3) := by decide +kernel
theorem dX10_unlikeScenesShownTo_43 : decode cX10_unlikeScenesShownTo 43 = .ok (.iload_n 3, 1) := by decide +kernel
theorem dX10_unlikeScenesShownTo_44 : decode cX10_unlikeScenesShownTo 44 = .ok (.aload_n 0, 1) := by decide +kernel
theorem dX10_unlikeScenesShownTo_45 : decode cX10_unlikeScenesShownTo 45 = .ok (.iload 4, 2) := by decide +kernel
theorem dX10_unlikeScenesShownTo_47 : decode cX10_unlikeScenesShownTo 47 = .ok (.aload 6, 2) := by decide +kernel
theorem dX10_unlikeScenesShownTo_49 : decode cX10_unlikeScenesShownTo 49 = .ok (.invokevirtual 130, 3) := by decide +kernel
theorem dX10_unlikeScenesShownTo_52 : decode cX10_unlikeScenesShownTo 52 = .ok (.iadd, 1) := by decide +kernel
theorem dX10_unlikeScenesShownTo_53 : decode cX10_unlikeScenesShownTo 53 = .ok (.istore_n 3, 1) := by decide +kernel
theorem dX10_unlikeScenesShownTo_54 : decode cX10_unlikeScenesShownTo 54 = .ok (.iload 4, 2) := by decide +kernel
theorem dX10_unlikeScenesShownTo_56 : decode cX10_unlikeScenesShownTo 56 = .ok (.iconst 1, 1) := by decide +kernel
theorem dX10_unlikeScenesShownTo_57 : decode cX10_unlikeScenesShownTo 57 = .ok (.iload 5, 2) := by decide +kernel
theorem dX10_unlikeScenesShownTo_59 : decode cX10_unlikeScenesShownTo 59 = .ok (.ishl, 1) := by decide +kernel
theorem dX10_unlikeScenesShownTo_60 : decode cX10_unlikeScenesShownTo 60 = .ok (.ior, 1) := by decide +kernel
theorem dX10_unlikeScenesShownTo_61 : decode cX10_unlikeScenesShownTo 61 = .ok (.istore 4, 2) := by decide +kernel
theorem dX10_unlikeScenesShownTo_63 : decode cX10_unlikeScenesShownTo 63 = .ok (.iinc 5 1, 3) := by decide +kernel
theorem dX10_unlikeScenesShownTo_66 : decode cX10_unlikeScenesShownTo 66 = .ok (.goto (-58), 3) := by decide +kernel
theorem dX10_unlikeScenesShownTo_69 : decode cX10_unlikeScenesShownTo 69 = .ok (.iload_n 3, 1) := by decide +kernel
theorem dX10_unlikeScenesShownTo_70 : decode cX10_unlikeScenesShownTo 70 = .ok (.ireturn, 1) := by decide +kernel
set_option maxRecDepth 20000 in
theorem ggX10_scenesNotOf_X5_sceneAt : GoodIn wsX10_scenesNotOf wsX5_sceneAt := goodIn_r _ [7, 8, 9, 61, 62, 63, 64, 65, 66, 67, 68, 69, 70, 71, 72, 73, 74, 75, 76, 77, 78, 79, 80, 81, 82, 83, 84, 85, 86, 87, 88, 89, 90, 91, 92, 93, 94, 95] (by decide +kernel) (by decide +kernel)
set_option maxRecDepth 20000 in
theorem gX10_scenesNotOf_X5_sceneAt_u134X0 : GoodIn wsX10_scenesNotOf (va_wsU RX10 134 RX0 "LampsThatRemember$Lamp" ⟨"LampsThatRemember$Lamp", "sceneAt", "(I)I"⟩ yX5_sceneAt wsX5_sceneAt) := goodIn_app (goodIn_of _ (by decide +kernel)) ggX10_scenesNotOf_X5_sceneAt
set_option maxRecDepth 20000 in
theorem gX10_scenesNotOf_X5_sceneAt_u134X1 : GoodIn wsX10_scenesNotOf (va_wsU RX10 134 RX1 "LampsThatRemember$Lamp" ⟨"LampsThatRemember$Lamp", "sceneAt", "(I)I"⟩ yX5_sceneAt wsX5_sceneAt) := goodIn_app (goodIn_of _ (by decide +kernel)) ggX10_scenesNotOf_X5_sceneAt
set_option maxRecDepth 20000 in
theorem gX10_scenesNotOf_X5_sceneAt_u134X3 : GoodIn wsX10_scenesNotOf (va_wsU RX10 134 RX3 "LampsThatRemember$Lamp" ⟨"LampsThatRemember$Lamp", "sceneAt", "(I)I"⟩ yX5_sceneAt wsX5_sceneAt) := goodIn_app (goodIn_of _ (by decide +kernel)) ggX10_scenesNotOf_X5_sceneAt
set_option maxRecDepth 20000 in
theorem gX10_scenesNotOf_X5_sceneAt_u134X4 : GoodIn wsX10_scenesNotOf (va_wsU RX10 134 RX4 "LampsThatRemember$Lamp" ⟨"LampsThatRemember$Lamp", "sceneAt", "(I)I"⟩ yX5_sceneAt wsX5_sceneAt) := goodIn_app (goodIn_of _ (by decide +kernel)) ggX10_scenesNotOf_X5_sceneAt
set_option maxRecDepth 20000 in
theorem gX10_scenesNotOf_X5_sceneAt : GoodIn wsX10_scenesNotOf (wsV RX10 134 RX5 yX5_sceneAt wsX5_sceneAt) := goodIn_app (goodIn_of _ (by decide +kernel)) ggX10_scenesNotOf_X5_sceneAt
set_option maxRecDepth 20000 in
theorem gX10_scenesNotOf_X5_sceneAt_u134X7 : GoodIn wsX10_scenesNotOf (va_wsU RX10 134 RX7 "LampsThatRemember$Lamp" ⟨"LampsThatRemember$Lamp", "sceneAt", "(I)I"⟩ yX5_sceneAt wsX5_sceneAt) := goodIn_app (goodIn_of _ (by decide +kernel)) ggX10_scenesNotOf_X5_sceneAt
set_option maxRecDepth 20000 in
theorem gX10_scenesNotOf_X5_sceneAt_u134X8 : GoodIn wsX10_scenesNotOf (va_wsU RX10 134 RX8 "LampsThatRemember$Lamp" ⟨"LampsThatRemember$Lamp", "sceneAt", "(I)I"⟩ yX5_sceneAt wsX5_sceneAt) := goodIn_app (goodIn_of _ (by decide +kernel)) ggX10_scenesNotOf_X5_sceneAt
set_option maxRecDepth 20000 in
theorem ggX10_scenesNotOf_X10_anyHas : GoodIn wsX10_scenesNotOf wsX10_anyHas := goodIn_r _ [21, 22, 23, 24, 25, 20, 26, 27, 28, 29, 30, 31, 6, 32, 33, 34, 35, 36, 37, 38, 39, 40, 41, 8, 42, 3, 4, 5, 7, 9, 10, 11, 12, 43, 14, 15, 16, 44, 45, 46, 47, 48, 49, 50, 51, 52, 53, 54, 55, 56, 57, 96, 97, 98, 99, 100, 101, 61, 62, 63, 64, 65, 66, 67, 68, 69, 70, 71, 72, 73, 74, 75, 76, 77, 78, 79, 80, 81, 82, 83, 84, 85, 86, 87, 88, 89, 90, 91, 92, 93, 94, 95] (by decide +kernel) (by decide +kernel)
set_option maxRecDepth 20000 in
theorem gX10_scenesNotOf_X10_anyHas : GoodIn wsX10_scenesNotOf (wsV RX10 137 RX10 yX10_anyHas wsX10_anyHas) := goodIn_app (goodIn_of _ (by decide +kernel)) ggX10_scenesNotOf_X10_anyHas
set_option maxRecDepth 20000 in
theorem ggX10_scenesNotOf_X11_yes : GoodIn wsX10_scenesNotOf wsX11_yes := goodIn_r _ [60] (by decide +kernel) (by decide +kernel)
set_option maxRecDepth 20000 in
theorem gX10_scenesNotOf_X11_yes_n82 : GoodIn wsX10_scenesNotOf (wsX11_yes) := ggX10_scenesNotOf_X11_yes
theorem dX10_scenesNotOf_0 : decode cX10_scenesNotOf 0 = .ok (.iconst 0, 1) := by decide +kernel
theorem dX10_scenesNotOf_1 : decode cX10_scenesNotOf 1 = .ok (.istore_n 3, 1) := by decide +kernel
theorem dX10_scenesNotOf_2 : decode cX10_scenesNotOf 2 = .ok (.iconst 0, 1) := by decide +kernel
theorem dX10_scenesNotOf_3 : decode cX10_scenesNotOf 3 = .ok (.istore 4, 2) := by decide +kernel
theorem dX10_scenesNotOf_5 : decode cX10_scenesNotOf 5 = .ok (.iload 4, 2) := by decide +kernel
theorem dX10_scenesNotOf_7 : decode cX10_scenesNotOf 7 = .ok (.aload_n 2, 1) := by decide +kernel
theorem dX10_scenesNotOf_8 : decode cX10_scenesNotOf 8 = .ok (.getfield 127, 3) := by decide +kernel
theorem dX10_scenesNotOf_11 : decode cX10_scenesNotOf 11 = .ok (.if_icmp .ge 34, 3) := by decide +kernel
theorem dX10_scenesNotOf_14 : decode cX10_scenesNotOf 14 = .ok (.iload_n 3, 1) := by decide +kernel
theorem dX10_scenesNotOf_15 : decode cX10_scenesNotOf 15 = .ok (.aload_n 0, 1) := by decide +kernel
theorem dX10_scenesNotOf_16 : decode cX10_scenesNotOf 16 = .ok (.iload_n 1, 1) := by decide +kernel
theorem dX10_scenesNotOf_17 : decode cX10_scenesNotOf 17 = .ok (.aload_n 2, 1) := by decide +kernel
theorem dX10_scenesNotOf_18 : decode cX10_scenesNotOf 18 = .ok (.iload 4, 2) := by decide +kernel
theorem dX10_scenesNotOf_20 : decode cX10_scenesNotOf 20 = .ok (.invokevirtual 134, 3) := by decide +kernel
theorem dX10_scenesNotOf_23 : decode cX10_scenesNotOf 23 = .ok (.invokevirtual 137, 3) := by decide +kernel
theorem dX10_scenesNotOf_26 : decode cX10_scenesNotOf 26 = .ok (.ifCond .ne 7, 3) := by decide +kernel
theorem dX10_scenesNotOf_29 : decode cX10_scenesNotOf 29 = .ok (.iconst 1, 1) := by decide +kernel
theorem dX10_scenesNotOf_30 : decode cX10_scenesNotOf 30 = .ok (.goto 4, 3) := by decide +kernel
theorem dX10_scenesNotOf_33 : decode cX10_scenesNotOf 33 = .ok (.iconst 0, 1) := by decide +kernel
theorem dX10_scenesNotOf_34 : decode cX10_scenesNotOf 34 = .ok (.invokestatic 82, 3) := by decide +kernel
theorem dX10_scenesNotOf_37 : decode cX10_scenesNotOf 37 = .ok (.iadd, 1) := by decide +kernel
theorem dX10_scenesNotOf_38 : decode cX10_scenesNotOf 38 = .ok (.istore_n 3, 1) := by decide +kernel
theorem dX10_scenesNotOf_39 : decode cX10_scenesNotOf 39 = .ok (.iinc 4 1, 3) := by decide +kernel
theorem dX10_scenesNotOf_42 : decode cX10_scenesNotOf 42 = .ok (.goto (-37), 3) := by decide +kernel
theorem dX10_scenesNotOf_45 : decode cX10_scenesNotOf 45 = .ok (.iload_n 3, 1) := by decide +kernel
theorem dX10_scenesNotOf_46 : decode cX10_scenesNotOf 46 = .ok (.ireturn, 1) := by decide +kernel
set_option maxRecDepth 20000 in
theorem ggX10_anyHas_X10_lampAt : GoodIn wsX10_anyHas wsX10_lampAt := goodIn_r _ [6, 1, 7, 51, 52, 53, 54, 55, 56] (by decide +kernel) (by decide +kernel)
set_option maxRecDepth 20000 in
theorem gX10_anyHas_X10_lampAt : GoodIn wsX10_anyHas (wsV RX10 21 RX10 yX10_lampAt wsX10_lampAt) := goodIn_app (goodIn_of _ (by decide +kernel)) ggX10_anyHas_X10_lampAt
set_option maxRecDepth 20000 in
theorem ggX10_anyHas_X5_hasScene : GoodIn wsX10_anyHas wsX5_hasScene := goodIn_r _ [13, 14, 15, 16, 17, 18, 19, 20, 21, 12, 22, 23, 24, 25, 26, 27, 28, 29, 30, 31, 32, 33, 34, 35, 36, 37, 38, 39, 40, 41, 42, 43, 57, 58, 59, 60, 61, 62, 63, 64, 65, 66, 67, 68, 69, 70, 71, 72, 73, 74, 75, 76, 77, 78, 79, 80, 81, 82, 83, 84, 85, 86, 87, 88, 89, 90, 91] (by decide +kernel) (by decide +kernel)
set_option maxRecDepth 20000 in
theorem gX10_anyHas_X5_hasScene_u141X0 : GoodIn wsX10_anyHas (va_wsU RX10 141 RX0 "LampsThatRemember$Lamp" ⟨"LampsThatRemember$Lamp", "hasScene", "(I)Z"⟩ yX5_hasScene wsX5_hasScene) := goodIn_app (goodIn_of _ (by decide +kernel)) ggX10_anyHas_X5_hasScene
set_option maxRecDepth 20000 in
theorem gX10_anyHas_X5_hasScene_u141X1 : GoodIn wsX10_anyHas (va_wsU RX10 141 RX1 "LampsThatRemember$Lamp" ⟨"LampsThatRemember$Lamp", "hasScene", "(I)Z"⟩ yX5_hasScene wsX5_hasScene) := goodIn_app (goodIn_of _ (by decide +kernel)) ggX10_anyHas_X5_hasScene
set_option maxRecDepth 20000 in
theorem gX10_anyHas_X5_hasScene_u141X3 : GoodIn wsX10_anyHas (va_wsU RX10 141 RX3 "LampsThatRemember$Lamp" ⟨"LampsThatRemember$Lamp", "hasScene", "(I)Z"⟩ yX5_hasScene wsX5_hasScene) := goodIn_app (goodIn_of _ (by decide +kernel)) ggX10_anyHas_X5_hasScene
set_option maxRecDepth 20000 in
theorem gX10_anyHas_X5_hasScene_u141X4 : GoodIn wsX10_anyHas (va_wsU RX10 141 RX4 "LampsThatRemember$Lamp" ⟨"LampsThatRemember$Lamp", "hasScene", "(I)Z"⟩ yX5_hasScene wsX5_hasScene) := goodIn_app (goodIn_of _ (by decide +kernel)) ggX10_anyHas_X5_hasScene
set_option maxRecDepth 20000 in
theorem gX10_anyHas_X5_hasScene : GoodIn wsX10_anyHas (wsV RX10 141 RX5 yX5_hasScene wsX5_hasScene) := goodIn_app (goodIn_of _ (by decide +kernel)) ggX10_anyHas_X5_hasScene
set_option maxRecDepth 20000 in
theorem gX10_anyHas_X5_hasScene_u141X7 : GoodIn wsX10_anyHas (va_wsU RX10 141 RX7 "LampsThatRemember$Lamp" ⟨"LampsThatRemember$Lamp", "hasScene", "(I)Z"⟩ yX5_hasScene wsX5_hasScene) := goodIn_app (goodIn_of _ (by decide +kernel)) ggX10_anyHas_X5_hasScene
set_option maxRecDepth 20000 in
theorem gX10_anyHas_X5_hasScene_u141X8 : GoodIn wsX10_anyHas (va_wsU RX10 141 RX8 "LampsThatRemember$Lamp" ⟨"LampsThatRemember$Lamp", "hasScene", "(I)Z"⟩ yX5_hasScene wsX5_hasScene) := goodIn_app (goodIn_of _ (by decide +kernel)) ggX10_anyHas_X5_hasScene
theorem dX10_anyHas_0 : decode cX10_anyHas 0 = .ok (.iconst 0, 1) := by decide +kernel
theorem dX10_anyHas_1 : decode cX10_anyHas 1 = .ok (.istore_n 3, 1) := by decide +kernel
theorem dX10_anyHas_2 : decode cX10_anyHas 2 = .ok (.iload_n 3, 1) := by decide +kernel
theorem dX10_anyHas_3 : decode cX10_anyHas 3 = .ok (.aload_n 0, 1) := by decide +kernel
theorem dX10_anyHas_4 : decode cX10_anyHas 4 = .ok (.getfield 37, 3) := by decide +kernel
theorem dX10_anyHas_7 : decode cX10_anyHas 7 = .ok (.if_icmp .ge 41, 3) := by decide +kernel
theorem dX10_anyHas_10 : decode cX10_anyHas 10 = .ok (.aload_n 0, 1) := by decide +kernel
theorem dX10_anyHas_11 : decode cX10_anyHas 11 = .ok (.iload_n 3, 1) := by decide +kernel
theorem dX10_anyHas_12 : decode cX10_anyHas 12 = .ok (.invokevirtual 21, 3) := by decide +kernel
theorem dX10_anyHas_15 : decode cX10_anyHas 15 = .ok (.astore 4, 2) := by decide +kernel
theorem dX10_anyHas_17 : decode cX10_anyHas 17 = .ok (.aload 4, 2) := by decide +kernel
theorem dX10_anyHas_19 : decode cX10_anyHas 19 = .ok (.ifnull 23, 3) := by decide +kernel
theorem dX10_anyHas_22 : decode cX10_anyHas 22 = .ok (.iload_n 1, 1) := by decide +kernel
theorem dX10_anyHas_23 : decode cX10_anyHas 23 = .ok (.iload_n 3, 1) := by decide +kernel
theorem dX10_anyHas_24 : decode cX10_anyHas 24 = .ok (.ishr, 1) := by decide +kernel
theorem dX10_anyHas_25 : decode cX10_anyHas 25 = .ok (.iconst 1, 1) := by decide +kernel
theorem dX10_anyHas_26 : decode cX10_anyHas 26 = .ok (.iand, 1) := by decide +kernel
theorem dX10_anyHas_27 : decode cX10_anyHas 27 = .ok (.iconst 1, 1) := by decide +kernel
theorem dX10_anyHas_28 : decode cX10_anyHas 28 = .ok (.if_icmp .ne 14, 3) := by decide +kernel
theorem dX10_anyHas_31 : decode cX10_anyHas 31 = .ok (.aload 4, 2) := by decide +kernel
theorem dX10_anyHas_33 : decode cX10_anyHas 33 = .ok (.iload_n 2, 1) := by decide +kernel
theorem dX10_anyHas_34 : decode cX10_anyHas 34 = .ok (.invokevirtual 141, 3) := by decide +kernel
theorem dX10_anyHas_37 : decode cX10_anyHas 37 = .ok (.ifCond .eq 5, 3) := by decide +kernel
theorem dX10_anyHas_40 : decode cX10_anyHas 40 = .ok (.iconst 1, 1) := by decide +kernel
theorem dX10_anyHas_41 : decode cX10_anyHas 41 = .ok (.ireturn, 1) := by decide +kernel
theorem dX10_anyHas_42 : decode cX10_anyHas 42 = .ok (.iinc 3 1, 3) := by decide +kernel
theorem dX10_anyHas_45 : decode cX10_anyHas 45 = .ok (.goto (-43), 3) := by decide +kernel
theorem dX10_anyHas_48 : decode cX10_anyHas 48 = .ok (.iconst 0, 1) := by decide +kernel
theorem dX10_anyHas_49 : decode cX10_anyHas 49 = .ok (.ireturn, 1) := by decide +kernel
set_option maxRecDepth 20000 in
theorem ggX10_whereabouts_X10_free : GoodIn wsX10_whereabouts wsX10_free := goodIn_r _ [8, 3, 9, 2, 174, 175, 176, 177, 178, 179] (by decide +kernel) (by decide +kernel)
set_option maxRecDepth 20000 in
theorem gX10_whereabouts_X10_free : GoodIn wsX10_whereabouts (wsV RX10 89 RX10 yX10_free wsX10_free) := goodIn_app (goodIn_of _ (by decide +kernel)) ggX10_whereabouts_X10_free
set_option maxRecDepth 20000 in
theorem ggX10_whereabouts_X10_lampAt : GoodIn wsX10_whereabouts wsX10_lampAt := goodIn_r _ [13, 1, 14, 174, 175, 176, 177, 178, 179] (by decide +kernel) (by decide +kernel)
set_option maxRecDepth 20000 in
theorem gX10_whereabouts_X10_lampAt : GoodIn wsX10_whereabouts (wsV RX10 21 RX10 yX10_lampAt wsX10_lampAt) := goodIn_app (goodIn_of _ (by decide +kernel)) ggX10_whereabouts_X10_lampAt
set_option maxRecDepth 20000 in
theorem ggX10_whereabouts_X5_leftByScenes : GoodIn wsX10_whereabouts wsX5_leftByScenes := goodIn_r _ [20, 21, 22, 23, 24, 25, 26, 27, 28, 29, 19, 30, 31, 32, 33, 34, 35, 36, 37, 38, 39, 40, 41, 42, 43, 44, 45, 46, 47, 48, 49, 50, 51, 52, 53, 54, 55, 56, 57, 58, 59, 60, 180, 181, 182, 183, 184, 185, 186, 187, 188, 189, 190, 191, 192, 193, 194, 195, 196, 197, 198, 199, 200, 201, 202, 203, 204, 205, 206, 207, 208, 209, 210, 211, 212, 213, 214] (by decide +kernel) (by decide +kernel)
set_option maxRecDepth 20000 in
theorem gX10_whereabouts_X5_leftByScenes_u144X0 : GoodIn wsX10_whereabouts (va_wsU RX10 144 RX0 "LampsThatRemember$Lamp" ⟨"LampsThatRemember$Lamp", "leftByScenes", "(IIJ)J"⟩ yX5_leftByScenes wsX5_leftByScenes) := goodIn_app (goodIn_of _ (by decide +kernel)) ggX10_whereabouts_X5_leftByScenes
set_option maxRecDepth 20000 in
theorem gX10_whereabouts_X5_leftByScenes_u144X1 : GoodIn wsX10_whereabouts (va_wsU RX10 144 RX1 "LampsThatRemember$Lamp" ⟨"LampsThatRemember$Lamp", "leftByScenes", "(IIJ)J"⟩ yX5_leftByScenes wsX5_leftByScenes) := goodIn_app (goodIn_of _ (by decide +kernel)) ggX10_whereabouts_X5_leftByScenes
set_option maxRecDepth 20000 in
theorem gX10_whereabouts_X5_leftByScenes_u144X3 : GoodIn wsX10_whereabouts (va_wsU RX10 144 RX3 "LampsThatRemember$Lamp" ⟨"LampsThatRemember$Lamp", "leftByScenes", "(IIJ)J"⟩ yX5_leftByScenes wsX5_leftByScenes) := goodIn_app (goodIn_of _ (by decide +kernel)) ggX10_whereabouts_X5_leftByScenes
set_option maxRecDepth 20000 in
theorem gX10_whereabouts_X5_leftByScenes_u144X4 : GoodIn wsX10_whereabouts (va_wsU RX10 144 RX4 "LampsThatRemember$Lamp" ⟨"LampsThatRemember$Lamp", "leftByScenes", "(IIJ)J"⟩ yX5_leftByScenes wsX5_leftByScenes) := goodIn_app (goodIn_of _ (by decide +kernel)) ggX10_whereabouts_X5_leftByScenes
set_option maxRecDepth 20000 in
theorem gX10_whereabouts_X5_leftByScenes : GoodIn wsX10_whereabouts (wsV RX10 144 RX5 yX5_leftByScenes wsX5_leftByScenes) := goodIn_app (goodIn_of _ (by decide +kernel)) ggX10_whereabouts_X5_leftByScenes
set_option maxRecDepth 20000 in
theorem gX10_whereabouts_X5_leftByScenes_u144X7 : GoodIn wsX10_whereabouts (va_wsU RX10 144 RX7 "LampsThatRemember$Lamp" ⟨"LampsThatRemember$Lamp", "leftByScenes", "(IIJ)J"⟩ yX5_leftByScenes wsX5_leftByScenes) := goodIn_app (goodIn_of _ (by decide +kernel)) ggX10_whereabouts_X5_leftByScenes
set_option maxRecDepth 20000 in
theorem gX10_whereabouts_X5_leftByScenes_u144X8 : GoodIn wsX10_whereabouts (va_wsU RX10 144 RX8 "LampsThatRemember$Lamp" ⟨"LampsThatRemember$Lamp", "leftByScenes", "(IIJ)J"⟩ yX5_leftByScenes wsX5_leftByScenes) := goodIn_app (goodIn_of _ (by decide +kernel)) ggX10_whereabouts_X5_leftByScenes
set_option maxRecDepth 20000 in
theorem ggX10_whereabouts_X5_missed : GoodIn wsX10_whereabouts wsX5_missed := goodIn_r _ [72, 73, 21, 74, 75, 76, 77, 78, 79, 80, 81, 82, 83, 84, 85, 86, 87, 88, 89, 90, 91, 92, 93, 94, 95, 96, 19, 97, 98, 99, 100, 101, 102, 103, 104, 105, 106, 107, 108, 109, 110, 111, 112, 113, 114, 26, 27, 28, 29, 30, 31, 32, 33, 34, 35, 36, 37, 38, 43, 44, 41, 45, 115, 116, 117, 118, 119, 120, 121, 39, 40, 42, 122, 123, 124, 125, 126, 127, 128, 180, 181, 182, 183, 184, 185, 186, 187, 188, 189, 190, 191, 192, 193, 194, 195, 196, 197, 198, 199, 200, 201, 202, 203, 204, 205, 206, 207, 208, 209, 210, 211, 212, 213, 214] (by decide +kernel) (by decide +kernel)
set_option maxRecDepth 20000 in
theorem gX10_whereabouts_X5_missed_u147X0 : GoodIn wsX10_whereabouts (va_wsU RX10 147 RX0 "LampsThatRemember$Lamp" ⟨"LampsThatRemember$Lamp", "missed", "(II)Z"⟩ yX5_missed wsX5_missed) := goodIn_app (goodIn_of _ (by decide +kernel)) ggX10_whereabouts_X5_missed
set_option maxRecDepth 20000 in
theorem gX10_whereabouts_X5_missed_u147X1 : GoodIn wsX10_whereabouts (va_wsU RX10 147 RX1 "LampsThatRemember$Lamp" ⟨"LampsThatRemember$Lamp", "missed", "(II)Z"⟩ yX5_missed wsX5_missed) := goodIn_app (goodIn_of _ (by decide +kernel)) ggX10_whereabouts_X5_missed
set_option maxRecDepth 20000 in
theorem gX10_whereabouts_X5_missed_u147X3 : GoodIn wsX10_whereabouts (va_wsU RX10 147 RX3 "LampsThatRemember$Lamp" ⟨"LampsThatRemember$Lamp", "missed", "(II)Z"⟩ yX5_missed wsX5_missed) := goodIn_app (goodIn_of _ (by decide +kernel)) ggX10_whereabouts_X5_missed
set_option maxRecDepth 20000 in
theorem gX10_whereabouts_X5_missed_u147X4 : GoodIn wsX10_whereabouts (va_wsU RX10 147 RX4 "LampsThatRemember$Lamp" ⟨"LampsThatRemember$Lamp", "missed", "(II)Z"⟩ yX5_missed wsX5_missed) := goodIn_app (goodIn_of _ (by decide +kernel)) ggX10_whereabouts_X5_missed
set_option maxRecDepth 20000 in
theorem gX10_whereabouts_X5_missed : GoodIn wsX10_whereabouts (wsV RX10 147 RX5 yX5_missed wsX5_missed) := goodIn_app (goodIn_of _ (by decide +kernel)) ggX10_whereabouts_X5_missed
set_option maxRecDepth 20000 in
theorem gX10_whereabouts_X5_missed_u147X7 : GoodIn wsX10_whereabouts (va_wsU RX10 147 RX7 "LampsThatRemember$Lamp" ⟨"LampsThatRemember$Lamp", "missed", "(II)Z"⟩ yX5_missed wsX5_missed) := goodIn_app (goodIn_of _ (by decide +kernel)) ggX10_whereabouts_X5_missed
set_option maxRecDepth 20000 in
theorem gX10_whereabouts_X5_missed_u147X8 : GoodIn wsX10_whereabouts (va_wsU RX10 147 RX8 "LampsThatRemember$Lamp" ⟨"LampsThatRemember$Lamp", "missed", "(II)Z"⟩ yX5_missed wsX5_missed) := goodIn_app (goodIn_of _ (by decide +kernel)) ggX10_whereabouts_X5_missed
set_option maxRecDepth 20000 in
theorem ggX10_whereabouts_X5_glow : GoodIn wsX10_whereabouts wsX5_glow := goodIn_r _ [140, 141, 142, 143, 144, 145, 19, 146, 147, 148, 149, 150, 84, 151, 152, 153, 154, 155, 156, 7, 157, 158, 159, 160, 161, 162, 163, 164, 165, 166, 5, 6, 8, 3, 9, 2, 49, 50, 51, 52, 53, 54, 55, 56, 57, 58, 59, 60, 180, 181, 182, 183, 184, 185, 186, 187, 188, 189, 190, 191, 192, 193, 194, 195, 196, 197, 198, 199, 200, 201, 202, 203, 204, 205, 206, 207, 208, 209, 210, 211, 212, 213, 214, 174, 175, 176, 177, 178, 179] (by decide +kernel) (by decide +kernel)
set_option maxRecDepth 20000 in
theorem gX10_whereabouts_X5_glow_u112X0 : GoodIn wsX10_whereabouts (va_wsU RX10 112 RX0 "LampsThatRemember$Lamp" ⟨"LampsThatRemember$Lamp", "glow", "(LLampsThatRemember$Town;)J"⟩ yX5_glow wsX5_glow) := goodIn_app (goodIn_of _ (by decide +kernel)) ggX10_whereabouts_X5_glow
set_option maxRecDepth 20000 in
theorem gX10_whereabouts_X5_glow_u112X1 : GoodIn wsX10_whereabouts (va_wsU RX10 112 RX1 "LampsThatRemember$Lamp" ⟨"LampsThatRemember$Lamp", "glow", "(LLampsThatRemember$Town;)J"⟩ yX5_glow wsX5_glow) := goodIn_app (goodIn_of _ (by decide +kernel)) ggX10_whereabouts_X5_glow
set_option maxRecDepth 20000 in
theorem gX10_whereabouts_X5_glow_u112X3 : GoodIn wsX10_whereabouts (va_wsU RX10 112 RX3 "LampsThatRemember$Lamp" ⟨"LampsThatRemember$Lamp", "glow", "(LLampsThatRemember$Town;)J"⟩ yX5_glow wsX5_glow) := goodIn_app (goodIn_of _ (by decide +kernel)) ggX10_whereabouts_X5_glow
set_option maxRecDepth 20000 in
theorem gX10_whereabouts_X5_glow_u112X4 : GoodIn wsX10_whereabouts (va_wsU RX10 112 RX4 "LampsThatRemember$Lamp" ⟨"LampsThatRemember$Lamp", "glow", "(LLampsThatRemember$Town;)J"⟩ yX5_glow wsX5_glow) := goodIn_app (goodIn_of _ (by decide +kernel)) ggX10_whereabouts_X5_glow
set_option maxRecDepth 20000 in
theorem gX10_whereabouts_X5_glow : GoodIn wsX10_whereabouts (wsV RX10 112 RX5 yX5_glow wsX5_glow) := goodIn_app (goodIn_of _ (by decide +kernel)) ggX10_whereabouts_X5_glow
set_option maxRecDepth 20000 in
theorem gX10_whereabouts_X5_glow_u112X7 : GoodIn wsX10_whereabouts (va_wsU RX10 112 RX7 "LampsThatRemember$Lamp" ⟨"LampsThatRemember$Lamp", "glow", "(LLampsThatRemember$Town;)J"⟩ yX5_glow wsX5_glow) := goodIn_app (goodIn_of _ (by decide +kernel)) ggX10_whereabouts_X5_glow
set_option maxRecDepth 20000 in
theorem gX10_whereabouts_X5_glow_u112X8 : GoodIn wsX10_whereabouts (va_wsU RX10 112 RX8 "LampsThatRemember$Lamp" ⟨"LampsThatRemember$Lamp", "glow", "(LLampsThatRemember$Town;)J"⟩ yX5_glow wsX5_glow) := goodIn_app (goodIn_of _ (by decide +kernel)) ggX10_whereabouts_X5_glow
theorem dX10_whereabouts_0 : decode cX10_whereabouts 0 = .ok (.aload_n 0, 1) := by decide +kernel
theorem dX10_whereabouts_1 : decode cX10_whereabouts 1 = .ok (.invokevirtual 89, 3) := by decide +kernel
theorem dX10_whereabouts_4 : decode cX10_whereabouts 4 = .ok (.lstore_n 3, 1) := by decide +kernel
theorem dX10_whereabouts_5 : decode cX10_whereabouts 5 = .ok (.iconst 0, 1) := by decide +kernel
theorem dX10_whereabouts_6 : decode cX10_whereabouts 6 = .ok (.istore 5, 2) := by decide +kernel
theorem dX10_whereabouts_8 : decode cX10_whereabouts 8 = .ok (.iload 5, 2) := by decide +kernel
theorem dX10_whereabouts_10 : decode cX10_whereabouts 10 = .ok (.aload_n 0, 1) := by decide +kernel
theorem dX10_whereabouts_11 : decode cX10_whereabouts 11 = .ok (.getfield 37, 3) := by decide +kernel
theorem dX10_whereabouts_14 : decode cX10_whereabouts 14 = .ok (.if_icmp .ge 65, 3) := by decide +kernel
theorem dX10_whereabouts_17 : decode cX10_whereabouts 17 = .ok (.aload_n 0, 1) := by decide +kernel
theorem dX10_whereabouts_18 : decode cX10_whereabouts 18 = .ok (.iload 5, 2) := by decide +kernel
theorem dX10_whereabouts_20 : decode cX10_whereabouts 20 = .ok (.invokevirtual 21, 3) := by decide +kernel
theorem dX10_whereabouts_23 : decode cX10_whereabouts 23 = .ok (.astore 6, 2) := by decide +kernel
theorem dX10_whereabouts_25 : decode cX10_whereabouts 25 = .ok (.aload 6, 2) := by decide +kernel
theorem dX10_whereabouts_27 : decode cX10_whereabouts 27 = .ok (.ifnull 46, 3) := by decide +kernel
theorem dX10_whereabouts_30 : decode cX10_whereabouts 30 = .ok (.lload_n 3, 1) := by decide +kernel
theorem dX10_whereabouts_31 : decode cX10_whereabouts 31 = .ok (.aload 6, 2) := by decide +kernel
theorem dX10_whereabouts_33 : decode cX10_whereabouts 33 = .ok (.iload_n 1, 1) := by decide +kernel
theorem dX10_whereabouts_34 : decode cX10_whereabouts 34 = .ok (.iload_n 2, 1) := by decide +kernel
theorem dX10_whereabouts_35 : decode cX10_whereabouts 35 = .ok (.aload_n 0, 1) := by decide +kernel
theorem dX10_whereabouts_36 : decode cX10_whereabouts 36 = .ok (.invokevirtual 89, 3) := by decide +kernel
theorem dX10_whereabouts_39 : decode cX10_whereabouts 39 = .ok (.invokevirtual 144, 3) := by decide +kernel
theorem dX10_whereabouts_42 : decode cX10_whereabouts 42 = .ok (.land, 1) := by decide +kernel
theorem dX10_whereabouts_43 : decode cX10_whereabouts 43 = .ok (.lstore_n 3, 1) := by decide +kernel
theorem dX10_whereabouts_44 : decode cX10_whereabouts 44 = .ok (.lload_n 3, 1) := by decide +kernel
theorem dX10_whereabouts_45 : decode cX10_whereabouts 45 = .ok (.aload 6, 2) := by decide +kernel
theorem dX10_whereabouts_47 : decode cX10_whereabouts 47 = .ok (.iload_n 1, 1) := by decide +kernel
theorem dX10_whereabouts_48 : decode cX10_whereabouts 48 = .ok (.iload_n 2, 1) := by decide +kernel
theorem dX10_whereabouts_49 : decode cX10_whereabouts 49 = .ok (.invokevirtual 147, 3) := by decide +kernel
theorem dX10_whereabouts_52 : decode cX10_whereabouts 52 = .ok (.ifCond .eq 16, 3) := by decide +kernel
theorem dX10_whereabouts_55 : decode cX10_whereabouts 55 = .ok (.aload 6, 2) := by decide +kernel
theorem dX10_whereabouts_57 : decode cX10_whereabouts 57 = .ok (.aload_n 0, 1) := by decide +kernel
theorem dX10_whereabouts_58 : decode cX10_whereabouts 58 = .ok (.invokevirtual 112, 3) := by decide +kernel
theorem dX10_whereabouts_61 : decode cX10_whereabouts 61 = .ok (.ldc2_w 51, 3) := by decide +kernel
theorem dX10_whereabouts_64 : decode cX10_whereabouts 64 = .ok (.lxor, 1) := by decide +kernel
theorem dX10_whereabouts_65 : decode cX10_whereabouts 65 = .ok (.goto 6, 3) := by decide +kernel
theorem dX10_whereabouts_68 : decode cX10_whereabouts 68 = .ok (.ldc2_w 49, 3) := by decide +kernel
theorem dX10_whereabouts_71 : decode cX10_whereabouts 71 = .ok (.land, 1) := by decide +kernel
theorem dX10_whereabouts_72 : decode cX10_whereabouts 72 = .ok (.lstore_n 3, 1) := by decide +kernel
theorem dX10_whereabouts_73 : decode cX10_whereabouts 73 = .ok (.iinc 5 1, 3) := by decide +kernel
theorem dX10_whereabouts_76 : decode cX10_whereabouts 76 = .ok (.goto (-68), 3) := by decide +kernel
theorem dX10_whereabouts_79 : decode cX10_whereabouts 79 = .ok (.lload_n 3, 1) := by decide +kernel
theorem dX10_whereabouts_80 : decode cX10_whereabouts 80 = .ok (.lreturn, 1) := by decide +kernel
set_option maxRecDepth 20000 in
theorem ggX11_init_X6_init : GoodIn wsX11_init wsX6_init := goodIn_r _ [18, 19, 2, 3, 8, 20, 27, 28] (by decide +kernel) (by decide +kernel)
set_option maxRecDepth 20000 in
theorem gX11_init_X6_init_n9 : GoodIn wsX11_init (wsX6_init) := ggX11_init_X6_init
set_option maxRecDepth 20000 in
theorem ggX11_init_X10_init : GoodIn wsX11_init wsX10_init := goodIn_r _ [22, 23, 2, 3, 24, 25, 8, 26, 37, 38, 39, 40, 41, 42] (by decide +kernel) (by decide +kernel)
set_option maxRecDepth 20000 in
theorem gX11_init_X10_init_n25 : GoodIn wsX11_init (wsX10_init) := ggX11_init_X10_init
theorem dX11_init_0 : decode cX11_init 0 = .ok (.aload_n 0, 1) := by decide +kernel
theorem dX11_init_1 : decode cX11_init 1 = .ok (.invokespecial 1, 3) := by decide +kernel
theorem dX11_init_4 : decode cX11_init 4 = .ok (.aload_n 0, 1) := by decide +kernel
theorem dX11_init_5 : decode cX11_init 5 = .ok (.new 7, 3) := by decide +kernel
theorem dX11_init_8 : decode cX11_init 8 = .ok (.dup, 1) := by decide +kernel
theorem dX11_init_9 : decode cX11_init 9 = .ok (.invokespecial 9, 3) := by decide +kernel
theorem dX11_init_12 : decode cX11_init 12 = .ok (.putfield 10, 3) := by decide +kernel
theorem dX11_init_15 : decode cX11_init 15 = .ok (.aload_n 0, 1) := by decide +kernel
theorem dX11_init_16 : decode cX11_init 16 = .ok (.bipush 12, 2) := by decide +kernel
theorem dX11_init_18 : decode cX11_init 18 = .ok (.newarray .int, 2) := by decide +kernel
theorem dX11_init_20 : decode cX11_init 20 = .ok (.putfield 16, 3) := by decide +kernel
theorem dX11_init_23 : decode cX11_init 23 = .ok (.aload_n 0, 1) := by decide +kernel
theorem dX11_init_24 : decode cX11_init 24 = .ok (.bipush 7, 2) := by decide +kernel
theorem dX11_init_26 : decode cX11_init 26 = .ok (.newarray .int, 2) := by decide +kernel
theorem dX11_init_28 : decode cX11_init 28 = .ok (.putfield 20, 3) := by decide +kernel
theorem dX11_init_31 : decode cX11_init 31 = .ok (.aload_n 0, 1) := by decide +kernel
theorem dX11_init_32 : decode cX11_init 32 = .ok (.new 23, 3) := by decide +kernel
theorem dX11_init_35 : decode cX11_init 35 = .ok (.dup, 1) := by decide +kernel
theorem dX11_init_36 : decode cX11_init 36 = .ok (.invokespecial 25, 3) := by decide +kernel
theorem dX11_init_39 : decode cX11_init 39 = .ok (.putfield 26, 3) := by decide +kernel
theorem dX11_init_42 : decode cX11_init 42 = .ok (.aload_n 0, 1) := by decide +kernel
theorem dX11_init_43 : decode cX11_init 43 = .ok (.new 23, 3) := by decide +kernel
theorem dX11_init_46 : decode cX11_init 46 = .ok (.dup, 1) := by decide +kernel
theorem dX11_init_47 : decode cX11_init 47 = .ok (.invokespecial 25, 3) := by decide +kernel
theorem dX11_init_50 : decode cX11_init 50 = .ok (.putfield 30, 3) := by decide +kernel
theorem dX11_init_53 : decode cX11_init 53 = .ok (.aload_n 0, 1) := by decide +kernel
theorem dX11_init_54 : decode cX11_init 54 = .ok (.new 23, 3) := by decide +kernel
theorem dX11_init_57 : decode cX11_init 57 = .ok (.dup, 1) := by decide +kernel
theorem dX11_init_58 : decode cX11_init 58 = .ok (.invokespecial 25, 3) := by decide +kernel
theorem dX11_init_61 : decode cX11_init 61 = .ok (.putfield 33, 3) := by decide +kernel
theorem dX11_init_64 : decode cX11_init 64 = .ok (.return_, 1) := by decide +kernel
set_option maxRecDepth 20000 in
theorem ggX11_letter_X11_refuse : GoodIn wsX11_letter wsX11_refuse := goodIn_r _ [6, 7, 19, 20, 21, 22, 23, 24, 25, 26] (by decide +kernel) (by decide +kernel)
set_option maxRecDepth 20000 in
theorem gX11_letter_X11_refuse : GoodIn wsX11_letter (wsV RX11 36 RX11 yX11_refuse wsX11_refuse) := goodIn_app (goodIn_of _ (by decide +kernel)) ggX11_letter_X11_refuse
set_option maxRecDepth 20000 in
theorem ggX11_letter_X6_isFull : GoodIn wsX11_letter wsX6_isFull := goodIn_r _ [12, 13, 14, 27, 28] (by decide +kernel) (by decide +kernel)
set_option maxRecDepth 20000 in
theorem gX11_letter_X6_isFull : GoodIn wsX11_letter (wsV RX11 40 RX6 yX6_isFull wsX6_isFull) := goodIn_app (goodIn_of _ (by decide +kernel)) ggX11_letter_X6_isFull
set_option maxRecDepth 20000 in
theorem ggX11_letter_X6_add : GoodIn wsX11_letter wsX6_add := goodIn_r _ [18, 13, 14, 27, 28] (by decide +kernel) (by decide +kernel)
set_option maxRecDepth 20000 in
theorem gX11_letter_X6_add : GoodIn wsX11_letter (wsV RX11 44 RX6 yX6_add wsX6_add) := goodIn_app (goodIn_of _ (by decide +kernel)) ggX11_letter_X6_add
theorem dX11_letter_0 : decode cX11_letter 0 = .ok (.iload_n 1, 1) := by decide +kernel
theorem dX11_letter_1 : decode cX11_letter 1 = .ok (.ifCond .ge 10, 3) := by decide +kernel
theorem dX11_letter_4 : decode cX11_letter 4 = .ok (.aload_n 0, 1) := by decide +kernel
theorem dX11_letter_5 : decode cX11_letter 5 = .ok (.bipush (-4), 2) := by decide +kernel
theorem dX11_letter_7 : decode cX11_letter 7 = .ok (.invokevirtual 36, 3) := by decide +kernel
theorem dX11_letter_10 : decode cX11_letter 10 = .ok (.ireturn, 1) := by decide +kernel
theorem dX11_letter_11 : decode cX11_letter 11 = .ok (.iload_n 1, 1) := by decide +kernel
theorem dX11_letter_12 : decode cX11_letter 12 = .ok (.sipush 255, 3) := by decide +kernel
theorem dX11_letter_15 : decode cX11_letter 15 = .ok (.if_icmp .gt 13, 3) := by decide +kernel
theorem dX11_letter_18 : decode cX11_letter 18 = .ok (.aload_n 0, 1) := by decide +kernel
theorem dX11_letter_19 : decode cX11_letter 19 = .ok (.getfield 10, 3) := by decide +kernel
theorem dX11_letter_22 : decode cX11_letter 22 = .ok (.invokevirtual 40, 3) := by decide +kernel
theorem dX11_letter_25 : decode cX11_letter 25 = .ok (.ifCond .eq 10, 3) := by decide +kernel
theorem dX11_letter_28 : decode cX11_letter 28 = .ok (.aload_n 0, 1) := by decide +kernel
theorem dX11_letter_29 : decode cX11_letter 29 = .ok (.bipush (-6), 2) := by decide +kernel
theorem dX11_letter_31 : decode cX11_letter 31 = .ok (.invokevirtual 36, 3) := by decide +kernel
theorem dX11_letter_34 : decode cX11_letter 34 = .ok (.ireturn, 1) := by decide +kernel
theorem dX11_letter_35 : decode cX11_letter 35 = .ok (.aload_n 0, 1) := by decide +kernel
theorem dX11_letter_36 : decode cX11_letter 36 = .ok (.getfield 10, 3) := by decide +kernel
theorem dX11_letter_39 : decode cX11_letter 39 = .ok (.iload_n 1, 1) := by decide +kernel
theorem dX11_letter_40 : decode cX11_letter 40 = .ok (.invokevirtual 44, 3) := by decide +kernel
theorem dX11_letter_43 : decode cX11_letter 43 = .ok (.ireturn, 1) := by decide +kernel
set_option maxRecDepth 20000 in
theorem ggX11_town_X10_become : GoodIn wsX11_town wsX10_become := goodIn_r _ [8, 9, 10, 11, 12, 13, 14, 15, 16, 17, 7, 18, 19, 20, 21, 22, 23, 24, 25, 26, 27, 28, 29, 30, 31, 32, 33, 34, 35, 36, 37, 38, 39, 40, 41, 42, 43, 44, 45, 46, 47, 48, 49, 50, 51, 52, 53, 54, 55, 56, 57, 58, 59, 60, 61, 62, 63, 64, 65, 66, 67, 68, 69, 70, 71, 72, 73, 74, 75, 76, 77, 78, 79, 80, 81, 82, 83, 84, 85, 86, 87, 88, 89, 90, 91, 92, 93, 94, 95, 96, 97, 98, 99, 100, 101, 102, 103, 104, 105, 106, 107, 487, 488, 489, 490, 491, 492, 493, 494, 495, 496, 497, 498, 499, 500, 501, 502, 503, 504, 505, 506, 507, 508, 509, 510, 511, 512, 513, 514, 515, 516, 517, 518, 519, 520, 521, 522, 523, 524, 525, 526, 527] (by decide +kernel) (by decide +kernel)
set_option maxRecDepth 20000 in
theorem gX11_town_X10_become : GoodIn wsX11_town (wsV RX11 47 RX10 yX10_become wsX10_become) := goodIn_app (goodIn_of _ (by decide +kernel)) ggX11_town_X10_become
set_option maxRecDepth 20000 in
theorem ggX11_town_X6_tellTo : GoodIn wsX11_town wsX6_tellTo := goodIn_r _ [112, 113, 114, 115, 116, 111, 117, 118, 119, 120, 121, 122, 123, 124, 125, 126, 127, 128, 129, 130, 131, 132, 133, 134, 135, 136, 137, 138, 139, 140, 141, 142, 143, 144, 145, 146, 147, 148, 149, 150, 151, 152, 153, 154, 155, 156, 157, 158, 159, 160, 161, 162, 163, 164, 165, 166, 167, 168, 169, 170, 171, 172, 173, 174, 175, 176, 177, 178, 179, 180, 181, 182, 183, 184, 185, 186, 187, 188, 189, 190, 191, 192, 193, 194, 195, 196, 197, 198, 199, 200, 201, 202, 203, 204, 205, 206, 207, 208, 209, 210, 211, 212, 213, 214, 215, 216, 217, 218, 219, 220, 221, 222, 223, 224, 225, 226, 227, 228, 229, 230, 231, 232, 233, 234, 235, 236, 237, 238, 239, 240, 241, 242, 243, 244, 245, 246, 247, 248, 249, 250, 251, 252, 253, 254, 255, 256, 257, 258, 259, 260, 261, 7, 262, 12, 9, 263, 264, 265, 266, 267, 268, 269, 62, 23, 63, 64, 65, 44, 66, 67, 55, 68, 69, 40, 70, 71, 35, 72, 73, 59, 74, 75, 48, 76, 77, 78, 79, 80, 81, 82, 83, 84, 27, 85, 29, 86, 87, 88, 89, 90, 91, 92, 93, 94, 95, 96, 270, 271, 272, 273, 11, 274, 275, 276, 277, 13, 104, 105, 106, 107, 10, 278, 279, 280, 281, 282, 283, 284, 285, 286, 287, 288, 289, 290, 291, 292, 293, 294, 295, 296, 297, 298, 299, 300, 301, 302, 303, 304, 305, 306, 14, 307, 308, 309, 310, 311, 312, 313, 314, 315, 316, 317, 318, 319, 320, 321, 322, 323, 324, 325, 326, 327, 328, 329, 330, 331, 332, 333, 334, 335, 336, 15, 16, 17, 18, 337, 338, 339, 340, 341, 26, 342, 343, 344, 345, 346, 25, 347, 348, 349, 350, 351, 352, 353, 354, 355, 356, 357, 358, 359, 360, 361, 362, 363, 364, 365, 366, 367, 368, 369, 370, 371, 372, 373, 28, 374, 375, 376, 377, 378, 379, 380, 381, 382, 383, 384, 385, 386, 387, 388, 389, 390, 391, 392, 393, 394, 395, 396, 397, 398, 399, 400, 401, 402, 403, 404, 405, 406, 407, 408, 409, 410, 411, 412, 413, 414, 415, 416, 417, 418, 419, 420, 421, 422, 423, 424, 425, 426, 427, 428, 429, 430, 431, 432, 433, 434, 435, 436, 437, 438, 439, 440, 441, 442, 443, 444, 445, 446, 447, 448, 449, 450, 451, 452, 453, 454, 455, 456, 457, 458, 459, 460, 461, 462, 463, 464, 465, 466, 467, 468, 469, 470, 471, 472, 473, 474, 528, 529, 487, 488, 489, 490, 491, 492, 493, 494, 495, 496, 497, 498, 499, 500, 501, 502, 503, 504, 505, 506, 507, 508, 509, 510, 511, 512, 513, 514, 515, 516, 517, 518, 519, 520, 521, 522, 523, 524, 525, 526, 527] (by decide +kernel) (by decide +kernel)
set_option maxRecDepth 20000 in
theorem gX11_town_X6_tellTo : GoodIn wsX11_town (wsV RX11 51 RX6 yX6_tellTo wsX6_tellTo) := goodIn_app (goodIn_of _ (by decide +kernel)) ggX11_town_X6_tellTo
set_option maxRecDepth 20000 in
theorem ggX11_town_X6_clear : GoodIn wsX11_town wsX6_clear := goodIn_r _ [478, 113, 528, 529] (by decide +kernel) (by decide +kernel)
set_option maxRecDepth 20000 in
theorem gX11_town_X6_clear : GoodIn wsX11_town (wsV RX11 55 RX6 yX6_clear wsX6_clear) := goodIn_app (goodIn_of _ (by decide +kernel)) ggX11_town_X6_clear
theorem dX11_town_0 : decode cX11_town 0 = .ok (.aload_n 0, 1) := by decide +kernel
theorem dX11_town_1 : decode cX11_town 1 = .ok (.getfield 33, 3) := by decide +kernel
theorem dX11_town_4 : decode cX11_town 4 = .ok (.aload_n 0, 1) := by decide +kernel
theorem dX11_town_5 : decode cX11_town 5 = .ok (.getfield 30, 3) := by decide +kernel
theorem dX11_town_8 : decode cX11_town 8 = .ok (.invokevirtual 47, 3) := by decide +kernel
theorem dX11_town_11 : decode cX11_town 11 = .ok (.aload_n 0, 1) := by decide +kernel
theorem dX11_town_12 : decode cX11_town 12 = .ok (.getfield 10, 3) := by decide +kernel
theorem dX11_town_15 : decode cX11_town 15 = .ok (.aload_n 0, 1) := by decide +kernel
theorem dX11_town_16 : decode cX11_town 16 = .ok (.getfield 33, 3) := by decide +kernel
theorem dX11_town_19 : decode cX11_town 19 = .ok (.invokevirtual 51, 3) := by decide +kernel
theorem dX11_town_22 : decode cX11_town 22 = .ok (.istore_n 1, 1) := by decide +kernel
theorem dX11_town_23 : decode cX11_town 23 = .ok (.aload_n 0, 1) := by decide +kernel
theorem dX11_town_24 : decode cX11_town 24 = .ok (.getfield 10, 3) := by decide +kernel
theorem dX11_town_27 : decode cX11_town 27 = .ok (.invokevirtual 55, 3) := by decide +kernel
theorem dX11_town_30 : decode cX11_town 30 = .ok (.iload_n 1, 1) := by decide +kernel
theorem dX11_town_31 : decode cX11_town 31 = .ok (.ifCond .lt 21, 3) := by decide +kernel
theorem dX11_town_34 : decode cX11_town 34 = .ok (.aload_n 0, 1) := by decide +kernel
theorem dX11_town_35 : decode cX11_town 35 = .ok (.getfield 30, 3) := by decide +kernel
theorem dX11_town_38 : decode cX11_town 38 = .ok (.astore_n 2, 1) := by decide +kernel
theorem dX11_town_39 : decode cX11_town 39 = .ok (.aload_n 0, 1) := by decide +kernel
theorem dX11_town_40 : decode cX11_town 40 = .ok (.aload_n 0, 1) := by decide +kernel
theorem dX11_town_41 : decode cX11_town 41 = .ok (.getfield 33, 3) := by decide +kernel
theorem dX11_town_44 : decode cX11_town 44 = .ok (.putfield 30, 3) := by decide +kernel
theorem dX11_town_47 : decode cX11_town 47 = .ok (.aload_n 0, 1) := by decide +kernel
theorem dX11_town_48 : decode cX11_town 48 = .ok (.aload_n 2, 1) := by decide +kernel
theorem dX11_town_49 : decode cX11_town 49 = .ok (.putfield 33, 3) := by decide +kernel
theorem dX11_town_52 : decode cX11_town 52 = .ok (.iload_n 1, 1) := by decide +kernel
theorem dX11_town_53 : decode cX11_town 53 = .ok (.ireturn, 1) := by decide +kernel
set_option maxRecDepth 20000 in
theorem ggX11_wall_X10_turnWall : GoodIn wsX11_wall wsX10_turnWall := goodIn_r _ [6, 7, 8, 9, 10, 11, 12, 13, 14, 5, 15, 16, 17, 18, 19, 20, 21, 22, 23, 24, 25, 26, 27, 28, 29, 30, 31, 32, 33, 34, 35, 36, 37, 38, 39, 40, 41, 42, 60, 61, 62, 63, 64, 65] (by decide +kernel) (by decide +kernel)
set_option maxRecDepth 20000 in
theorem gX11_wall_X10_turnWall : GoodIn wsX11_wall (wsV RX11 58 RX10 yX10_turnWall wsX10_turnWall) := goodIn_app (goodIn_of _ (by decide +kernel)) ggX11_wall_X10_turnWall
set_option maxRecDepth 20000 in
theorem ggX11_wall_X11_counted : GoodIn wsX11_wall wsX11_counted := goodIn_r _ [46, 47, 48, 49, 41, 50, 51, 52, 53, 54, 55, 56, 57, 58, 59] (by decide +kernel) (by decide +kernel)
set_option maxRecDepth 20000 in
theorem gX11_wall_X11_counted : GoodIn wsX11_wall (wsV RX11 61 RX11 yX11_counted wsX11_counted) := goodIn_app (goodIn_of _ (by decide +kernel)) ggX11_wall_X11_counted
theorem dX11_wall_0 : decode cX11_wall 0 = .ok (.aload_n 0, 1) := by decide +kernel
theorem dX11_wall_1 : decode cX11_wall 1 = .ok (.aload_n 0, 1) := by decide +kernel
theorem dX11_wall_2 : decode cX11_wall 2 = .ok (.getfield 30, 3) := by decide +kernel
theorem dX11_wall_5 : decode cX11_wall 5 = .ok (.iload_n 1, 1) := by decide +kernel
theorem dX11_wall_6 : decode cX11_wall 6 = .ok (.invokevirtual 58, 3) := by decide +kernel
theorem dX11_wall_9 : decode cX11_wall 9 = .ok (.invokevirtual 61, 3) := by decide +kernel
theorem dX11_wall_12 : decode cX11_wall 12 = .ok (.ireturn, 1) := by decide +kernel
set_option maxRecDepth 20000 in
theorem ggX11_person_X10_addPerson : GoodIn wsX11_person wsX10_addPerson := goodIn_r _ [6, 7, 8, 9, 10, 11, 12, 13, 14, 15, 16, 17, 18, 19, 38, 39, 40, 41, 42, 43] (by decide +kernel) (by decide +kernel)
set_option maxRecDepth 20000 in
theorem gX11_person_X10_addPerson : GoodIn wsX11_person (wsV RX11 64 RX10 yX10_addPerson wsX10_addPerson) := goodIn_app (goodIn_of _ (by decide +kernel)) ggX11_person_X10_addPerson
set_option maxRecDepth 20000 in
theorem ggX11_person_X11_counted : GoodIn wsX11_person wsX11_counted := goodIn_r _ [24, 25, 26, 27, 23, 28, 29, 30, 31, 32, 33, 34, 35, 36, 37] (by decide +kernel) (by decide +kernel)
set_option maxRecDepth 20000 in
theorem gX11_person_X11_counted : GoodIn wsX11_person (wsV RX11 61 RX11 yX11_counted wsX11_counted) := goodIn_app (goodIn_of _ (by decide +kernel)) ggX11_person_X11_counted
theorem dX11_person_0 : decode cX11_person 0 = .ok (.aload_n 0, 1) := by decide +kernel
theorem dX11_person_1 : decode cX11_person 1 = .ok (.aload_n 0, 1) := by decide +kernel
theorem dX11_person_2 : decode cX11_person 2 = .ok (.getfield 30, 3) := by decide +kernel
theorem dX11_person_5 : decode cX11_person 5 = .ok (.iload_n 1, 1) := by decide +kernel
theorem dX11_person_6 : decode cX11_person 6 = .ok (.invokevirtual 64, 3) := by decide +kernel
theorem dX11_person_9 : decode cX11_person 9 = .ok (.invokevirtual 61, 3) := by decide +kernel
theorem dX11_person_12 : decode cX11_person 12 = .ok (.ireturn, 1) := by decide +kernel
set_option maxRecDepth 20000 in
theorem ggX11_go_X10_walk : GoodIn wsX11_go wsX10_walk := goodIn_r _ [6, 7, 8, 9, 10, 11, 5, 12, 13, 14, 15, 16, 17, 18, 19, 20, 21, 22, 23, 24, 25, 26, 27, 28, 29, 30, 31, 32, 33, 34, 35, 36, 37, 38, 39, 40, 41, 42, 43, 44, 45, 46, 47, 48, 49, 50, 51, 52, 53, 54, 55, 56, 57, 58, 59, 60, 61, 62, 63, 64, 65, 66, 67, 68, 69, 70, 71, 72, 73, 74, 75, 76, 77, 78, 79, 80, 81, 82, 83, 84, 85, 86, 87, 88, 89, 90, 91, 92, 93, 94, 95, 96, 97, 98, 99, 100, 101, 102, 103, 104, 105, 106, 107, 108, 109, 110, 111, 112, 113, 114, 115, 116, 117, 118, 119, 120, 121, 122, 123, 124, 125, 126, 127, 128, 129, 130, 131, 132, 133, 134, 135, 136, 137, 138, 139, 140, 141, 142, 143, 144, 145, 146, 147, 148, 149, 150, 151, 152, 153, 154, 155, 156, 157, 158, 159, 160, 161, 162, 163, 164, 165, 166, 167, 168, 169, 170, 171, 172, 173, 174, 175, 176, 177, 178, 179, 180, 181, 182, 183, 184, 185, 186, 187, 206, 207, 208, 209, 210, 211, 212, 213, 214, 215, 216, 217, 218, 219, 220, 221, 222, 223, 224, 225, 226, 227, 228, 229, 230, 231, 232, 233, 234, 235, 236, 237, 238, 239, 240, 241, 242, 243, 244, 245, 246] (by decide +kernel) (by decide +kernel)
set_option maxRecDepth 20000 in
theorem gX11_go_X10_walk : GoodIn wsX11_go (wsV RX11 67 RX10 yX10_walk wsX10_walk) := goodIn_app (goodIn_of _ (by decide +kernel)) ggX11_go_X10_walk
set_option maxRecDepth 20000 in
theorem ggX11_go_X11_counted : GoodIn wsX11_go wsX11_counted := goodIn_r _ [192, 193, 194, 195, 191, 196, 197, 198, 199, 200, 201, 202, 203, 204, 205] (by decide +kernel) (by decide +kernel)
set_option maxRecDepth 20000 in
theorem gX11_go_X11_counted : GoodIn wsX11_go (wsV RX11 61 RX11 yX11_counted wsX11_counted) := goodIn_app (goodIn_of _ (by decide +kernel)) ggX11_go_X11_counted
theorem dX11_go_0 : decode cX11_go 0 = .ok (.aload_n 0, 1) := by decide +kernel
theorem dX11_go_1 : decode cX11_go 1 = .ok (.aload_n 0, 1) := by decide +kernel
theorem dX11_go_2 : decode cX11_go 2 = .ok (.getfield 30, 3) := by decide +kernel
theorem dX11_go_5 : decode cX11_go 5 = .ok (.iload_n 1, 1) := by decide +kernel
theorem dX11_go_6 : decode cX11_go 6 = .ok (.iload_n 2, 1) := by decide +kernel
theorem dX11_go_7 : decode cX11_go 7 = .ok (.invokevirtual 67, 3) := by decide +kernel
theorem dX11_go_10 : decode cX11_go 10 = .ok (.invokevirtual 61, 3) := by decide +kernel
theorem dX11_go_13 : decode cX11_go 13 = .ok (.ireturn, 1) := by decide +kernel
set_option maxRecDepth 20000 in
theorem ggX11_light_X10_lampAt : GoodIn wsX11_light wsX10_lampAt := goodIn_r _ [7, 8, 9, 62, 63, 64, 65, 66, 67] (by decide +kernel) (by decide +kernel)
set_option maxRecDepth 20000 in
theorem gX11_light_X10_lampAt : GoodIn wsX11_light (wsV RX11 71 RX10 yX10_lampAt wsX10_lampAt) := goodIn_app (goodIn_of _ (by decide +kernel)) ggX11_light_X10_lampAt
set_option maxRecDepth 20000 in
theorem ggX11_light_X11_refuse : GoodIn wsX11_light wsX11_refuse := goodIn_r _ [14, 15, 19, 20, 21, 22, 23, 24, 25, 26] (by decide +kernel) (by decide +kernel)
set_option maxRecDepth 20000 in
theorem gX11_light_X11_refuse : GoodIn wsX11_light (wsV RX11 36 RX11 yX11_refuse wsX11_refuse) := goodIn_app (goodIn_of _ (by decide +kernel)) ggX11_light_X11_refuse
set_option maxRecDepth 20000 in
theorem ggX11_light_X11_yes : GoodIn wsX11_light wsX11_yes := goodIn_r _ [18] (by decide +kernel) (by decide +kernel)
set_option maxRecDepth 20000 in
theorem gX11_light_X11_yes : GoodIn wsX11_light (va_wsS RX11 81 yX11_yes wsX11_yes) := goodIn_app (goodIn_of _ (by decide +kernel)) ggX11_light_X11_yes
theorem dX11_light_0 : decode cX11_light 0 = .ok (.aload_n 0, 1) := by decide +kernel
theorem dX11_light_1 : decode cX11_light 1 = .ok (.getfield 30, 3) := by decide +kernel
theorem dX11_light_4 : decode cX11_light 4 = .ok (.iload_n 1, 1) := by decide +kernel
theorem dX11_light_5 : decode cX11_light 5 = .ok (.invokevirtual 71, 3) := by decide +kernel
theorem dX11_light_8 : decode cX11_light 8 = .ok (.astore_n 3, 1) := by decide +kernel
theorem dX11_light_9 : decode cX11_light 9 = .ok (.aload_n 3, 1) := by decide +kernel
theorem dX11_light_10 : decode cX11_light 10 = .ok (.ifnonnull 9, 3) := by decide +kernel
theorem dX11_light_13 : decode cX11_light 13 = .ok (.aload_n 0, 1) := by decide +kernel
theorem dX11_light_14 : decode cX11_light 14 = .ok (.iconst (-1), 1) := by decide +kernel
theorem dX11_light_15 : decode cX11_light 15 = .ok (.invokevirtual 36, 3) := by decide +kernel
theorem dX11_light_18 : decode cX11_light 18 = .ok (.ireturn, 1) := by decide +kernel
theorem dX11_light_19 : decode cX11_light 19 = .ok (.iload_n 2, 1) := by decide +kernel
theorem dX11_light_20 : decode cX11_light 20 = .ok (.ifCond .eq 15, 3) := by decide +kernel
theorem dX11_light_23 : decode cX11_light 23 = .ok (.iload_n 2, 1) := by decide +kernel
theorem dX11_light_24 : decode cX11_light 24 = .ok (.iconst 1, 1) := by decide +kernel
