theorem dX2_only_13 : decode cX2_only 13 = .ok (.goto 4, 3) := by decide +kernel
theorem dX2_only_16 : decode cX2_only 16 = .ok (.lconst 0, 1) := by decide +kernel
theorem dX2_only_17 : decode cX2_only 17 = .ok (.lreturn, 1) := by decide +kernel
set_option maxRecDepth 20000 in
theorem ggX2_has_X2_only : GoodIn wsX2_has wsX2_only := goodIn_r _ [4] (by decide +kernel) (by decide +kernel)
set_option maxRecDepth 20000 in
theorem gX2_has_X2_only : GoodIn wsX2_has (va_wsS RX2 11 yX2_only wsX2_only) := goodIn_app (goodIn_of _ (by decide +kernel)) ggX2_has_X2_only
theorem dX2_has_0 : decode cX2_has 0 = .ok (.lload_n 0, 1) := by decide +kernel
theorem dX2_has_1 : decode cX2_has 1 = .ok (.iload_n 2, 1) := by decide +kernel
theorem dX2_has_2 : decode cX2_has 2 = .ok (.invokestatic 11, 3) := by decide +kernel
theorem dX2_has_5 : decode cX2_has 5 = .ok (.land, 1) := by decide +kernel
theorem dX2_has_6 : decode cX2_has 6 = .ok (.lconst 0, 1) := by decide +kernel
theorem dX2_has_7 : decode cX2_has 7 = .ok (.lcmp, 1) := by decide +kernel
theorem dX2_has_8 : decode cX2_has 8 = .ok (.ifCond .eq 7, 3) := by decide +kernel
theorem dX2_has_11 : decode cX2_has 11 = .ok (.iconst 1, 1) := by decide +kernel
theorem dX2_has_12 : decode cX2_has 12 = .ok (.goto 4, 3) := by decide +kernel
theorem dX2_has_15 : decode cX2_has 15 = .ok (.iconst 0, 1) := by decide +kernel
theorem dX2_has_16 : decode cX2_has 16 = .ok (.ireturn, 1) := by decide +kernel
set_option maxRecDepth 20000 in
theorem ggX2_howMany_J13_bitCount_95d88 : GoodIn wsX2_howMany wsJ13_bitCount_95d88 := goodIn_r _ [5, 6, 7, 8] (by decide +kernel) (by decide +kernel)
set_option maxRecDepth 20000 in
theorem gX2_howMany_J13_bitCount_95d88 : GoodIn wsX2_howMany (va_wsS RX2 17 yJ13_bitCount_95d88 wsJ13_bitCount_95d88) := goodIn_app (goodIn_of _ (by decide +kernel)) ggX2_howMany_J13_bitCount_95d88
theorem dX2_howMany_0 : decode cX2_howMany 0 = .ok (.lload_n 0, 1) := by decide +kernel
theorem dX2_howMany_1 : decode cX2_howMany 1 = .ok (.ldc2_w 15, 3) := by decide +kernel
theorem dX2_howMany_4 : decode cX2_howMany 4 = .ok (.land, 1) := by decide +kernel
theorem dX2_howMany_5 : decode cX2_howMany 5 = .ok (.invokestatic 17, 3) := by decide +kernel
theorem dX2_howMany_8 : decode cX2_howMany 8 = .ok (.ireturn, 1) := by decide +kernel
set_option maxRecDepth 20000 in
theorem ggX2_byNumber_X2_has : GoodIn wsX2_byNumber wsX2_has := goodIn_r _ [4, 5, 6, 3, 7] (by decide +kernel) (by decide +kernel)
set_option maxRecDepth 20000 in
theorem gX2_byNumber_X2_has : GoodIn wsX2_byNumber (va_wsS RX2 23 yX2_has wsX2_has) := goodIn_app (goodIn_of _ (by decide +kernel)) ggX2_byNumber_X2_has
theorem dX2_byNumber_0 : decode cX2_byNumber 0 = .ok (.iload_n 2, 1) := by decide +kernel
theorem dX2_byNumber_1 : decode cX2_byNumber 1 = .ok (.istore_n 3, 1) := by decide +kernel
theorem dX2_byNumber_2 : decode cX2_byNumber 2 = .ok (.iconst 0, 1) := by decide +kernel
theorem dX2_byNumber_3 : decode cX2_byNumber 3 = .ok (.istore 4, 2) := by decide +kernel
theorem dX2_byNumber_5 : decode cX2_byNumber 5 = .ok (.iload 4, 2) := by decide +kernel
theorem dX2_byNumber_7 : decode cX2_byNumber 7 = .ok (.bipush 36, 2) := by decide +kernel
theorem dX2_byNumber_9 : decode cX2_byNumber 9 = .ok (.if_icmp .ge 28, 3) := by decide +kernel
theorem dX2_byNumber_12 : decode cX2_byNumber 12 = .ok (.lload_n 0, 1) := by decide +kernel
theorem dX2_byNumber_13 : decode cX2_byNumber 13 = .ok (.iload 4, 2) := by decide +kernel
theorem dX2_byNumber_15 : decode cX2_byNumber 15 = .ok (.invokestatic 23, 3) := by decide +kernel
theorem dX2_byNumber_18 : decode cX2_byNumber 18 = .ok (.ifCond .eq 13, 3) := by decide +kernel
theorem dX2_byNumber_21 : decode cX2_byNumber 21 = .ok (.iload_n 3, 1) := by decide +kernel
theorem dX2_byNumber_22 : decode cX2_byNumber 22 = .ok (.ifCond .ne 6, 3) := by decide +kernel
theorem dX2_byNumber_25 : decode cX2_byNumber 25 = .ok (.iload 4, 2) := by decide +kernel
theorem dX2_byNumber_27 : decode cX2_byNumber 27 = .ok (.ireturn, 1) := by decide +kernel
theorem dX2_byNumber_28 : decode cX2_byNumber 28 = .ok (.iinc 3 (-1), 3) := by decide +kernel
theorem dX2_byNumber_31 : decode cX2_byNumber 31 = .ok (.iinc 4 1, 3) := by decide +kernel
theorem dX2_byNumber_34 : decode cX2_byNumber 34 = .ok (.goto (-29), 3) := by decide +kernel
theorem dX2_byNumber_37 : decode cX2_byNumber 37 = .ok (.bipush (-9), 2) := by decide +kernel
theorem dX2_byNumber_39 : decode cX2_byNumber 39 = .ok (.ireturn, 1) := by decide +kernel
theorem dX2_spread_0 : decode cX2_spread 0 = .ok (.lload_n 0, 1) := by decide +kernel
theorem dX2_spread_1 : decode cX2_spread 1 = .ok (.lload_n 2, 1) := by decide +kernel
theorem dX2_spread_2 : decode cX2_spread 2 = .ok (.land, 1) := by decide +kernel
theorem dX2_spread_3 : decode cX2_spread 3 = .ok (.lstore 4, 2) := by decide +kernel
theorem dX2_spread_5 : decode cX2_spread 5 = .ok (.lload 4, 2) := by decide +kernel
theorem dX2_spread_7 : decode cX2_spread 7 = .ok (.ldc2_w 27, 3) := by decide +kernel
theorem dX2_spread_10 : decode cX2_spread 10 = .ok (.land, 1) := by decide +kernel
theorem dX2_spread_11 : decode cX2_spread 11 = .ok (.iconst 1, 1) := by decide +kernel
theorem dX2_spread_12 : decode cX2_spread 12 = .ok (.lshl, 1) := by decide +kernel
theorem dX2_spread_13 : decode cX2_spread 13 = .ok (.lload 4, 2) := by decide +kernel
theorem dX2_spread_15 : decode cX2_spread 15 = .ok (.ldc2_w 29, 3) := by decide +kernel
theorem dX2_spread_18 : decode cX2_spread 18 = .ok (.land, 1) := by decide +kernel
theorem dX2_spread_19 : decode cX2_spread 19 = .ok (.iconst 1, 1) := by decide +kernel
theorem dX2_spread_20 : decode cX2_spread 20 = .ok (.lushr, 1) := by decide +kernel
theorem dX2_spread_21 : decode cX2_spread 21 = .ok (.lor, 1) := by decide +kernel
theorem dX2_spread_22 : decode cX2_spread 22 = .ok (.lstore 6, 2) := by decide +kernel
theorem dX2_spread_24 : decode cX2_spread 24 = .ok (.lload_n 0, 1) := by decide +kernel
theorem dX2_spread_25 : decode cX2_spread 25 = .ok (.lload 4, 2) := by decide +kernel
theorem dX2_spread_27 : decode cX2_spread 27 = .ok (.bipush 6, 2) := by decide +kernel
theorem dX2_spread_29 : decode cX2_spread 29 = .ok (.lshl, 1) := by decide +kernel
theorem dX2_spread_30 : decode cX2_spread 30 = .ok (.lload 4, 2) := by decide +kernel
theorem dX2_spread_32 : decode cX2_spread 32 = .ok (.bipush 6, 2) := by decide +kernel
theorem dX2_spread_34 : decode cX2_spread 34 = .ok (.lushr, 1) := by decide +kernel
theorem dX2_spread_35 : decode cX2_spread 35 = .ok (.lor, 1) := by decide +kernel
theorem dX2_spread_36 : decode cX2_spread 36 = .ok (.lload 6, 2) := by decide +kernel
theorem dX2_spread_38 : decode cX2_spread 38 = .ok (.lor, 1) := by decide +kernel
theorem dX2_spread_39 : decode cX2_spread 39 = .ok (.lload_n 2, 1) := by decide +kernel
theorem dX2_spread_40 : decode cX2_spread 40 = .ok (.land, 1) := by decide +kernel
theorem dX2_spread_41 : decode cX2_spread 41 = .ok (.lor, 1) := by decide +kernel
theorem dX2_spread_42 : decode cX2_spread 42 = .ok (.lreturn, 1) := by decide +kernel
set_option maxRecDepth 20000 in
theorem ggX2_within_X2_only : GoodIn wsX2_within wsX2_only := goodIn_r _ [4] (by decide +kernel) (by decide +kernel)
set_option maxRecDepth 20000 in
theorem gX2_within_X2_only : GoodIn wsX2_within (va_wsS RX2 11 yX2_only wsX2_only) := goodIn_app (goodIn_of _ (by decide +kernel)) ggX2_within_X2_only
set_option maxRecDepth 20000 in
theorem ggX2_within_X2_spread : GoodIn wsX2_within wsX2_spread := goodIn_r _ [7, 8, 9] (by decide +kernel) (by decide +kernel)
set_option maxRecDepth 20000 in
theorem gX2_within_X2_spread : GoodIn wsX2_within (va_wsS RX2 31 yX2_spread wsX2_spread) := goodIn_app (goodIn_of _ (by decide +kernel)) ggX2_within_X2_spread
theorem dX2_within_0 : decode cX2_within 0 = .ok (.iload_n 0, 1) := by decide +kernel
theorem dX2_within_1 : decode cX2_within 1 = .ok (.invokestatic 11, 3) := by decide +kernel
theorem dX2_within_4 : decode cX2_within 4 = .ok (.lstore 4, 2) := by decide +kernel
theorem dX2_within_6 : decode cX2_within 6 = .ok (.iconst 0, 1) := by decide +kernel
theorem dX2_within_7 : decode cX2_within 7 = .ok (.istore 6, 2) := by decide +kernel
theorem dX2_within_9 : decode cX2_within 9 = .ok (.iload 6, 2) := by decide +kernel
theorem dX2_within_11 : decode cX2_within 11 = .ok (.iload_n 1, 1) := by decide +kernel
theorem dX2_within_12 : decode cX2_within 12 = .ok (.if_icmp .ge 24, 3) := by decide +kernel
theorem dX2_within_15 : decode cX2_within 15 = .ok (.iload 6, 2) := by decide +kernel
theorem dX2_within_17 : decode cX2_within 17 = .ok (.bipush 36, 2) := by decide +kernel
theorem dX2_within_19 : decode cX2_within 19 = .ok (.if_icmp .ge 17, 3) := by decide +kernel
theorem dX2_within_22 : decode cX2_within 22 = .ok (.lload 4, 2) := by decide +kernel
theorem dX2_within_24 : decode cX2_within 24 = .ok (.lload_n 2, 1) := by decide +kernel
theorem dX2_within_25 : decode cX2_within 25 = .ok (.invokestatic 31, 3) := by decide +kernel
theorem dX2_within_28 : decode cX2_within 28 = .ok (.lstore 4, 2) := by decide +kernel
theorem dX2_within_30 : decode cX2_within 30 = .ok (.iinc 6 1, 3) := by decide +kernel
theorem dX2_within_33 : decode cX2_within 33 = .ok (.goto (-24), 3) := by decide +kernel
theorem dX2_within_36 : decode cX2_within 36 = .ok (.lload 4, 2) := by decide +kernel
theorem dX2_within_38 : decode cX2_within 38 = .ok (.lreturn, 1) := by decide +kernel
set_option maxRecDepth 20000 in
theorem ggX2_fewestSteps_X2_only : GoodIn wsX2_fewestSteps wsX2_only := goodIn_r _ [4] (by decide +kernel) (by decide +kernel)
set_option maxRecDepth 20000 in
theorem gX2_fewestSteps_X2_only : GoodIn wsX2_fewestSteps (va_wsS RX2 11 yX2_only wsX2_only) := goodIn_app (goodIn_of _ (by decide +kernel)) ggX2_fewestSteps_X2_only
set_option maxRecDepth 20000 in
theorem ggX2_fewestSteps_X2_has : GoodIn wsX2_fewestSteps wsX2_has := goodIn_r _ [7, 1, 2, 3, 4] (by decide +kernel) (by decide +kernel)
set_option maxRecDepth 20000 in
theorem gX2_fewestSteps_X2_has : GoodIn wsX2_fewestSteps (va_wsS RX2 23 yX2_has wsX2_has) := goodIn_app (goodIn_of _ (by decide +kernel)) ggX2_fewestSteps_X2_has
set_option maxRecDepth 20000 in
theorem ggX2_fewestSteps_X2_spread : GoodIn wsX2_fewestSteps wsX2_spread := goodIn_r _ [10, 11, 12] (by decide +kernel) (by decide +kernel)
set_option maxRecDepth 20000 in
theorem gX2_fewestSteps_X2_spread : GoodIn wsX2_fewestSteps (va_wsS RX2 31 yX2_spread wsX2_spread) := goodIn_app (goodIn_of _ (by decide +kernel)) ggX2_fewestSteps_X2_spread
theorem dX2_fewestSteps_0 : decode cX2_fewestSteps 0 = .ok (.iload_n 0, 1) := by decide +kernel
theorem dX2_fewestSteps_1 : decode cX2_fewestSteps 1 = .ok (.invokestatic 11, 3) := by decide +kernel
theorem dX2_fewestSteps_4 : decode cX2_fewestSteps 4 = .ok (.lload_n 2, 1) := by decide +kernel
theorem dX2_fewestSteps_5 : decode cX2_fewestSteps 5 = .ok (.land, 1) := by decide +kernel
theorem dX2_fewestSteps_6 : decode cX2_fewestSteps 6 = .ok (.lstore 4, 2) := by decide +kernel
theorem dX2_fewestSteps_8 : decode cX2_fewestSteps 8 = .ok (.iconst 0, 1) := by decide +kernel
theorem dX2_fewestSteps_9 : decode cX2_fewestSteps 9 = .ok (.istore 6, 2) := by decide +kernel
theorem dX2_fewestSteps_11 : decode cX2_fewestSteps 11 = .ok (.iload 6, 2) := by decide +kernel
theorem dX2_fewestSteps_13 : decode cX2_fewestSteps 13 = .ok (.bipush 36, 2) := by decide +kernel
theorem dX2_fewestSteps_15 : decode cX2_fewestSteps 15 = .ok (.if_icmp .ge 29, 3) := by decide +kernel
theorem dX2_fewestSteps_18 : decode cX2_fewestSteps 18 = .ok (.lload 4, 2) := by decide +kernel
theorem dX2_fewestSteps_20 : decode cX2_fewestSteps 20 = .ok (.iload_n 1, 1) := by decide +kernel
theorem dX2_fewestSteps_21 : decode cX2_fewestSteps 21 = .ok (.invokestatic 23, 3) := by decide +kernel
theorem dX2_fewestSteps_24 : decode cX2_fewestSteps 24 = .ok (.ifCond .eq 6, 3) := by decide +kernel
theorem dX2_fewestSteps_27 : decode cX2_fewestSteps 27 = .ok (.iload 6, 2) := by decide +kernel
theorem dX2_fewestSteps_29 : decode cX2_fewestSteps 29 = .ok (.ireturn, 1) := by decide +kernel
theorem dX2_fewestSteps_30 : decode cX2_fewestSteps 30 = .ok (.lload 4, 2) := by decide +kernel
theorem dX2_fewestSteps_32 : decode cX2_fewestSteps 32 = .ok (.lload_n 2, 1) := by decide +kernel
theorem dX2_fewestSteps_33 : decode cX2_fewestSteps 33 = .ok (.invokestatic 31, 3) := by decide +kernel
theorem dX2_fewestSteps_36 : decode cX2_fewestSteps 36 = .ok (.lstore 4, 2) := by decide +kernel
theorem dX2_fewestSteps_38 : decode cX2_fewestSteps 38 = .ok (.iinc 6 1, 3) := by decide +kernel
theorem dX2_fewestSteps_41 : decode cX2_fewestSteps 41 = .ok (.goto (-30), 3) := by decide +kernel
theorem dX2_fewestSteps_44 : decode cX2_fewestSteps 44 = .ok (.bipush (-9), 2) := by decide +kernel
theorem dX2_fewestSteps_46 : decode cX2_fewestSteps 46 = .ok (.ireturn, 1) := by decide +kernel
set_option maxRecDepth 20000 in
theorem ggX2_towards_X2_only : GoodIn wsX2_towards wsX2_only := goodIn_r _ [6] (by decide +kernel) (by decide +kernel)
set_option maxRecDepth 20000 in
theorem gX2_towards_X2_only : GoodIn wsX2_towards (va_wsS RX2 11 yX2_only wsX2_only) := goodIn_app (goodIn_of _ (by decide +kernel)) ggX2_towards_X2_only
theorem dX2_towards_0 : decode cX2_towards 0 = .ok (.iload_n 0, 1) := by decide +kernel
theorem dX2_towards_1 : decode cX2_towards 1 = .ok (.invokestatic 11, 3) := by decide +kernel
theorem dX2_towards_4 : decode cX2_towards 4 = .ok (.lstore_n 2, 1) := by decide +kernel
theorem dX2_towards_5 : decode cX2_towards 5 = .ok (.iload_n 1, 1) := by decide +kernel
theorem dX2_towards_6 : decode cX2_towards 6 = .ok (.tableswitch 69 0 2 #[26, 31, 50], 26) := by decide +kernel
theorem dX2_towards_32 : decode cX2_towards 32 = .ok (.iload_n 0, 1) := by decide +kernel
theorem dX2_towards_33 : decode cX2_towards 33 = .ok (.bipush 6, 2) := by decide +kernel
theorem dX2_towards_35 : decode cX2_towards 35 = .ok (.isub, 1) := by decide +kernel
theorem dX2_towards_36 : decode cX2_towards 36 = .ok (.ireturn, 1) := by decide +kernel
theorem dX2_towards_37 : decode cX2_towards 37 = .ok (.lload_n 2, 1) := by decide +kernel
theorem dX2_towards_38 : decode cX2_towards 38 = .ok (.ldc2_w 35, 3) := by decide +kernel
theorem dX2_towards_41 : decode cX2_towards 41 = .ok (.land, 1) := by decide +kernel
theorem dX2_towards_42 : decode cX2_towards 42 = .ok (.lconst 0, 1) := by decide +kernel
theorem dX2_towards_43 : decode cX2_towards 43 = .ok (.lcmp, 1) := by decide +kernel
theorem dX2_towards_44 : decode cX2_towards 44 = .ok (.ifCond .eq 8, 3) := by decide +kernel
theorem dX2_towards_47 : decode cX2_towards 47 = .ok (.bipush (-9), 2) := by decide +kernel
theorem dX2_towards_49 : decode cX2_towards 49 = .ok (.goto 6, 3) := by decide +kernel
theorem dX2_towards_52 : decode cX2_towards 52 = .ok (.iload_n 0, 1) := by decide +kernel
theorem dX2_towards_53 : decode cX2_towards 53 = .ok (.iconst 1, 1) := by decide +kernel
theorem dX2_towards_54 : decode cX2_towards 54 = .ok (.isub, 1) := by decide +kernel
theorem dX2_towards_55 : decode cX2_towards 55 = .ok (.ireturn, 1) := by decide +kernel
theorem dX2_towards_56 : decode cX2_towards 56 = .ok (.lload_n 2, 1) := by decide +kernel
theorem dX2_towards_57 : decode cX2_towards 57 = .ok (.ldc2_w 37, 3) := by decide +kernel
theorem dX2_towards_60 : decode cX2_towards 60 = .ok (.land, 1) := by decide +kernel
theorem dX2_towards_61 : decode cX2_towards 61 = .ok (.lconst 0, 1) := by decide +kernel
theorem dX2_towards_62 : decode cX2_towards 62 = .ok (.lcmp, 1) := by decide +kernel
theorem dX2_towards_63 : decode cX2_towards 63 = .ok (.ifCond .eq 8, 3) := by decide +kernel
theorem dX2_towards_66 : decode cX2_towards 66 = .ok (.bipush (-9), 2) := by decide +kernel
theorem dX2_towards_68 : decode cX2_towards 68 = .ok (.goto 6, 3) := by decide +kernel
theorem dX2_towards_71 : decode cX2_towards 71 = .ok (.iload_n 0, 1) := by decide +kernel
theorem dX2_towards_72 : decode cX2_towards 72 = .ok (.iconst 1, 1) := by decide +kernel
theorem dX2_towards_73 : decode cX2_towards 73 = .ok (.iadd, 1) := by decide +kernel
theorem dX2_towards_74 : decode cX2_towards 74 = .ok (.ireturn, 1) := by decide +kernel
theorem dX2_towards_75 : decode cX2_towards 75 = .ok (.iload_n 0, 1) := by decide +kernel
theorem dX2_towards_76 : decode cX2_towards 76 = .ok (.bipush 6, 2) := by decide +kernel
theorem dX2_towards_78 : decode cX2_towards 78 = .ok (.iadd, 1) := by decide +kernel
theorem dX2_towards_79 : decode cX2_towards 79 = .ok (.ireturn, 1) := by decide +kernel
set_option maxRecDepth 20000 in
theorem ggX3_init_X5_init : GoodIn wsX3_init wsX5_init := goodIn_r _ [3, 4, 5, 6, 7, 8, 9, 10, 11, 12, 13, 14, 15, 16, 17, 18, 19, 20, 21, 22, 23, 24, 25, 26, 27, 28, 29, 30, 31, 32, 33, 34, 35, 36, 37, 38, 39, 40, 41, 42, 43, 44] (by decide +kernel) (by decide +kernel)
set_option maxRecDepth 20000 in
theorem gX3_init_X5_init_n1 : GoodIn wsX3_init (wsX5_init) := ggX3_init_X5_init
theorem dX3_init_0 : decode cX3_init 0 = .ok (.aload_n 0, 1) := by decide +kernel
theorem dX3_init_1 : decode cX3_init 1 = .ok (.invokespecial 1, 3) := by decide +kernel
theorem dX3_init_4 : decode cX3_init 4 = .ok (.return_, 1) := by decide +kernel
theorem dX3_kind_0 : decode cX3_kind 0 = .ok (.iconst 1, 1) := by decide +kernel
theorem dX3_kind_1 : decode cX3_kind 1 = .ok (.ireturn, 1) := by decide +kernel
theorem dX3_whoKept_0 : decode cX3_whoKept 0 = .ok (.bipush 9, 2) := by decide +kernel
theorem dX3_whoKept_2 : decode cX3_whoKept 2 = .ok (.ireturn, 1) := by decide +kernel
set_option maxRecDepth 20000 in
theorem ggX4_init_X8_init : GoodIn wsX4_init wsX8_init := goodIn_r _ [3, 4, 5, 6, 7, 8, 9, 10, 11, 12, 13, 14, 15, 16, 17, 18, 19, 20, 21, 22, 23, 24, 25, 26, 27, 28, 29, 30, 31, 32, 33, 34, 35, 36, 37, 38, 39, 40, 41, 42, 43, 44, 45, 46, 47] (by decide +kernel) (by decide +kernel)
set_option maxRecDepth 20000 in
theorem gX4_init_X8_init_n1 : GoodIn wsX4_init (wsX8_init) := ggX4_init_X8_init
theorem dX4_init_0 : decode cX4_init 0 = .ok (.aload_n 0, 1) := by decide +kernel
theorem dX4_init_1 : decode cX4_init 1 = .ok (.invokespecial 1, 3) := by decide +kernel
theorem dX4_init_4 : decode cX4_init 4 = .ok (.return_, 1) := by decide +kernel
theorem dX4_kind_0 : decode cX4_kind 0 = .ok (.bipush 6, 2) := by decide +kernel
theorem dX4_kind_2 : decode cX4_kind 2 = .ok (.ireturn, 1) := by decide +kernel
theorem dX4_showsOldestFirst_0 : decode cX4_showsOldestFirst 0 = .ok (.iconst 1, 1) := by decide +kernel
theorem dX4_showsOldestFirst_1 : decode cX4_showsOldestFirst 1 = .ok (.ireturn, 1) := by decide +kernel
theorem dX5_init_0 : decode cX5_init 0 = .ok (.aload_n 0, 1) := by decide +kernel
theorem dX5_init_1 : decode cX5_init 1 = .ok (.invokespecial 3, 3) := by decide +kernel
theorem dX5_init_4 : decode cX5_init 4 = .ok (.aload_n 0, 1) := by decide +kernel
theorem dX5_init_5 : decode cX5_init 5 = .ok (.iconst 1, 1) := by decide +kernel
theorem dX5_init_6 : decode cX5_init 6 = .ok (.putfield 9, 3) := by decide +kernel
theorem dX5_init_9 : decode cX5_init 9 = .ok (.aload_n 0, 1) := by decide +kernel
theorem dX5_init_10 : decode cX5_init 10 = .ok (.bipush 9, 2) := by decide +kernel
theorem dX5_init_12 : decode cX5_init 12 = .ok (.newarray .int, 2) := by decide +kernel
theorem dX5_init_14 : decode cX5_init 14 = .ok (.putfield 15, 3) := by decide +kernel
theorem dX5_init_17 : decode cX5_init 17 = .ok (.return_, 1) := by decide +kernel
set_option maxRecDepth 20000 in
theorem ggX5_ofKind_X3_init : GoodIn wsX5_ofKind wsX3_init := goodIn_r _ [23, 24, 21, 25, 26, 27, 28, 29, 30, 31, 58, 59, 60, 61, 62, 53, 54, 55, 56, 57, 43, 44, 45, 46, 47, 68, 69, 70, 71, 72, 73, 74, 75, 76, 77, 48, 49, 50, 51, 52, 63, 64, 65, 66, 67] (by decide +kernel) (by decide +kernel)
set_option maxRecDepth 20000 in
theorem gX5_ofKind_X3_init_n21 : GoodIn wsX5_ofKind (wsX3_init) := ggX5_ofKind_X3_init
set_option maxRecDepth 20000 in
theorem ggX5_ofKind_X7_init : GoodIn wsX5_ofKind wsX7_init := goodIn_r _ [33, 24, 21, 25, 26, 27, 28, 29, 30, 31, 58, 59, 60, 61, 62, 53, 54, 55, 56, 57, 43, 44, 45, 46, 47, 68, 69, 70, 71, 72, 73, 74, 75, 76, 77, 48, 49, 50, 51, 52, 63, 64, 65, 66, 67] (by decide +kernel) (by decide +kernel)
set_option maxRecDepth 20000 in
theorem gX5_ofKind_X7_init_n24 : GoodIn wsX5_ofKind (wsX7_init) := ggX5_ofKind_X7_init
set_option maxRecDepth 20000 in
theorem ggX5_ofKind_X1_init : GoodIn wsX5_ofKind wsX1_init := goodIn_r _ [35, 24, 21, 25, 26, 27, 28, 29, 30, 31, 58, 59, 60, 61, 62, 53, 54, 55, 56, 57, 43, 44, 45, 46, 47, 68, 69, 70, 71, 72, 73, 74, 75, 76, 77, 48, 49, 50, 51, 52, 63, 64, 65, 66, 67] (by decide +kernel) (by decide +kernel)
set_option maxRecDepth 20000 in
theorem gX5_ofKind_X1_init_n27 : GoodIn wsX5_ofKind (wsX1_init) := ggX5_ofKind_X1_init
set_option maxRecDepth 20000 in
theorem ggX5_ofKind_X0_init : GoodIn wsX5_ofKind wsX0_init := goodIn_r _ [37, 22, 3, 23, 24, 21, 25, 26, 27, 28, 29, 30, 31, 58, 59, 60, 61, 62, 53, 54, 55, 56, 57, 43, 44, 45, 46, 47, 68, 69, 70, 71, 72, 73, 74, 75, 76, 77, 48, 49, 50, 51, 52, 63, 64, 65, 66, 67] (by decide +kernel) (by decide +kernel)
set_option maxRecDepth 20000 in
theorem gX5_ofKind_X0_init_n30 : GoodIn wsX5_ofKind (wsX0_init) := ggX5_ofKind_X0_init
set_option maxRecDepth 20000 in
theorem ggX5_ofKind_X8_init : GoodIn wsX5_ofKind wsX8_init := goodIn_r _ [39, 24, 21, 25, 26, 27, 28, 29, 30, 31, 58, 59, 60, 61, 62, 53, 54, 55, 56, 57, 43, 44, 45, 46, 47, 68, 69, 70, 71, 72, 73, 74, 75, 76, 77, 48, 49, 50, 51, 52, 63, 64, 65, 66, 67] (by decide +kernel) (by decide +kernel)
set_option maxRecDepth 20000 in
theorem gX5_ofKind_X8_init_n33 : GoodIn wsX5_ofKind (wsX8_init) := ggX5_ofKind_X8_init
set_option maxRecDepth 20000 in
theorem ggX5_ofKind_X4_init : GoodIn wsX5_ofKind wsX4_init := goodIn_r _ [41, 38, 15, 39, 24, 21, 25, 26, 27, 28, 29, 30, 31, 58, 59, 60, 61, 62, 53, 54, 55, 56, 57, 43, 44, 45, 46, 47, 68, 69, 70, 71, 72, 73, 74, 75, 76, 77, 48, 49, 50, 51, 52, 63, 64, 65, 66, 67] (by decide +kernel) (by decide +kernel)
set_option maxRecDepth 20000 in
theorem gX5_ofKind_X4_init_n36 : GoodIn wsX5_ofKind (wsX4_init) := ggX5_ofKind_X4_init
set_option maxRecDepth 20000 in
theorem ggX5_ofKind_X5_init : GoodIn wsX5_ofKind wsX5_init := goodIn_r _ [25, 26, 27, 28, 29, 30, 31, 58, 59, 60, 61, 62, 53, 54, 55, 56, 57, 43, 44, 45, 46, 47, 68, 69, 70, 71, 72, 73, 74, 75, 76, 77, 48, 49, 50, 51, 52, 63, 64, 65, 66, 67] (by decide +kernel) (by decide +kernel)
set_option maxRecDepth 20000 in
theorem gX5_ofKind_X5_init : GoodIn wsX5_ofKind (wsX5_init) := ggX5_ofKind_X5_init
theorem dX5_ofKind_0 : decode cX5_ofKind 0 = .ok (.iload_n 0, 1) := by decide +kernel
theorem dX5_ofKind_1 : decode cX5_ofKind 1 = .ok (.tableswitch 87 1 6 #[39, 47, 55, 63, 71, 79], 39) := by decide +kernel
theorem dX5_ofKind_40 : decode cX5_ofKind 40 = .ok (.new 19, 3) := by decide +kernel
theorem dX5_ofKind_43 : decode cX5_ofKind 43 = .ok (.dup, 1) := by decide +kernel
theorem dX5_ofKind_44 : decode cX5_ofKind 44 = .ok (.invokespecial 21, 3) := by decide +kernel
theorem dX5_ofKind_47 : decode cX5_ofKind 47 = .ok (.areturn, 1) := by decide +kernel
theorem dX5_ofKind_48 : decode cX5_ofKind 48 = .ok (.new 22, 3) := by decide +kernel
theorem dX5_ofKind_51 : decode cX5_ofKind 51 = .ok (.dup, 1) := by decide +kernel
theorem dX5_ofKind_52 : decode cX5_ofKind 52 = .ok (.invokespecial 24, 3) := by decide +kernel
theorem dX5_ofKind_55 : decode cX5_ofKind 55 = .ok (.areturn, 1) := by decide +kernel
theorem dX5_ofKind_56 : decode cX5_ofKind 56 = .ok (.new 25, 3) := by decide +kernel
theorem dX5_ofKind_59 : decode cX5_ofKind 59 = .ok (.dup, 1) := by decide +kernel
theorem dX5_ofKind_60 : decode cX5_ofKind 60 = .ok (.invokespecial 27, 3) := by decide +kernel
theorem dX5_ofKind_63 : decode cX5_ofKind 63 = .ok (.areturn, 1) := by decide +kernel
theorem dX5_ofKind_64 : decode cX5_ofKind 64 = .ok (.new 28, 3) := by decide +kernel
theorem dX5_ofKind_67 : decode cX5_ofKind 67 = .ok (.dup, 1) := by decide +kernel
theorem dX5_ofKind_68 : decode cX5_ofKind 68 = .ok (.invokespecial 30, 3) := by decide +kernel
theorem dX5_ofKind_71 : decode cX5_ofKind 71 = .ok (.areturn, 1) := by decide +kernel
theorem dX5_ofKind_72 : decode cX5_ofKind 72 = .ok (.new 31, 3) := by decide +kernel
theorem dX5_ofKind_75 : decode cX5_ofKind 75 = .ok (.dup, 1) := by decide +kernel
theorem dX5_ofKind_76 : decode cX5_ofKind 76 = .ok (.invokespecial 33, 3) := by decide +kernel
theorem dX5_ofKind_79 : decode cX5_ofKind 79 = .ok (.areturn, 1) := by decide +kernel
theorem dX5_ofKind_80 : decode cX5_ofKind 80 = .ok (.new 34, 3) := by decide +kernel
theorem dX5_ofKind_83 : decode cX5_ofKind 83 = .ok (.dup, 1) := by decide +kernel
theorem dX5_ofKind_84 : decode cX5_ofKind 84 = .ok (.invokespecial 36, 3) := by decide +kernel
theorem dX5_ofKind_87 : decode cX5_ofKind 87 = .ok (.areturn, 1) := by decide +kernel
theorem dX5_ofKind_88 : decode cX5_ofKind 88 = .ok (.new 10, 3) := by decide +kernel
theorem dX5_ofKind_91 : decode cX5_ofKind 91 = .ok (.dup, 1) := by decide +kernel
theorem dX5_ofKind_92 : decode cX5_ofKind 92 = .ok (.invokespecial 37, 3) := by decide +kernel
theorem dX5_ofKind_95 : decode cX5_ofKind 95 = .ok (.areturn, 1) := by decide +kernel
theorem dX5_kind_0 : decode cX5_kind 0 = .ok (.iconst 0, 1) := by decide +kernel
theorem dX5_kind_1 : decode cX5_kind 1 = .ok (.ireturn, 1) := by decide +kernel
theorem dX5_room_0 : decode cX5_room 0 = .ok (.bipush 9, 2) := by decide +kernel
theorem dX5_room_2 : decode cX5_room 2 = .ok (.ireturn, 1) := by decide +kernel
theorem dX5_whoKept_0 : decode cX5_whoKept 0 = .ok (.iload_n 1, 1) := by decide +kernel
theorem dX5_whoKept_1 : decode cX5_whoKept 1 = .ok (.ireturn, 1) := by decide +kernel
theorem dX5_cellNow_0 : decode cX5_cellNow 0 = .ok (.aload_n 0, 1) := by decide +kernel
theorem dX5_cellNow_1 : decode cX5_cellNow 1 = .ok (.getfield 38, 3) := by decide +kernel
theorem dX5_cellNow_4 : decode cX5_cellNow 4 = .ok (.ireturn, 1) := by decide +kernel
theorem dX5_showsOldestFirst_0 : decode cX5_showsOldestFirst 0 = .ok (.iconst 0, 1) := by decide +kernel
theorem dX5_showsOldestFirst_1 : decode cX5_showsOldestFirst 1 = .ok (.ireturn, 1) := by decide +kernel
theorem dX5_placeGivenUpFor_0 : decode cX5_placeGivenUpFor 0 = .ok (.bipush (-9), 2) := by decide +kernel
theorem dX5_placeGivenUpFor_2 : decode cX5_placeGivenUpFor 2 = .ok (.ireturn, 1) := by decide +kernel
set_option maxRecDepth 20000 in
theorem ggX5_keep_X5_placeGivenUpFor : GoodIn wsX5_keep wsX5_placeGivenUpFor := goodIn_r _ [8] (by decide +kernel) (by decide +kernel)
set_option maxRecDepth 20000 in
theorem gX5_keep_X5_placeGivenUpFor_u42X0 : GoodIn wsX5_keep (va_wsU RX5 42 RX0 "LampsThatRemember$Lamp" ⟨"LampsThatRemember$Lamp", "placeGivenUpFor", "(I)I"⟩ yX5_placeGivenUpFor wsX5_placeGivenUpFor) := goodIn_app (goodIn_of _ (by decide +kernel)) ggX5_keep_X5_placeGivenUpFor
set_option maxRecDepth 20000 in
theorem gX5_keep_X5_placeGivenUpFor_u42X1 : GoodIn wsX5_keep (va_wsU RX5 42 RX1 "LampsThatRemember$Lamp" ⟨"LampsThatRemember$Lamp", "placeGivenUpFor", "(I)I"⟩ yX5_placeGivenUpFor wsX5_placeGivenUpFor) := goodIn_app (goodIn_of _ (by decide +kernel)) ggX5_keep_X5_placeGivenUpFor
set_option maxRecDepth 20000 in
theorem gX5_keep_X5_placeGivenUpFor_u42X3 : GoodIn wsX5_keep (va_wsU RX5 42 RX3 "LampsThatRemember$Lamp" ⟨"LampsThatRemember$Lamp", "placeGivenUpFor", "(I)I"⟩ yX5_placeGivenUpFor wsX5_placeGivenUpFor) := goodIn_app (goodIn_of _ (by decide +kernel)) ggX5_keep_X5_placeGivenUpFor
set_option maxRecDepth 20000 in
theorem ggX5_keep_X8_placeGivenUpFor : GoodIn wsX5_keep wsX8_placeGivenUpFor := goodIn_r _ [15, 16, 17, 18, 19, 20, 21, 7, 22, 1, 2, 23, 24, 25, 26, 27, 82, 83, 84, 85, 86, 87, 88, 89, 90, 91, 92, 93, 94, 95, 96, 97, 98, 99, 100, 101, 102, 103, 104, 105, 106, 107, 108, 109, 110, 111, 112, 113, 114, 115, 116] (by decide +kernel) (by decide +kernel)
set_option maxRecDepth 20000 in
theorem gX5_keep_X8_placeGivenUpFor_u42X4 : GoodIn wsX5_keep (va_wsO RX5 42 RX4 "LampsThatRemember$Lamp" ⟨"LampsThatRemember$Lamp", "placeGivenUpFor", "(I)I"⟩ yX8_placeGivenUpFor wsX8_placeGivenUpFor) := goodIn_app (goodIn_of _ (by decide +kernel)) ggX5_keep_X8_placeGivenUpFor
set_option maxRecDepth 20000 in
theorem gX5_keep_X5_placeGivenUpFor : GoodIn wsX5_keep (wsV RX5 42 RX5 yX5_placeGivenUpFor wsX5_placeGivenUpFor) := goodIn_app (goodIn_of _ (by decide +kernel)) ggX5_keep_X5_placeGivenUpFor
set_option maxRecDepth 20000 in
theorem gX5_keep_X5_placeGivenUpFor_u42X7 : GoodIn wsX5_keep (va_wsU RX5 42 RX7 "LampsThatRemember$Lamp" ⟨"LampsThatRemember$Lamp", "placeGivenUpFor", "(I)I"⟩ yX5_placeGivenUpFor wsX5_placeGivenUpFor) := goodIn_app (goodIn_of _ (by decide +kernel)) ggX5_keep_X5_placeGivenUpFor
set_option maxRecDepth 20000 in
theorem gX5_keep_X8_placeGivenUpFor_u42X8 : GoodIn wsX5_keep (va_wsO RX5 42 RX8 "LampsThatRemember$Lamp" ⟨"LampsThatRemember$Lamp", "placeGivenUpFor", "(I)I"⟩ yX8_placeGivenUpFor wsX8_placeGivenUpFor) := goodIn_app (goodIn_of _ (by decide +kernel)) ggX5_keep_X8_placeGivenUpFor
set_option maxRecDepth 20000 in
theorem ggX5_keep_X5_takeOut : GoodIn wsX5_keep wsX5_takeOut := goodIn_r _ [36, 1, 2, 82, 83, 84, 85, 86, 87, 88, 89, 90, 91, 92, 93, 94, 95, 96, 97, 98, 99, 100, 101, 102, 103, 104, 105, 106, 107, 108, 109, 110, 111, 112, 113, 114, 115, 116] (by decide +kernel) (by decide +kernel)
set_option maxRecDepth 20000 in
theorem gX5_keep_X5_takeOut_u46X0 : GoodIn wsX5_keep (va_wsU RX5 46 RX0 "LampsThatRemember$Lamp" ⟨"LampsThatRemember$Lamp", "takeOut", "(I)V"⟩ yX5_takeOut wsX5_takeOut) := goodIn_app (goodIn_of _ (by decide +kernel)) ggX5_keep_X5_takeOut
set_option maxRecDepth 20000 in
theorem gX5_keep_X5_takeOut_u46X1 : GoodIn wsX5_keep (va_wsU RX5 46 RX1 "LampsThatRemember$Lamp" ⟨"LampsThatRemember$Lamp", "takeOut", "(I)V"⟩ yX5_takeOut wsX5_takeOut) := goodIn_app (goodIn_of _ (by decide +kernel)) ggX5_keep_X5_takeOut
set_option maxRecDepth 20000 in
theorem gX5_keep_X5_takeOut_u46X3 : GoodIn wsX5_keep (va_wsU RX5 46 RX3 "LampsThatRemember$Lamp" ⟨"LampsThatRemember$Lamp", "takeOut", "(I)V"⟩ yX5_takeOut wsX5_takeOut) := goodIn_app (goodIn_of _ (by decide +kernel)) ggX5_keep_X5_takeOut
set_option maxRecDepth 20000 in
theorem gX5_keep_X5_takeOut_u46X4 : GoodIn wsX5_keep (va_wsU RX5 46 RX4 "LampsThatRemember$Lamp" ⟨"LampsThatRemember$Lamp", "takeOut", "(I)V"⟩ yX5_takeOut wsX5_takeOut) := goodIn_app (goodIn_of _ (by decide +kernel)) ggX5_keep_X5_takeOut
set_option maxRecDepth 20000 in
theorem gX5_keep_X5_takeOut : GoodIn wsX5_keep (wsV RX5 46 RX5 yX5_takeOut wsX5_takeOut) := goodIn_app (goodIn_of _ (by decide +kernel)) ggX5_keep_X5_takeOut
set_option maxRecDepth 20000 in
theorem gX5_keep_X5_takeOut_u46X7 : GoodIn wsX5_keep (va_wsU RX5 46 RX7 "LampsThatRemember$Lamp" ⟨"LampsThatRemember$Lamp", "takeOut", "(I)V"⟩ yX5_takeOut wsX5_takeOut) := goodIn_app (goodIn_of _ (by decide +kernel)) ggX5_keep_X5_takeOut
set_option maxRecDepth 20000 in
theorem gX5_keep_X5_takeOut_u46X8 : GoodIn wsX5_keep (va_wsU RX5 46 RX8 "LampsThatRemember$Lamp" ⟨"LampsThatRemember$Lamp", "takeOut", "(I)V"⟩ yX5_takeOut wsX5_takeOut) := goodIn_app (goodIn_of _ (by decide +kernel)) ggX5_keep_X5_takeOut
set_option maxRecDepth 20000 in
theorem ggX5_keep_X0_room : GoodIn wsX5_keep wsX0_room := goodIn_r _ [50] (by decide +kernel) (by decide +kernel)
set_option maxRecDepth 20000 in
theorem gX5_keep_X0_room_u53X0 : GoodIn wsX5_keep (va_wsO RX5 53 RX0 "LampsThatRemember$Lamp" ⟨"LampsThatRemember$Lamp", "room", "()I"⟩ yX0_room wsX0_room) := goodIn_app (goodIn_of _ (by decide +kernel)) ggX5_keep_X0_room
set_option maxRecDepth 20000 in
theorem ggX5_keep_X5_room : GoodIn wsX5_keep wsX5_room := goodIn_r _ [51] (by decide +kernel) (by decide +kernel)
set_option maxRecDepth 20000 in
theorem gX5_keep_X5_room_u53X1 : GoodIn wsX5_keep (va_wsU RX5 53 RX1 "LampsThatRemember$Lamp" ⟨"LampsThatRemember$Lamp", "room", "()I"⟩ yX5_room wsX5_room) := goodIn_app (goodIn_of _ (by decide +kernel)) ggX5_keep_X5_room
set_option maxRecDepth 20000 in
theorem gX5_keep_X5_room_u53X3 : GoodIn wsX5_keep (va_wsU RX5 53 RX3 "LampsThatRemember$Lamp" ⟨"LampsThatRemember$Lamp", "room", "()I"⟩ yX5_room wsX5_room) := goodIn_app (goodIn_of _ (by decide +kernel)) ggX5_keep_X5_room
set_option maxRecDepth 20000 in
theorem gX5_keep_X5_room_u53X4 : GoodIn wsX5_keep (va_wsU RX5 53 RX4 "LampsThatRemember$Lamp" ⟨"LampsThatRemember$Lamp", "room", "()I"⟩ yX5_room wsX5_room) := goodIn_app (goodIn_of _ (by decide +kernel)) ggX5_keep_X5_room
set_option maxRecDepth 20000 in
theorem gX5_keep_X5_room : GoodIn wsX5_keep (wsV RX5 53 RX5 yX5_room wsX5_room) := goodIn_app (goodIn_of _ (by decide +kernel)) ggX5_keep_X5_room
set_option maxRecDepth 20000 in
theorem ggX5_keep_X7_room : GoodIn wsX5_keep wsX7_room := goodIn_r _ [61] (by decide +kernel) (by decide +kernel)
set_option maxRecDepth 20000 in
theorem gX5_keep_X7_room_u53X7 : GoodIn wsX5_keep (va_wsO RX5 53 RX7 "LampsThatRemember$Lamp" ⟨"LampsThatRemember$Lamp", "room", "()I"⟩ yX7_room wsX7_room) := goodIn_app (goodIn_of _ (by decide +kernel)) ggX5_keep_X7_room
set_option maxRecDepth 20000 in
theorem gX5_keep_X5_room_u53X8 : GoodIn wsX5_keep (va_wsU RX5 53 RX8 "LampsThatRemember$Lamp" ⟨"LampsThatRemember$Lamp", "room", "()I"⟩ yX5_room wsX5_room) := goodIn_app (goodIn_of _ (by decide +kernel)) ggX5_keep_X5_room
set_option maxRecDepth 20000 in
theorem ggX5_keep_X3_whoKept : GoodIn wsX5_keep wsX3_whoKept := goodIn_r _ [69] (by decide +kernel) (by decide +kernel)
set_option maxRecDepth 20000 in
theorem gX5_keep_X3_whoKept_u57X0 : GoodIn wsX5_keep (va_wsO RX5 57 RX0 "LampsThatRemember$Lamp" ⟨"LampsThatRemember$Lamp", "whoKept", "(I)I"⟩ yX3_whoKept wsX3_whoKept) := goodIn_app (goodIn_of _ (by decide +kernel)) ggX5_keep_X3_whoKept
set_option maxRecDepth 20000 in
theorem ggX5_keep_X5_whoKept : GoodIn wsX5_keep wsX5_whoKept := goodIn_r _ [70] (by decide +kernel) (by decide +kernel)
set_option maxRecDepth 20000 in
theorem gX5_keep_X5_whoKept_u57X1 : GoodIn wsX5_keep (va_wsU RX5 57 RX1 "LampsThatRemember$Lamp" ⟨"LampsThatRemember$Lamp", "whoKept", "(I)I"⟩ yX5_whoKept wsX5_whoKept) := goodIn_app (goodIn_of _ (by decide +kernel)) ggX5_keep_X5_whoKept
set_option maxRecDepth 20000 in
theorem gX5_keep_X3_whoKept_u57X3 : GoodIn wsX5_keep (va_wsO RX5 57 RX3 "LampsThatRemember$Lamp" ⟨"LampsThatRemember$Lamp", "whoKept", "(I)I"⟩ yX3_whoKept wsX3_whoKept) := goodIn_app (goodIn_of _ (by decide +kernel)) ggX5_keep_X3_whoKept
set_option maxRecDepth 20000 in
theorem gX5_keep_X5_whoKept_u57X4 : GoodIn wsX5_keep (va_wsU RX5 57 RX4 "LampsThatRemember$Lamp" ⟨"LampsThatRemember$Lamp", "whoKept", "(I)I"⟩ yX5_whoKept wsX5_whoKept) := goodIn_app (goodIn_of _ (by decide +kernel)) ggX5_keep_X5_whoKept
set_option maxRecDepth 20000 in
theorem gX5_keep_X5_whoKept : GoodIn wsX5_keep (wsV RX5 57 RX5 yX5_whoKept wsX5_whoKept) := goodIn_app (goodIn_of _ (by decide +kernel)) ggX5_keep_X5_whoKept
set_option maxRecDepth 20000 in
theorem gX5_keep_X5_whoKept_u57X7 : GoodIn wsX5_keep (va_wsU RX5 57 RX7 "LampsThatRemember$Lamp" ⟨"LampsThatRemember$Lamp", "whoKept", "(I)I"⟩ yX5_whoKept wsX5_whoKept) := goodIn_app (goodIn_of _ (by decide +kernel)) ggX5_keep_X5_whoKept
set_option maxRecDepth 20000 in
theorem gX5_keep_X5_whoKept_u57X8 : GoodIn wsX5_keep (va_wsU RX5 57 RX8 "LampsThatRemember$Lamp" ⟨"LampsThatRemember$Lamp", "whoKept", "(I)I"⟩ yX5_whoKept wsX5_whoKept) := goodIn_app (goodIn_of _ (by decide +kernel)) ggX5_keep_X5_whoKept
set_option maxRecDepth 20000 in
theorem ggX5_keep_X9_of : GoodIn wsX5_keep wsX9_of := goodIn_r _ [81] (by decide +kernel) (by decide +kernel)
set_option maxRecDepth 20000 in
theorem gX5_keep_X9_of : GoodIn wsX5_keep (va_wsS RX5 60 yX9_of wsX9_of) := goodIn_app (goodIn_of _ (by decide +kernel)) ggX5_keep_X9_of
theorem dX5_keep_0 : decode cX5_keep 0 = .ok (.aload_n 0, 1) := by decide +kernel
theorem dX5_keep_1 : decode cX5_keep 1 = .ok (.aload_n 0, 1) := by decide +kernel
theorem dX5_keep_2 : decode cX5_keep 2 = .ok (.iload_n 2, 1) := by decide +kernel
theorem dX5_keep_3 : decode cX5_keep 3 = .ok (.invokevirtual 42, 3) := by decide +kernel
theorem dX5_keep_6 : decode cX5_keep 6 = .ok (.invokevirtual 46, 3) := by decide +kernel
theorem dX5_keep_9 : decode cX5_keep 9 = .ok (.aload_n 0, 1) := by decide +kernel
theorem dX5_keep_10 : decode cX5_keep 10 = .ok (.getfield 50, 3) := by decide +kernel
theorem dX5_keep_13 : decode cX5_keep 13 = .ok (.aload_n 0, 1) := by decide +kernel
theorem dX5_keep_14 : decode cX5_keep 14 = .ok (.invokevirtual 53, 3) := by decide +kernel
theorem dX5_keep_17 : decode cX5_keep 17 = .ok (.if_icmp .lt 8, 3) := by decide +kernel
theorem dX5_keep_20 : decode cX5_keep 20 = .ok (.aload_n 0, 1) := by decide +kernel
theorem dX5_keep_21 : decode cX5_keep 21 = .ok (.iconst 0, 1) := by decide +kernel
theorem dX5_keep_22 : decode cX5_keep 22 = .ok (.invokevirtual 46, 3) := by decide +kernel
theorem dX5_keep_25 : decode cX5_keep 25 = .ok (.aload_n 0, 1) := by decide +kernel
theorem dX5_keep_26 : decode cX5_keep 26 = .ok (.getfield 50, 3) := by decide +kernel
theorem dX5_keep_29 : decode cX5_keep 29 = .ok (.ifCond .lt 55, 3) := by decide +kernel
theorem dX5_keep_32 : decode cX5_keep 32 = .ok (.aload_n 0, 1) := by decide +kernel
theorem dX5_keep_33 : decode cX5_keep 33 = .ok (.getfield 50, 3) := by decide +kernel
theorem dX5_keep_36 : decode cX5_keep 36 = .ok (.aload_n 0, 1) := by decide +kernel
theorem dX5_keep_37 : decode cX5_keep 37 = .ok (.invokevirtual 53, 3) := by decide +kernel
theorem dX5_keep_40 : decode cX5_keep 40 = .ok (.if_icmp .ge 44, 3) := by decide +kernel
theorem dX5_keep_43 : decode cX5_keep 43 = .ok (.aload_n 0, 1) := by decide +kernel
theorem dX5_keep_44 : decode cX5_keep 44 = .ok (.getfield 50, 3) := by decide +kernel
theorem dX5_keep_47 : decode cX5_keep 47 = .ok (.aload_n 0, 1) := by decide +kernel
theorem dX5_keep_48 : decode cX5_keep 48 = .ok (.getfield 15, 3) := by decide +kernel
theorem dX5_keep_51 : decode cX5_keep 51 = .ok (.arraylength, 1) := by decide +kernel
theorem dX5_keep_52 : decode cX5_keep 52 = .ok (.if_icmp .ge 32, 3) := by decide +kernel
theorem dX5_keep_55 : decode cX5_keep 55 = .ok (.aload_n 0, 1) := by decide +kernel
theorem dX5_keep_56 : decode cX5_keep 56 = .ok (.getfield 15, 3) := by decide +kernel
theorem dX5_keep_59 : decode cX5_keep 59 = .ok (.aload_n 0, 1) := by decide +kernel
theorem dX5_keep_60 : decode cX5_keep 60 = .ok (.getfield 50, 3) := by decide +kernel
theorem dX5_keep_63 : decode cX5_keep 63 = .ok (.aload_n 0, 1) := by decide +kernel
theorem dX5_keep_64 : decode cX5_keep 64 = .ok (.iload_n 1, 1) := by decide +kernel
theorem dX5_keep_65 : decode cX5_keep 65 = .ok (.invokevirtual 57, 3) := by decide +kernel
theorem dX5_keep_68 : decode cX5_keep 68 = .ok (.iload_n 2, 1) := by decide +kernel
theorem dX5_keep_69 : decode cX5_keep 69 = .ok (.iload_n 3, 1) := by decide +kernel
theorem dX5_keep_70 : decode cX5_keep 70 = .ok (.invokestatic 60, 3) := by decide +kernel
theorem dX5_keep_73 : decode cX5_keep 73 = .ok (.iastore, 1) := by decide +kernel
theorem dX5_keep_74 : decode cX5_keep 74 = .ok (.aload_n 0, 1) := by decide +kernel
theorem dX5_keep_75 : decode cX5_keep 75 = .ok (.dup, 1) := by decide +kernel
theorem dX5_keep_76 : decode cX5_keep 76 = .ok (.getfield 50, 3) := by decide +kernel
theorem dX5_keep_79 : decode cX5_keep 79 = .ok (.iconst 1, 1) := by decide +kernel
theorem dX5_keep_80 : decode cX5_keep 80 = .ok (.iadd, 1) := by decide +kernel
theorem dX5_keep_81 : decode cX5_keep 81 = .ok (.putfield 50, 3) := by decide +kernel
theorem dX5_keep_84 : decode cX5_keep 84 = .ok (.return_, 1) := by decide +kernel
theorem dX5_takeOut_0 : decode cX5_takeOut 0 = .ok (.iload_n 1, 1) := by decide +kernel
theorem dX5_takeOut_1 : decode cX5_takeOut 1 = .ok (.ifCond .lt 11, 3) := by decide +kernel
theorem dX5_takeOut_4 : decode cX5_takeOut 4 = .ok (.iload_n 1, 1) := by decide +kernel
theorem dX5_takeOut_5 : decode cX5_takeOut 5 = .ok (.aload_n 0, 1) := by decide +kernel
theorem dX5_takeOut_6 : decode cX5_takeOut 6 = .ok (.getfield 50, 3) := by decide +kernel
theorem dX5_takeOut_9 : decode cX5_takeOut 9 = .ok (.if_icmp .lt 4, 3) := by decide +kernel
theorem dX5_takeOut_12 : decode cX5_takeOut 12 = .ok (.return_, 1) := by decide +kernel
theorem dX5_takeOut_13 : decode cX5_takeOut 13 = .ok (.iload_n 1, 1) := by decide +kernel
theorem dX5_takeOut_14 : decode cX5_takeOut 14 = .ok (.istore_n 2, 1) := by decide +kernel
theorem dX5_takeOut_15 : decode cX5_takeOut 15 = .ok (.iload_n 2, 1) := by decide +kernel
theorem dX5_takeOut_16 : decode cX5_takeOut 16 = .ok (.iconst 1, 1) := by decide +kernel
theorem dX5_takeOut_17 : decode cX5_takeOut 17 = .ok (.iadd, 1) := by decide +kernel
theorem dX5_takeOut_18 : decode cX5_takeOut 18 = .ok (.aload_n 0, 1) := by decide +kernel
theorem dX5_takeOut_19 : decode cX5_takeOut 19 = .ok (.getfield 50, 3) := by decide +kernel
theorem dX5_takeOut_22 : decode cX5_takeOut 22 = .ok (.if_icmp .ge 34, 3) := by decide +kernel
theorem dX5_takeOut_25 : decode cX5_takeOut 25 = .ok (.iload_n 2, 1) := by decide +kernel
theorem dX5_takeOut_26 : decode cX5_takeOut 26 = .ok (.iconst 1, 1) := by decide +kernel
theorem dX5_takeOut_27 : decode cX5_takeOut 27 = .ok (.iadd, 1) := by decide +kernel
theorem dX5_takeOut_28 : decode cX5_takeOut 28 = .ok (.aload_n 0, 1) := by decide +kernel
theorem dX5_takeOut_29 : decode cX5_takeOut 29 = .ok (.getfield 15, 3) := by decide +kernel
theorem dX5_takeOut_32 : decode cX5_takeOut 32 = .ok (.arraylength, 1) := by decide +kernel
theorem dX5_takeOut_33 : decode cX5_takeOut 33 = .ok (.if_icmp .ge 23, 3) := by decide +kernel
theorem dX5_takeOut_36 : decode cX5_takeOut 36 = .ok (.aload_n 0, 1) := by decide +kernel
theorem dX5_takeOut_37 : decode cX5_takeOut 37 = .ok (.getfield 15, 3) := by decide +kernel
theorem dX5_takeOut_40 : decode cX5_takeOut 40 = .ok (.iload_n 2, 1) := by decide +kernel
theorem dX5_takeOut_41 : decode cX5_takeOut 41 = .ok (.aload_n 0, 1) := by decide +kernel
theorem dX5_takeOut_42 : decode cX5_takeOut 42 = .ok (.getfield 15, 3) := by decide +kernel
theorem dX5_takeOut_45 : decode cX5_takeOut 45 = .ok (.iload_n 2, 1) := by decide +kernel
theorem dX5_takeOut_46 : decode cX5_takeOut 46 = .ok (.iconst 1, 1) := by decide +kernel
theorem dX5_takeOut_47 : decode cX5_takeOut 47 = .ok (.iadd, 1) := by decide +kernel
theorem dX5_takeOut_48 : decode cX5_takeOut 48 = .ok (.iaload, 1) := by decide +kernel
theorem dX5_takeOut_49 : decode cX5_takeOut 49 = .ok (.iastore, 1) := by decide +kernel
theorem dX5_takeOut_50 : decode cX5_takeOut 50 = .ok (.iinc 2 1, 3) := by decide +kernel
theorem dX5_takeOut_53 : decode cX5_takeOut 53 = .ok (.goto (-38), 3) := by decide +kernel
theorem dX5_takeOut_56 : decode cX5_takeOut 56 = .ok (.aload_n 0, 1) := by decide +kernel
theorem dX5_takeOut_57 : decode cX5_takeOut 57 = .ok (.dup, 1) := by decide +kernel
theorem dX5_takeOut_58 : decode cX5_takeOut 58 = .ok (.getfield 50, 3) := by decide +kernel
theorem dX5_takeOut_61 : decode cX5_takeOut 61 = .ok (.iconst 1, 1) := by decide +kernel
theorem dX5_takeOut_62 : decode cX5_takeOut 62 = .ok (.isub, 1) := by decide +kernel
theorem dX5_takeOut_63 : decode cX5_takeOut 63 = .ok (.putfield 50, 3) := by decide +kernel
theorem dX5_takeOut_66 : decode cX5_takeOut 66 = .ok (.return_, 1) := by decide +kernel
theorem dX5_breakDown_0 : decode cX5_breakDown 0 = .ok (.aload_n 0, 1) := by decide +kernel
theorem dX5_breakDown_1 : decode cX5_breakDown 1 = .ok (.iconst 0, 1) := by decide +kernel
theorem dX5_breakDown_2 : decode cX5_breakDown 2 = .ok (.putfield 50, 3) := by decide +kernel
theorem dX5_breakDown_5 : decode cX5_breakDown 5 = .ok (.aload_n 0, 1) := by decide +kernel
theorem dX5_breakDown_6 : decode cX5_breakDown 6 = .ok (.iconst 0, 1) := by decide +kernel
theorem dX5_breakDown_7 : decode cX5_breakDown 7 = .ok (.putfield 9, 3) := by decide +kernel
theorem dX5_breakDown_10 : decode cX5_breakDown 10 = .ok (.return_, 1) := by decide +kernel
set_option maxRecDepth 20000 in
theorem ggX5_twin_X0_kind : GoodIn wsX5_twin wsX0_kind := goodIn_r _ [12] (by decide +kernel) (by decide +kernel)
set_option maxRecDepth 20000 in
theorem gX5_twin_X0_kind_u66X0 : GoodIn wsX5_twin (va_wsO RX5 66 RX0 "LampsThatRemember$Lamp" ⟨"LampsThatRemember$Lamp", "kind", "()I"⟩ yX0_kind wsX0_kind) := goodIn_app (goodIn_of _ (by decide +kernel)) ggX5_twin_X0_kind
set_option maxRecDepth 20000 in
theorem ggX5_twin_X1_kind : GoodIn wsX5_twin wsX1_kind := goodIn_r _ [17] (by decide +kernel) (by decide +kernel)
set_option maxRecDepth 20000 in
theorem gX5_twin_X1_kind_u66X1 : GoodIn wsX5_twin (va_wsO RX5 66 RX1 "LampsThatRemember$Lamp" ⟨"LampsThatRemember$Lamp", "kind", "()I"⟩ yX1_kind wsX1_kind) := goodIn_app (goodIn_of _ (by decide +kernel)) ggX5_twin_X1_kind
set_option maxRecDepth 20000 in
theorem ggX5_twin_X3_kind : GoodIn wsX5_twin wsX3_kind := goodIn_r _ [21] (by decide +kernel) (by decide +kernel)
set_option maxRecDepth 20000 in
theorem gX5_twin_X3_kind_u66X3 : GoodIn wsX5_twin (va_wsO RX5 66 RX3 "LampsThatRemember$Lamp" ⟨"LampsThatRemember$Lamp", "kind", "()I"⟩ yX3_kind wsX3_kind) := goodIn_app (goodIn_of _ (by decide +kernel)) ggX5_twin_X3_kind
set_option maxRecDepth 20000 in
theorem ggX5_twin_X4_kind : GoodIn wsX5_twin wsX4_kind := goodIn_r _ [25] (by decide +kernel) (by decide +kernel)
set_option maxRecDepth 20000 in
theorem gX5_twin_X4_kind_u66X4 : GoodIn wsX5_twin (va_wsO RX5 66 RX4 "LampsThatRemember$Lamp" ⟨"LampsThatRemember$Lamp", "kind", "()I"⟩ yX4_kind wsX4_kind) := goodIn_app (goodIn_of _ (by decide +kernel)) ggX5_twin_X4_kind
set_option maxRecDepth 20000 in
theorem ggX5_twin_X5_kind : GoodIn wsX5_twin wsX5_kind := goodIn_r _ [13] (by decide +kernel) (by decide +kernel)
set_option maxRecDepth 20000 in
theorem gX5_twin_X5_kind : GoodIn wsX5_twin (wsV RX5 66 RX5 yX5_kind wsX5_kind) := goodIn_app (goodIn_of _ (by decide +kernel)) ggX5_twin_X5_kind
set_option maxRecDepth 20000 in
theorem ggX5_twin_X7_kind : GoodIn wsX5_twin wsX7_kind := goodIn_r _ [33] (by decide +kernel) (by decide +kernel)
set_option maxRecDepth 20000 in
theorem gX5_twin_X7_kind_u66X7 : GoodIn wsX5_twin (va_wsO RX5 66 RX7 "LampsThatRemember$Lamp" ⟨"LampsThatRemember$Lamp", "kind", "()I"⟩ yX7_kind wsX7_kind) := goodIn_app (goodIn_of _ (by decide +kernel)) ggX5_twin_X7_kind
set_option maxRecDepth 20000 in
theorem ggX5_twin_X8_kind : GoodIn wsX5_twin wsX8_kind := goodIn_r _ [37] (by decide +kernel) (by decide +kernel)
set_option maxRecDepth 20000 in
theorem gX5_twin_X8_kind_u66X8 : GoodIn wsX5_twin (va_wsO RX5 66 RX8 "LampsThatRemember$Lamp" ⟨"LampsThatRemember$Lamp", "kind", "()I"⟩ yX8_kind wsX8_kind) := goodIn_app (goodIn_of _ (by decide +kernel)) ggX5_twin_X8_kind
set_option maxRecDepth 20000 in
theorem ggX5_twin_X5_ofKind : GoodIn wsX5_twin wsX5_ofKind := goodIn_r _ [40, 41, 42, 20, 43, 44, 32, 45, 46, 16, 47, 48, 11, 49, 50, 36, 51, 52, 24, 53, 54, 29, 55, 56, 57, 58, 59, 60, 61, 3, 62, 5, 63, 64, 65, 66, 67, 68, 69, 70, 71, 72, 73, 84, 85, 86, 87, 88, 99, 100, 101, 102, 103, 79, 80, 81, 82, 83, 74, 75, 76, 77, 78, 104, 105, 106, 107, 108, 89, 90, 91, 92, 93, 94, 95, 96, 97, 98] (by decide +kernel) (by decide +kernel)
set_option maxRecDepth 20000 in
theorem gX5_twin_X5_ofKind : GoodIn wsX5_twin (va_wsS RX5 69 yX5_ofKind wsX5_ofKind) := goodIn_app (goodIn_of _ (by decide +kernel)) ggX5_twin_X5_ofKind
theorem dX5_twin_0 : decode cX5_twin 0 = .ok (.aload_n 0, 1) := by decide +kernel
theorem dX5_twin_1 : decode cX5_twin 1 = .ok (.invokevirtual 66, 3) := by decide +kernel
theorem dX5_twin_4 : decode cX5_twin 4 = .ok (.invokestatic 69, 3) := by decide +kernel
theorem dX5_twin_7 : decode cX5_twin 7 = .ok (.astore_n 1, 1) := by decide +kernel
theorem dX5_twin_8 : decode cX5_twin 8 = .ok (.aload_n 1, 1) := by decide +kernel
theorem dX5_twin_9 : decode cX5_twin 9 = .ok (.aload_n 0, 1) := by decide +kernel
theorem dX5_twin_10 : decode cX5_twin 10 = .ok (.getfield 38, 3) := by decide +kernel
theorem dX5_twin_13 : decode cX5_twin 13 = .ok (.putfield 38, 3) := by decide +kernel
theorem dX5_twin_16 : decode cX5_twin 16 = .ok (.aload_n 1, 1) := by decide +kernel
theorem dX5_twin_17 : decode cX5_twin 17 = .ok (.aload_n 0, 1) := by decide +kernel
theorem dX5_twin_18 : decode cX5_twin 18 = .ok (.getfield 73, 3) := by decide +kernel
theorem dX5_twin_21 : decode cX5_twin 21 = .ok (.putfield 73, 3) := by decide +kernel
theorem dX5_twin_24 : decode cX5_twin 24 = .ok (.aload_n 1, 1) := by decide +kernel
theorem dX5_twin_25 : decode cX5_twin 25 = .ok (.aload_n 0, 1) := by decide +kernel
theorem dX5_twin_26 : decode cX5_twin 26 = .ok (.getfield 9, 3) := by decide +kernel
theorem dX5_twin_29 : decode cX5_twin 29 = .ok (.putfield 9, 3) := by decide +kernel
theorem dX5_twin_32 : decode cX5_twin 32 = .ok (.aload_n 1, 1) := by decide +kernel
theorem dX5_twin_33 : decode cX5_twin 33 = .ok (.aload_n 0, 1) := by decide +kernel
theorem dX5_twin_34 : decode cX5_twin 34 = .ok (.getfield 50, 3) := by decide +kernel
theorem dX5_twin_37 : decode cX5_twin 37 = .ok (.putfield 50, 3) := by decide +kernel
theorem dX5_twin_40 : decode cX5_twin 40 = .ok (.iconst 0, 1) := by decide +kernel
theorem dX5_twin_41 : decode cX5_twin 41 = .ok (.istore_n 2, 1) := by decide +kernel
theorem dX5_twin_42 : decode cX5_twin 42 = .ok (.iload_n 2, 1) := by decide +kernel
theorem dX5_twin_43 : decode cX5_twin 43 = .ok (.aload_n 0, 1) := by decide +kernel
theorem dX5_twin_44 : decode cX5_twin 44 = .ok (.getfield 15, 3) := by decide +kernel
theorem dX5_twin_47 : decode cX5_twin 47 = .ok (.arraylength, 1) := by decide +kernel
theorem dX5_twin_48 : decode cX5_twin 48 = .ok (.if_icmp .ge 30, 3) := by decide +kernel
theorem dX5_twin_51 : decode cX5_twin 51 = .ok (.iload_n 2, 1) := by decide +kernel
theorem dX5_twin_52 : decode cX5_twin 52 = .ok (.aload_n 1, 1) := by decide +kernel
theorem dX5_twin_53 : decode cX5_twin 53 = .ok (.getfield 15, 3) := by decide +kernel
theorem dX5_twin_56 : decode cX5_twin 56 = .ok (.arraylength, 1) := by decide +kernel
