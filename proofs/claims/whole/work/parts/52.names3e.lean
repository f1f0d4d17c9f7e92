theorem dX12_signAt_4 : decode cX12_signAt 4 = .ok (.aload_n 0, 1) := by decide +kernel
theorem dX12_signAt_5 : decode cX12_signAt 5 = .ok (.getfield 88, 3) := by decide +kernel
theorem dX12_signAt_8 : decode cX12_signAt 8 = .ok (.if_icmp .ge 15, 3) := by decide +kernel
theorem dX12_signAt_11 : decode cX12_signAt 11 = .ok (.aload_n 0, 1) := by decide +kernel
theorem dX12_signAt_12 : decode cX12_signAt 12 = .ok (.getfield 43, 3) := by decide +kernel
theorem dX12_signAt_15 : decode cX12_signAt 15 = .ok (.aload_n 0, 1) := by decide +kernel
theorem dX12_signAt_16 : decode cX12_signAt 16 = .ok (.getfield 95, 3) := by decide +kernel
theorem dX12_signAt_19 : decode cX12_signAt 19 = .ok (.iaload, 1) := by decide +kernel
theorem dX12_signAt_20 : decode cX12_signAt 20 = .ok (.goto 4, 3) := by decide +kernel
theorem dX12_signAt_23 : decode cX12_signAt 23 = .ok (.iconst (-1), 1) := by decide +kernel
theorem dX12_signAt_24 : decode cX12_signAt 24 = .ok (.ireturn, 1) := by decide +kernel
set_option maxRecDepth 20000 in
theorem ggX12_readsDigits_X12_signAt : GoodIn wsX12_readsDigits wsX12_signAt := goodIn_r _ [7, 1, 8, 9, 13, 14, 15, 16, 17, 18, 19, 20, 21, 22, 23, 24, 25, 26, 27, 28, 29, 30, 31, 32, 33, 34, 35, 36, 37, 38, 39, 40, 41, 42, 43, 44, 45] (by decide +kernel) (by decide +kernel)
set_option maxRecDepth 20000 in
theorem gX12_readsDigits_X12_signAt : GoodIn wsX12_readsDigits (wsV RX12 98 RX12 yX12_signAt wsX12_signAt) := goodIn_app (goodIn_of _ (by decide +kernel)) ggX12_readsDigits_X12_signAt
set_option maxRecDepth 20000 in
theorem ggX12_readsDigits_X12_isIn : GoodIn wsX12_readsDigits wsX12_isIn := goodIn_r _ [12] (by decide +kernel) (by decide +kernel)
set_option maxRecDepth 20000 in
theorem gX12_readsDigits_X12_isIn : GoodIn wsX12_readsDigits (va_wsS RX12 102 yX12_isIn wsX12_isIn) := goodIn_app (goodIn_of _ (by decide +kernel)) ggX12_readsDigits_X12_isIn
theorem dX12_readsDigits_0 : decode cX12_readsDigits 0 = .ok (.iconst 0, 1) := by decide +kernel
theorem dX12_readsDigits_1 : decode cX12_readsDigits 1 = .ok (.istore_n 3, 1) := by decide +kernel
theorem dX12_readsDigits_2 : decode cX12_readsDigits 2 = .ok (.iconst 0, 1) := by decide +kernel
theorem dX12_readsDigits_3 : decode cX12_readsDigits 3 = .ok (.istore 4, 2) := by decide +kernel
theorem dX12_readsDigits_5 : decode cX12_readsDigits 5 = .ok (.iload 4, 2) := by decide +kernel
theorem dX12_readsDigits_7 : decode cX12_readsDigits 7 = .ok (.iload_n 2, 1) := by decide +kernel
theorem dX12_readsDigits_8 : decode cX12_readsDigits 8 = .ok (.if_icmp .ge 48, 3) := by decide +kernel
theorem dX12_readsDigits_11 : decode cX12_readsDigits 11 = .ok (.aload_n 0, 1) := by decide +kernel
theorem dX12_readsDigits_12 : decode cX12_readsDigits 12 = .ok (.invokevirtual 98, 3) := by decide +kernel
theorem dX12_readsDigits_15 : decode cX12_readsDigits 15 = .ok (.bipush 48, 2) := by decide +kernel
theorem dX12_readsDigits_17 : decode cX12_readsDigits 17 = .ok (.bipush 57, 2) := by decide +kernel
theorem dX12_readsDigits_19 : decode cX12_readsDigits 19 = .ok (.invokestatic 102, 3) := by decide +kernel
theorem dX12_readsDigits_22 : decode cX12_readsDigits 22 = .ok (.ifCond .ne 5, 3) := by decide +kernel
theorem dX12_readsDigits_25 : decode cX12_readsDigits 25 = .ok (.iconst 0, 1) := by decide +kernel
theorem dX12_readsDigits_26 : decode cX12_readsDigits 26 = .ok (.ireturn, 1) := by decide +kernel
theorem dX12_readsDigits_27 : decode cX12_readsDigits 27 = .ok (.bipush 10, 2) := by decide +kernel
theorem dX12_readsDigits_29 : decode cX12_readsDigits 29 = .ok (.iload_n 3, 1) := by decide +kernel
theorem dX12_readsDigits_30 : decode cX12_readsDigits 30 = .ok (.imul, 1) := by decide +kernel
theorem dX12_readsDigits_31 : decode cX12_readsDigits 31 = .ok (.aload_n 0, 1) := by decide +kernel
theorem dX12_readsDigits_32 : decode cX12_readsDigits 32 = .ok (.invokevirtual 98, 3) := by decide +kernel
theorem dX12_readsDigits_35 : decode cX12_readsDigits 35 = .ok (.iadd, 1) := by decide +kernel
theorem dX12_readsDigits_36 : decode cX12_readsDigits 36 = .ok (.bipush 48, 2) := by decide +kernel
theorem dX12_readsDigits_38 : decode cX12_readsDigits 38 = .ok (.isub, 1) := by decide +kernel
theorem dX12_readsDigits_39 : decode cX12_readsDigits 39 = .ok (.istore_n 3, 1) := by decide +kernel
theorem dX12_readsDigits_40 : decode cX12_readsDigits 40 = .ok (.aload_n 0, 1) := by decide +kernel
theorem dX12_readsDigits_41 : decode cX12_readsDigits 41 = .ok (.dup, 1) := by decide +kernel
theorem dX12_readsDigits_42 : decode cX12_readsDigits 42 = .ok (.getfield 95, 3) := by decide +kernel
theorem dX12_readsDigits_45 : decode cX12_readsDigits 45 = .ok (.iconst 1, 1) := by decide +kernel
theorem dX12_readsDigits_46 : decode cX12_readsDigits 46 = .ok (.iadd, 1) := by decide +kernel
theorem dX12_readsDigits_47 : decode cX12_readsDigits 47 = .ok (.putfield 95, 3) := by decide +kernel
theorem dX12_readsDigits_50 : decode cX12_readsDigits 50 = .ok (.iinc 4 1, 3) := by decide +kernel
theorem dX12_readsDigits_53 : decode cX12_readsDigits 53 = .ok (.goto (-48), 3) := by decide +kernel
theorem dX12_readsDigits_56 : decode cX12_readsDigits 56 = .ok (.aload_n 0, 1) := by decide +kernel
theorem dX12_readsDigits_57 : decode cX12_readsDigits 57 = .ok (.getfield 52, 3) := by decide +kernel
theorem dX12_readsDigits_60 : decode cX12_readsDigits 60 = .ok (.iload_n 1, 1) := by decide +kernel
theorem dX12_readsDigits_61 : decode cX12_readsDigits 61 = .ok (.iload_n 3, 1) := by decide +kernel
theorem dX12_readsDigits_62 : decode cX12_readsDigits 62 = .ok (.iastore, 1) := by decide +kernel
theorem dX12_readsDigits_63 : decode cX12_readsDigits 63 = .ok (.iconst 1, 1) := by decide +kernel
theorem dX12_readsDigits_64 : decode cX12_readsDigits 64 = .ok (.ireturn, 1) := by decide +kernel
theorem dX12_kindOf_0 : decode cX12_kindOf 0 = .ok (.iload_n 0, 1) := by decide +kernel
theorem dX12_kindOf_1 : decode cX12_kindOf 1 = .ok (.tableswitch 82 99 111 #[73, 69, 82, 79, 82, 82, 82, 82, 75, 67, 71, 82, 77], 67) := by decide +kernel
theorem dX12_kindOf_68 : decode cX12_kindOf 68 = .ok (.iconst 0, 1) := by decide +kernel
theorem dX12_kindOf_69 : decode cX12_kindOf 69 = .ok (.ireturn, 1) := by decide +kernel
theorem dX12_kindOf_70 : decode cX12_kindOf 70 = .ok (.iconst 1, 1) := by decide +kernel
theorem dX12_kindOf_71 : decode cX12_kindOf 71 = .ok (.ireturn, 1) := by decide +kernel
theorem dX12_kindOf_72 : decode cX12_kindOf 72 = .ok (.iconst 2, 1) := by decide +kernel
theorem dX12_kindOf_73 : decode cX12_kindOf 73 = .ok (.ireturn, 1) := by decide +kernel
theorem dX12_kindOf_74 : decode cX12_kindOf 74 = .ok (.iconst 3, 1) := by decide +kernel
theorem dX12_kindOf_75 : decode cX12_kindOf 75 = .ok (.ireturn, 1) := by decide +kernel
theorem dX12_kindOf_76 : decode cX12_kindOf 76 = .ok (.iconst 4, 1) := by decide +kernel
theorem dX12_kindOf_77 : decode cX12_kindOf 77 = .ok (.ireturn, 1) := by decide +kernel
theorem dX12_kindOf_78 : decode cX12_kindOf 78 = .ok (.iconst 5, 1) := by decide +kernel
theorem dX12_kindOf_79 : decode cX12_kindOf 79 = .ok (.ireturn, 1) := by decide +kernel
theorem dX12_kindOf_80 : decode cX12_kindOf 80 = .ok (.bipush 6, 2) := by decide +kernel
theorem dX12_kindOf_82 : decode cX12_kindOf 82 = .ok (.ireturn, 1) := by decide +kernel
theorem dX12_kindOf_83 : decode cX12_kindOf 83 = .ok (.iconst (-1), 1) := by decide +kernel
theorem dX12_kindOf_84 : decode cX12_kindOf 84 = .ok (.ireturn, 1) := by decide +kernel
set_option maxRecDepth 20000 in
theorem ggX12_readsLamp_X12_signAt : GoodIn wsX12_readsLamp wsX12_signAt := goodIn_r _ [7, 2, 8, 9, 20, 21, 22, 23, 24, 25, 26, 27, 28, 29, 30, 31, 32, 33, 34, 35, 36, 37, 38, 39, 40, 41, 42, 43, 44, 45, 46, 47, 48, 49, 50, 51, 52] (by decide +kernel) (by decide +kernel)
set_option maxRecDepth 20000 in
theorem gX12_readsLamp_X12_signAt : GoodIn wsX12_readsLamp (wsV RX12 98 RX12 yX12_signAt wsX12_signAt) := goodIn_app (goodIn_of _ (by decide +kernel)) ggX12_readsLamp_X12_signAt
set_option maxRecDepth 20000 in
theorem ggX12_readsLamp_X12_kindOf : GoodIn wsX12_readsLamp wsX12_kindOf := goodIn_r _ [12] (by decide +kernel) (by decide +kernel)
set_option maxRecDepth 20000 in
theorem gX12_readsLamp_X12_kindOf : GoodIn wsX12_readsLamp (va_wsS RX12 106 yX12_kindOf wsX12_kindOf) := goodIn_app (goodIn_of _ (by decide +kernel)) ggX12_readsLamp_X12_kindOf
set_option maxRecDepth 20000 in
theorem ggX12_readsLamp_X12_readsDigits : GoodIn wsX12_readsLamp wsX12_readsDigits := goodIn_r _ [16, 2, 1, 3, 4, 5, 6, 7, 8, 9, 17, 18, 19, 20, 21, 22, 23, 24, 25, 26, 27, 28, 29, 30, 31, 32, 33, 34, 35, 36, 37, 38, 39, 40, 41, 42, 43, 44, 45, 46, 47, 48, 49, 50, 51, 52] (by decide +kernel) (by decide +kernel)
set_option maxRecDepth 20000 in
theorem gX12_readsLamp_X12_readsDigits : GoodIn wsX12_readsLamp (wsV RX12 109 RX12 yX12_readsDigits wsX12_readsDigits) := goodIn_app (goodIn_of _ (by decide +kernel)) ggX12_readsLamp_X12_readsDigits
theorem dX12_readsLamp_0 : decode cX12_readsLamp 0 = .ok (.aload_n 0, 1) := by decide +kernel
theorem dX12_readsLamp_1 : decode cX12_readsLamp 1 = .ok (.getfield 52, 3) := by decide +kernel
theorem dX12_readsLamp_4 : decode cX12_readsLamp 4 = .ok (.iload_n 1, 1) := by decide +kernel
theorem dX12_readsLamp_5 : decode cX12_readsLamp 5 = .ok (.aload_n 0, 1) := by decide +kernel
theorem dX12_readsLamp_6 : decode cX12_readsLamp 6 = .ok (.invokevirtual 98, 3) := by decide +kernel
theorem dX12_readsLamp_9 : decode cX12_readsLamp 9 = .ok (.invokestatic 106, 3) := by decide +kernel
theorem dX12_readsLamp_12 : decode cX12_readsLamp 12 = .ok (.iastore, 1) := by decide +kernel
theorem dX12_readsLamp_13 : decode cX12_readsLamp 13 = .ok (.aload_n 0, 1) := by decide +kernel
theorem dX12_readsLamp_14 : decode cX12_readsLamp 14 = .ok (.getfield 52, 3) := by decide +kernel
theorem dX12_readsLamp_17 : decode cX12_readsLamp 17 = .ok (.iload_n 1, 1) := by decide +kernel
theorem dX12_readsLamp_18 : decode cX12_readsLamp 18 = .ok (.iaload, 1) := by decide +kernel
theorem dX12_readsLamp_19 : decode cX12_readsLamp 19 = .ok (.ifCond .ge 5, 3) := by decide +kernel
theorem dX12_readsLamp_22 : decode cX12_readsLamp 22 = .ok (.iconst 0, 1) := by decide +kernel
theorem dX12_readsLamp_23 : decode cX12_readsLamp 23 = .ok (.ireturn, 1) := by decide +kernel
theorem dX12_readsLamp_24 : decode cX12_readsLamp 24 = .ok (.aload_n 0, 1) := by decide +kernel
theorem dX12_readsLamp_25 : decode cX12_readsLamp 25 = .ok (.dup, 1) := by decide +kernel
theorem dX12_readsLamp_26 : decode cX12_readsLamp 26 = .ok (.getfield 95, 3) := by decide +kernel
theorem dX12_readsLamp_29 : decode cX12_readsLamp 29 = .ok (.iconst 1, 1) := by decide +kernel
theorem dX12_readsLamp_30 : decode cX12_readsLamp 30 = .ok (.iadd, 1) := by decide +kernel
theorem dX12_readsLamp_31 : decode cX12_readsLamp 31 = .ok (.putfield 95, 3) := by decide +kernel
theorem dX12_readsLamp_34 : decode cX12_readsLamp 34 = .ok (.aload_n 0, 1) := by decide +kernel
theorem dX12_readsLamp_35 : decode cX12_readsLamp 35 = .ok (.iload_n 1, 1) := by decide +kernel
theorem dX12_readsLamp_36 : decode cX12_readsLamp 36 = .ok (.iconst 1, 1) := by decide +kernel
theorem dX12_readsLamp_37 : decode cX12_readsLamp 37 = .ok (.iadd, 1) := by decide +kernel
theorem dX12_readsLamp_38 : decode cX12_readsLamp 38 = .ok (.iconst 2, 1) := by decide +kernel
theorem dX12_readsLamp_39 : decode cX12_readsLamp 39 = .ok (.invokevirtual 109, 3) := by decide +kernel
theorem dX12_readsLamp_42 : decode cX12_readsLamp 42 = .ok (.ifCond .eq 18, 3) := by decide +kernel
theorem dX12_readsLamp_45 : decode cX12_readsLamp 45 = .ok (.aload_n 0, 1) := by decide +kernel
theorem dX12_readsLamp_46 : decode cX12_readsLamp 46 = .ok (.iload_n 1, 1) := by decide +kernel
theorem dX12_readsLamp_47 : decode cX12_readsLamp 47 = .ok (.iconst 2, 1) := by decide +kernel
theorem dX12_readsLamp_48 : decode cX12_readsLamp 48 = .ok (.iadd, 1) := by decide +kernel
theorem dX12_readsLamp_49 : decode cX12_readsLamp 49 = .ok (.iconst 1, 1) := by decide +kernel
theorem dX12_readsLamp_50 : decode cX12_readsLamp 50 = .ok (.invokevirtual 109, 3) := by decide +kernel
theorem dX12_readsLamp_53 : decode cX12_readsLamp 53 = .ok (.ifCond .eq 7, 3) := by decide +kernel
theorem dX12_readsLamp_56 : decode cX12_readsLamp 56 = .ok (.iconst 1, 1) := by decide +kernel
theorem dX12_readsLamp_57 : decode cX12_readsLamp 57 = .ok (.goto 4, 3) := by decide +kernel
theorem dX12_readsLamp_60 : decode cX12_readsLamp 60 = .ok (.iconst 0, 1) := by decide +kernel
theorem dX12_readsLamp_61 : decode cX12_readsLamp 61 = .ok (.ireturn, 1) := by decide +kernel
set_option maxRecDepth 20000 in
theorem ggX12_readsAll_X12_readsLamp : GoodIn wsX12_readsAll wsX12_readsLamp := goodIn_r _ [5, 6, 7, 8, 9, 10, 4, 11, 12, 13, 14, 15, 16, 17, 18, 19, 20, 21, 22, 23, 24, 25, 26, 27, 28, 29, 30, 31, 32, 33, 34, 35, 36, 37, 38, 39, 40, 41, 42, 43, 44, 45, 46, 47, 48, 49, 50, 51, 52, 53, 54, 55, 56] (by decide +kernel) (by decide +kernel)
set_option maxRecDepth 20000 in
theorem gX12_readsAll_X12_readsLamp : GoodIn wsX12_readsAll (wsV RX12 113 RX12 yX12_readsLamp wsX12_readsLamp) := goodIn_app (goodIn_of _ (by decide +kernel)) ggX12_readsAll_X12_readsLamp
set_option maxRecDepth 20000 in
theorem ggX12_readsAll_X12_readsDigits : GoodIn wsX12_readsAll wsX12_readsDigits := goodIn_r _ [20, 7, 6, 8, 9, 10, 4, 11, 12, 13, 21, 22, 23, 24, 25, 26, 27, 28, 29, 30, 31, 32, 33, 34, 35, 36, 37, 38, 39, 40, 41, 42, 43, 44, 45, 46, 47, 48, 49, 50, 51, 52, 53, 54, 55, 56] (by decide +kernel) (by decide +kernel)
set_option maxRecDepth 20000 in
theorem gX12_readsAll_X12_readsDigits : GoodIn wsX12_readsAll (wsV RX12 109 RX12 yX12_readsDigits wsX12_readsDigits) := goodIn_app (goodIn_of _ (by decide +kernel)) ggX12_readsAll_X12_readsDigits
theorem dX12_readsAll_0 : decode cX12_readsAll 0 = .ok (.iload_n 1, 1) := by decide +kernel
theorem dX12_readsAll_1 : decode cX12_readsAll 1 = .ok (.lookupswitch 82 #[(103, 56), (108, 43), (112, 49), (119, 49)], 43) := by decide +kernel
theorem dX12_readsAll_44 : decode cX12_readsAll 44 = .ok (.aload_n 0, 1) := by decide +kernel
theorem dX12_readsAll_45 : decode cX12_readsAll 45 = .ok (.iload_n 2, 1) := by decide +kernel
theorem dX12_readsAll_46 : decode cX12_readsAll 46 = .ok (.invokevirtual 113, 3) := by decide +kernel
theorem dX12_readsAll_49 : decode cX12_readsAll 49 = .ok (.ireturn, 1) := by decide +kernel
theorem dX12_readsAll_50 : decode cX12_readsAll 50 = .ok (.aload_n 0, 1) := by decide +kernel
theorem dX12_readsAll_51 : decode cX12_readsAll 51 = .ok (.iload_n 2, 1) := by decide +kernel
theorem dX12_readsAll_52 : decode cX12_readsAll 52 = .ok (.iconst 2, 1) := by decide +kernel
theorem dX12_readsAll_53 : decode cX12_readsAll 53 = .ok (.invokevirtual 109, 3) := by decide +kernel
theorem dX12_readsAll_56 : decode cX12_readsAll 56 = .ok (.ireturn, 1) := by decide +kernel
theorem dX12_readsAll_57 : decode cX12_readsAll 57 = .ok (.aload_n 0, 1) := by decide +kernel
theorem dX12_readsAll_58 : decode cX12_readsAll 58 = .ok (.iload_n 2, 1) := by decide +kernel
theorem dX12_readsAll_59 : decode cX12_readsAll 59 = .ok (.iconst 1, 1) := by decide +kernel
theorem dX12_readsAll_60 : decode cX12_readsAll 60 = .ok (.invokevirtual 109, 3) := by decide +kernel
theorem dX12_readsAll_63 : decode cX12_readsAll 63 = .ok (.ifCond .eq 18, 3) := by decide +kernel
theorem dX12_readsAll_66 : decode cX12_readsAll 66 = .ok (.aload_n 0, 1) := by decide +kernel
theorem dX12_readsAll_67 : decode cX12_readsAll 67 = .ok (.iload_n 2, 1) := by decide +kernel
theorem dX12_readsAll_68 : decode cX12_readsAll 68 = .ok (.iconst 1, 1) := by decide +kernel
theorem dX12_readsAll_69 : decode cX12_readsAll 69 = .ok (.iadd, 1) := by decide +kernel
theorem dX12_readsAll_70 : decode cX12_readsAll 70 = .ok (.iconst 2, 1) := by decide +kernel
theorem dX12_readsAll_71 : decode cX12_readsAll 71 = .ok (.invokevirtual 109, 3) := by decide +kernel
theorem dX12_readsAll_74 : decode cX12_readsAll 74 = .ok (.ifCond .eq 7, 3) := by decide +kernel
theorem dX12_readsAll_77 : decode cX12_readsAll 77 = .ok (.iconst 1, 1) := by decide +kernel
theorem dX12_readsAll_78 : decode cX12_readsAll 78 = .ok (.goto 4, 3) := by decide +kernel
theorem dX12_readsAll_81 : decode cX12_readsAll 81 = .ok (.iconst 0, 1) := by decide +kernel
theorem dX12_readsAll_82 : decode cX12_readsAll 82 = .ok (.ireturn, 1) := by decide +kernel
theorem dX12_readsAll_83 : decode cX12_readsAll 83 = .ok (.aload_n 0, 1) := by decide +kernel
theorem dX12_readsAll_84 : decode cX12_readsAll 84 = .ok (.iload_n 2, 1) := by decide +kernel
theorem dX12_readsAll_85 : decode cX12_readsAll 85 = .ok (.iconst 1, 1) := by decide +kernel
theorem dX12_readsAll_86 : decode cX12_readsAll 86 = .ok (.invokevirtual 109, 3) := by decide +kernel
theorem dX12_readsAll_89 : decode cX12_readsAll 89 = .ok (.ireturn, 1) := by decide +kernel
set_option maxRecDepth 20000 in
theorem ggX12_statement_X12_signAt : GoodIn wsX12_statement wsX12_signAt := goodIn_r _ [9, 4, 10, 11, 31, 32, 33, 34, 35, 36, 37, 38, 39, 40, 41, 42, 43, 44, 45, 46, 47, 48, 49, 50, 51, 52, 53, 54, 55, 56, 57, 58, 59, 60, 61, 62, 63] (by decide +kernel) (by decide +kernel)
set_option maxRecDepth 20000 in
theorem gX12_statement_X12_signAt : GoodIn wsX12_statement (wsV RX12 98 RX12 yX12_signAt wsX12_signAt) := goodIn_app (goodIn_of _ (by decide +kernel)) ggX12_statement_X12_signAt
set_option maxRecDepth 20000 in
theorem ggX12_statement_X12_readsAll : GoodIn wsX12_statement wsX12_readsAll := goodIn_r _ [15, 16, 17, 18, 8, 19, 20, 4, 5, 6, 7, 9, 10, 11, 21, 22, 23, 24, 25, 26, 27, 28, 29, 30, 31, 32, 33, 34, 35, 36, 37, 38, 39, 40, 41, 42, 43, 44, 45, 46, 47, 48, 49, 50, 51, 52, 53, 54, 55, 56, 57, 58, 59, 60, 61, 62, 63] (by decide +kernel) (by decide +kernel)
set_option maxRecDepth 20000 in
theorem gX12_statement_X12_readsAll : GoodIn wsX12_statement (wsV RX12 120 RX12 yX12_readsAll wsX12_readsAll) := goodIn_app (goodIn_of _ (by decide +kernel)) ggX12_statement_X12_readsAll
theorem dX12_statement_0 : decode cX12_statement 0 = .ok (.aload_n 0, 1) := by decide +kernel
theorem dX12_statement_1 : decode cX12_statement 1 = .ok (.invokevirtual 98, 3) := by decide +kernel
theorem dX12_statement_4 : decode cX12_statement 4 = .ok (.istore_n 1, 1) := by decide +kernel
theorem dX12_statement_5 : decode cX12_statement 5 = .ok (.iload_n 1, 1) := by decide +kernel
theorem dX12_statement_6 : decode cX12_statement 6 = .ok (.bipush 108, 2) := by decide +kernel
theorem dX12_statement_8 : decode cX12_statement 8 = .ok (.if_icmp .eq 35, 3) := by decide +kernel
theorem dX12_statement_11 : decode cX12_statement 11 = .ok (.iload_n 1, 1) := by decide +kernel
theorem dX12_statement_12 : decode cX12_statement 12 = .ok (.bipush 119, 2) := by decide +kernel
theorem dX12_statement_14 : decode cX12_statement 14 = .ok (.if_icmp .eq 29, 3) := by decide +kernel
theorem dX12_statement_17 : decode cX12_statement 17 = .ok (.iload_n 1, 1) := by decide +kernel
theorem dX12_statement_18 : decode cX12_statement 18 = .ok (.bipush 112, 2) := by decide +kernel
theorem dX12_statement_20 : decode cX12_statement 20 = .ok (.if_icmp .eq 23, 3) := by decide +kernel
theorem dX12_statement_23 : decode cX12_statement 23 = .ok (.iload_n 1, 1) := by decide +kernel
theorem dX12_statement_24 : decode cX12_statement 24 = .ok (.bipush 103, 2) := by decide +kernel
theorem dX12_statement_26 : decode cX12_statement 26 = .ok (.if_icmp .eq 17, 3) := by decide +kernel
theorem dX12_statement_29 : decode cX12_statement 29 = .ok (.iload_n 1, 1) := by decide +kernel
theorem dX12_statement_30 : decode cX12_statement 30 = .ok (.bipush 115, 2) := by decide +kernel
theorem dX12_statement_32 : decode cX12_statement 32 = .ok (.if_icmp .eq 11, 3) := by decide +kernel
theorem dX12_statement_35 : decode cX12_statement 35 = .ok (.iload_n 1, 1) := by decide +kernel
theorem dX12_statement_36 : decode cX12_statement 36 = .ok (.bipush 98, 2) := by decide +kernel
theorem dX12_statement_38 : decode cX12_statement 38 = .ok (.if_icmp .eq 5, 3) := by decide +kernel
theorem dX12_statement_41 : decode cX12_statement 41 = .ok (.iconst 0, 1) := by decide +kernel
theorem dX12_statement_42 : decode cX12_statement 42 = .ok (.ireturn, 1) := by decide +kernel
theorem dX12_statement_43 : decode cX12_statement 43 = .ok (.aload_n 0, 1) := by decide +kernel
theorem dX12_statement_44 : decode cX12_statement 44 = .ok (.getfield 46, 3) := by decide +kernel
theorem dX12_statement_47 : decode cX12_statement 47 = .ok (.aload_n 0, 1) := by decide +kernel
theorem dX12_statement_48 : decode cX12_statement 48 = .ok (.getfield 117, 3) := by decide +kernel
theorem dX12_statement_51 : decode cX12_statement 51 = .ok (.iload_n 1, 1) := by decide +kernel
theorem dX12_statement_52 : decode cX12_statement 52 = .ok (.iastore, 1) := by decide +kernel
theorem dX12_statement_53 : decode cX12_statement 53 = .ok (.aload_n 0, 1) := by decide +kernel
theorem dX12_statement_54 : decode cX12_statement 54 = .ok (.getfield 49, 3) := by decide +kernel
theorem dX12_statement_57 : decode cX12_statement 57 = .ok (.aload_n 0, 1) := by decide +kernel
theorem dX12_statement_58 : decode cX12_statement 58 = .ok (.getfield 117, 3) := by decide +kernel
theorem dX12_statement_61 : decode cX12_statement 61 = .ok (.aload_n 0, 1) := by decide +kernel
theorem dX12_statement_62 : decode cX12_statement 62 = .ok (.getfield 95, 3) := by decide +kernel
theorem dX12_statement_65 : decode cX12_statement 65 = .ok (.iastore, 1) := by decide +kernel
theorem dX12_statement_66 : decode cX12_statement 66 = .ok (.aload_n 0, 1) := by decide +kernel
theorem dX12_statement_67 : decode cX12_statement 67 = .ok (.dup, 1) := by decide +kernel
theorem dX12_statement_68 : decode cX12_statement 68 = .ok (.getfield 95, 3) := by decide +kernel
theorem dX12_statement_71 : decode cX12_statement 71 = .ok (.iconst 1, 1) := by decide +kernel
theorem dX12_statement_72 : decode cX12_statement 72 = .ok (.iadd, 1) := by decide +kernel
theorem dX12_statement_73 : decode cX12_statement 73 = .ok (.putfield 95, 3) := by decide +kernel
theorem dX12_statement_76 : decode cX12_statement 76 = .ok (.aload_n 0, 1) := by decide +kernel
theorem dX12_statement_77 : decode cX12_statement 77 = .ok (.iload_n 1, 1) := by decide +kernel
theorem dX12_statement_78 : decode cX12_statement 78 = .ok (.iconst 3, 1) := by decide +kernel
theorem dX12_statement_79 : decode cX12_statement 79 = .ok (.aload_n 0, 1) := by decide +kernel
theorem dX12_statement_80 : decode cX12_statement 80 = .ok (.getfield 117, 3) := by decide +kernel
theorem dX12_statement_83 : decode cX12_statement 83 = .ok (.imul, 1) := by decide +kernel
theorem dX12_statement_84 : decode cX12_statement 84 = .ok (.invokevirtual 120, 3) := by decide +kernel
theorem dX12_statement_87 : decode cX12_statement 87 = .ok (.ifCond .eq 12, 3) := by decide +kernel
theorem dX12_statement_90 : decode cX12_statement 90 = .ok (.aload_n 0, 1) := by decide +kernel
theorem dX12_statement_91 : decode cX12_statement 91 = .ok (.invokevirtual 98, 3) := by decide +kernel
theorem dX12_statement_94 : decode cX12_statement 94 = .ok (.bipush 59, 2) := by decide +kernel
theorem dX12_statement_96 : decode cX12_statement 96 = .ok (.if_icmp .eq 5, 3) := by decide +kernel
theorem dX12_statement_99 : decode cX12_statement 99 = .ok (.iconst 0, 1) := by decide +kernel
theorem dX12_statement_100 : decode cX12_statement 100 = .ok (.ireturn, 1) := by decide +kernel
theorem dX12_statement_101 : decode cX12_statement 101 = .ok (.aload_n 0, 1) := by decide +kernel
theorem dX12_statement_102 : decode cX12_statement 102 = .ok (.dup, 1) := by decide +kernel
theorem dX12_statement_103 : decode cX12_statement 103 = .ok (.getfield 95, 3) := by decide +kernel
theorem dX12_statement_106 : decode cX12_statement 106 = .ok (.iconst 1, 1) := by decide +kernel
theorem dX12_statement_107 : decode cX12_statement 107 = .ok (.iadd, 1) := by decide +kernel
theorem dX12_statement_108 : decode cX12_statement 108 = .ok (.putfield 95, 3) := by decide +kernel
theorem dX12_statement_111 : decode cX12_statement 111 = .ok (.iconst 1, 1) := by decide +kernel
theorem dX12_statement_112 : decode cX12_statement 112 = .ok (.ireturn, 1) := by decide +kernel
set_option maxRecDepth 20000 in
theorem ggX12_comesLamp_X12_isCell : GoodIn wsX12_comesLamp wsX12_isCell := goodIn_r _ [11] (by decide +kernel) (by decide +kernel)
set_option maxRecDepth 20000 in
theorem gX12_comesLamp_X12_isCell : GoodIn wsX12_comesLamp (va_wsS RX12 123 yX12_isCell wsX12_isCell) := goodIn_app (goodIn_of _ (by decide +kernel)) ggX12_comesLamp_X12_isCell
theorem dX12_comesLamp_0 : decode cX12_comesLamp 0 = .ok (.aload_n 0, 1) := by decide +kernel
theorem dX12_comesLamp_1 : decode cX12_comesLamp 1 = .ok (.getfield 52, 3) := by decide +kernel
theorem dX12_comesLamp_4 : decode cX12_comesLamp 4 = .ok (.iload_n 1, 1) := by decide +kernel
theorem dX12_comesLamp_5 : decode cX12_comesLamp 5 = .ok (.iconst 1, 1) := by decide +kernel
theorem dX12_comesLamp_6 : decode cX12_comesLamp 6 = .ok (.iadd, 1) := by decide +kernel
theorem dX12_comesLamp_7 : decode cX12_comesLamp 7 = .ok (.iaload, 1) := by decide +kernel
theorem dX12_comesLamp_8 : decode cX12_comesLamp 8 = .ok (.invokestatic 123, 3) := by decide +kernel
theorem dX12_comesLamp_11 : decode cX12_comesLamp 11 = .ok (.ifCond .eq 24, 3) := by decide +kernel
theorem dX12_comesLamp_14 : decode cX12_comesLamp 14 = .ok (.aload_n 0, 1) := by decide +kernel
theorem dX12_comesLamp_15 : decode cX12_comesLamp 15 = .ok (.getfield 52, 3) := by decide +kernel
theorem dX12_comesLamp_18 : decode cX12_comesLamp 18 = .ok (.iload_n 1, 1) := by decide +kernel
theorem dX12_comesLamp_19 : decode cX12_comesLamp 19 = .ok (.iconst 2, 1) := by decide +kernel
theorem dX12_comesLamp_20 : decode cX12_comesLamp 20 = .ok (.iadd, 1) := by decide +kernel
theorem dX12_comesLamp_21 : decode cX12_comesLamp 21 = .ok (.iaload, 1) := by decide +kernel
theorem dX12_comesLamp_22 : decode cX12_comesLamp 22 = .ok (.iconst 5, 1) := by decide +kernel
theorem dX12_comesLamp_23 : decode cX12_comesLamp 23 = .ok (.if_icmp .gt 12, 3) := by decide +kernel
theorem dX12_comesLamp_26 : decode cX12_comesLamp 26 = .ok (.aload_n 0, 1) := by decide +kernel
theorem dX12_comesLamp_27 : decode cX12_comesLamp 27 = .ok (.getfield 76, 3) := by decide +kernel
theorem dX12_comesLamp_30 : decode cX12_comesLamp 30 = .ok (.bipush 6, 2) := by decide +kernel
theorem dX12_comesLamp_32 : decode cX12_comesLamp 32 = .ok (.if_icmp .ne 5, 3) := by decide +kernel
theorem dX12_comesLamp_35 : decode cX12_comesLamp 35 = .ok (.iconst 0, 1) := by decide +kernel
theorem dX12_comesLamp_36 : decode cX12_comesLamp 36 = .ok (.ireturn, 1) := by decide +kernel
theorem dX12_comesLamp_37 : decode cX12_comesLamp 37 = .ok (.aload_n 0, 1) := by decide +kernel
theorem dX12_comesLamp_38 : decode cX12_comesLamp 38 = .ok (.getfield 16, 3) := by decide +kernel
theorem dX12_comesLamp_41 : decode cX12_comesLamp 41 = .ok (.aload_n 0, 1) := by decide +kernel
theorem dX12_comesLamp_42 : decode cX12_comesLamp 42 = .ok (.getfield 76, 3) := by decide +kernel
theorem dX12_comesLamp_45 : decode cX12_comesLamp 45 = .ok (.aload_n 0, 1) := by decide +kernel
theorem dX12_comesLamp_46 : decode cX12_comesLamp 46 = .ok (.getfield 52, 3) := by decide +kernel
theorem dX12_comesLamp_49 : decode cX12_comesLamp 49 = .ok (.iload_n 1, 1) := by decide +kernel
theorem dX12_comesLamp_50 : decode cX12_comesLamp 50 = .ok (.iaload, 1) := by decide +kernel
theorem dX12_comesLamp_51 : decode cX12_comesLamp 51 = .ok (.iastore, 1) := by decide +kernel
theorem dX12_comesLamp_52 : decode cX12_comesLamp 52 = .ok (.aload_n 0, 1) := by decide +kernel
theorem dX12_comesLamp_53 : decode cX12_comesLamp 53 = .ok (.getfield 19, 3) := by decide +kernel
theorem dX12_comesLamp_56 : decode cX12_comesLamp 56 = .ok (.aload_n 0, 1) := by decide +kernel
theorem dX12_comesLamp_57 : decode cX12_comesLamp 57 = .ok (.getfield 76, 3) := by decide +kernel
theorem dX12_comesLamp_60 : decode cX12_comesLamp 60 = .ok (.aload_n 0, 1) := by decide +kernel
theorem dX12_comesLamp_61 : decode cX12_comesLamp 61 = .ok (.getfield 52, 3) := by decide +kernel
theorem dX12_comesLamp_64 : decode cX12_comesLamp 64 = .ok (.iload_n 1, 1) := by decide +kernel
theorem dX12_comesLamp_65 : decode cX12_comesLamp 65 = .ok (.iconst 1, 1) := by decide +kernel
theorem dX12_comesLamp_66 : decode cX12_comesLamp 66 = .ok (.iadd, 1) := by decide +kernel
theorem dX12_comesLamp_67 : decode cX12_comesLamp 67 = .ok (.iaload, 1) := by decide +kernel
theorem dX12_comesLamp_68 : decode cX12_comesLamp 68 = .ok (.iastore, 1) := by decide +kernel
theorem dX12_comesLamp_69 : decode cX12_comesLamp 69 = .ok (.aload_n 0, 1) := by decide +kernel
theorem dX12_comesLamp_70 : decode cX12_comesLamp 70 = .ok (.getfield 22, 3) := by decide +kernel
theorem dX12_comesLamp_73 : decode cX12_comesLamp 73 = .ok (.aload_n 0, 1) := by decide +kernel
theorem dX12_comesLamp_74 : decode cX12_comesLamp 74 = .ok (.getfield 76, 3) := by decide +kernel
theorem dX12_comesLamp_77 : decode cX12_comesLamp 77 = .ok (.aload_n 0, 1) := by decide +kernel
theorem dX12_comesLamp_78 : decode cX12_comesLamp 78 = .ok (.getfield 52, 3) := by decide +kernel
theorem dX12_comesLamp_81 : decode cX12_comesLamp 81 = .ok (.iload_n 1, 1) := by decide +kernel
theorem dX12_comesLamp_82 : decode cX12_comesLamp 82 = .ok (.iconst 2, 1) := by decide +kernel
theorem dX12_comesLamp_83 : decode cX12_comesLamp 83 = .ok (.iadd, 1) := by decide +kernel
theorem dX12_comesLamp_84 : decode cX12_comesLamp 84 = .ok (.iaload, 1) := by decide +kernel
theorem dX12_comesLamp_85 : decode cX12_comesLamp 85 = .ok (.iastore, 1) := by decide +kernel
theorem dX12_comesLamp_86 : decode cX12_comesLamp 86 = .ok (.aload_n 0, 1) := by decide +kernel
theorem dX12_comesLamp_87 : decode cX12_comesLamp 87 = .ok (.getfield 25, 3) := by decide +kernel
theorem dX12_comesLamp_90 : decode cX12_comesLamp 90 = .ok (.aload_n 0, 1) := by decide +kernel
theorem dX12_comesLamp_91 : decode cX12_comesLamp 91 = .ok (.getfield 76, 3) := by decide +kernel
theorem dX12_comesLamp_94 : decode cX12_comesLamp 94 = .ok (.iconst 1, 1) := by decide +kernel
theorem dX12_comesLamp_95 : decode cX12_comesLamp 95 = .ok (.iastore, 1) := by decide +kernel
theorem dX12_comesLamp_96 : decode cX12_comesLamp 96 = .ok (.aload_n 0, 1) := by decide +kernel
theorem dX12_comesLamp_97 : decode cX12_comesLamp 97 = .ok (.getfield 28, 3) := by decide +kernel
theorem dX12_comesLamp_100 : decode cX12_comesLamp 100 = .ok (.aload_n 0, 1) := by decide +kernel
theorem dX12_comesLamp_101 : decode cX12_comesLamp 101 = .ok (.getfield 76, 3) := by decide +kernel
theorem dX12_comesLamp_104 : decode cX12_comesLamp 104 = .ok (.iconst 0, 1) := by decide +kernel
theorem dX12_comesLamp_105 : decode cX12_comesLamp 105 = .ok (.iastore, 1) := by decide +kernel
theorem dX12_comesLamp_106 : decode cX12_comesLamp 106 = .ok (.aload_n 0, 1) := by decide +kernel
theorem dX12_comesLamp_107 : decode cX12_comesLamp 107 = .ok (.dup, 1) := by decide +kernel
theorem dX12_comesLamp_108 : decode cX12_comesLamp 108 = .ok (.getfield 76, 3) := by decide +kernel
theorem dX12_comesLamp_111 : decode cX12_comesLamp 111 = .ok (.iconst 1, 1) := by decide +kernel
theorem dX12_comesLamp_112 : decode cX12_comesLamp 112 = .ok (.iadd, 1) := by decide +kernel
theorem dX12_comesLamp_113 : decode cX12_comesLamp 113 = .ok (.putfield 76, 3) := by decide +kernel
theorem dX12_comesLamp_116 : decode cX12_comesLamp 116 = .ok (.iconst 1, 1) := by decide +kernel
theorem dX12_comesLamp_117 : decode cX12_comesLamp 117 = .ok (.ireturn, 1) := by decide +kernel
set_option maxRecDepth 20000 in
theorem ggX12_notWall_X12_isCell : GoodIn wsX12_notWall wsX12_isCell := goodIn_r _ [5] (by decide +kernel) (by decide +kernel)
set_option maxRecDepth 20000 in
theorem gX12_notWall_X12_isCell : GoodIn wsX12_notWall (va_wsS RX12 123 yX12_isCell wsX12_isCell) := goodIn_app (goodIn_of _ (by decide +kernel)) ggX12_notWall_X12_isCell
set_option maxRecDepth 20000 in
theorem ggX12_notWall_X12_isSomebodyAt : GoodIn wsX12_notWall wsX12_isSomebodyAt := goodIn_r _ [9, 10, 11, 16, 17, 18, 19, 20, 21, 22, 23, 24, 25, 26, 27, 28, 29, 30, 31, 32, 33, 34, 35, 36, 37, 38, 39, 40, 41, 42, 43, 44, 45, 46, 47, 48] (by decide +kernel) (by decide +kernel)
set_option maxRecDepth 20000 in
theorem gX12_notWall_X12_isSomebodyAt : GoodIn wsX12_notWall (wsV RX12 126 RX12 yX12_isSomebodyAt wsX12_isSomebodyAt) := goodIn_app (goodIn_of _ (by decide +kernel)) ggX12_notWall_X12_isSomebodyAt
set_option maxRecDepth 20000 in
theorem ggX12_notWall_X12_wallMany : GoodIn wsX12_notWall wsX12_wallMany := goodIn_r _ [15, 1, 16, 17, 18, 19, 20, 21, 22, 23, 24, 25, 26, 27, 28, 29, 30, 31, 32, 33, 34, 35, 36, 37, 38, 39, 40, 41, 42, 43, 44, 45, 46, 47, 48] (by decide +kernel) (by decide +kernel)
set_option maxRecDepth 20000 in
theorem gX12_notWall_X12_wallMany : GoodIn wsX12_notWall (wsV RX12 129 RX12 yX12_wallMany wsX12_wallMany) := goodIn_app (goodIn_of _ (by decide +kernel)) ggX12_notWall_X12_wallMany
theorem dX12_notWall_0 : decode cX12_notWall 0 = .ok (.iload_n 1, 1) := by decide +kernel
theorem dX12_notWall_1 : decode cX12_notWall 1 = .ok (.invokestatic 123, 3) := by decide +kernel
theorem dX12_notWall_4 : decode cX12_notWall 4 = .ok (.ifCond .ne 7, 3) := by decide +kernel
theorem dX12_notWall_7 : decode cX12_notWall 7 = .ok (.iconst (-1), 1) := by decide +kernel
theorem dX12_notWall_8 : decode cX12_notWall 8 = .ok (.goto 40, 3) := by decide +kernel
theorem dX12_notWall_11 : decode cX12_notWall 11 = .ok (.aload_n 0, 1) := by decide +kernel
theorem dX12_notWall_12 : decode cX12_notWall 12 = .ok (.iload_n 1, 1) := by decide +kernel
theorem dX12_notWall_13 : decode cX12_notWall 13 = .ok (.invokevirtual 126, 3) := by decide +kernel
theorem dX12_notWall_16 : decode cX12_notWall 16 = .ok (.ifCond .eq 8, 3) := by decide +kernel
theorem dX12_notWall_19 : decode cX12_notWall 19 = .ok (.bipush (-3), 2) := by decide +kernel
theorem dX12_notWall_21 : decode cX12_notWall 21 = .ok (.goto 27, 3) := by decide +kernel
theorem dX12_notWall_24 : decode cX12_notWall 24 = .ok (.aload_n 0, 1) := by decide +kernel
theorem dX12_notWall_25 : decode cX12_notWall 25 = .ok (.getfield 13, 3) := by decide +kernel
theorem dX12_notWall_28 : decode cX12_notWall 28 = .ok (.iload_n 1, 1) := by decide +kernel
theorem dX12_notWall_29 : decode cX12_notWall 29 = .ok (.iaload, 1) := by decide +kernel
theorem dX12_notWall_30 : decode cX12_notWall 30 = .ok (.ifCond .ne 17, 3) := by decide +kernel
theorem dX12_notWall_33 : decode cX12_notWall 33 = .ok (.aload_n 0, 1) := by decide +kernel
theorem dX12_notWall_34 : decode cX12_notWall 34 = .ok (.invokevirtual 129, 3) := by decide +kernel
theorem dX12_notWall_37 : decode cX12_notWall 37 = .ok (.bipush 18, 2) := by decide +kernel
theorem dX12_notWall_39 : decode cX12_notWall 39 = .ok (.if_icmp .ne 8, 3) := by decide +kernel
theorem dX12_notWall_42 : decode cX12_notWall 42 = .ok (.bipush (-6), 2) := by decide +kernel
theorem dX12_notWall_44 : decode cX12_notWall 44 = .ok (.goto 4, 3) := by decide +kernel
theorem dX12_notWall_47 : decode cX12_notWall 47 = .ok (.iconst 0, 1) := by decide +kernel
theorem dX12_notWall_48 : decode cX12_notWall 48 = .ok (.ireturn, 1) := by decide +kernel
set_option maxRecDepth 20000 in
theorem ggX12_notPerson_X12_isCell : GoodIn wsX12_notPerson wsX12_isCell := goodIn_r _ [6] (by decide +kernel) (by decide +kernel)
set_option maxRecDepth 20000 in
theorem gX12_notPerson_X12_isCell : GoodIn wsX12_notPerson (va_wsS RX12 123 yX12_isCell wsX12_isCell) := goodIn_app (goodIn_of _ (by decide +kernel)) ggX12_notPerson_X12_isCell
theorem dX12_notPerson_0 : decode cX12_notPerson 0 = .ok (.iload_n 1, 1) := by decide +kernel
theorem dX12_notPerson_1 : decode cX12_notPerson 1 = .ok (.invokestatic 123, 3) := by decide +kernel
theorem dX12_notPerson_4 : decode cX12_notPerson 4 = .ok (.ifCond .ne 7, 3) := by decide +kernel
theorem dX12_notPerson_7 : decode cX12_notPerson 7 = .ok (.iconst (-1), 1) := by decide +kernel
theorem dX12_notPerson_8 : decode cX12_notPerson 8 = .ok (.goto 32, 3) := by decide +kernel
theorem dX12_notPerson_11 : decode cX12_notPerson 11 = .ok (.aload_n 0, 1) := by decide +kernel
theorem dX12_notPerson_12 : decode cX12_notPerson 12 = .ok (.getfield 13, 3) := by decide +kernel
theorem dX12_notPerson_15 : decode cX12_notPerson 15 = .ok (.iload_n 1, 1) := by decide +kernel
theorem dX12_notPerson_16 : decode cX12_notPerson 16 = .ok (.iaload, 1) := by decide +kernel
theorem dX12_notPerson_17 : decode cX12_notPerson 17 = .ok (.iconst 1, 1) := by decide +kernel
theorem dX12_notPerson_18 : decode cX12_notPerson 18 = .ok (.if_icmp .ne 8, 3) := by decide +kernel
theorem dX12_notPerson_21 : decode cX12_notPerson 21 = .ok (.bipush (-3), 2) := by decide +kernel
theorem dX12_notPerson_23 : decode cX12_notPerson 23 = .ok (.goto 17, 3) := by decide +kernel
theorem dX12_notPerson_26 : decode cX12_notPerson 26 = .ok (.aload_n 0, 1) := by decide +kernel
theorem dX12_notPerson_27 : decode cX12_notPerson 27 = .ok (.getfield 81, 3) := by decide +kernel
theorem dX12_notPerson_30 : decode cX12_notPerson 30 = .ok (.iconst 4, 1) := by decide +kernel
theorem dX12_notPerson_31 : decode cX12_notPerson 31 = .ok (.if_icmp .ne 8, 3) := by decide +kernel
theorem dX12_notPerson_34 : decode cX12_notPerson 34 = .ok (.bipush (-6), 2) := by decide +kernel
theorem dX12_notPerson_36 : decode cX12_notPerson 36 = .ok (.goto 4, 3) := by decide +kernel
theorem dX12_notPerson_39 : decode cX12_notPerson 39 = .ok (.iconst 0, 1) := by decide +kernel
theorem dX12_notPerson_40 : decode cX12_notPerson 40 = .ok (.ireturn, 1) := by decide +kernel
set_option maxRecDepth 20000 in
theorem ggX12_notGo_X12_isPerson : GoodIn wsX12_notGo wsX12_isPerson := goodIn_r _ [7, 8, 36, 37, 38, 39, 40, 41, 42, 43, 44, 45, 46, 47, 48, 49, 50, 51, 52, 53, 54, 55, 56, 57, 58, 59, 60, 61, 62, 63, 64, 65, 66, 67, 68] (by decide +kernel) (by decide +kernel)
set_option maxRecDepth 20000 in
theorem gX12_notGo_X12_isPerson : GoodIn wsX12_notGo (wsV RX12 132 RX12 yX12_isPerson wsX12_isPerson) := goodIn_app (goodIn_of _ (by decide +kernel)) ggX12_notGo_X12_isPerson
set_option maxRecDepth 20000 in
theorem ggX12_notGo_X12_isCell : GoodIn wsX12_notGo wsX12_isCell := goodIn_r _ [11] (by decide +kernel) (by decide +kernel)
set_option maxRecDepth 20000 in
theorem gX12_notGo_X12_isCell : GoodIn wsX12_notGo (va_wsS RX12 123 yX12_isCell wsX12_isCell) := goodIn_app (goodIn_of _ (by decide +kernel)) ggX12_notGo_X12_isCell
set_option maxRecDepth 20000 in
theorem ggX12_notGo_X12_stepsOf : GoodIn wsX12_notGo wsX12_stepsOf := goodIn_r _ [15, 16, 17, 18, 19, 6, 20, 21, 22, 23, 24, 25, 26, 27, 28, 29, 30, 31, 32, 33, 34, 35, 36, 37, 38, 39, 40, 41, 42, 43, 44, 45, 46, 47, 48, 49, 50, 51, 52, 53, 54, 55, 56, 57, 58, 59, 60, 61, 62, 63, 64, 65, 66, 67, 68] (by decide +kernel) (by decide +kernel)
set_option maxRecDepth 20000 in
theorem gX12_notGo_X12_stepsOf : GoodIn wsX12_notGo (wsV RX12 135 RX12 yX12_stepsOf wsX12_stepsOf) := goodIn_app (goodIn_of _ (by decide +kernel)) ggX12_notGo_X12_stepsOf
theorem dX12_notGo_0 : decode cX12_notGo 0 = .ok (.aload_n 0, 1) := by decide +kernel
theorem dX12_notGo_1 : decode cX12_notGo 1 = .ok (.iload_n 1, 1) := by decide +kernel
theorem dX12_notGo_2 : decode cX12_notGo 2 = .ok (.invokevirtual 132, 3) := by decide +kernel
theorem dX12_notGo_5 : decode cX12_notGo 5 = .ok (.ifCond .eq 10, 3) := by decide +kernel
theorem dX12_notGo_8 : decode cX12_notGo 8 = .ok (.iload_n 2, 1) := by decide +kernel
theorem dX12_notGo_9 : decode cX12_notGo 9 = .ok (.invokestatic 123, 3) := by decide +kernel
theorem dX12_notGo_12 : decode cX12_notGo 12 = .ok (.ifCond .ne 5, 3) := by decide +kernel
theorem dX12_notGo_15 : decode cX12_notGo 15 = .ok (.iconst (-1), 1) := by decide +kernel
theorem dX12_notGo_16 : decode cX12_notGo 16 = .ok (.ireturn, 1) := by decide +kernel
theorem dX12_notGo_17 : decode cX12_notGo 17 = .ok (.aload_n 0, 1) := by decide +kernel
theorem dX12_notGo_18 : decode cX12_notGo 18 = .ok (.aload_n 0, 1) := by decide +kernel
theorem dX12_notGo_19 : decode cX12_notGo 19 = .ok (.getfield 40, 3) := by decide +kernel
theorem dX12_notGo_22 : decode cX12_notGo 22 = .ok (.iload_n 1, 1) := by decide +kernel
theorem dX12_notGo_23 : decode cX12_notGo 23 = .ok (.iaload, 1) := by decide +kernel
theorem dX12_notGo_24 : decode cX12_notGo 24 = .ok (.iload_n 2, 1) := by decide +kernel
theorem dX12_notGo_25 : decode cX12_notGo 25 = .ok (.invokevirtual 135, 3) := by decide +kernel
theorem dX12_notGo_28 : decode cX12_notGo 28 = .ok (.istore_n 3, 1) := by decide +kernel
theorem dX12_notGo_29 : decode cX12_notGo 29 = .ok (.iload_n 3, 1) := by decide +kernel
theorem dX12_notGo_30 : decode cX12_notGo 30 = .ok (.ifCond .ge 8, 3) := by decide +kernel
theorem dX12_notGo_33 : decode cX12_notGo 33 = .ok (.bipush (-3), 2) := by decide +kernel
theorem dX12_notGo_35 : decode cX12_notGo 35 = .ok (.goto 21, 3) := by decide +kernel
theorem dX12_notGo_38 : decode cX12_notGo 38 = .ok (.aload_n 0, 1) := by decide +kernel
theorem dX12_notGo_39 : decode cX12_notGo 39 = .ok (.getfield 139, 3) := by decide +kernel
theorem dX12_notGo_42 : decode cX12_notGo 42 = .ok (.iload_n 3, 1) := by decide +kernel
theorem dX12_notGo_43 : decode cX12_notGo 43 = .ok (.iadd, 1) := by decide +kernel
theorem dX12_notGo_44 : decode cX12_notGo 44 = .ok (.sipush 9999, 3) := by decide +kernel
theorem dX12_notGo_47 : decode cX12_notGo 47 = .ok (.if_icmp .le 8, 3) := by decide +kernel
theorem dX12_notGo_50 : decode cX12_notGo 50 = .ok (.bipush (-6), 2) := by decide +kernel
theorem dX12_notGo_52 : decode cX12_notGo 52 = .ok (.goto 4, 3) := by decide +kernel
theorem dX12_notGo_55 : decode cX12_notGo 55 = .ok (.iconst 0, 1) := by decide +kernel
theorem dX12_notGo_56 : decode cX12_notGo 56 = .ok (.ireturn, 1) := by decide +kernel
set_option maxRecDepth 20000 in
theorem ggX12_comes_X12_comesLamp : GoodIn wsX12_comes wsX12_comesLamp := goodIn_r _ [12, 1, 13, 14, 15, 16, 6, 7, 17, 18, 11, 19, 113, 114, 115, 116, 117, 118, 119, 120, 121, 122, 123, 124, 125, 126, 127, 128, 129, 130, 131, 132, 133, 134, 135, 136, 137, 138, 139, 140, 141, 142, 143, 144, 145] (by decide +kernel) (by decide +kernel)
set_option maxRecDepth 20000 in
theorem gX12_comes_X12_comesLamp : GoodIn wsX12_comes (wsV RX12 142 RX12 yX12_comesLamp wsX12_comesLamp) := goodIn_app (goodIn_of _ (by decide +kernel)) ggX12_comes_X12_comesLamp
set_option maxRecDepth 20000 in
theorem ggX12_comes_X12_notWall : GoodIn wsX12_comes wsX12_notWall := goodIn_r _ [23, 3, 17, 18, 11, 19, 24, 25, 26, 27, 5, 4, 28, 29, 30, 31, 113, 114, 115, 116, 117, 118, 119, 120, 121, 122, 123, 124, 125, 126, 127, 128, 129, 130, 131, 132, 133, 134, 135, 136, 137, 138, 139, 140, 141, 142, 143, 144, 145] (by decide +kernel) (by decide +kernel)
set_option maxRecDepth 20000 in
theorem gX12_comes_X12_notWall : GoodIn wsX12_comes (wsV RX12 145 RX12 yX12_notWall wsX12_notWall) := goodIn_app (goodIn_of _ (by decide +kernel)) ggX12_comes_X12_notWall
set_option maxRecDepth 20000 in
theorem ggX12_comes_X12_notPerson : GoodIn wsX12_comes wsX12_notPerson := goodIn_r _ [35, 3, 5, 17, 18, 11, 19, 113, 114, 115, 116, 117, 118, 119, 120, 121, 122, 123, 124, 125, 126, 127, 128, 129, 130, 131, 132, 133, 134, 135, 136, 137, 138, 139, 140, 141, 142, 143, 144, 145] (by decide +kernel) (by decide +kernel)
set_option maxRecDepth 20000 in
theorem gX12_comes_X12_notPerson : GoodIn wsX12_comes (wsV RX12 148 RX12 yX12_notPerson wsX12_notPerson) := goodIn_app (goodIn_of _ (by decide +kernel)) ggX12_comes_X12_notPerson
set_option maxRecDepth 20000 in
theorem ggX12_comes_X12_notGo : GoodIn wsX12_comes wsX12_notGo := goodIn_r _ [39, 4, 40, 41, 42, 43, 11, 44, 5, 17, 18, 19, 45, 46, 47, 48, 49, 50, 51, 52, 53, 54, 3, 55, 56, 57, 58, 59, 60, 61, 62, 63, 64, 65, 66, 67, 113, 114, 115, 116, 117, 118, 119, 120, 121, 122, 123, 124, 125, 126, 127, 128, 129, 130, 131, 132, 133, 134, 135, 136, 137, 138, 139, 140, 141, 142, 143, 144, 145] (by decide +kernel) (by decide +kernel)
set_option maxRecDepth 20000 in
theorem gX12_comes_X12_notGo : GoodIn wsX12_comes (wsV RX12 151 RX12 yX12_notGo wsX12_notGo) := goodIn_app (goodIn_of _ (by decide +kernel)) ggX12_comes_X12_notGo
set_option maxRecDepth 20000 in
theorem ggX12_comes_X12_goesTo : GoodIn wsX12_comes wsX12_goesTo := goodIn_r _ [71, 4, 49, 50, 51, 52, 11, 53, 54, 3, 55, 56, 57, 58, 59, 60, 61, 62, 63, 64, 65, 66, 67, 72, 73, 74, 75, 40, 13, 6, 76, 77, 78, 79, 80, 16, 81, 82, 83, 84, 15, 14, 5, 85, 86, 87, 88, 89, 90, 91, 92, 93, 94, 95, 7, 96, 97, 98, 99, 100, 101, 102, 103, 104, 105, 106, 107, 108, 113, 114, 115, 116, 117, 118, 119, 120, 121, 122, 123, 124, 125, 126, 127, 128, 129, 130, 131, 132, 133, 134, 135, 136, 137, 138, 139, 140, 141, 142, 143, 144, 145] (by decide +kernel) (by decide +kernel)
set_option maxRecDepth 20000 in
theorem gX12_comes_X12_goesTo : GoodIn wsX12_comes (wsV RX12 154 RX12 yX12_goesTo wsX12_goesTo) := goodIn_app (goodIn_of _ (by decide +kernel)) ggX12_comes_X12_goesTo
set_option maxRecDepth 20000 in
theorem ggX12_comes_X12_isLamp : GoodIn wsX12_comes wsX12_isLamp := goodIn_r _ [112, 13, 113, 114, 115, 116, 117, 118, 119, 120, 121, 122, 123, 124, 125, 126, 127, 128, 129, 130, 131, 132, 133, 134, 135, 136, 137, 138, 139, 140, 141, 142, 143, 144, 145] (by decide +kernel) (by decide +kernel)
set_option maxRecDepth 20000 in
theorem gX12_comes_X12_isLamp : GoodIn wsX12_comes (wsV RX12 157 RX12 yX12_isLamp wsX12_isLamp) := goodIn_app (goodIn_of _ (by decide +kernel)) ggX12_comes_X12_isLamp
theorem dX12_comes_0 : decode cX12_comes 0 = .ok (.iconst 3, 1) := by decide +kernel
theorem dX12_comes_1 : decode cX12_comes 1 = .ok (.iload_n 1, 1) := by decide +kernel
theorem dX12_comes_2 : decode cX12_comes 2 = .ok (.imul, 1) := by decide +kernel
theorem dX12_comes_3 : decode cX12_comes 3 = .ok (.istore_n 2, 1) := by decide +kernel
theorem dX12_comes_4 : decode cX12_comes 4 = .ok (.aload_n 0, 1) := by decide +kernel
theorem dX12_comes_5 : decode cX12_comes 5 = .ok (.getfield 52, 3) := by decide +kernel
theorem dX12_comes_8 : decode cX12_comes 8 = .ok (.iload_n 2, 1) := by decide +kernel
theorem dX12_comes_9 : decode cX12_comes 9 = .ok (.iaload, 1) := by decide +kernel
theorem dX12_comes_10 : decode cX12_comes 10 = .ok (.istore_n 3, 1) := by decide +kernel
theorem dX12_comes_11 : decode cX12_comes 11 = .ok (.aload_n 0, 1) := by decide +kernel
theorem dX12_comes_12 : decode cX12_comes 12 = .ok (.getfield 46, 3) := by decide +kernel
theorem dX12_comes_15 : decode cX12_comes 15 = .ok (.iload_n 1, 1) := by decide +kernel
theorem dX12_comes_16 : decode cX12_comes 16 = .ok (.iaload, 1) := by decide +kernel
theorem dX12_comes_17 : decode cX12_comes 17 = .ok (.lookupswitch 175 #[(103, 115), (108, 51), (112, 83), (115, 149), (119, 57)], 51) := by decide +kernel
theorem dX12_comes_68 : decode cX12_comes 68 = .ok (.aload_n 0, 1) := by decide +kernel
theorem dX12_comes_69 : decode cX12_comes 69 = .ok (.iload_n 2, 1) := by decide +kernel
theorem dX12_comes_70 : decode cX12_comes 70 = .ok (.invokevirtual 142, 3) := by decide +kernel
theorem dX12_comes_73 : decode cX12_comes 73 = .ok (.ireturn, 1) := by decide +kernel
theorem dX12_comes_74 : decode cX12_comes 74 = .ok (.aload_n 0, 1) := by decide +kernel
theorem dX12_comes_75 : decode cX12_comes 75 = .ok (.iload_n 3, 1) := by decide +kernel
theorem dX12_comes_76 : decode cX12_comes 76 = .ok (.invokevirtual 145, 3) := by decide +kernel
theorem dX12_comes_79 : decode cX12_comes 79 = .ok (.ifCond .eq 5, 3) := by decide +kernel
theorem dX12_comes_82 : decode cX12_comes 82 = .ok (.iconst 0, 1) := by decide +kernel
theorem dX12_comes_83 : decode cX12_comes 83 = .ok (.ireturn, 1) := by decide +kernel
theorem dX12_comes_84 : decode cX12_comes 84 = .ok (.aload_n 0, 1) := by decide +kernel
theorem dX12_comes_85 : decode cX12_comes 85 = .ok (.getfield 13, 3) := by decide +kernel
theorem dX12_comes_88 : decode cX12_comes 88 = .ok (.iload_n 3, 1) := by decide +kernel
theorem dX12_comes_89 : decode cX12_comes 89 = .ok (.iconst 1, 1) := by decide +kernel
theorem dX12_comes_90 : decode cX12_comes 90 = .ok (.aload_n 0, 1) := by decide +kernel
theorem dX12_comes_91 : decode cX12_comes 91 = .ok (.getfield 13, 3) := by decide +kernel
theorem dX12_comes_94 : decode cX12_comes 94 = .ok (.iload_n 3, 1) := by decide +kernel
theorem dX12_comes_95 : decode cX12_comes 95 = .ok (.iaload, 1) := by decide +kernel
theorem dX12_comes_96 : decode cX12_comes 96 = .ok (.isub, 1) := by decide +kernel
theorem dX12_comes_97 : decode cX12_comes 97 = .ok (.iastore, 1) := by decide +kernel
theorem dX12_comes_98 : decode cX12_comes 98 = .ok (.iconst 1, 1) := by decide +kernel
theorem dX12_comes_99 : decode cX12_comes 99 = .ok (.ireturn, 1) := by decide +kernel
theorem dX12_comes_100 : decode cX12_comes 100 = .ok (.aload_n 0, 1) := by decide +kernel
theorem dX12_comes_101 : decode cX12_comes 101 = .ok (.iload_n 3, 1) := by decide +kernel
theorem dX12_comes_102 : decode cX12_comes 102 = .ok (.invokevirtual 148, 3) := by decide +kernel
theorem dX12_comes_105 : decode cX12_comes 105 = .ok (.ifCond .eq 5, 3) := by decide +kernel
theorem dX12_comes_108 : decode cX12_comes 108 = .ok (.iconst 0, 1) := by decide +kernel
theorem dX12_comes_109 : decode cX12_comes 109 = .ok (.ireturn, 1) := by decide +kernel
theorem dX12_comes_110 : decode cX12_comes 110 = .ok (.aload_n 0, 1) := by decide +kernel
theorem dX12_comes_111 : decode cX12_comes 111 = .ok (.getfield 40, 3) := by decide +kernel
theorem dX12_comes_114 : decode cX12_comes 114 = .ok (.aload_n 0, 1) := by decide +kernel
theorem dX12_comes_115 : decode cX12_comes 115 = .ok (.getfield 81, 3) := by decide +kernel
theorem dX12_comes_118 : decode cX12_comes 118 = .ok (.iload_n 3, 1) := by decide +kernel
theorem dX12_comes_119 : decode cX12_comes 119 = .ok (.iastore, 1) := by decide +kernel
theorem dX12_comes_120 : decode cX12_comes 120 = .ok (.aload_n 0, 1) := by decide +kernel
theorem dX12_comes_121 : decode cX12_comes 121 = .ok (.dup, 1) := by decide +kernel
theorem dX12_comes_122 : decode cX12_comes 122 = .ok (.getfield 81, 3) := by decide +kernel
theorem dX12_comes_125 : decode cX12_comes 125 = .ok (.iconst 1, 1) := by decide +kernel
theorem dX12_comes_126 : decode cX12_comes 126 = .ok (.iadd, 1) := by decide +kernel
theorem dX12_comes_127 : decode cX12_comes 127 = .ok (.putfield 81, 3) := by decide +kernel
theorem dX12_comes_130 : decode cX12_comes 130 = .ok (.iconst 1, 1) := by decide +kernel
theorem dX12_comes_131 : decode cX12_comes 131 = .ok (.ireturn, 1) := by decide +kernel
theorem dX12_comes_132 : decode cX12_comes 132 = .ok (.aload_n 0, 1) := by decide +kernel
theorem dX12_comes_133 : decode cX12_comes 133 = .ok (.iload_n 3, 1) := by decide +kernel
theorem dX12_comes_134 : decode cX12_comes 134 = .ok (.aload_n 0, 1) := by decide +kernel
theorem dX12_comes_135 : decode cX12_comes 135 = .ok (.getfield 52, 3) := by decide +kernel
theorem dX12_comes_138 : decode cX12_comes 138 = .ok (.iload_n 2, 1) := by decide +kernel
theorem dX12_comes_139 : decode cX12_comes 139 = .ok (.iconst 1, 1) := by decide +kernel
theorem dX12_comes_140 : decode cX12_comes 140 = .ok (.iadd, 1) := by decide +kernel
theorem dX12_comes_141 : decode cX12_comes 141 = .ok (.iaload, 1) := by decide +kernel
theorem dX12_comes_142 : decode cX12_comes 142 = .ok (.invokevirtual 151, 3) := by decide +kernel
theorem dX12_comes_145 : decode cX12_comes 145 = .ok (.ifCond .eq 5, 3) := by decide +kernel
theorem dX12_comes_148 : decode cX12_comes 148 = .ok (.iconst 0, 1) := by decide +kernel
theorem dX12_comes_149 : decode cX12_comes 149 = .ok (.ireturn, 1) := by decide +kernel
theorem dX12_comes_150 : decode cX12_comes 150 = .ok (.aload_n 0, 1) := by decide +kernel
theorem dX12_comes_151 : decode cX12_comes 151 = .ok (.iload_n 3, 1) := by decide +kernel
theorem dX12_comes_152 : decode cX12_comes 152 = .ok (.aload_n 0, 1) := by decide +kernel
theorem dX12_comes_153 : decode cX12_comes 153 = .ok (.getfield 52, 3) := by decide +kernel
theorem dX12_comes_156 : decode cX12_comes 156 = .ok (.iload_n 2, 1) := by decide +kernel
theorem dX12_comes_157 : decode cX12_comes 157 = .ok (.iconst 1, 1) := by decide +kernel
theorem dX12_comes_158 : decode cX12_comes 158 = .ok (.iadd, 1) := by decide +kernel
theorem dX12_comes_159 : decode cX12_comes 159 = .ok (.iaload, 1) := by decide +kernel
