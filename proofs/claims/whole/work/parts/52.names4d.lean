theorem dX12_unlit_27 : decode cX12_unlit 27 = .ok (.iload 4, 2) := by decide +kernel
theorem dX12_unlit_29 : decode cX12_unlit 29 = .ok (.ifCond .eq 10, 3) := by decide +kernel
theorem dX12_unlit_32 : decode cX12_unlit 32 = .ok (.aload_n 0, 1) := by decide +kernel
theorem dX12_unlit_33 : decode cX12_unlit 33 = .ok (.iload 4, 2) := by decide +kernel
theorem dX12_unlit_35 : decode cX12_unlit 35 = .ok (.invokevirtual 91, 3) := by decide +kernel
theorem dX12_unlit_38 : decode cX12_unlit 38 = .ok (.ireturn, 1) := by decide +kernel
theorem dX12_unlit_39 : decode cX12_unlit 39 = .ok (.aload_n 0, 1) := by decide +kernel
theorem dX12_unlit_40 : decode cX12_unlit 40 = .ok (.invokevirtual 220, 3) := by decide +kernel
theorem dX12_unlit_43 : decode cX12_unlit 43 = .ok (.iconst 0, 1) := by decide +kernel
theorem dX12_unlit_44 : decode cX12_unlit 44 = .ok (.istore 5, 2) := by decide +kernel
theorem dX12_unlit_46 : decode cX12_unlit 46 = .ok (.iload 5, 2) := by decide +kernel
theorem dX12_unlit_48 : decode cX12_unlit 48 = .ok (.bipush 36, 2) := by decide +kernel
theorem dX12_unlit_50 : decode cX12_unlit 50 = .ok (.if_icmp .ge 51, 3) := by decide +kernel
theorem dX12_unlit_53 : decode cX12_unlit 53 = .ok (.aload_n 0, 1) := by decide +kernel
theorem dX12_unlit_54 : decode cX12_unlit 54 = .ok (.getfield 61, 3) := by decide +kernel
theorem dX12_unlit_57 : decode cX12_unlit 57 = .ok (.iload 5, 2) := by decide +kernel
theorem dX12_unlit_59 : decode cX12_unlit 59 = .ok (.aload_n 0, 1) := by decide +kernel
theorem dX12_unlit_60 : decode cX12_unlit 60 = .ok (.getfield 13, 3) := by decide +kernel
theorem dX12_unlit_63 : decode cX12_unlit 63 = .ok (.iload 5, 2) := by decide +kernel
theorem dX12_unlit_65 : decode cX12_unlit 65 = .ok (.iaload, 1) := by decide +kernel
theorem dX12_unlit_66 : decode cX12_unlit 66 = .ok (.iconst 1, 1) := by decide +kernel
theorem dX12_unlit_67 : decode cX12_unlit 67 = .ok (.if_icmp .eq 22, 3) := by decide +kernel
theorem dX12_unlit_70 : decode cX12_unlit 70 = .ok (.aload_n 0, 1) := by decide +kernel
theorem dX12_unlit_71 : decode cX12_unlit 71 = .ok (.getfield 67, 3) := by decide +kernel
theorem dX12_unlit_74 : decode cX12_unlit 74 = .ok (.iload 5, 2) := by decide +kernel
theorem dX12_unlit_76 : decode cX12_unlit 76 = .ok (.iaload, 1) := by decide +kernel
theorem dX12_unlit_77 : decode cX12_unlit 77 = .ok (.aload_n 0, 1) := by decide +kernel
theorem dX12_unlit_78 : decode cX12_unlit 78 = .ok (.invokevirtual 239, 3) := by decide +kernel
theorem dX12_unlit_81 : decode cX12_unlit 81 = .ok (.iand, 1) := by decide +kernel
theorem dX12_unlit_82 : decode cX12_unlit 82 = .ok (.iload_n 3, 1) := by decide +kernel
theorem dX12_unlit_83 : decode cX12_unlit 83 = .ok (.iconst (-1), 1) := by decide +kernel
theorem dX12_unlit_84 : decode cX12_unlit 84 = .ok (.ixor, 1) := by decide +kernel
theorem dX12_unlit_85 : decode cX12_unlit 85 = .ok (.iand, 1) := by decide +kernel
theorem dX12_unlit_86 : decode cX12_unlit 86 = .ok (.ifCond .eq 7, 3) := by decide +kernel
theorem dX12_unlit_89 : decode cX12_unlit 89 = .ok (.iconst 1, 1) := by decide +kernel
theorem dX12_unlit_90 : decode cX12_unlit 90 = .ok (.goto 4, 3) := by decide +kernel
theorem dX12_unlit_93 : decode cX12_unlit 93 = .ok (.iconst 0, 1) := by decide +kernel
theorem dX12_unlit_94 : decode cX12_unlit 94 = .ok (.iastore, 1) := by decide +kernel
theorem dX12_unlit_95 : decode cX12_unlit 95 = .ok (.iinc 5 1, 3) := by decide +kernel
theorem dX12_unlit_98 : decode cX12_unlit 98 = .ok (.goto (-52), 3) := by decide +kernel
theorem dX12_unlit_101 : decode cX12_unlit 101 = .ok (.aload_n 0, 1) := by decide +kernel
theorem dX12_unlit_102 : decode cX12_unlit 102 = .ok (.iload_n 1, 1) := by decide +kernel
theorem dX12_unlit_103 : decode cX12_unlit 103 = .ok (.invokevirtual 201, 3) := by decide +kernel
theorem dX12_unlit_106 : decode cX12_unlit 106 = .ok (.aload_n 0, 1) := by decide +kernel
theorem dX12_unlit_107 : decode cX12_unlit 107 = .ok (.getfield 58, 3) := by decide +kernel
theorem dX12_unlit_110 : decode cX12_unlit 110 = .ok (.iload_n 2, 1) := by decide +kernel
theorem dX12_unlit_111 : decode cX12_unlit 111 = .ok (.iaload, 1) := by decide +kernel
theorem dX12_unlit_112 : decode cX12_unlit 112 = .ok (.ireturn, 1) := by decide +kernel
set_option maxRecDepth 20000 in
theorem ggX12_forget_X12_isLamp : GoodIn wsX12_forget wsX12_isLamp := goodIn_r _ [7, 8, 25, 26, 27, 28, 29, 30, 31, 32, 33, 34, 35, 36, 37, 38, 39, 40, 41, 42, 43, 44, 45, 46, 47, 48, 49, 50, 51, 52, 53, 54, 55, 56, 57] (by decide +kernel) (by decide +kernel)
set_option maxRecDepth 20000 in
theorem gX12_forget_X12_isLamp : GoodIn wsX12_forget (wsV RX12 157 RX12 yX12_isLamp wsX12_isLamp) := goodIn_app (goodIn_of _ (by decide +kernel)) ggX12_forget_X12_isLamp
set_option maxRecDepth 20000 in
theorem ggX12_forget_X12_bound : GoodIn wsX12_forget wsX12_bound := goodIn_r _ [11] (by decide +kernel) (by decide +kernel)
set_option maxRecDepth 20000 in
theorem gX12_forget_X12_bound : GoodIn wsX12_forget (va_wsS RX12 84 yX12_bound wsX12_bound) := goodIn_app (goodIn_of _ (by decide +kernel)) ggX12_forget_X12_bound
set_option maxRecDepth 20000 in
theorem ggX12_forget_X12_no : GoodIn wsX12_forget wsX12_no := goodIn_r _ [15, 16, 25, 26, 27, 28, 29, 30, 31, 32, 33, 34, 35, 36, 37, 38, 39, 40, 41, 42, 43, 44, 45, 46, 47, 48, 49, 50, 51, 52, 53, 54, 55, 56, 57] (by decide +kernel) (by decide +kernel)
set_option maxRecDepth 20000 in
theorem gX12_forget_X12_no : GoodIn wsX12_forget (wsV RX12 91 RX12 yX12_no wsX12_no) := goodIn_app (goodIn_of _ (by decide +kernel)) ggX12_forget_X12_no
set_option maxRecDepth 20000 in
theorem ggX12_forget_X12_sceneAt : GoodIn wsX12_forget wsX12_sceneAt := goodIn_r _ [20, 2, 21, 25, 26, 27, 28, 29, 30, 31, 32, 33, 34, 35, 36, 37, 38, 39, 40, 41, 42, 43, 44, 45, 46, 47, 48, 49, 50, 51, 52, 53, 54, 55, 56, 57] (by decide +kernel) (by decide +kernel)
set_option maxRecDepth 20000 in
theorem gX12_forget_X12_sceneAt : GoodIn wsX12_forget (wsV RX12 236 RX12 yX12_sceneAt wsX12_sceneAt) := goodIn_app (goodIn_of _ (by decide +kernel)) ggX12_forget_X12_sceneAt
set_option maxRecDepth 20000 in
theorem ggX12_forget_X12_keepsOf : GoodIn wsX12_forget wsX12_keepsOf := goodIn_r _ [24] (by decide +kernel) (by decide +kernel)
set_option maxRecDepth 20000 in
theorem gX12_forget_X12_keepsOf : GoodIn wsX12_forget (va_wsS RX12 211 yX12_keepsOf wsX12_keepsOf) := goodIn_app (goodIn_of _ (by decide +kernel)) ggX12_forget_X12_keepsOf
theorem dX12_forget_0 : decode cX12_forget 0 = .ok (.aload_n 0, 1) := by decide +kernel
theorem dX12_forget_1 : decode cX12_forget 1 = .ok (.iload_n 1, 1) := by decide +kernel
theorem dX12_forget_2 : decode cX12_forget 2 = .ok (.invokevirtual 157, 3) := by decide +kernel
theorem dX12_forget_5 : decode cX12_forget 5 = .ok (.ifCond .ne 7, 3) := by decide +kernel
theorem dX12_forget_8 : decode cX12_forget 8 = .ok (.iconst (-1), 1) := by decide +kernel
theorem dX12_forget_9 : decode cX12_forget 9 = .ok (.goto 11, 3) := by decide +kernel
theorem dX12_forget_12 : decode cX12_forget 12 = .ok (.iload_n 2, 1) := by decide +kernel
theorem dX12_forget_13 : decode cX12_forget 13 = .ok (.iconst 0, 1) := by decide +kernel
theorem dX12_forget_14 : decode cX12_forget 14 = .ok (.sipush 9999, 3) := by decide +kernel
theorem dX12_forget_17 : decode cX12_forget 17 = .ok (.invokestatic 84, 3) := by decide +kernel
theorem dX12_forget_20 : decode cX12_forget 20 = .ok (.istore_n 3, 1) := by decide +kernel
theorem dX12_forget_21 : decode cX12_forget 21 = .ok (.iload_n 3, 1) := by decide +kernel
theorem dX12_forget_22 : decode cX12_forget 22 = .ok (.ifCond .eq 9, 3) := by decide +kernel
theorem dX12_forget_25 : decode cX12_forget 25 = .ok (.aload_n 0, 1) := by decide +kernel
theorem dX12_forget_26 : decode cX12_forget 26 = .ok (.iload_n 3, 1) := by decide +kernel
theorem dX12_forget_27 : decode cX12_forget 27 = .ok (.invokevirtual 91, 3) := by decide +kernel
theorem dX12_forget_30 : decode cX12_forget 30 = .ok (.ireturn, 1) := by decide +kernel
theorem dX12_forget_31 : decode cX12_forget 31 = .ok (.aload_n 0, 1) := by decide +kernel
theorem dX12_forget_32 : decode cX12_forget 32 = .ok (.iload_n 1, 1) := by decide +kernel
theorem dX12_forget_33 : decode cX12_forget 33 = .ok (.iload_n 2, 1) := by decide +kernel
theorem dX12_forget_34 : decode cX12_forget 34 = .ok (.invokevirtual 236, 3) := by decide +kernel
theorem dX12_forget_37 : decode cX12_forget 37 = .ok (.istore 4, 2) := by decide +kernel
theorem dX12_forget_39 : decode cX12_forget 39 = .ok (.iload 4, 2) := by decide +kernel
theorem dX12_forget_41 : decode cX12_forget 41 = .ok (.ifCond .ge 8, 3) := by decide +kernel
theorem dX12_forget_44 : decode cX12_forget 44 = .ok (.bipush (-9), 2) := by decide +kernel
theorem dX12_forget_46 : decode cX12_forget 46 = .ok (.goto 24, 3) := by decide +kernel
theorem dX12_forget_49 : decode cX12_forget 49 = .ok (.aload_n 0, 1) := by decide +kernel
theorem dX12_forget_50 : decode cX12_forget 50 = .ok (.getfield 16, 3) := by decide +kernel
theorem dX12_forget_53 : decode cX12_forget 53 = .ok (.iload_n 1, 1) := by decide +kernel
theorem dX12_forget_54 : decode cX12_forget 54 = .ok (.iaload, 1) := by decide +kernel
theorem dX12_forget_55 : decode cX12_forget 55 = .ok (.invokestatic 211, 3) := by decide +kernel
theorem dX12_forget_58 : decode cX12_forget 58 = .ok (.aload_n 0, 1) := by decide +kernel
theorem dX12_forget_59 : decode cX12_forget 59 = .ok (.getfield 28, 3) := by decide +kernel
theorem dX12_forget_62 : decode cX12_forget 62 = .ok (.iload_n 1, 1) := by decide +kernel
theorem dX12_forget_63 : decode cX12_forget 63 = .ok (.iaload, 1) := by decide +kernel
theorem dX12_forget_64 : decode cX12_forget 64 = .ok (.isub, 1) := by decide +kernel
theorem dX12_forget_65 : decode cX12_forget 65 = .ok (.iload 4, 2) := by decide +kernel
theorem dX12_forget_67 : decode cX12_forget 67 = .ok (.iadd, 1) := by decide +kernel
theorem dX12_forget_68 : decode cX12_forget 68 = .ok (.iconst 1, 1) := by decide +kernel
theorem dX12_forget_69 : decode cX12_forget 69 = .ok (.iadd, 1) := by decide +kernel
theorem dX12_forget_70 : decode cX12_forget 70 = .ok (.ireturn, 1) := by decide +kernel
theorem dX12_shownTo_0 : decode cX12_shownTo 0 = .ok (.aload_n 0, 1) := by decide +kernel
theorem dX12_shownTo_1 : decode cX12_shownTo 1 = .ok (.getfield 67, 3) := by decide +kernel
theorem dX12_shownTo_4 : decode cX12_shownTo 4 = .ok (.aload_n 0, 1) := by decide +kernel
theorem dX12_shownTo_5 : decode cX12_shownTo 5 = .ok (.getfield 40, 3) := by decide +kernel
theorem dX12_shownTo_8 : decode cX12_shownTo 8 = .ok (.iload_n 1, 1) := by decide +kernel
theorem dX12_shownTo_9 : decode cX12_shownTo 9 = .ok (.iaload, 1) := by decide +kernel
theorem dX12_shownTo_10 : decode cX12_shownTo 10 = .ok (.iaload, 1) := by decide +kernel
theorem dX12_shownTo_11 : decode cX12_shownTo 11 = .ok (.ireturn, 1) := by decide +kernel
set_option maxRecDepth 20000 in
theorem ggX12_knows_X12_isPerson : GoodIn wsX12_knows wsX12_isPerson := goodIn_r _ [9, 4, 71, 72, 73, 74, 75, 76, 77, 78, 79, 80, 81, 82, 83, 84, 85, 86, 87, 88, 89, 90, 91, 92, 93, 94, 95, 96, 97, 98, 99, 100, 101, 102, 103] (by decide +kernel) (by decide +kernel)
set_option maxRecDepth 20000 in
theorem gX12_knows_X12_isPerson : GoodIn wsX12_knows (wsV RX12 132 RX12 yX12_isPerson wsX12_isPerson) := goodIn_app (goodIn_of _ (by decide +kernel)) ggX12_knows_X12_isPerson
set_option maxRecDepth 20000 in
theorem ggX12_knows_X12_isCell : GoodIn wsX12_knows wsX12_isCell := goodIn_r _ [12] (by decide +kernel) (by decide +kernel)
set_option maxRecDepth 20000 in
theorem gX12_knows_X12_isCell : GoodIn wsX12_knows (va_wsS RX12 123 yX12_isCell wsX12_isCell) := goodIn_app (goodIn_of _ (by decide +kernel)) ggX12_knows_X12_isCell
set_option maxRecDepth 20000 in
theorem ggX12_knows_X12_bound : GoodIn wsX12_knows wsX12_bound := goodIn_r _ [15] (by decide +kernel) (by decide +kernel)
set_option maxRecDepth 20000 in
theorem gX12_knows_X12_bound : GoodIn wsX12_knows (va_wsS RX12 84 yX12_bound wsX12_bound) := goodIn_app (goodIn_of _ (by decide +kernel)) ggX12_knows_X12_bound
set_option maxRecDepth 20000 in
theorem ggX12_knows_X12_no : GoodIn wsX12_knows wsX12_no := goodIn_r _ [19, 20, 71, 72, 73, 74, 75, 76, 77, 78, 79, 80, 81, 82, 83, 84, 85, 86, 87, 88, 89, 90, 91, 92, 93, 94, 95, 96, 97, 98, 99, 100, 101, 102, 103] (by decide +kernel) (by decide +kernel)
set_option maxRecDepth 20000 in
theorem gX12_knows_X12_no : GoodIn wsX12_knows (wsV RX12 91 RX12 yX12_no wsX12_no) := goodIn_app (goodIn_of _ (by decide +kernel)) ggX12_knows_X12_no
set_option maxRecDepth 20000 in
theorem ggX12_knows_X12_findLit : GoodIn wsX12_knows wsX12_findLit := goodIn_r _ [24, 25, 1, 26, 27, 28, 29, 30, 8, 31, 32, 33, 4, 34, 35, 36, 37, 38, 39, 40, 41, 42, 43, 44, 45, 46, 47, 48, 49, 50, 51, 52, 53, 54, 55, 56, 57, 71, 72, 73, 74, 75, 76, 77, 78, 79, 80, 81, 82, 83, 84, 85, 86, 87, 88, 89, 90, 91, 92, 93, 94, 95, 96, 97, 98, 99, 100, 101, 102, 103] (by decide +kernel) (by decide +kernel)
set_option maxRecDepth 20000 in
theorem gX12_knows_X12_findLit : GoodIn wsX12_knows (wsV RX12 220 RX12 yX12_findLit wsX12_findLit) := goodIn_app (goodIn_of _ (by decide +kernel)) ggX12_knows_X12_findLit
set_option maxRecDepth 20000 in
theorem ggX12_knows_X12_sceneAt : GoodIn wsX12_knows wsX12_sceneAt := goodIn_r _ [61, 62, 63, 71, 72, 73, 74, 75, 76, 77, 78, 79, 80, 81, 82, 83, 84, 85, 86, 87, 88, 89, 90, 91, 92, 93, 94, 95, 96, 97, 98, 99, 100, 101, 102, 103] (by decide +kernel) (by decide +kernel)
set_option maxRecDepth 20000 in
theorem gX12_knows_X12_sceneAt : GoodIn wsX12_knows (wsV RX12 236 RX12 yX12_sceneAt wsX12_sceneAt) := goodIn_app (goodIn_of _ (by decide +kernel)) ggX12_knows_X12_sceneAt
set_option maxRecDepth 20000 in
theorem ggX12_knows_X12_shownTo : GoodIn wsX12_knows wsX12_shownTo := goodIn_r _ [67, 25, 34, 71, 72, 73, 74, 75, 76, 77, 78, 79, 80, 81, 82, 83, 84, 85, 86, 87, 88, 89, 90, 91, 92, 93, 94, 95, 96, 97, 98, 99, 100, 101, 102, 103] (by decide +kernel) (by decide +kernel)
set_option maxRecDepth 20000 in
theorem gX12_knows_X12_shownTo : GoodIn wsX12_knows (wsV RX12 242 RX12 yX12_shownTo wsX12_shownTo) := goodIn_app (goodIn_of _ (by decide +kernel)) ggX12_knows_X12_shownTo
set_option maxRecDepth 20000 in
theorem ggX12_knows_X12_has : GoodIn wsX12_knows wsX12_has := goodIn_r _ [70] (by decide +kernel) (by decide +kernel)
set_option maxRecDepth 20000 in
theorem gX12_knows_X12_has : GoodIn wsX12_knows (va_wsS RX12 223 yX12_has wsX12_has) := goodIn_app (goodIn_of _ (by decide +kernel)) ggX12_knows_X12_has
theorem dX12_knows_0 : decode cX12_knows 0 = .ok (.aload_n 0, 1) := by decide +kernel
theorem dX12_knows_1 : decode cX12_knows 1 = .ok (.iload_n 1, 1) := by decide +kernel
theorem dX12_knows_2 : decode cX12_knows 2 = .ok (.invokevirtual 132, 3) := by decide +kernel
theorem dX12_knows_5 : decode cX12_knows 5 = .ok (.ifCond .eq 10, 3) := by decide +kernel
theorem dX12_knows_8 : decode cX12_knows 8 = .ok (.iload_n 2, 1) := by decide +kernel
theorem dX12_knows_9 : decode cX12_knows 9 = .ok (.invokestatic 123, 3) := by decide +kernel
theorem dX12_knows_12 : decode cX12_knows 12 = .ok (.ifCond .ne 7, 3) := by decide +kernel
theorem dX12_knows_15 : decode cX12_knows 15 = .ok (.iconst (-1), 1) := by decide +kernel
theorem dX12_knows_16 : decode cX12_knows 16 = .ok (.goto 11, 3) := by decide +kernel
theorem dX12_knows_19 : decode cX12_knows 19 = .ok (.iload_n 3, 1) := by decide +kernel
theorem dX12_knows_20 : decode cX12_knows 20 = .ok (.iconst 0, 1) := by decide +kernel
theorem dX12_knows_21 : decode cX12_knows 21 = .ok (.sipush 9999, 3) := by decide +kernel
theorem dX12_knows_24 : decode cX12_knows 24 = .ok (.invokestatic 84, 3) := by decide +kernel
theorem dX12_knows_27 : decode cX12_knows 27 = .ok (.istore 4, 2) := by decide +kernel
theorem dX12_knows_29 : decode cX12_knows 29 = .ok (.iload 4, 2) := by decide +kernel
theorem dX12_knows_31 : decode cX12_knows 31 = .ok (.ifCond .eq 10, 3) := by decide +kernel
theorem dX12_knows_34 : decode cX12_knows 34 = .ok (.aload_n 0, 1) := by decide +kernel
theorem dX12_knows_35 : decode cX12_knows 35 = .ok (.iload 4, 2) := by decide +kernel
theorem dX12_knows_37 : decode cX12_knows 37 = .ok (.invokevirtual 91, 3) := by decide +kernel
theorem dX12_knows_40 : decode cX12_knows 40 = .ok (.ireturn, 1) := by decide +kernel
theorem dX12_knows_41 : decode cX12_knows 41 = .ok (.aload_n 0, 1) := by decide +kernel
theorem dX12_knows_42 : decode cX12_knows 42 = .ok (.invokevirtual 220, 3) := by decide +kernel
theorem dX12_knows_45 : decode cX12_knows 45 = .ok (.iconst 0, 1) := by decide +kernel
theorem dX12_knows_46 : decode cX12_knows 46 = .ok (.istore 5, 2) := by decide +kernel
theorem dX12_knows_48 : decode cX12_knows 48 = .ok (.iconst 0, 1) := by decide +kernel
theorem dX12_knows_49 : decode cX12_knows 49 = .ok (.istore 6, 2) := by decide +kernel
theorem dX12_knows_51 : decode cX12_knows 51 = .ok (.iload 6, 2) := by decide +kernel
theorem dX12_knows_53 : decode cX12_knows 53 = .ok (.aload_n 0, 1) := by decide +kernel
theorem dX12_knows_54 : decode cX12_knows 54 = .ok (.getfield 76, 3) := by decide +kernel
theorem dX12_knows_57 : decode cX12_knows 57 = .ok (.if_icmp .ge 103, 3) := by decide +kernel
theorem dX12_knows_60 : decode cX12_knows 60 = .ok (.aload_n 0, 1) := by decide +kernel
theorem dX12_knows_61 : decode cX12_knows 61 = .ok (.iload 6, 2) := by decide +kernel
theorem dX12_knows_63 : decode cX12_knows 63 = .ok (.iload_n 3, 1) := by decide +kernel
theorem dX12_knows_64 : decode cX12_knows 64 = .ok (.invokevirtual 236, 3) := by decide +kernel
theorem dX12_knows_67 : decode cX12_knows 67 = .ok (.istore 7, 2) := by decide +kernel
theorem dX12_knows_69 : decode cX12_knows 69 = .ok (.bipush 9, 2) := by decide +kernel
theorem dX12_knows_71 : decode cX12_knows 71 = .ok (.iload 6, 2) := by decide +kernel
theorem dX12_knows_73 : decode cX12_knows 73 = .ok (.imul, 1) := by decide +kernel
theorem dX12_knows_74 : decode cX12_knows 74 = .ok (.iload 7, 2) := by decide +kernel
theorem dX12_knows_76 : decode cX12_knows 76 = .ok (.iadd, 1) := by decide +kernel
theorem dX12_knows_77 : decode cX12_knows 77 = .ok (.istore 8, 2) := by decide +kernel
theorem dX12_knows_79 : decode cX12_knows 79 = .ok (.iload 7, 2) := by decide +kernel
theorem dX12_knows_81 : decode cX12_knows 81 = .ok (.ifCond .lt 73, 3) := by decide +kernel
theorem dX12_knows_84 : decode cX12_knows 84 = .ok (.aload_n 0, 1) := by decide +kernel
theorem dX12_knows_85 : decode cX12_knows 85 = .ok (.getfield 31, 3) := by decide +kernel
theorem dX12_knows_88 : decode cX12_knows 88 = .ok (.iload 8, 2) := by decide +kernel
theorem dX12_knows_90 : decode cX12_knows 90 = .ok (.iaload, 1) := by decide +kernel
theorem dX12_knows_91 : decode cX12_knows 91 = .ok (.iload_n 1, 1) := by decide +kernel
theorem dX12_knows_92 : decode cX12_knows 92 = .ok (.if_icmp .ne 62, 3) := by decide +kernel
theorem dX12_knows_95 : decode cX12_knows 95 = .ok (.aload_n 0, 1) := by decide +kernel
theorem dX12_knows_96 : decode cX12_knows 96 = .ok (.getfield 34, 3) := by decide +kernel
theorem dX12_knows_99 : decode cX12_knows 99 = .ok (.iload 8, 2) := by decide +kernel
theorem dX12_knows_101 : decode cX12_knows 101 = .ok (.iaload, 1) := by decide +kernel
theorem dX12_knows_102 : decode cX12_knows 102 = .ok (.iload_n 2, 1) := by decide +kernel
theorem dX12_knows_103 : decode cX12_knows 103 = .ok (.if_icmp .eq 6, 3) := by decide +kernel
theorem dX12_knows_106 : decode cX12_knows 106 = .ok (.goto 48, 3) := by decide +kernel
theorem dX12_knows_109 : decode cX12_knows 109 = .ok (.iconst 0, 1) := by decide +kernel
theorem dX12_knows_110 : decode cX12_knows 110 = .ok (.istore 9, 2) := by decide +kernel
theorem dX12_knows_112 : decode cX12_knows 112 = .ok (.iload 9, 2) := by decide +kernel
theorem dX12_knows_114 : decode cX12_knows 114 = .ok (.aload_n 0, 1) := by decide +kernel
theorem dX12_knows_115 : decode cX12_knows 115 = .ok (.getfield 81, 3) := by decide +kernel
theorem dX12_knows_118 : decode cX12_knows 118 = .ok (.if_icmp .ge 36, 3) := by decide +kernel
theorem dX12_knows_121 : decode cX12_knows 121 = .ok (.iload 5, 2) := by decide +kernel
theorem dX12_knows_123 : decode cX12_knows 123 = .ok (.aload_n 0, 1) := by decide +kernel
theorem dX12_knows_124 : decode cX12_knows 124 = .ok (.iload 9, 2) := by decide +kernel
theorem dX12_knows_126 : decode cX12_knows 126 = .ok (.invokevirtual 242, 3) := by decide +kernel
theorem dX12_knows_129 : decode cX12_knows 129 = .ok (.iload 6, 2) := by decide +kernel
theorem dX12_knows_131 : decode cX12_knows 131 = .ok (.invokestatic 223, 3) := by decide +kernel
theorem dX12_knows_134 : decode cX12_knows 134 = .ok (.ifCond .eq 10, 3) := by decide +kernel
theorem dX12_knows_137 : decode cX12_knows 137 = .ok (.iconst 1, 1) := by decide +kernel
theorem dX12_knows_138 : decode cX12_knows 138 = .ok (.iload 9, 2) := by decide +kernel
theorem dX12_knows_140 : decode cX12_knows 140 = .ok (.ishl, 1) := by decide +kernel
theorem dX12_knows_141 : decode cX12_knows 141 = .ok (.goto 4, 3) := by decide +kernel
theorem dX12_knows_144 : decode cX12_knows 144 = .ok (.iconst 0, 1) := by decide +kernel
theorem dX12_knows_145 : decode cX12_knows 145 = .ok (.ior, 1) := by decide +kernel
theorem dX12_knows_146 : decode cX12_knows 146 = .ok (.istore 5, 2) := by decide +kernel
theorem dX12_knows_148 : decode cX12_knows 148 = .ok (.iinc 9 1, 3) := by decide +kernel
theorem dX12_knows_151 : decode cX12_knows 151 = .ok (.goto (-39), 3) := by decide +kernel
theorem dX12_knows_154 : decode cX12_knows 154 = .ok (.iinc 6 1, 3) := by decide +kernel
theorem dX12_knows_157 : decode cX12_knows 157 = .ok (.goto (-106), 3) := by decide +kernel
theorem dX12_knows_160 : decode cX12_knows 160 = .ok (.iload 5, 2) := by decide +kernel
theorem dX12_knows_162 : decode cX12_knows 162 = .ok (.ireturn, 1) := by decide +kernel
set_option maxRecDepth 20000 in
theorem ggX12_isTold_X12_has : GoodIn wsX12_isTold wsX12_has := goodIn_r _ [9] (by decide +kernel) (by decide +kernel)
set_option maxRecDepth 20000 in
theorem gX12_isTold_X12_has : GoodIn wsX12_isTold (va_wsS RX12 223 yX12_has wsX12_has) := goodIn_app (goodIn_of _ (by decide +kernel)) ggX12_isTold_X12_has
theorem dX12_isTold_0 : decode cX12_isTold 0 = .ok (.iconst 0, 1) := by decide +kernel
theorem dX12_isTold_1 : decode cX12_isTold 1 = .ok (.istore_n 3, 1) := by decide +kernel
theorem dX12_isTold_2 : decode cX12_isTold 2 = .ok (.iload_n 3, 1) := by decide +kernel
theorem dX12_isTold_3 : decode cX12_isTold 3 = .ok (.iload_n 1, 1) := by decide +kernel
theorem dX12_isTold_4 : decode cX12_isTold 4 = .ok (.if_icmp .ge 94, 3) := by decide +kernel
theorem dX12_isTold_7 : decode cX12_isTold 7 = .ok (.iload_n 3, 1) := by decide +kernel
theorem dX12_isTold_8 : decode cX12_isTold 8 = .ok (.bipush 9, 2) := by decide +kernel
theorem dX12_isTold_10 : decode cX12_isTold 10 = .ok (.idiv, 1) := by decide +kernel
theorem dX12_isTold_11 : decode cX12_isTold 11 = .ok (.istore 4, 2) := by decide +kernel
theorem dX12_isTold_13 : decode cX12_isTold 13 = .ok (.iload 4, 2) := by decide +kernel
theorem dX12_isTold_15 : decode cX12_isTold 15 = .ok (.aload_n 0, 1) := by decide +kernel
theorem dX12_isTold_16 : decode cX12_isTold 16 = .ok (.getfield 76, 3) := by decide +kernel
theorem dX12_isTold_19 : decode cX12_isTold 19 = .ok (.if_icmp .ge 73, 3) := by decide +kernel
theorem dX12_isTold_22 : decode cX12_isTold 22 = .ok (.iload_n 3, 1) := by decide +kernel
theorem dX12_isTold_23 : decode cX12_isTold 23 = .ok (.bipush 9, 2) := by decide +kernel
theorem dX12_isTold_25 : decode cX12_isTold 25 = .ok (.irem, 1) := by decide +kernel
theorem dX12_isTold_26 : decode cX12_isTold 26 = .ok (.aload_n 0, 1) := by decide +kernel
theorem dX12_isTold_27 : decode cX12_isTold 27 = .ok (.getfield 28, 3) := by decide +kernel
theorem dX12_isTold_30 : decode cX12_isTold 30 = .ok (.iload 4, 2) := by decide +kernel
theorem dX12_isTold_32 : decode cX12_isTold 32 = .ok (.iaload, 1) := by decide +kernel
theorem dX12_isTold_33 : decode cX12_isTold 33 = .ok (.if_icmp .ge 59, 3) := by decide +kernel
theorem dX12_isTold_36 : decode cX12_isTold 36 = .ok (.iload_n 2, 1) := by decide +kernel
theorem dX12_isTold_37 : decode cX12_isTold 37 = .ok (.iload 4, 2) := by decide +kernel
theorem dX12_isTold_39 : decode cX12_isTold 39 = .ok (.invokestatic 223, 3) := by decide +kernel
theorem dX12_isTold_42 : decode cX12_isTold 42 = .ok (.ifCond .eq 50, 3) := by decide +kernel
theorem dX12_isTold_45 : decode cX12_isTold 45 = .ok (.aload_n 0, 1) := by decide +kernel
theorem dX12_isTold_46 : decode cX12_isTold 46 = .ok (.getfield 31, 3) := by decide +kernel
theorem dX12_isTold_49 : decode cX12_isTold 49 = .ok (.iload_n 3, 1) := by decide +kernel
theorem dX12_isTold_50 : decode cX12_isTold 50 = .ok (.iaload, 1) := by decide +kernel
theorem dX12_isTold_51 : decode cX12_isTold 51 = .ok (.aload_n 0, 1) := by decide +kernel
theorem dX12_isTold_52 : decode cX12_isTold 52 = .ok (.getfield 31, 3) := by decide +kernel
theorem dX12_isTold_55 : decode cX12_isTold 55 = .ok (.iload_n 1, 1) := by decide +kernel
theorem dX12_isTold_56 : decode cX12_isTold 56 = .ok (.iaload, 1) := by decide +kernel
theorem dX12_isTold_57 : decode cX12_isTold 57 = .ok (.if_icmp .ne 35, 3) := by decide +kernel
theorem dX12_isTold_60 : decode cX12_isTold 60 = .ok (.aload_n 0, 1) := by decide +kernel
theorem dX12_isTold_61 : decode cX12_isTold 61 = .ok (.getfield 34, 3) := by decide +kernel
theorem dX12_isTold_64 : decode cX12_isTold 64 = .ok (.iload_n 3, 1) := by decide +kernel
theorem dX12_isTold_65 : decode cX12_isTold 65 = .ok (.iaload, 1) := by decide +kernel
theorem dX12_isTold_66 : decode cX12_isTold 66 = .ok (.aload_n 0, 1) := by decide +kernel
theorem dX12_isTold_67 : decode cX12_isTold 67 = .ok (.getfield 34, 3) := by decide +kernel
theorem dX12_isTold_70 : decode cX12_isTold 70 = .ok (.iload_n 1, 1) := by decide +kernel
theorem dX12_isTold_71 : decode cX12_isTold 71 = .ok (.iaload, 1) := by decide +kernel
theorem dX12_isTold_72 : decode cX12_isTold 72 = .ok (.if_icmp .ne 20, 3) := by decide +kernel
theorem dX12_isTold_75 : decode cX12_isTold 75 = .ok (.aload_n 0, 1) := by decide +kernel
theorem dX12_isTold_76 : decode cX12_isTold 76 = .ok (.getfield 37, 3) := by decide +kernel
theorem dX12_isTold_79 : decode cX12_isTold 79 = .ok (.iload_n 3, 1) := by decide +kernel
theorem dX12_isTold_80 : decode cX12_isTold 80 = .ok (.iaload, 1) := by decide +kernel
theorem dX12_isTold_81 : decode cX12_isTold 81 = .ok (.aload_n 0, 1) := by decide +kernel
theorem dX12_isTold_82 : decode cX12_isTold 82 = .ok (.getfield 37, 3) := by decide +kernel
theorem dX12_isTold_85 : decode cX12_isTold 85 = .ok (.iload_n 1, 1) := by decide +kernel
theorem dX12_isTold_86 : decode cX12_isTold 86 = .ok (.iaload, 1) := by decide +kernel
theorem dX12_isTold_87 : decode cX12_isTold 87 = .ok (.if_icmp .ne 5, 3) := by decide +kernel
theorem dX12_isTold_90 : decode cX12_isTold 90 = .ok (.iconst 1, 1) := by decide +kernel
theorem dX12_isTold_91 : decode cX12_isTold 91 = .ok (.ireturn, 1) := by decide +kernel
theorem dX12_isTold_92 : decode cX12_isTold 92 = .ok (.iinc 3 1, 3) := by decide +kernel
theorem dX12_isTold_95 : decode cX12_isTold 95 = .ok (.goto (-93), 3) := by decide +kernel
theorem dX12_isTold_98 : decode cX12_isTold 98 = .ok (.iconst 0, 1) := by decide +kernel
theorem dX12_isTold_99 : decode cX12_isTold 99 = .ok (.ireturn, 1) := by decide +kernel
set_option maxRecDepth 20000 in
theorem ggX12_unlikeOf_X12_has : GoodIn wsX12_unlikeOf wsX12_has := goodIn_r _ [6] (by decide +kernel) (by decide +kernel)
set_option maxRecDepth 20000 in
theorem gX12_unlikeOf_X12_has : GoodIn wsX12_unlikeOf (va_wsS RX12 223 yX12_has wsX12_has) := goodIn_app (goodIn_of _ (by decide +kernel)) ggX12_unlikeOf_X12_has
set_option maxRecDepth 20000 in
theorem ggX12_unlikeOf_X12_isTold : GoodIn wsX12_unlikeOf wsX12_isTold := goodIn_r _ [10, 1, 2, 11, 12, 13, 3, 4, 5, 6, 14, 15, 16, 17, 18, 19, 20, 21, 22, 23, 24, 25, 26, 27, 28, 29, 30, 31, 32, 33, 34, 35, 36, 37, 38, 39, 40, 41, 42, 43, 44, 45, 46] (by decide +kernel) (by decide +kernel)
set_option maxRecDepth 20000 in
theorem gX12_unlikeOf_X12_isTold : GoodIn wsX12_unlikeOf (wsV RX12 245 RX12 yX12_isTold wsX12_isTold) := goodIn_app (goodIn_of _ (by decide +kernel)) ggX12_unlikeOf_X12_isTold
theorem dX12_unlikeOf_0 : decode cX12_unlikeOf 0 = .ok (.iconst 0, 1) := by decide +kernel
theorem dX12_unlikeOf_1 : decode cX12_unlikeOf 1 = .ok (.istore_n 2, 1) := by decide +kernel
theorem dX12_unlikeOf_2 : decode cX12_unlikeOf 2 = .ok (.iconst 0, 1) := by decide +kernel
theorem dX12_unlikeOf_3 : decode cX12_unlikeOf 3 = .ok (.istore_n 3, 1) := by decide +kernel
theorem dX12_unlikeOf_4 : decode cX12_unlikeOf 4 = .ok (.iload_n 3, 1) := by decide +kernel
theorem dX12_unlikeOf_5 : decode cX12_unlikeOf 5 = .ok (.aload_n 0, 1) := by decide +kernel
theorem dX12_unlikeOf_6 : decode cX12_unlikeOf 6 = .ok (.getfield 76, 3) := by decide +kernel
theorem dX12_unlikeOf_9 : decode cX12_unlikeOf 9 = .ok (.if_icmp .ge 63, 3) := by decide +kernel
theorem dX12_unlikeOf_12 : decode cX12_unlikeOf 12 = .ok (.bipush 9, 2) := by decide +kernel
theorem dX12_unlikeOf_14 : decode cX12_unlikeOf 14 = .ok (.iload_n 3, 1) := by decide +kernel
theorem dX12_unlikeOf_15 : decode cX12_unlikeOf 15 = .ok (.imul, 1) := by decide +kernel
theorem dX12_unlikeOf_16 : decode cX12_unlikeOf 16 = .ok (.istore 4, 2) := by decide +kernel
theorem dX12_unlikeOf_18 : decode cX12_unlikeOf 18 = .ok (.iload 4, 2) := by decide +kernel
theorem dX12_unlikeOf_20 : decode cX12_unlikeOf 20 = .ok (.bipush 9, 2) := by decide +kernel
theorem dX12_unlikeOf_22 : decode cX12_unlikeOf 22 = .ok (.iload_n 3, 1) := by decide +kernel
theorem dX12_unlikeOf_23 : decode cX12_unlikeOf 23 = .ok (.imul, 1) := by decide +kernel
theorem dX12_unlikeOf_24 : decode cX12_unlikeOf 24 = .ok (.aload_n 0, 1) := by decide +kernel
theorem dX12_unlikeOf_25 : decode cX12_unlikeOf 25 = .ok (.getfield 28, 3) := by decide +kernel
theorem dX12_unlikeOf_28 : decode cX12_unlikeOf 28 = .ok (.iload_n 3, 1) := by decide +kernel
theorem dX12_unlikeOf_29 : decode cX12_unlikeOf 29 = .ok (.iaload, 1) := by decide +kernel
theorem dX12_unlikeOf_30 : decode cX12_unlikeOf 30 = .ok (.iadd, 1) := by decide +kernel
theorem dX12_unlikeOf_31 : decode cX12_unlikeOf 31 = .ok (.if_icmp .ge 35, 3) := by decide +kernel
theorem dX12_unlikeOf_34 : decode cX12_unlikeOf 34 = .ok (.iload_n 1, 1) := by decide +kernel
theorem dX12_unlikeOf_35 : decode cX12_unlikeOf 35 = .ok (.iload_n 3, 1) := by decide +kernel
theorem dX12_unlikeOf_36 : decode cX12_unlikeOf 36 = .ok (.invokestatic 223, 3) := by decide +kernel
theorem dX12_unlikeOf_39 : decode cX12_unlikeOf 39 = .ok (.ifCond .eq 27, 3) := by decide +kernel
theorem dX12_unlikeOf_42 : decode cX12_unlikeOf 42 = .ok (.iload_n 2, 1) := by decide +kernel
theorem dX12_unlikeOf_43 : decode cX12_unlikeOf 43 = .ok (.aload_n 0, 1) := by decide +kernel
theorem dX12_unlikeOf_44 : decode cX12_unlikeOf 44 = .ok (.iload 4, 2) := by decide +kernel
theorem dX12_unlikeOf_46 : decode cX12_unlikeOf 46 = .ok (.iload_n 1, 1) := by decide +kernel
theorem dX12_unlikeOf_47 : decode cX12_unlikeOf 47 = .ok (.invokevirtual 245, 3) := by decide +kernel
theorem dX12_unlikeOf_50 : decode cX12_unlikeOf 50 = .ok (.ifCond .eq 7, 3) := by decide +kernel
theorem dX12_unlikeOf_53 : decode cX12_unlikeOf 53 = .ok (.iconst 0, 1) := by decide +kernel
theorem dX12_unlikeOf_54 : decode cX12_unlikeOf 54 = .ok (.goto 4, 3) := by decide +kernel
theorem dX12_unlikeOf_57 : decode cX12_unlikeOf 57 = .ok (.iconst 1, 1) := by decide +kernel
theorem dX12_unlikeOf_58 : decode cX12_unlikeOf 58 = .ok (.iadd, 1) := by decide +kernel
theorem dX12_unlikeOf_59 : decode cX12_unlikeOf 59 = .ok (.istore_n 2, 1) := by decide +kernel
theorem dX12_unlikeOf_60 : decode cX12_unlikeOf 60 = .ok (.iinc 4 1, 3) := by decide +kernel
theorem dX12_unlikeOf_63 : decode cX12_unlikeOf 63 = .ok (.goto (-45), 3) := by decide +kernel
theorem dX12_unlikeOf_66 : decode cX12_unlikeOf 66 = .ok (.iinc 3 1, 3) := by decide +kernel
theorem dX12_unlikeOf_69 : decode cX12_unlikeOf 69 = .ok (.goto (-65), 3) := by decide +kernel
theorem dX12_unlikeOf_72 : decode cX12_unlikeOf 72 = .ok (.iload_n 2, 1) := by decide +kernel
theorem dX12_unlikeOf_73 : decode cX12_unlikeOf 73 = .ok (.ireturn, 1) := by decide +kernel
set_option maxRecDepth 20000 in
theorem ggX12_known_X12_isPerson : GoodIn wsX12_known wsX12_isPerson := goodIn_r _ [5, 6, 69, 70, 71, 72, 73, 74, 75, 76, 77, 78, 79, 80, 81, 82, 83, 84, 85, 86, 87, 88, 89, 90, 91, 92, 93, 94, 95, 96, 97, 98, 99, 100, 101] (by decide +kernel) (by decide +kernel)
set_option maxRecDepth 20000 in
theorem gX12_known_X12_isPerson : GoodIn wsX12_known (wsV RX12 132 RX12 yX12_isPerson wsX12_isPerson) := goodIn_app (goodIn_of _ (by decide +kernel)) ggX12_known_X12_isPerson
set_option maxRecDepth 20000 in
theorem ggX12_known_X12_no : GoodIn wsX12_known wsX12_no := goodIn_r _ [10, 11, 69, 70, 71, 72, 73, 74, 75, 76, 77, 78, 79, 80, 81, 82, 83, 84, 85, 86, 87, 88, 89, 90, 91, 92, 93, 94, 95, 96, 97, 98, 99, 100, 101] (by decide +kernel) (by decide +kernel)
set_option maxRecDepth 20000 in
theorem gX12_known_X12_no : GoodIn wsX12_known (wsV RX12 91 RX12 yX12_no wsX12_no) := goodIn_app (goodIn_of _ (by decide +kernel)) ggX12_known_X12_no
set_option maxRecDepth 20000 in
theorem ggX12_known_X12_findLit : GoodIn wsX12_known wsX12_findLit := goodIn_r _ [15, 16, 17, 18, 19, 20, 21, 22, 4, 23, 24, 25, 6, 26, 27, 28, 29, 30, 31, 32, 33, 34, 35, 36, 37, 38, 39, 40, 41, 42, 43, 44, 45, 46, 47, 48, 49, 69, 70, 71, 72, 73, 74, 75, 76, 77, 78, 79, 80, 81, 82, 83, 84, 85, 86, 87, 88, 89, 90, 91, 92, 93, 94, 95, 96, 97, 98, 99, 100, 101] (by decide +kernel) (by decide +kernel)
set_option maxRecDepth 20000 in
theorem gX12_known_X12_findLit : GoodIn wsX12_known (wsV RX12 220 RX12 yX12_findLit wsX12_findLit) := goodIn_app (goodIn_of _ (by decide +kernel)) ggX12_known_X12_findLit
set_option maxRecDepth 20000 in
theorem ggX12_known_X12_shownTo : GoodIn wsX12_known wsX12_shownTo := goodIn_r _ [53, 16, 26, 69, 70, 71, 72, 73, 74, 75, 76, 77, 78, 79, 80, 81, 82, 83, 84, 85, 86, 87, 88, 89, 90, 91, 92, 93, 94, 95, 96, 97, 98, 99, 100, 101] (by decide +kernel) (by decide +kernel)
set_option maxRecDepth 20000 in
theorem gX12_known_X12_shownTo : GoodIn wsX12_known (wsV RX12 242 RX12 yX12_shownTo wsX12_shownTo) := goodIn_app (goodIn_of _ (by decide +kernel)) ggX12_known_X12_shownTo
set_option maxRecDepth 20000 in
theorem ggX12_known_X12_unlikeOf : GoodIn wsX12_known wsX12_unlikeOf := goodIn_r _ [57, 17, 58, 59, 60, 4, 61, 62, 63, 64, 65, 66, 67, 68, 69, 70, 71, 72, 73, 74, 75, 76, 77, 78, 79, 80, 81, 82, 83, 84, 85, 86, 87, 88, 89, 90, 91, 92, 93, 94, 95, 96, 97, 98, 99, 100, 101] (by decide +kernel) (by decide +kernel)
set_option maxRecDepth 20000 in
theorem gX12_known_X12_unlikeOf : GoodIn wsX12_known (wsV RX12 248 RX12 yX12_unlikeOf wsX12_unlikeOf) := goodIn_app (goodIn_of _ (by decide +kernel)) ggX12_known_X12_unlikeOf
theorem dX12_known_0 : decode cX12_known 0 = .ok (.aload_n 0, 1) := by decide +kernel
theorem dX12_known_1 : decode cX12_known 1 = .ok (.iload_n 1, 1) := by decide +kernel
theorem dX12_known_2 : decode cX12_known 2 = .ok (.invokevirtual 132, 3) := by decide +kernel
theorem dX12_known_5 : decode cX12_known 5 = .ok (.ifCond .ne 9, 3) := by decide +kernel
theorem dX12_known_8 : decode cX12_known 8 = .ok (.aload_n 0, 1) := by decide +kernel
theorem dX12_known_9 : decode cX12_known 9 = .ok (.iconst (-1), 1) := by decide +kernel
theorem dX12_known_10 : decode cX12_known 10 = .ok (.invokevirtual 91, 3) := by decide +kernel
theorem dX12_known_13 : decode cX12_known 13 = .ok (.ireturn, 1) := by decide +kernel
theorem dX12_known_14 : decode cX12_known 14 = .ok (.aload_n 0, 1) := by decide +kernel
theorem dX12_known_15 : decode cX12_known 15 = .ok (.invokevirtual 220, 3) := by decide +kernel
theorem dX12_known_18 : decode cX12_known 18 = .ok (.aload_n 0, 1) := by decide +kernel
theorem dX12_known_19 : decode cX12_known 19 = .ok (.aload_n 0, 1) := by decide +kernel
theorem dX12_known_20 : decode cX12_known 20 = .ok (.iload_n 1, 1) := by decide +kernel
theorem dX12_known_21 : decode cX12_known 21 = .ok (.invokevirtual 242, 3) := by decide +kernel
theorem dX12_known_24 : decode cX12_known 24 = .ok (.invokevirtual 248, 3) := by decide +kernel
theorem dX12_known_27 : decode cX12_known 27 = .ok (.ireturn, 1) := by decide +kernel
set_option maxRecDepth 20000 in
theorem ggX12_allKnow_X12_findLit : GoodIn wsX12_allKnow wsX12_findLit := goodIn_r _ [6, 7, 8, 9, 10, 11, 12, 13, 5, 14, 15, 16, 1, 17, 18, 19, 20, 21, 22, 23, 24, 25, 26, 27, 28, 29, 30, 31, 32, 33, 34, 35, 36, 37, 38, 39, 40, 60, 61, 62, 63, 64, 65, 66, 67, 68, 69, 70, 71, 72, 73, 74, 75, 76, 77, 78, 79, 80, 81, 82, 83, 84, 85, 86, 87, 88, 89, 90, 91, 92] (by decide +kernel) (by decide +kernel)
set_option maxRecDepth 20000 in
theorem gX12_allKnow_X12_findLit : GoodIn wsX12_allKnow (wsV RX12 220 RX12 yX12_findLit wsX12_findLit) := goodIn_app (goodIn_of _ (by decide +kernel)) ggX12_allKnow_X12_findLit
set_option maxRecDepth 20000 in
theorem ggX12_allKnow_X12_shownTo : GoodIn wsX12_allKnow wsX12_shownTo := goodIn_r _ [44, 7, 17, 60, 61, 62, 63, 64, 65, 66, 67, 68, 69, 70, 71, 72, 73, 74, 75, 76, 77, 78, 79, 80, 81, 82, 83, 84, 85, 86, 87, 88, 89, 90, 91, 92] (by decide +kernel) (by decide +kernel)
set_option maxRecDepth 20000 in
theorem gX12_allKnow_X12_shownTo : GoodIn wsX12_allKnow (wsV RX12 242 RX12 yX12_shownTo wsX12_shownTo) := goodIn_app (goodIn_of _ (by decide +kernel)) ggX12_allKnow_X12_shownTo
set_option maxRecDepth 20000 in
theorem ggX12_allKnow_X12_unlikeOf : GoodIn wsX12_allKnow wsX12_unlikeOf := goodIn_r _ [48, 8, 49, 50, 51, 5, 52, 53, 54, 55, 56, 57, 58, 59, 60, 61, 62, 63, 64, 65, 66, 67, 68, 69, 70, 71, 72, 73, 74, 75, 76, 77, 78, 79, 80, 81, 82, 83, 84, 85, 86, 87, 88, 89, 90, 91, 92] (by decide +kernel) (by decide +kernel)
set_option maxRecDepth 20000 in
theorem gX12_allKnow_X12_unlikeOf : GoodIn wsX12_allKnow (wsV RX12 248 RX12 yX12_unlikeOf wsX12_unlikeOf) := goodIn_app (goodIn_of _ (by decide +kernel)) ggX12_allKnow_X12_unlikeOf
theorem dX12_allKnow_0 : decode cX12_allKnow 0 = .ok (.aload_n 0, 1) := by decide +kernel
theorem dX12_allKnow_1 : decode cX12_allKnow 1 = .ok (.invokevirtual 220, 3) := by decide +kernel
theorem dX12_allKnow_4 : decode cX12_allKnow 4 = .ok (.iconst 0, 1) := by decide +kernel
theorem dX12_allKnow_5 : decode cX12_allKnow 5 = .ok (.istore_n 1, 1) := by decide +kernel
theorem dX12_allKnow_6 : decode cX12_allKnow 6 = .ok (.iconst 0, 1) := by decide +kernel
theorem dX12_allKnow_7 : decode cX12_allKnow 7 = .ok (.istore_n 2, 1) := by decide +kernel
theorem dX12_allKnow_8 : decode cX12_allKnow 8 = .ok (.iload_n 2, 1) := by decide +kernel
theorem dX12_allKnow_9 : decode cX12_allKnow 9 = .ok (.aload_n 0, 1) := by decide +kernel
theorem dX12_allKnow_10 : decode cX12_allKnow 10 = .ok (.getfield 81, 3) := by decide +kernel
theorem dX12_allKnow_13 : decode cX12_allKnow 13 = .ok (.if_icmp .ge 17, 3) := by decide +kernel
theorem dX12_allKnow_16 : decode cX12_allKnow 16 = .ok (.iload_n 1, 1) := by decide +kernel
theorem dX12_allKnow_17 : decode cX12_allKnow 17 = .ok (.aload_n 0, 1) := by decide +kernel
theorem dX12_allKnow_18 : decode cX12_allKnow 18 = .ok (.iload_n 2, 1) := by decide +kernel
theorem dX12_allKnow_19 : decode cX12_allKnow 19 = .ok (.invokevirtual 242, 3) := by decide +kernel
theorem dX12_allKnow_22 : decode cX12_allKnow 22 = .ok (.ior, 1) := by decide +kernel
theorem dX12_allKnow_23 : decode cX12_allKnow 23 = .ok (.istore_n 1, 1) := by decide +kernel
theorem dX12_allKnow_24 : decode cX12_allKnow 24 = .ok (.iinc 2 1, 3) := by decide +kernel
theorem dX12_allKnow_27 : decode cX12_allKnow 27 = .ok (.goto (-19), 3) := by decide +kernel
theorem dX12_allKnow_30 : decode cX12_allKnow 30 = .ok (.aload_n 0, 1) := by decide +kernel
theorem dX12_allKnow_31 : decode cX12_allKnow 31 = .ok (.iload_n 1, 1) := by decide +kernel
theorem dX12_allKnow_32 : decode cX12_allKnow 32 = .ok (.invokevirtual 248, 3) := by decide +kernel
theorem dX12_allKnow_35 : decode cX12_allKnow 35 = .ok (.ireturn, 1) := by decide +kernel
set_option maxRecDepth 20000 in
theorem ggX12_barsBy_X12_stepsOf : GoodIn wsX12_barsBy wsX12_stepsOf := goodIn_r _ [9, 3, 10, 11, 12, 8, 13, 14, 15, 16, 17, 18, 19, 20, 21, 22, 23, 24, 25, 26, 27, 28, 29, 30, 31, 32, 33, 34, 35, 36, 37, 38, 39, 40, 41, 42, 43, 44, 45, 46, 47, 48, 49, 50, 51, 52, 53, 54, 55, 56, 57, 58, 59, 60, 61] (by decide +kernel) (by decide +kernel)
set_option maxRecDepth 20000 in
theorem gX12_barsBy_X12_stepsOf : GoodIn wsX12_barsBy (wsV RX12 135 RX12 yX12_stepsOf wsX12_stepsOf) := goodIn_app (goodIn_of _ (by decide +kernel)) ggX12_barsBy_X12_stepsOf
theorem dX12_barsBy_0 : decode cX12_barsBy 0 = .ok (.aload_n 0, 1) := by decide +kernel
theorem dX12_barsBy_1 : decode cX12_barsBy 1 = .ok (.aload_n 0, 1) := by decide +kernel
theorem dX12_barsBy_2 : decode cX12_barsBy 2 = .ok (.getfield 34, 3) := by decide +kernel
theorem dX12_barsBy_5 : decode cX12_barsBy 5 = .ok (.iload_n 1, 1) := by decide +kernel
theorem dX12_barsBy_6 : decode cX12_barsBy 6 = .ok (.iaload, 1) := by decide +kernel
theorem dX12_barsBy_7 : decode cX12_barsBy 7 = .ok (.iconst 0, 1) := by decide +kernel
theorem dX12_barsBy_8 : decode cX12_barsBy 8 = .ok (.invokevirtual 135, 3) := by decide +kernel
theorem dX12_barsBy_11 : decode cX12_barsBy 11 = .ok (.pop, 1) := by decide +kernel
theorem dX12_barsBy_12 : decode cX12_barsBy 12 = .ok (.iload_n 2, 1) := by decide +kernel
theorem dX12_barsBy_13 : decode cX12_barsBy 13 = .ok (.aload_n 0, 1) := by decide +kernel
theorem dX12_barsBy_14 : decode cX12_barsBy 14 = .ok (.getfield 37, 3) := by decide +kernel
theorem dX12_barsBy_17 : decode cX12_barsBy 17 = .ok (.iload_n 1, 1) := by decide +kernel
theorem dX12_barsBy_18 : decode cX12_barsBy 18 = .ok (.iaload, 1) := by decide +kernel
theorem dX12_barsBy_19 : decode cX12_barsBy 19 = .ok (.if_icmp .ge 14, 3) := by decide +kernel
theorem dX12_barsBy_22 : decode cX12_barsBy 22 = .ok (.aload_n 0, 1) := by decide +kernel
theorem dX12_barsBy_23 : decode cX12_barsBy 23 = .ok (.getfield 37, 3) := by decide +kernel
theorem dX12_barsBy_26 : decode cX12_barsBy 26 = .ok (.iload_n 1, 1) := by decide +kernel
theorem dX12_barsBy_27 : decode cX12_barsBy 27 = .ok (.iaload, 1) := by decide +kernel
theorem dX12_barsBy_28 : decode cX12_barsBy 28 = .ok (.iload_n 2, 1) := by decide +kernel
theorem dX12_barsBy_29 : decode cX12_barsBy 29 = .ok (.isub, 1) := by decide +kernel
theorem dX12_barsBy_30 : decode cX12_barsBy 30 = .ok (.goto 11, 3) := by decide +kernel
theorem dX12_barsBy_33 : decode cX12_barsBy 33 = .ok (.iload_n 2, 1) := by decide +kernel
theorem dX12_barsBy_34 : decode cX12_barsBy 34 = .ok (.aload_n 0, 1) := by decide +kernel
theorem dX12_barsBy_35 : decode cX12_barsBy 35 = .ok (.getfield 37, 3) := by decide +kernel
theorem dX12_barsBy_38 : decode cX12_barsBy 38 = .ok (.iload_n 1, 1) := by decide +kernel
theorem dX12_barsBy_39 : decode cX12_barsBy 39 = .ok (.iaload, 1) := by decide +kernel
theorem dX12_barsBy_40 : decode cX12_barsBy 40 = .ok (.isub, 1) := by decide +kernel
theorem dX12_barsBy_41 : decode cX12_barsBy 41 = .ok (.istore_n 3, 1) := by decide +kernel
theorem dX12_barsBy_42 : decode cX12_barsBy 42 = .ok (.iconst 0, 1) := by decide +kernel
theorem dX12_barsBy_43 : decode cX12_barsBy 43 = .ok (.istore 4, 2) := by decide +kernel
theorem dX12_barsBy_45 : decode cX12_barsBy 45 = .ok (.iload 4, 2) := by decide +kernel
theorem dX12_barsBy_47 : decode cX12_barsBy 47 = .ok (.bipush 36, 2) := by decide +kernel
theorem dX12_barsBy_49 : decode cX12_barsBy 49 = .ok (.if_icmp .ge 38, 3) := by decide +kernel
theorem dX12_barsBy_52 : decode cX12_barsBy 52 = .ok (.aload_n 0, 1) := by decide +kernel
theorem dX12_barsBy_53 : decode cX12_barsBy 53 = .ok (.getfield 58, 3) := by decide +kernel
theorem dX12_barsBy_56 : decode cX12_barsBy 56 = .ok (.iload 4, 2) := by decide +kernel
theorem dX12_barsBy_58 : decode cX12_barsBy 58 = .ok (.iaload, 1) := by decide +kernel
theorem dX12_barsBy_59 : decode cX12_barsBy 59 = .ok (.ifCond .lt 14, 3) := by decide +kernel
theorem dX12_barsBy_62 : decode cX12_barsBy 62 = .ok (.aload_n 0, 1) := by decide +kernel
theorem dX12_barsBy_63 : decode cX12_barsBy 63 = .ok (.getfield 58, 3) := by decide +kernel
theorem dX12_barsBy_66 : decode cX12_barsBy 66 = .ok (.iload 4, 2) := by decide +kernel
theorem dX12_barsBy_68 : decode cX12_barsBy 68 = .ok (.iaload, 1) := by decide +kernel
theorem dX12_barsBy_69 : decode cX12_barsBy 69 = .ok (.iload_n 3, 1) := by decide +kernel
theorem dX12_barsBy_70 : decode cX12_barsBy 70 = .ok (.if_icmp .le 11, 3) := by decide +kernel
theorem dX12_barsBy_73 : decode cX12_barsBy 73 = .ok (.aload_n 0, 1) := by decide +kernel
theorem dX12_barsBy_74 : decode cX12_barsBy 74 = .ok (.getfield 70, 3) := by decide +kernel
theorem dX12_barsBy_77 : decode cX12_barsBy 77 = .ok (.iload 4, 2) := by decide +kernel
theorem dX12_barsBy_79 : decode cX12_barsBy 79 = .ok (.iconst 0, 1) := by decide +kernel
theorem dX12_barsBy_80 : decode cX12_barsBy 80 = .ok (.iastore, 1) := by decide +kernel
theorem dX12_barsBy_81 : decode cX12_barsBy 81 = .ok (.iinc 4 1, 3) := by decide +kernel
theorem dX12_barsBy_84 : decode cX12_barsBy 84 = .ok (.goto (-39), 3) := by decide +kernel
theorem dX12_barsBy_87 : decode cX12_barsBy 87 = .ok (.return_, 1) := by decide +kernel
set_option maxRecDepth 20000 in
theorem ggX12_findWhere_X12_seersOf : GoodIn wsX12_findWhere wsX12_seersOf := goodIn_r _ [13, 1, 8, 14, 15, 16, 12, 17, 4, 18, 66, 67, 68, 69, 70, 71, 72, 73, 74, 75, 76, 77, 78, 79, 80, 81, 82, 83, 84, 85, 86, 87, 88, 89, 90, 91, 92, 93, 94, 95, 96, 97, 98] (by decide +kernel) (by decide +kernel)
set_option maxRecDepth 20000 in
theorem gX12_findWhere_X12_seersOf : GoodIn wsX12_findWhere (wsV RX12 251 RX12 yX12_seersOf wsX12_seersOf) := goodIn_app (goodIn_of _ (by decide +kernel)) ggX12_findWhere_X12_seersOf
set_option maxRecDepth 20000 in
theorem ggX12_findWhere_X12_findLit : GoodIn wsX12_findWhere wsX12_findLit := goodIn_r _ [22, 7, 1, 23, 24, 25, 26, 27, 12, 28, 29, 2, 30, 31, 32, 33, 34, 35, 6, 36, 37, 38, 39, 40, 41, 42, 43, 44, 45, 46, 47, 48, 49, 50, 51, 52, 53, 66, 67, 68, 69, 70, 71, 72, 73, 74, 75, 76, 77, 78, 79, 80, 81, 82, 83, 84, 85, 86, 87, 88, 89, 90, 91, 92, 93, 94, 95, 96, 97, 98] (by decide +kernel) (by decide +kernel)
set_option maxRecDepth 20000 in
theorem gX12_findWhere_X12_findLit : GoodIn wsX12_findWhere (wsV RX12 220 RX12 yX12_findLit wsX12_findLit) := goodIn_app (goodIn_of _ (by decide +kernel)) ggX12_findWhere_X12_findLit
set_option maxRecDepth 20000 in
theorem ggX12_findWhere_X12_has : GoodIn wsX12_findWhere wsX12_has := goodIn_r _ [56] (by decide +kernel) (by decide +kernel)
set_option maxRecDepth 20000 in
theorem gX12_findWhere_X12_has : GoodIn wsX12_findWhere (va_wsS RX12 223 yX12_has wsX12_has) := goodIn_app (goodIn_of _ (by decide +kernel)) ggX12_findWhere_X12_has
set_option maxRecDepth 20000 in
theorem ggX12_findWhere_X12_barsBy : GoodIn wsX12_findWhere wsX12_barsBy := goodIn_r _ [60, 61, 18, 24, 5, 62, 63, 64, 12, 65, 36, 37, 38, 39, 40, 6, 41, 42, 43, 44, 45, 46, 47, 48, 49, 50, 51, 52, 53, 66, 67, 68, 69, 70, 71, 72, 73, 74, 75, 76, 77, 78, 79, 80, 81, 82, 83, 84, 85, 86, 87, 88, 89, 90, 91, 92, 93, 94, 95, 96, 97, 98] (by decide +kernel) (by decide +kernel)
set_option maxRecDepth 20000 in
theorem gX12_findWhere_X12_barsBy : GoodIn wsX12_findWhere (wsV RX12 254 RX12 yX12_barsBy wsX12_barsBy) := goodIn_app (goodIn_of _ (by decide +kernel)) ggX12_findWhere_X12_barsBy
theorem dX12_findWhere_0 : decode cX12_findWhere 0 = .ok (.aload_n 0, 1) := by decide +kernel
theorem dX12_findWhere_1 : decode cX12_findWhere 1 = .ok (.iload_n 1, 1) := by decide +kernel
theorem dX12_findWhere_2 : decode cX12_findWhere 2 = .ok (.iload_n 2, 1) := by decide +kernel
theorem dX12_findWhere_3 : decode cX12_findWhere 3 = .ok (.invokevirtual 251, 3) := by decide +kernel
theorem dX12_findWhere_6 : decode cX12_findWhere 6 = .ok (.istore_n 3, 1) := by decide +kernel
theorem dX12_findWhere_7 : decode cX12_findWhere 7 = .ok (.aload_n 0, 1) := by decide +kernel
theorem dX12_findWhere_8 : decode cX12_findWhere 8 = .ok (.invokevirtual 220, 3) := by decide +kernel
theorem dX12_findWhere_11 : decode cX12_findWhere 11 = .ok (.iconst 0, 1) := by decide +kernel
theorem dX12_findWhere_12 : decode cX12_findWhere 12 = .ok (.istore 4, 2) := by decide +kernel
theorem dX12_findWhere_14 : decode cX12_findWhere 14 = .ok (.iload 4, 2) := by decide +kernel
theorem dX12_findWhere_16 : decode cX12_findWhere 16 = .ok (.bipush 36, 2) := by decide +kernel
theorem dX12_findWhere_18 : decode cX12_findWhere 18 = .ok (.if_icmp .ge 121, 3) := by decide +kernel
theorem dX12_findWhere_21 : decode cX12_findWhere 21 = .ok (.iconst 0, 1) := by decide +kernel
theorem dX12_findWhere_22 : decode cX12_findWhere 22 = .ok (.istore 5, 2) := by decide +kernel
theorem dX12_findWhere_24 : decode cX12_findWhere 24 = .ok (.iconst 0, 1) := by decide +kernel
theorem dX12_findWhere_25 : decode cX12_findWhere 25 = .ok (.istore 6, 2) := by decide +kernel
theorem dX12_findWhere_27 : decode cX12_findWhere 27 = .ok (.iload 6, 2) := by decide +kernel
theorem dX12_findWhere_29 : decode cX12_findWhere 29 = .ok (.aload_n 0, 1) := by decide +kernel
theorem dX12_findWhere_30 : decode cX12_findWhere 30 = .ok (.getfield 76, 3) := by decide +kernel
theorem dX12_findWhere_33 : decode cX12_findWhere 33 = .ok (.if_icmp .ge 64, 3) := by decide +kernel
theorem dX12_findWhere_36 : decode cX12_findWhere 36 = .ok (.iload 5, 2) := by decide +kernel
theorem dX12_findWhere_38 : decode cX12_findWhere 38 = .ok (.aload_n 0, 1) := by decide +kernel
theorem dX12_findWhere_39 : decode cX12_findWhere 39 = .ok (.getfield 16, 3) := by decide +kernel
theorem dX12_findWhere_42 : decode cX12_findWhere 42 = .ok (.iload 6, 2) := by decide +kernel
theorem dX12_findWhere_44 : decode cX12_findWhere 44 = .ok (.iaload, 1) := by decide +kernel
theorem dX12_findWhere_45 : decode cX12_findWhere 45 = .ok (.ifCond .ne 42, 3) := by decide +kernel
theorem dX12_findWhere_48 : decode cX12_findWhere 48 = .ok (.aload_n 0, 1) := by decide +kernel
theorem dX12_findWhere_49 : decode cX12_findWhere 49 = .ok (.getfield 25, 3) := by decide +kernel
theorem dX12_findWhere_52 : decode cX12_findWhere 52 = .ok (.iload 6, 2) := by decide +kernel
theorem dX12_findWhere_54 : decode cX12_findWhere 54 = .ok (.iaload, 1) := by decide +kernel
theorem dX12_findWhere_55 : decode cX12_findWhere 55 = .ok (.iconst 1, 1) := by decide +kernel
theorem dX12_findWhere_56 : decode cX12_findWhere 56 = .ok (.if_icmp .ne 31, 3) := by decide +kernel
theorem dX12_findWhere_59 : decode cX12_findWhere 59 = .ok (.aload_n 0, 1) := by decide +kernel
theorem dX12_findWhere_60 : decode cX12_findWhere 60 = .ok (.getfield 28, 3) := by decide +kernel
