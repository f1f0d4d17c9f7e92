set_option maxRecDepth 20000 in
theorem ggX11_two_X9_cellIn : GoodIn wsX11_two wsX9_cellIn := goodIn_r _ [52] (by decide +kernel) (by decide +kernel)
set_option maxRecDepth 20000 in
theorem gX11_two_X9_cellIn : GoodIn wsX11_two (va_wsS RX11 134 yX9_cellIn wsX9_cellIn) := goodIn_app (goodIn_of _ (by decide +kernel)) ggX11_two_X9_cellIn
theorem dX11_two_0 : decode cX11_two 0 = .ok (.aload_n 0, 1) := by decide +kernel
theorem dX11_two_1 : decode cX11_two 1 = .ok (.getfield 30, 3) := by decide +kernel
theorem dX11_two_4 : decode cX11_two 4 = .ok (.iload_n 1, 1) := by decide +kernel
theorem dX11_two_5 : decode cX11_two 5 = .ok (.invokevirtual 71, 3) := by decide +kernel
theorem dX11_two_8 : decode cX11_two 8 = .ok (.astore_n 3, 1) := by decide +kernel
theorem dX11_two_9 : decode cX11_two 9 = .ok (.aload_n 0, 1) := by decide +kernel
theorem dX11_two_10 : decode cX11_two 10 = .ok (.getfield 30, 3) := by decide +kernel
theorem dX11_two_13 : decode cX11_two 13 = .ok (.iload_n 2, 1) := by decide +kernel
theorem dX11_two_14 : decode cX11_two 14 = .ok (.invokevirtual 71, 3) := by decide +kernel
theorem dX11_two_17 : decode cX11_two 17 = .ok (.astore 4, 2) := by decide +kernel
theorem dX11_two_19 : decode cX11_two 19 = .ok (.aload_n 3, 1) := by decide +kernel
theorem dX11_two_20 : decode cX11_two 20 = .ok (.ifnull 8, 3) := by decide +kernel
theorem dX11_two_23 : decode cX11_two 23 = .ok (.aload 4, 2) := by decide +kernel
theorem dX11_two_25 : decode cX11_two 25 = .ok (.ifnonnull 9, 3) := by decide +kernel
theorem dX11_two_28 : decode cX11_two 28 = .ok (.aload_n 0, 1) := by decide +kernel
theorem dX11_two_29 : decode cX11_two 29 = .ok (.iconst (-1), 1) := by decide +kernel
theorem dX11_two_30 : decode cX11_two 30 = .ok (.invokevirtual 36, 3) := by decide +kernel
theorem dX11_two_33 : decode cX11_two 33 = .ok (.ireturn, 1) := by decide +kernel
theorem dX11_two_34 : decode cX11_two 34 = .ok (.iconst 0, 1) := by decide +kernel
theorem dX11_two_35 : decode cX11_two 35 = .ok (.istore 5, 2) := by decide +kernel
theorem dX11_two_37 : decode cX11_two 37 = .ok (.iconst 0, 1) := by decide +kernel
theorem dX11_two_38 : decode cX11_two 38 = .ok (.istore 6, 2) := by decide +kernel
theorem dX11_two_40 : decode cX11_two 40 = .ok (.iload 6, 2) := by decide +kernel
theorem dX11_two_42 : decode cX11_two 42 = .ok (.aload_n 3, 1) := by decide +kernel
theorem dX11_two_43 : decode cX11_two 43 = .ok (.getfield 105, 3) := by decide +kernel
theorem dX11_two_46 : decode cX11_two 46 = .ok (.if_icmp .ge 55, 3) := by decide +kernel
theorem dX11_two_49 : decode cX11_two 49 = .ok (.aload_n 3, 1) := by decide +kernel
theorem dX11_two_50 : decode cX11_two 50 = .ok (.iload 6, 2) := by decide +kernel
theorem dX11_two_52 : decode cX11_two 52 = .ok (.invokevirtual 153, 3) := by decide +kernel
theorem dX11_two_55 : decode cX11_two 55 = .ok (.istore 7, 2) := by decide +kernel
theorem dX11_two_57 : decode cX11_two 57 = .ok (.aload 4, 2) := by decide +kernel
theorem dX11_two_59 : decode cX11_two 59 = .ok (.iload 7, 2) := by decide +kernel
theorem dX11_two_61 : decode cX11_two 61 = .ok (.invokestatic 137, 3) := by decide +kernel
theorem dX11_two_64 : decode cX11_two 64 = .ok (.invokevirtual 147, 3) := by decide +kernel
theorem dX11_two_67 : decode cX11_two 67 = .ok (.istore 8, 2) := by decide +kernel
theorem dX11_two_69 : decode cX11_two 69 = .ok (.iload 8, 2) := by decide +kernel
theorem dX11_two_71 : decode cX11_two 71 = .ok (.ifCond .lt 24, 3) := by decide +kernel
theorem dX11_two_74 : decode cX11_two 74 = .ok (.aload 4, 2) := by decide +kernel
theorem dX11_two_76 : decode cX11_two 76 = .ok (.iload 8, 2) := by decide +kernel
theorem dX11_two_78 : decode cX11_two 78 = .ok (.invokevirtual 153, 3) := by decide +kernel
theorem dX11_two_81 : decode cX11_two 81 = .ok (.invokestatic 134, 3) := by decide +kernel
theorem dX11_two_84 : decode cX11_two 84 = .ok (.iload 7, 2) := by decide +kernel
theorem dX11_two_86 : decode cX11_two 86 = .ok (.invokestatic 134, 3) := by decide +kernel
theorem dX11_two_89 : decode cX11_two 89 = .ok (.if_icmp .ne 6, 3) := by decide +kernel
theorem dX11_two_92 : decode cX11_two 92 = .ok (.iinc 5 1, 3) := by decide +kernel
theorem dX11_two_95 : decode cX11_two 95 = .ok (.iinc 6 1, 3) := by decide +kernel
theorem dX11_two_98 : decode cX11_two 98 = .ok (.goto (-58), 3) := by decide +kernel
theorem dX11_two_101 : decode cX11_two 101 = .ok (.iload 5, 2) := by decide +kernel
theorem dX11_two_103 : decode cX11_two 103 = .ok (.ireturn, 1) := by decide +kernel
set_option maxRecDepth 20000 in
theorem ggX11_where_X10_isPerson : GoodIn wsX11_where wsX10_isPerson := goodIn_r _ [6, 7, 27, 28, 29, 30, 31, 32] (by decide +kernel) (by decide +kernel)
set_option maxRecDepth 20000 in
theorem gX11_where_X10_isPerson : GoodIn wsX11_where (wsV RX11 156 RX10 yX10_isPerson wsX10_isPerson) := goodIn_app (goodIn_of _ (by decide +kernel)) ggX11_where_X10_isPerson
set_option maxRecDepth 20000 in
theorem ggX11_where_X10_cellOf : GoodIn wsX11_where wsX10_cellOf := goodIn_r _ [11, 7, 12, 27, 28, 29, 30, 31, 32] (by decide +kernel) (by decide +kernel)
set_option maxRecDepth 20000 in
theorem gX11_where_X10_cellOf : GoodIn wsX11_where (wsV RX11 159 RX10 yX10_cellOf wsX10_cellOf) := goodIn_app (goodIn_of _ (by decide +kernel)) ggX11_where_X10_cellOf
set_option maxRecDepth 20000 in
theorem ggX11_where_X11_refuse : GoodIn wsX11_where wsX11_refuse := goodIn_r _ [17, 18, 19, 20, 21, 22, 23, 24, 25, 26] (by decide +kernel) (by decide +kernel)
set_option maxRecDepth 20000 in
theorem gX11_where_X11_refuse : GoodIn wsX11_where (wsV RX11 36 RX11 yX11_refuse wsX11_refuse) := goodIn_app (goodIn_of _ (by decide +kernel)) ggX11_where_X11_refuse
theorem dX11_where_0 : decode cX11_where 0 = .ok (.aload_n 0, 1) := by decide +kernel
theorem dX11_where_1 : decode cX11_where 1 = .ok (.getfield 30, 3) := by decide +kernel
theorem dX11_where_4 : decode cX11_where 4 = .ok (.iload_n 1, 1) := by decide +kernel
theorem dX11_where_5 : decode cX11_where 5 = .ok (.invokevirtual 156, 3) := by decide +kernel
theorem dX11_where_8 : decode cX11_where 8 = .ok (.ifCond .eq 14, 3) := by decide +kernel
theorem dX11_where_11 : decode cX11_where 11 = .ok (.aload_n 0, 1) := by decide +kernel
theorem dX11_where_12 : decode cX11_where 12 = .ok (.getfield 30, 3) := by decide +kernel
theorem dX11_where_15 : decode cX11_where 15 = .ok (.iload_n 1, 1) := by decide +kernel
theorem dX11_where_16 : decode cX11_where 16 = .ok (.invokevirtual 159, 3) := by decide +kernel
theorem dX11_where_19 : decode cX11_where 19 = .ok (.goto 8, 3) := by decide +kernel
theorem dX11_where_22 : decode cX11_where 22 = .ok (.aload_n 0, 1) := by decide +kernel
theorem dX11_where_23 : decode cX11_where 23 = .ok (.iconst (-1), 1) := by decide +kernel
theorem dX11_where_24 : decode cX11_where 24 = .ok (.invokevirtual 36, 3) := by decide +kernel
theorem dX11_where_27 : decode cX11_where 27 = .ok (.ireturn, 1) := by decide +kernel
set_option maxRecDepth 20000 in
theorem ggX11_steps_X2_isOne : GoodIn wsX11_steps wsX2_isOne := goodIn_r _ [5] (by decide +kernel) (by decide +kernel)
set_option maxRecDepth 20000 in
theorem gX11_steps_X2_isOne : GoodIn wsX11_steps (va_wsS RX11 118 yX2_isOne wsX2_isOne) := goodIn_app (goodIn_of _ (by decide +kernel)) ggX11_steps_X2_isOne
set_option maxRecDepth 20000 in
theorem ggX11_steps_X11_refuse : GoodIn wsX11_steps wsX11_refuse := goodIn_r _ [10, 11, 34, 35, 36, 37, 38, 39, 40, 41] (by decide +kernel) (by decide +kernel)
set_option maxRecDepth 20000 in
theorem gX11_steps_X11_refuse : GoodIn wsX11_steps (wsV RX11 36 RX11 yX11_refuse wsX11_refuse) := goodIn_app (goodIn_of _ (by decide +kernel)) ggX11_steps_X11_refuse
set_option maxRecDepth 20000 in
theorem ggX11_steps_X10_free : GoodIn wsX11_steps wsX10_free := goodIn_r _ [16, 17, 18, 19, 42, 43, 44, 45, 46, 47] (by decide +kernel) (by decide +kernel)
set_option maxRecDepth 20000 in
theorem gX11_steps_X10_free : GoodIn wsX11_steps (wsV RX11 162 RX10 yX10_free wsX10_free) := goodIn_app (goodIn_of _ (by decide +kernel)) ggX11_steps_X10_free
set_option maxRecDepth 20000 in
theorem ggX11_steps_X2_fewestSteps : GoodIn wsX11_steps wsX2_fewestSteps := goodIn_r _ [22, 23, 24, 4, 25, 26, 27, 28, 29, 30, 31, 32, 33] (by decide +kernel) (by decide +kernel)
set_option maxRecDepth 20000 in
theorem gX11_steps_X2_fewestSteps : GoodIn wsX11_steps (va_wsS RX11 166 yX2_fewestSteps wsX2_fewestSteps) := goodIn_app (goodIn_of _ (by decide +kernel)) ggX11_steps_X2_fewestSteps
theorem dX11_steps_0 : decode cX11_steps 0 = .ok (.iload_n 1, 1) := by decide +kernel
theorem dX11_steps_1 : decode cX11_steps 1 = .ok (.invokestatic 118, 3) := by decide +kernel
theorem dX11_steps_4 : decode cX11_steps 4 = .ok (.ifCond .eq 10, 3) := by decide +kernel
theorem dX11_steps_7 : decode cX11_steps 7 = .ok (.iload_n 2, 1) := by decide +kernel
theorem dX11_steps_8 : decode cX11_steps 8 = .ok (.invokestatic 118, 3) := by decide +kernel
theorem dX11_steps_11 : decode cX11_steps 11 = .ok (.ifCond .ne 9, 3) := by decide +kernel
theorem dX11_steps_14 : decode cX11_steps 14 = .ok (.aload_n 0, 1) := by decide +kernel
theorem dX11_steps_15 : decode cX11_steps 15 = .ok (.iconst (-1), 1) := by decide +kernel
theorem dX11_steps_16 : decode cX11_steps 16 = .ok (.invokevirtual 36, 3) := by decide +kernel
theorem dX11_steps_19 : decode cX11_steps 19 = .ok (.ireturn, 1) := by decide +kernel
theorem dX11_steps_20 : decode cX11_steps 20 = .ok (.iload_n 1, 1) := by decide +kernel
theorem dX11_steps_21 : decode cX11_steps 21 = .ok (.iload_n 2, 1) := by decide +kernel
theorem dX11_steps_22 : decode cX11_steps 22 = .ok (.aload_n 0, 1) := by decide +kernel
theorem dX11_steps_23 : decode cX11_steps 23 = .ok (.getfield 30, 3) := by decide +kernel
theorem dX11_steps_26 : decode cX11_steps 26 = .ok (.invokevirtual 162, 3) := by decide +kernel
theorem dX11_steps_29 : decode cX11_steps 29 = .ok (.invokestatic 166, 3) := by decide +kernel
theorem dX11_steps_32 : decode cX11_steps 32 = .ok (.ireturn, 1) := by decide +kernel
set_option maxRecDepth 20000 in
theorem ggX11_unlit_X2_isOne : GoodIn wsX11_unlit wsX2_isOne := goodIn_r _ [6] (by decide +kernel) (by decide +kernel)
set_option maxRecDepth 20000 in
theorem gX11_unlit_X2_isOne : GoodIn wsX11_unlit (va_wsS RX11 118 yX2_isOne wsX2_isOne) := goodIn_app (goodIn_of _ (by decide +kernel)) ggX11_unlit_X2_isOne
set_option maxRecDepth 20000 in
theorem ggX11_unlit_X11_refuse : GoodIn wsX11_unlit wsX11_refuse := goodIn_r _ [11, 12, 100, 101, 102, 103, 104, 105, 106, 107] (by decide +kernel) (by decide +kernel)
set_option maxRecDepth 20000 in
theorem gX11_unlit_X11_refuse : GoodIn wsX11_unlit (wsV RX11 36 RX11 yX11_refuse wsX11_refuse) := goodIn_app (goodIn_of _ (by decide +kernel)) ggX11_unlit_X11_refuse
set_option maxRecDepth 20000 in
theorem ggX11_unlit_X11_outside : GoodIn wsX11_unlit wsX11_outside := goodIn_r _ [15] (by decide +kernel) (by decide +kernel)
set_option maxRecDepth 20000 in
theorem gX11_unlit_X11_outside : GoodIn wsX11_unlit (va_wsS RX11 143 yX11_outside wsX11_outside) := goodIn_app (goodIn_of _ (by decide +kernel)) ggX11_unlit_X11_outside
set_option maxRecDepth 20000 in
theorem ggX11_unlit_X10_free : GoodIn wsX11_unlit wsX10_free := goodIn_r _ [20, 21, 22, 23, 108, 109, 110, 111, 112, 113] (by decide +kernel) (by decide +kernel)
set_option maxRecDepth 20000 in
theorem gX11_unlit_X10_free : GoodIn wsX11_unlit (wsV RX11 162 RX10 yX10_free wsX10_free) := goodIn_app (goodIn_of _ (by decide +kernel)) ggX11_unlit_X10_free
set_option maxRecDepth 20000 in
theorem ggX11_unlit_X10_litBut : GoodIn wsX11_unlit wsX10_litBut := goodIn_r _ [27, 28, 29, 30, 19, 31, 32, 33, 34, 35, 36, 37, 38, 39, 40, 41, 42, 43, 44, 45, 46, 47, 48, 49, 50, 51, 52, 53, 54, 55, 56, 57, 58, 59, 60, 61, 62, 63, 64, 65, 66, 67, 68, 69, 70, 71, 72, 73, 74, 75, 17, 18, 20, 21, 22, 23, 76, 77, 5, 78, 79, 80, 81, 82, 83, 84, 85, 86, 87, 88, 89, 90, 91, 92, 93, 108, 109, 110, 111, 112, 113, 114, 115, 116, 117, 118, 119, 120, 121, 122, 123, 124, 125, 126, 127, 128, 129, 130, 131, 132, 133, 134, 135, 136, 137, 138, 139, 140, 141, 142, 143, 144, 145, 146, 147, 148] (by decide +kernel) (by decide +kernel)
set_option maxRecDepth 20000 in
theorem gX11_unlit_X10_litBut : GoodIn wsX11_unlit (wsV RX11 170 RX10 yX10_litBut wsX10_litBut) := goodIn_app (goodIn_of _ (by decide +kernel)) ggX11_unlit_X10_litBut
set_option maxRecDepth 20000 in
theorem ggX11_unlit_X2_fewestSteps : GoodIn wsX11_unlit wsX2_fewestSteps := goodIn_r _ [96, 79, 80, 5, 81, 97, 98, 99, 82, 83, 84, 85, 86] (by decide +kernel) (by decide +kernel)
set_option maxRecDepth 20000 in
theorem gX11_unlit_X2_fewestSteps : GoodIn wsX11_unlit (va_wsS RX11 166 yX2_fewestSteps wsX2_fewestSteps) := goodIn_app (goodIn_of _ (by decide +kernel)) ggX11_unlit_X2_fewestSteps
theorem dX11_unlit_0 : decode cX11_unlit 0 = .ok (.iload_n 1, 1) := by decide +kernel
theorem dX11_unlit_1 : decode cX11_unlit 1 = .ok (.invokestatic 118, 3) := by decide +kernel
theorem dX11_unlit_4 : decode cX11_unlit 4 = .ok (.ifCond .eq 10, 3) := by decide +kernel
theorem dX11_unlit_7 : decode cX11_unlit 7 = .ok (.iload_n 2, 1) := by decide +kernel
theorem dX11_unlit_8 : decode cX11_unlit 8 = .ok (.invokestatic 118, 3) := by decide +kernel
theorem dX11_unlit_11 : decode cX11_unlit 11 = .ok (.ifCond .ne 9, 3) := by decide +kernel
theorem dX11_unlit_14 : decode cX11_unlit 14 = .ok (.aload_n 0, 1) := by decide +kernel
theorem dX11_unlit_15 : decode cX11_unlit 15 = .ok (.iconst (-1), 1) := by decide +kernel
theorem dX11_unlit_16 : decode cX11_unlit 16 = .ok (.invokevirtual 36, 3) := by decide +kernel
theorem dX11_unlit_19 : decode cX11_unlit 19 = .ok (.ireturn, 1) := by decide +kernel
theorem dX11_unlit_20 : decode cX11_unlit 20 = .ok (.iload_n 3, 1) := by decide +kernel
theorem dX11_unlit_21 : decode cX11_unlit 21 = .ok (.iconst 0, 1) := by decide +kernel
theorem dX11_unlit_22 : decode cX11_unlit 22 = .ok (.bipush 63, 2) := by decide +kernel
theorem dX11_unlit_24 : decode cX11_unlit 24 = .ok (.invokestatic 143, 3) := by decide +kernel
theorem dX11_unlit_27 : decode cX11_unlit 27 = .ok (.istore 4, 2) := by decide +kernel
theorem dX11_unlit_29 : decode cX11_unlit 29 = .ok (.iload 4, 2) := by decide +kernel
theorem dX11_unlit_31 : decode cX11_unlit 31 = .ok (.ifCond .ge 10, 3) := by decide +kernel
theorem dX11_unlit_34 : decode cX11_unlit 34 = .ok (.aload_n 0, 1) := by decide +kernel
theorem dX11_unlit_35 : decode cX11_unlit 35 = .ok (.iload 4, 2) := by decide +kernel
theorem dX11_unlit_37 : decode cX11_unlit 37 = .ok (.invokevirtual 36, 3) := by decide +kernel
theorem dX11_unlit_40 : decode cX11_unlit 40 = .ok (.ireturn, 1) := by decide +kernel
theorem dX11_unlit_41 : decode cX11_unlit 41 = .ok (.iload_n 1, 1) := by decide +kernel
theorem dX11_unlit_42 : decode cX11_unlit 42 = .ok (.iload_n 2, 1) := by decide +kernel
theorem dX11_unlit_43 : decode cX11_unlit 43 = .ok (.aload_n 0, 1) := by decide +kernel
theorem dX11_unlit_44 : decode cX11_unlit 44 = .ok (.getfield 30, 3) := by decide +kernel
theorem dX11_unlit_47 : decode cX11_unlit 47 = .ok (.invokevirtual 162, 3) := by decide +kernel
theorem dX11_unlit_50 : decode cX11_unlit 50 = .ok (.aload_n 0, 1) := by decide +kernel
theorem dX11_unlit_51 : decode cX11_unlit 51 = .ok (.getfield 30, 3) := by decide +kernel
theorem dX11_unlit_54 : decode cX11_unlit 54 = .ok (.iload_n 3, 1) := by decide +kernel
theorem dX11_unlit_55 : decode cX11_unlit 55 = .ok (.invokevirtual 170, 3) := by decide +kernel
theorem dX11_unlit_58 : decode cX11_unlit 58 = .ok (.ldc2_w 174, 3) := by decide +kernel
theorem dX11_unlit_61 : decode cX11_unlit 61 = .ok (.lxor, 1) := by decide +kernel
theorem dX11_unlit_62 : decode cX11_unlit 62 = .ok (.land, 1) := by decide +kernel
theorem dX11_unlit_63 : decode cX11_unlit 63 = .ok (.invokestatic 166, 3) := by decide +kernel
theorem dX11_unlit_66 : decode cX11_unlit 66 = .ok (.ireturn, 1) := by decide +kernel
set_option maxRecDepth 20000 in
theorem ggX11_by_X11_noPersonAt : GoodIn wsX11_by wsX11_noPersonAt := goodIn_r _ [7, 1, 8, 9, 10, 11, 12, 13, 14, 15, 6, 16, 74, 75, 76, 77, 78, 79, 80, 81, 82, 83, 84, 85, 86, 87] (by decide +kernel) (by decide +kernel)
set_option maxRecDepth 20000 in
theorem gX11_by_X11_noPersonAt : GoodIn wsX11_by (wsV RX11 176 RX11 yX11_noPersonAt wsX11_noPersonAt) := goodIn_app (goodIn_of _ (by decide +kernel)) ggX11_by_X11_noPersonAt
set_option maxRecDepth 20000 in
theorem ggX11_by_X11_refuse : GoodIn wsX11_by wsX11_refuse := goodIn_r _ [20, 21, 74, 75, 76, 77, 78, 79, 80, 81] (by decide +kernel) (by decide +kernel)
set_option maxRecDepth 20000 in
theorem gX11_by_X11_refuse : GoodIn wsX11_by (wsV RX11 36 RX11 yX11_refuse wsX11_refuse) := goodIn_app (goodIn_of _ (by decide +kernel)) ggX11_by_X11_refuse
set_option maxRecDepth 20000 in
theorem ggX11_by_X10_lampAt : GoodIn wsX11_by wsX10_lampAt := goodIn_r _ [25, 26, 27, 82, 83, 84, 85, 86, 87] (by decide +kernel) (by decide +kernel)
set_option maxRecDepth 20000 in
theorem gX11_by_X10_lampAt : GoodIn wsX11_by (wsV RX11 71 RX10 yX10_lampAt wsX10_lampAt) := goodIn_app (goodIn_of _ (by decide +kernel)) ggX11_by_X10_lampAt
set_option maxRecDepth 20000 in
theorem ggX11_by_X5_sawAt : GoodIn wsX11_by wsX5_sawAt := goodIn_r _ [33, 34, 35, 36, 37, 32, 38, 39, 40, 41, 42, 43, 44, 45, 46, 47, 48, 49, 50, 51, 52, 53, 54, 55, 56, 57, 58, 59, 60, 61, 62, 63, 64, 65, 66, 88, 89, 90, 91, 92, 93, 94, 95, 96, 97, 98, 99, 100, 101, 102, 103, 104, 105, 106, 107, 108, 109, 110, 111, 112, 113, 114, 115, 116, 117, 118, 119, 120, 121, 122] (by decide +kernel) (by decide +kernel)
set_option maxRecDepth 20000 in
theorem gX11_by_X5_sawAt_u182X0 : GoodIn wsX11_by (va_wsU RX11 182 RX0 "LampsThatRemember$Lamp" ⟨"LampsThatRemember$Lamp", "sawAt", "(II)Z"⟩ yX5_sawAt wsX5_sawAt) := goodIn_app (goodIn_of _ (by decide +kernel)) ggX11_by_X5_sawAt
set_option maxRecDepth 20000 in
theorem gX11_by_X5_sawAt_u182X1 : GoodIn wsX11_by (va_wsU RX11 182 RX1 "LampsThatRemember$Lamp" ⟨"LampsThatRemember$Lamp", "sawAt", "(II)Z"⟩ yX5_sawAt wsX5_sawAt) := goodIn_app (goodIn_of _ (by decide +kernel)) ggX11_by_X5_sawAt
set_option maxRecDepth 20000 in
theorem gX11_by_X5_sawAt_u182X3 : GoodIn wsX11_by (va_wsU RX11 182 RX3 "LampsThatRemember$Lamp" ⟨"LampsThatRemember$Lamp", "sawAt", "(II)Z"⟩ yX5_sawAt wsX5_sawAt) := goodIn_app (goodIn_of _ (by decide +kernel)) ggX11_by_X5_sawAt
set_option maxRecDepth 20000 in
theorem gX11_by_X5_sawAt_u182X4 : GoodIn wsX11_by (va_wsU RX11 182 RX4 "LampsThatRemember$Lamp" ⟨"LampsThatRemember$Lamp", "sawAt", "(II)Z"⟩ yX5_sawAt wsX5_sawAt) := goodIn_app (goodIn_of _ (by decide +kernel)) ggX11_by_X5_sawAt
set_option maxRecDepth 20000 in
theorem gX11_by_X5_sawAt : GoodIn wsX11_by (wsV RX11 182 RX5 yX5_sawAt wsX5_sawAt) := goodIn_app (goodIn_of _ (by decide +kernel)) ggX11_by_X5_sawAt
set_option maxRecDepth 20000 in
theorem gX11_by_X5_sawAt_u182X7 : GoodIn wsX11_by (va_wsU RX11 182 RX7 "LampsThatRemember$Lamp" ⟨"LampsThatRemember$Lamp", "sawAt", "(II)Z"⟩ yX5_sawAt wsX5_sawAt) := goodIn_app (goodIn_of _ (by decide +kernel)) ggX11_by_X5_sawAt
set_option maxRecDepth 20000 in
theorem gX11_by_X5_sawAt_u182X8 : GoodIn wsX11_by (va_wsU RX11 182 RX8 "LampsThatRemember$Lamp" ⟨"LampsThatRemember$Lamp", "sawAt", "(II)Z"⟩ yX5_sawAt wsX5_sawAt) := goodIn_app (goodIn_of _ (by decide +kernel)) ggX11_by_X5_sawAt
theorem dX11_by_0 : decode cX11_by 0 = .ok (.aload_n 0, 1) := by decide +kernel
theorem dX11_by_1 : decode cX11_by 1 = .ok (.iload_n 1, 1) := by decide +kernel
theorem dX11_by_2 : decode cX11_by 2 = .ok (.iload_n 2, 1) := by decide +kernel
theorem dX11_by_3 : decode cX11_by 3 = .ok (.invokevirtual 176, 3) := by decide +kernel
theorem dX11_by_6 : decode cX11_by 6 = .ok (.istore_n 3, 1) := by decide +kernel
theorem dX11_by_7 : decode cX11_by 7 = .ok (.iload_n 3, 1) := by decide +kernel
theorem dX11_by_8 : decode cX11_by 8 = .ok (.ifCond .ge 9, 3) := by decide +kernel
theorem dX11_by_11 : decode cX11_by 11 = .ok (.aload_n 0, 1) := by decide +kernel
theorem dX11_by_12 : decode cX11_by 12 = .ok (.iload_n 3, 1) := by decide +kernel
theorem dX11_by_13 : decode cX11_by 13 = .ok (.invokevirtual 36, 3) := by decide +kernel
theorem dX11_by_16 : decode cX11_by 16 = .ok (.ireturn, 1) := by decide +kernel
theorem dX11_by_17 : decode cX11_by 17 = .ok (.iconst 0, 1) := by decide +kernel
theorem dX11_by_18 : decode cX11_by 18 = .ok (.istore 4, 2) := by decide +kernel
theorem dX11_by_20 : decode cX11_by 20 = .ok (.iconst 0, 1) := by decide +kernel
theorem dX11_by_21 : decode cX11_by 21 = .ok (.istore 5, 2) := by decide +kernel
theorem dX11_by_23 : decode cX11_by 23 = .ok (.iload 5, 2) := by decide +kernel
theorem dX11_by_25 : decode cX11_by 25 = .ok (.aload_n 0, 1) := by decide +kernel
theorem dX11_by_26 : decode cX11_by 26 = .ok (.getfield 30, 3) := by decide +kernel
theorem dX11_by_29 : decode cX11_by 29 = .ok (.getfield 179, 3) := by decide +kernel
theorem dX11_by_32 : decode cX11_by 32 = .ok (.if_icmp .ge 44, 3) := by decide +kernel
theorem dX11_by_35 : decode cX11_by 35 = .ok (.aload_n 0, 1) := by decide +kernel
theorem dX11_by_36 : decode cX11_by 36 = .ok (.getfield 30, 3) := by decide +kernel
theorem dX11_by_39 : decode cX11_by 39 = .ok (.iload 5, 2) := by decide +kernel
theorem dX11_by_41 : decode cX11_by 41 = .ok (.invokevirtual 71, 3) := by decide +kernel
theorem dX11_by_44 : decode cX11_by 44 = .ok (.astore 6, 2) := by decide +kernel
theorem dX11_by_46 : decode cX11_by 46 = .ok (.aload 6, 2) := by decide +kernel
theorem dX11_by_48 : decode cX11_by 48 = .ok (.ifnull 22, 3) := by decide +kernel
theorem dX11_by_51 : decode cX11_by 51 = .ok (.aload 6, 2) := by decide +kernel
theorem dX11_by_53 : decode cX11_by 53 = .ok (.iload_n 1, 1) := by decide +kernel
theorem dX11_by_54 : decode cX11_by 54 = .ok (.iload_n 2, 1) := by decide +kernel
theorem dX11_by_55 : decode cX11_by 55 = .ok (.invokevirtual 182, 3) := by decide +kernel
theorem dX11_by_58 : decode cX11_by 58 = .ok (.ifCond .eq 12, 3) := by decide +kernel
theorem dX11_by_61 : decode cX11_by 61 = .ok (.iload 4, 2) := by decide +kernel
theorem dX11_by_63 : decode cX11_by 63 = .ok (.iconst 1, 1) := by decide +kernel
theorem dX11_by_64 : decode cX11_by 64 = .ok (.iload 5, 2) := by decide +kernel
theorem dX11_by_66 : decode cX11_by 66 = .ok (.ishl, 1) := by decide +kernel
theorem dX11_by_67 : decode cX11_by 67 = .ok (.ior, 1) := by decide +kernel
theorem dX11_by_68 : decode cX11_by 68 = .ok (.istore 4, 2) := by decide +kernel
theorem dX11_by_70 : decode cX11_by 70 = .ok (.iinc 5 1, 3) := by decide +kernel
theorem dX11_by_73 : decode cX11_by 73 = .ok (.goto (-50), 3) := by decide +kernel
theorem dX11_by_76 : decode cX11_by 76 = .ok (.iload 4, 2) := by decide +kernel
theorem dX11_by_78 : decode cX11_by 78 = .ok (.ireturn, 1) := by decide +kernel
set_option maxRecDepth 20000 in
theorem ggX11_knows_X10_isPerson : GoodIn wsX11_knows wsX10_isPerson := goodIn_r _ [7, 8, 145, 146, 147, 148, 149, 150] (by decide +kernel) (by decide +kernel)
set_option maxRecDepth 20000 in
theorem gX11_knows_X10_isPerson : GoodIn wsX11_knows (wsV RX11 156 RX10 yX10_isPerson wsX10_isPerson) := goodIn_app (goodIn_of _ (by decide +kernel)) ggX11_knows_X10_isPerson
set_option maxRecDepth 20000 in
theorem ggX11_knows_X2_isOne : GoodIn wsX11_knows wsX2_isOne := goodIn_r _ [12] (by decide +kernel) (by decide +kernel)
set_option maxRecDepth 20000 in
theorem gX11_knows_X2_isOne : GoodIn wsX11_knows (va_wsS RX11 118 yX2_isOne wsX2_isOne) := goodIn_app (goodIn_of _ (by decide +kernel)) ggX11_knows_X2_isOne
set_option maxRecDepth 20000 in
theorem ggX11_knows_X11_refuse : GoodIn wsX11_knows wsX11_refuse := goodIn_r _ [17, 18, 137, 138, 139, 140, 141, 142, 143, 144] (by decide +kernel) (by decide +kernel)
set_option maxRecDepth 20000 in
theorem gX11_knows_X11_refuse : GoodIn wsX11_knows (wsV RX11 36 RX11 yX11_refuse wsX11_refuse) := goodIn_app (goodIn_of _ (by decide +kernel)) ggX11_knows_X11_refuse
set_option maxRecDepth 20000 in
theorem ggX11_knows_X11_outside : GoodIn wsX11_knows wsX11_outside := goodIn_r _ [21] (by decide +kernel) (by decide +kernel)
set_option maxRecDepth 20000 in
theorem gX11_knows_X11_outside : GoodIn wsX11_knows (va_wsS RX11 143 yX11_outside wsX11_outside) := goodIn_app (goodIn_of _ (by decide +kernel)) ggX11_knows_X11_outside
set_option maxRecDepth 20000 in
theorem ggX11_knows_X9_of : GoodIn wsX11_knows wsX9_of := goodIn_r _ [25] (by decide +kernel) (by decide +kernel)
set_option maxRecDepth 20000 in
theorem gX11_knows_X9_of : GoodIn wsX11_knows (va_wsS RX11 186 yX9_of wsX9_of) := goodIn_app (goodIn_of _ (by decide +kernel)) ggX11_knows_X9_of
set_option maxRecDepth 20000 in
theorem ggX11_knows_X10_lampAt : GoodIn wsX11_knows wsX10_lampAt := goodIn_r _ [29, 30, 31, 145, 146, 147, 148, 149, 150] (by decide +kernel) (by decide +kernel)
set_option maxRecDepth 20000 in
theorem gX11_knows_X10_lampAt : GoodIn wsX11_knows (wsV RX11 71 RX10 yX10_lampAt wsX10_lampAt) := goodIn_app (goodIn_of _ (by decide +kernel)) ggX11_knows_X10_lampAt
set_option maxRecDepth 20000 in
theorem ggX11_knows_X5_hasScene : GoodIn wsX11_knows wsX5_hasScene := goodIn_r _ [37, 38, 39, 24, 40, 41, 42, 43, 44, 36, 45, 46, 47, 48, 49, 50, 51, 52, 53, 54, 55, 56, 57, 58, 59, 60, 61, 62, 63, 64, 65, 66, 151, 152, 153, 154, 155, 156, 157, 158, 159, 160, 161, 162, 163, 164, 165, 166, 167, 168, 169, 170, 171, 172, 173, 174, 175, 176, 177, 178, 179, 180, 181, 182, 183, 184, 185] (by decide +kernel) (by decide +kernel)
set_option maxRecDepth 20000 in
theorem gX11_knows_X5_hasScene_u189X0 : GoodIn wsX11_knows (va_wsU RX11 189 RX0 "LampsThatRemember$Lamp" ⟨"LampsThatRemember$Lamp", "hasScene", "(I)Z"⟩ yX5_hasScene wsX5_hasScene) := goodIn_app (goodIn_of _ (by decide +kernel)) ggX11_knows_X5_hasScene
set_option maxRecDepth 20000 in
theorem gX11_knows_X5_hasScene_u189X1 : GoodIn wsX11_knows (va_wsU RX11 189 RX1 "LampsThatRemember$Lamp" ⟨"LampsThatRemember$Lamp", "hasScene", "(I)Z"⟩ yX5_hasScene wsX5_hasScene) := goodIn_app (goodIn_of _ (by decide +kernel)) ggX11_knows_X5_hasScene
set_option maxRecDepth 20000 in
theorem gX11_knows_X5_hasScene_u189X3 : GoodIn wsX11_knows (va_wsU RX11 189 RX3 "LampsThatRemember$Lamp" ⟨"LampsThatRemember$Lamp", "hasScene", "(I)Z"⟩ yX5_hasScene wsX5_hasScene) := goodIn_app (goodIn_of _ (by decide +kernel)) ggX11_knows_X5_hasScene
set_option maxRecDepth 20000 in
theorem gX11_knows_X5_hasScene_u189X4 : GoodIn wsX11_knows (va_wsU RX11 189 RX4 "LampsThatRemember$Lamp" ⟨"LampsThatRemember$Lamp", "hasScene", "(I)Z"⟩ yX5_hasScene wsX5_hasScene) := goodIn_app (goodIn_of _ (by decide +kernel)) ggX11_knows_X5_hasScene
set_option maxRecDepth 20000 in
theorem gX11_knows_X5_hasScene : GoodIn wsX11_knows (wsV RX11 189 RX5 yX5_hasScene wsX5_hasScene) := goodIn_app (goodIn_of _ (by decide +kernel)) ggX11_knows_X5_hasScene
set_option maxRecDepth 20000 in
theorem gX11_knows_X5_hasScene_u189X7 : GoodIn wsX11_knows (va_wsU RX11 189 RX7 "LampsThatRemember$Lamp" ⟨"LampsThatRemember$Lamp", "hasScene", "(I)Z"⟩ yX5_hasScene wsX5_hasScene) := goodIn_app (goodIn_of _ (by decide +kernel)) ggX11_knows_X5_hasScene
set_option maxRecDepth 20000 in
theorem gX11_knows_X5_hasScene_u189X8 : GoodIn wsX11_knows (va_wsU RX11 189 RX8 "LampsThatRemember$Lamp" ⟨"LampsThatRemember$Lamp", "hasScene", "(I)Z"⟩ yX5_hasScene wsX5_hasScene) := goodIn_app (goodIn_of _ (by decide +kernel)) ggX11_knows_X5_hasScene
set_option maxRecDepth 20000 in
theorem ggX11_knows_X5_glow : GoodIn wsX11_knows wsX5_glow := goodIn_r _ [78, 79, 80, 81, 82, 83, 36, 84, 85, 86, 87, 88, 89, 90, 91, 92, 93, 94, 95, 6, 96, 8, 97, 98, 99, 100, 101, 102, 103, 104, 105, 106, 107, 108, 109, 110, 111, 112, 11, 113, 114, 115, 116, 117, 118, 119, 120, 121, 151, 152, 153, 154, 155, 156, 157, 158, 159, 160, 161, 162, 163, 164, 165, 166, 167, 168, 169, 170, 171, 172, 173, 174, 175, 176, 177, 178, 179, 180, 181, 182, 183, 184, 185, 145, 146, 147, 148, 149, 150] (by decide +kernel) (by decide +kernel)
set_option maxRecDepth 20000 in
theorem gX11_knows_X5_glow_u108X0 : GoodIn wsX11_knows (va_wsU RX11 108 RX0 "LampsThatRemember$Lamp" ⟨"LampsThatRemember$Lamp", "glow", "(LLampsThatRemember$Town;)J"⟩ yX5_glow wsX5_glow) := goodIn_app (goodIn_of _ (by decide +kernel)) ggX11_knows_X5_glow
set_option maxRecDepth 20000 in
theorem gX11_knows_X5_glow_u108X1 : GoodIn wsX11_knows (va_wsU RX11 108 RX1 "LampsThatRemember$Lamp" ⟨"LampsThatRemember$Lamp", "glow", "(LLampsThatRemember$Town;)J"⟩ yX5_glow wsX5_glow) := goodIn_app (goodIn_of _ (by decide +kernel)) ggX11_knows_X5_glow
set_option maxRecDepth 20000 in
theorem gX11_knows_X5_glow_u108X3 : GoodIn wsX11_knows (va_wsU RX11 108 RX3 "LampsThatRemember$Lamp" ⟨"LampsThatRemember$Lamp", "glow", "(LLampsThatRemember$Town;)J"⟩ yX5_glow wsX5_glow) := goodIn_app (goodIn_of _ (by decide +kernel)) ggX11_knows_X5_glow
set_option maxRecDepth 20000 in
theorem gX11_knows_X5_glow_u108X4 : GoodIn wsX11_knows (va_wsU RX11 108 RX4 "LampsThatRemember$Lamp" ⟨"LampsThatRemember$Lamp", "glow", "(LLampsThatRemember$Town;)J"⟩ yX5_glow wsX5_glow) := goodIn_app (goodIn_of _ (by decide +kernel)) ggX11_knows_X5_glow
set_option maxRecDepth 20000 in
theorem gX11_knows_X5_glow : GoodIn wsX11_knows (wsV RX11 108 RX5 yX5_glow wsX5_glow) := goodIn_app (goodIn_of _ (by decide +kernel)) ggX11_knows_X5_glow
set_option maxRecDepth 20000 in
theorem gX11_knows_X5_glow_u108X7 : GoodIn wsX11_knows (va_wsU RX11 108 RX7 "LampsThatRemember$Lamp" ⟨"LampsThatRemember$Lamp", "glow", "(LLampsThatRemember$Town;)J"⟩ yX5_glow wsX5_glow) := goodIn_app (goodIn_of _ (by decide +kernel)) ggX11_knows_X5_glow
set_option maxRecDepth 20000 in
theorem gX11_knows_X5_glow_u108X8 : GoodIn wsX11_knows (va_wsU RX11 108 RX8 "LampsThatRemember$Lamp" ⟨"LampsThatRemember$Lamp", "glow", "(LLampsThatRemember$Town;)J"⟩ yX5_glow wsX5_glow) := goodIn_app (goodIn_of _ (by decide +kernel)) ggX11_knows_X5_glow
set_option maxRecDepth 20000 in
theorem ggX11_knows_X10_peopleOn : GoodIn wsX11_knows wsX10_peopleOn := goodIn_r _ [132, 8, 133, 94, 95, 6, 96, 97, 134, 135, 11, 136, 114, 115, 116, 145, 146, 147, 148, 149, 150] (by decide +kernel) (by decide +kernel)
set_option maxRecDepth 20000 in
theorem gX11_knows_X10_peopleOn : GoodIn wsX11_knows (wsV RX11 192 RX10 yX10_peopleOn wsX10_peopleOn) := goodIn_app (goodIn_of _ (by decide +kernel)) ggX11_knows_X10_peopleOn
theorem dX11_knows_0 : decode cX11_knows 0 = .ok (.aload_n 0, 1) := by decide +kernel
theorem dX11_knows_1 : decode cX11_knows 1 = .ok (.getfield 30, 3) := by decide +kernel
theorem dX11_knows_4 : decode cX11_knows 4 = .ok (.iload_n 1, 1) := by decide +kernel
theorem dX11_knows_5 : decode cX11_knows 5 = .ok (.invokevirtual 156, 3) := by decide +kernel
theorem dX11_knows_8 : decode cX11_knows 8 = .ok (.ifCond .eq 10, 3) := by decide +kernel
theorem dX11_knows_11 : decode cX11_knows 11 = .ok (.iload_n 2, 1) := by decide +kernel
theorem dX11_knows_12 : decode cX11_knows 12 = .ok (.invokestatic 118, 3) := by decide +kernel
theorem dX11_knows_15 : decode cX11_knows 15 = .ok (.ifCond .ne 9, 3) := by decide +kernel
theorem dX11_knows_18 : decode cX11_knows 18 = .ok (.aload_n 0, 1) := by decide +kernel
theorem dX11_knows_19 : decode cX11_knows 19 = .ok (.iconst (-1), 1) := by decide +kernel
theorem dX11_knows_20 : decode cX11_knows 20 = .ok (.invokevirtual 36, 3) := by decide +kernel
theorem dX11_knows_23 : decode cX11_knows 23 = .ok (.ireturn, 1) := by decide +kernel
theorem dX11_knows_24 : decode cX11_knows 24 = .ok (.iload_n 3, 1) := by decide +kernel
theorem dX11_knows_25 : decode cX11_knows 25 = .ok (.iconst 0, 1) := by decide +kernel
theorem dX11_knows_26 : decode cX11_knows 26 = .ok (.sipush 9999, 3) := by decide +kernel
theorem dX11_knows_29 : decode cX11_knows 29 = .ok (.invokestatic 143, 3) := by decide +kernel
theorem dX11_knows_32 : decode cX11_knows 32 = .ok (.istore 4, 2) := by decide +kernel
theorem dX11_knows_34 : decode cX11_knows 34 = .ok (.iload 4, 2) := by decide +kernel
theorem dX11_knows_36 : decode cX11_knows 36 = .ok (.ifCond .ge 10, 3) := by decide +kernel
theorem dX11_knows_39 : decode cX11_knows 39 = .ok (.aload_n 0, 1) := by decide +kernel
theorem dX11_knows_40 : decode cX11_knows 40 = .ok (.iload 4, 2) := by decide +kernel
theorem dX11_knows_42 : decode cX11_knows 42 = .ok (.invokevirtual 36, 3) := by decide +kernel
theorem dX11_knows_45 : decode cX11_knows 45 = .ok (.ireturn, 1) := by decide +kernel
theorem dX11_knows_46 : decode cX11_knows 46 = .ok (.iload_n 1, 1) := by decide +kernel
theorem dX11_knows_47 : decode cX11_knows 47 = .ok (.iload_n 2, 1) := by decide +kernel
theorem dX11_knows_48 : decode cX11_knows 48 = .ok (.iload_n 3, 1) := by decide +kernel
theorem dX11_knows_49 : decode cX11_knows 49 = .ok (.invokestatic 186, 3) := by decide +kernel
theorem dX11_knows_52 : decode cX11_knows 52 = .ok (.istore 5, 2) := by decide +kernel
theorem dX11_knows_54 : decode cX11_knows 54 = .ok (.iconst 0, 1) := by decide +kernel
theorem dX11_knows_55 : decode cX11_knows 55 = .ok (.istore 6, 2) := by decide +kernel
theorem dX11_knows_57 : decode cX11_knows 57 = .ok (.iconst 0, 1) := by decide +kernel
theorem dX11_knows_58 : decode cX11_knows 58 = .ok (.istore 7, 2) := by decide +kernel
theorem dX11_knows_60 : decode cX11_knows 60 = .ok (.iload 7, 2) := by decide +kernel
theorem dX11_knows_62 : decode cX11_knows 62 = .ok (.aload_n 0, 1) := by decide +kernel
theorem dX11_knows_63 : decode cX11_knows 63 = .ok (.getfield 30, 3) := by decide +kernel
theorem dX11_knows_66 : decode cX11_knows 66 = .ok (.getfield 179, 3) := by decide +kernel
theorem dX11_knows_69 : decode cX11_knows 69 = .ok (.if_icmp .ge 56, 3) := by decide +kernel
theorem dX11_knows_72 : decode cX11_knows 72 = .ok (.aload_n 0, 1) := by decide +kernel
theorem dX11_knows_73 : decode cX11_knows 73 = .ok (.getfield 30, 3) := by decide +kernel
theorem dX11_knows_76 : decode cX11_knows 76 = .ok (.iload 7, 2) := by decide +kernel
theorem dX11_knows_78 : decode cX11_knows 78 = .ok (.invokevirtual 71, 3) := by decide +kernel
theorem dX11_knows_81 : decode cX11_knows 81 = .ok (.astore 8, 2) := by decide +kernel
theorem dX11_knows_83 : decode cX11_knows 83 = .ok (.aload 8, 2) := by decide +kernel
theorem dX11_knows_85 : decode cX11_knows 85 = .ok (.ifnull 34, 3) := by decide +kernel
theorem dX11_knows_88 : decode cX11_knows 88 = .ok (.aload 8, 2) := by decide +kernel
theorem dX11_knows_90 : decode cX11_knows 90 = .ok (.iload 5, 2) := by decide +kernel
theorem dX11_knows_92 : decode cX11_knows 92 = .ok (.invokevirtual 189, 3) := by decide +kernel
theorem dX11_knows_95 : decode cX11_knows 95 = .ok (.ifCond .eq 24, 3) := by decide +kernel
theorem dX11_knows_98 : decode cX11_knows 98 = .ok (.iload 6, 2) := by decide +kernel
theorem dX11_knows_100 : decode cX11_knows 100 = .ok (.aload_n 0, 1) := by decide +kernel
theorem dX11_knows_101 : decode cX11_knows 101 = .ok (.getfield 30, 3) := by decide +kernel
theorem dX11_knows_104 : decode cX11_knows 104 = .ok (.aload 8, 2) := by decide +kernel
theorem dX11_knows_106 : decode cX11_knows 106 = .ok (.aload_n 0, 1) := by decide +kernel
theorem dX11_knows_107 : decode cX11_knows 107 = .ok (.getfield 30, 3) := by decide +kernel
theorem dX11_knows_110 : decode cX11_knows 110 = .ok (.invokevirtual 108, 3) := by decide +kernel
theorem dX11_knows_113 : decode cX11_knows 113 = .ok (.invokevirtual 192, 3) := by decide +kernel
theorem dX11_knows_116 : decode cX11_knows 116 = .ok (.ior, 1) := by decide +kernel
theorem dX11_knows_117 : decode cX11_knows 117 = .ok (.istore 6, 2) := by decide +kernel
theorem dX11_knows_119 : decode cX11_knows 119 = .ok (.iinc 7 1, 3) := by decide +kernel
theorem dX11_knows_122 : decode cX11_knows 122 = .ok (.goto (-62), 3) := by decide +kernel
theorem dX11_knows_125 : decode cX11_knows 125 = .ok (.iload 6, 2) := by decide +kernel
theorem dX11_knows_127 : decode cX11_knows 127 = .ok (.ireturn, 1) := by decide +kernel
set_option maxRecDepth 20000 in
theorem ggX11_known_X10_isPerson : GoodIn wsX11_known wsX10_isPerson := goodIn_r _ [6, 7, 146, 147, 148, 149, 150, 151] (by decide +kernel) (by decide +kernel)
set_option maxRecDepth 20000 in
theorem gX11_known_X10_isPerson : GoodIn wsX11_known (wsV RX11 156 RX10 yX10_isPerson wsX10_isPerson) := goodIn_app (goodIn_of _ (by decide +kernel)) ggX11_known_X10_isPerson
set_option maxRecDepth 20000 in
theorem ggX11_known_X11_refuse : GoodIn wsX11_known wsX11_refuse := goodIn_r _ [12, 13, 138, 139, 140, 141, 142, 143, 144, 145] (by decide +kernel) (by decide +kernel)
set_option maxRecDepth 20000 in
theorem gX11_known_X11_refuse : GoodIn wsX11_known (wsV RX11 36 RX11 yX11_refuse wsX11_refuse) := goodIn_app (goodIn_of _ (by decide +kernel)) ggX11_known_X11_refuse
set_option maxRecDepth 20000 in
theorem ggX11_known_X10_cellOf : GoodIn wsX11_known wsX10_cellOf := goodIn_r _ [17, 7, 18, 146, 147, 148, 149, 150, 151] (by decide +kernel) (by decide +kernel)
set_option maxRecDepth 20000 in
theorem gX11_known_X10_cellOf : GoodIn wsX11_known (wsV RX11 159 RX10 yX10_cellOf wsX10_cellOf) := goodIn_app (goodIn_of _ (by decide +kernel)) ggX11_known_X10_cellOf
set_option maxRecDepth 20000 in
theorem ggX11_known_X2_only : GoodIn wsX11_known wsX2_only := goodIn_r _ [22] (by decide +kernel) (by decide +kernel)
set_option maxRecDepth 20000 in
theorem gX11_known_X2_only : GoodIn wsX11_known (va_wsS RX11 195 yX2_only wsX2_only) := goodIn_app (goodIn_of _ (by decide +kernel)) ggX11_known_X2_only
set_option maxRecDepth 20000 in
theorem ggX11_known_X10_unlikeScenesShownTo : GoodIn wsX11_known wsX10_unlikeScenesShownTo := goodIn_r _ [26, 27, 28, 29, 30, 5, 31, 32, 33, 34, 35, 36, 37, 38, 39, 40, 41, 42, 43, 44, 45, 46, 47, 48, 49, 50, 51, 52, 53, 15, 16, 17, 7, 18, 54, 55, 56, 57, 58, 59, 60, 61, 62, 63, 64, 65, 66, 67, 68, 21, 69, 70, 20, 22, 71, 72, 73, 74, 75, 76, 77, 78, 79, 80, 81, 82, 83, 84, 85, 86, 87, 88, 89, 90, 91, 92, 93, 94, 95, 96, 97, 98, 99, 100, 101, 102, 103, 104, 105, 106, 107, 108, 109, 110, 111, 112, 113, 114, 115, 116, 117, 118, 119, 120, 121, 122, 123, 124, 125, 126, 127, 128, 129, 130, 131, 132, 133, 134, 135, 136, 11, 137, 146, 147, 148, 149, 150, 151, 152, 153, 154, 155, 156, 157, 158, 159, 160, 161, 162, 163, 164, 165, 166, 167, 168, 169, 170, 171, 172, 173, 174, 175, 176, 177, 178, 179, 180, 181, 182, 183, 184, 185, 186] (by decide +kernel) (by decide +kernel)
set_option maxRecDepth 20000 in
theorem gX11_known_X10_unlikeScenesShownTo : GoodIn wsX11_known (wsV RX11 198 RX10 yX10_unlikeScenesShownTo wsX10_unlikeScenesShownTo) := goodIn_app (goodIn_of _ (by decide +kernel)) ggX11_known_X10_unlikeScenesShownTo
theorem dX11_known_0 : decode cX11_known 0 = .ok (.aload_n 0, 1) := by decide +kernel
theorem dX11_known_1 : decode cX11_known 1 = .ok (.getfield 30, 3) := by decide +kernel
theorem dX11_known_4 : decode cX11_known 4 = .ok (.iload_n 1, 1) := by decide +kernel
theorem dX11_known_5 : decode cX11_known 5 = .ok (.invokevirtual 156, 3) := by decide +kernel
theorem dX11_known_8 : decode cX11_known 8 = .ok (.ifCond .ne 9, 3) := by decide +kernel
theorem dX11_known_11 : decode cX11_known 11 = .ok (.aload_n 0, 1) := by decide +kernel
theorem dX11_known_12 : decode cX11_known 12 = .ok (.iconst (-1), 1) := by decide +kernel
theorem dX11_known_13 : decode cX11_known 13 = .ok (.invokevirtual 36, 3) := by decide +kernel
theorem dX11_known_16 : decode cX11_known 16 = .ok (.ireturn, 1) := by decide +kernel
theorem dX11_known_17 : decode cX11_known 17 = .ok (.aload_n 0, 1) := by decide +kernel
theorem dX11_known_18 : decode cX11_known 18 = .ok (.getfield 30, 3) := by decide +kernel
theorem dX11_known_21 : decode cX11_known 21 = .ok (.aload_n 0, 1) := by decide +kernel
theorem dX11_known_22 : decode cX11_known 22 = .ok (.getfield 30, 3) := by decide +kernel
theorem dX11_known_25 : decode cX11_known 25 = .ok (.iload_n 1, 1) := by decide +kernel
theorem dX11_known_26 : decode cX11_known 26 = .ok (.invokevirtual 159, 3) := by decide +kernel
theorem dX11_known_29 : decode cX11_known 29 = .ok (.invokestatic 195, 3) := by decide +kernel
theorem dX11_known_32 : decode cX11_known 32 = .ok (.invokevirtual 198, 3) := by decide +kernel
theorem dX11_known_35 : decode cX11_known 35 = .ok (.ireturn, 1) := by decide +kernel
set_option maxRecDepth 20000 in
theorem ggX11_allKnow_X10_peopled : GoodIn wsX11_allKnow wsX10_peopled := goodIn_r _ [6, 7, 8, 9, 10, 5, 11, 12, 13, 14, 15, 16, 141, 142, 143, 144, 145, 146] (by decide +kernel) (by decide +kernel)
set_option maxRecDepth 20000 in
theorem gX11_allKnow_X10_peopled : GoodIn wsX11_allKnow (wsV RX11 201 RX10 yX10_peopled wsX10_peopled) := goodIn_app (goodIn_of _ (by decide +kernel)) ggX11_allKnow_X10_peopled
set_option maxRecDepth 20000 in
theorem ggX11_allKnow_X10_unlikeScenesShownTo : GoodIn wsX11_allKnow wsX10_unlikeScenesShownTo := goodIn_r _ [20, 21, 22, 23, 24, 5, 25, 26, 27, 28, 29, 30, 31, 32, 33, 34, 35, 36, 37, 38, 39, 40, 41, 42, 43, 44, 45, 46, 47, 9, 10, 11, 7, 12, 48, 49, 50, 51, 52, 53, 54, 55, 56, 57, 58, 59, 60, 61, 62, 15, 63, 64, 14, 16, 65, 66, 67, 68, 69, 70, 71, 72, 73, 74, 75, 76, 77, 78, 79, 80, 81, 82, 83, 84, 85, 86, 87, 88, 89, 90, 91, 92, 93, 94, 95, 96, 97, 98, 99, 100, 101, 102, 103, 104, 105, 106, 107, 108, 109, 110, 111, 112, 113, 114, 115, 116, 117, 118, 119, 120, 121, 122, 123, 124, 125, 126, 127, 128, 129, 130, 131, 132, 141, 142, 143, 144, 145, 146, 147, 148, 149, 150, 151, 152, 153, 154, 155, 156, 157, 158, 159, 160, 161, 162, 163, 164, 165, 166, 167, 168, 169, 170, 171, 172, 173, 174, 175, 176, 177, 178, 179, 180, 181] (by decide +kernel) (by decide +kernel)
set_option maxRecDepth 20000 in
theorem gX11_allKnow_X10_unlikeScenesShownTo : GoodIn wsX11_allKnow (wsV RX11 198 RX10 yX10_unlikeScenesShownTo wsX10_unlikeScenesShownTo) := goodIn_app (goodIn_of _ (by decide +kernel)) ggX11_allKnow_X10_unlikeScenesShownTo
theorem dX11_allKnow_0 : decode cX11_allKnow 0 = .ok (.aload_n 0, 1) := by decide +kernel
theorem dX11_allKnow_1 : decode cX11_allKnow 1 = .ok (.getfield 30, 3) := by decide +kernel
theorem dX11_allKnow_4 : decode cX11_allKnow 4 = .ok (.aload_n 0, 1) := by decide +kernel
theorem dX11_allKnow_5 : decode cX11_allKnow 5 = .ok (.getfield 30, 3) := by decide +kernel
theorem dX11_allKnow_8 : decode cX11_allKnow 8 = .ok (.invokevirtual 201, 3) := by decide +kernel
theorem dX11_allKnow_11 : decode cX11_allKnow 11 = .ok (.invokevirtual 198, 3) := by decide +kernel
theorem dX11_allKnow_14 : decode cX11_allKnow 14 = .ok (.ireturn, 1) := by decide +kernel
set_option maxRecDepth 20000 in
theorem ggX11_whereAt_X10_isPerson : GoodIn wsX11_whereAt wsX10_isPerson := goodIn_r _ [6, 7, 214, 215, 216, 217, 218, 219] (by decide +kernel) (by decide +kernel)
set_option maxRecDepth 20000 in
theorem gX11_whereAt_X10_isPerson : GoodIn wsX11_whereAt (wsV RX11 156 RX10 yX10_isPerson wsX10_isPerson) := goodIn_app (goodIn_of _ (by decide +kernel)) ggX11_whereAt_X10_isPerson
set_option maxRecDepth 20000 in
theorem ggX11_whereAt_X11_refuse : GoodIn wsX11_whereAt wsX11_refuse := goodIn_r _ [12, 13, 206, 207, 208, 209, 210, 211, 212, 213] (by decide +kernel) (by decide +kernel)
set_option maxRecDepth 20000 in
theorem gX11_whereAt_X11_refuse : GoodIn wsX11_whereAt (wsV RX11 36 RX11 yX11_refuse wsX11_refuse) := goodIn_app (goodIn_of _ (by decide +kernel)) ggX11_whereAt_X11_refuse
set_option maxRecDepth 20000 in
theorem ggX11_whereAt_X10_whereabouts : GoodIn wsX11_whereAt wsX10_whereabouts := goodIn_r _ [17, 18, 19, 20, 21, 22, 23, 5, 24, 25, 26, 27, 28, 29, 30, 31, 32, 33, 34, 35, 36, 37, 38, 39, 40, 41, 42, 43, 44, 45, 46, 47, 48, 49, 50, 51, 52, 53, 54, 55, 56, 57, 58, 59, 60, 61, 62, 63, 64, 65, 66, 67, 68, 69, 70, 71, 72, 73, 74, 75, 76, 77, 78, 79, 80, 81, 82, 83, 84, 85, 86, 87, 88, 89, 90, 91, 92, 93, 94, 95, 96, 97, 98, 99, 100, 101, 102, 103, 104, 105, 106, 107, 108, 109, 110, 111, 112, 113, 114, 115, 116, 117, 118, 119, 120, 121, 122, 123, 124, 125, 126, 127, 128, 129, 130, 131, 132, 133, 134, 135, 136, 137, 138, 139, 140, 141, 142, 143, 144, 145, 146, 147, 148, 149, 150, 151, 152, 153, 154, 155, 156, 157, 158, 159, 160, 161, 162, 163, 164, 165, 166, 167, 168, 169, 170, 171, 172, 173, 7, 174, 175, 176, 177, 178, 179, 180, 181, 182, 183, 184, 185, 186, 187, 188, 214, 215, 216, 217, 218, 219, 220, 221, 222, 223, 224, 225, 226, 227, 228, 229, 230, 231, 232, 233, 234, 235, 236, 237, 238, 239, 240, 241, 242, 243, 244, 245, 246, 247, 248, 249, 250, 251, 252, 253, 254] (by decide +kernel) (by decide +kernel)
set_option maxRecDepth 20000 in
theorem gX11_whereAt_X10_whereabouts : GoodIn wsX11_whereAt (wsV RX11 204 RX10 yX10_whereabouts wsX10_whereabouts) := goodIn_app (goodIn_of _ (by decide +kernel)) ggX11_whereAt_X10_whereabouts
set_option maxRecDepth 20000 in
theorem ggX11_whereAt_X2_howMany : GoodIn wsX11_whereAt wsX2_howMany := goodIn_r _ [191, 192, 193, 194, 195, 196, 197, 198, 199] (by decide +kernel) (by decide +kernel)
set_option maxRecDepth 20000 in
theorem gX11_whereAt_X2_howMany : GoodIn wsX11_whereAt (va_wsS RX11 112 yX2_howMany wsX2_howMany) := goodIn_app (goodIn_of _ (by decide +kernel)) ggX11_whereAt_X2_howMany
set_option maxRecDepth 20000 in
theorem ggX11_whereAt_X2_byNumber : GoodIn wsX11_whereAt wsX2_byNumber := goodIn_r _ [202, 203, 204, 67, 205, 69, 70, 71] (by decide +kernel) (by decide +kernel)
set_option maxRecDepth 20000 in
theorem gX11_whereAt_X2_byNumber : GoodIn wsX11_whereAt (va_wsS RX11 208 yX2_byNumber wsX2_byNumber) := goodIn_app (goodIn_of _ (by decide +kernel)) ggX11_whereAt_X2_byNumber
theorem dX11_whereAt_0 : decode cX11_whereAt 0 = .ok (.aload_n 0, 1) := by decide +kernel
theorem dX11_whereAt_1 : decode cX11_whereAt 1 = .ok (.getfield 30, 3) := by decide +kernel
theorem dX11_whereAt_4 : decode cX11_whereAt 4 = .ok (.iload_n 1, 1) := by decide +kernel
theorem dX11_whereAt_5 : decode cX11_whereAt 5 = .ok (.invokevirtual 156, 3) := by decide +kernel
theorem dX11_whereAt_8 : decode cX11_whereAt 8 = .ok (.ifCond .ne 9, 3) := by decide +kernel
theorem dX11_whereAt_11 : decode cX11_whereAt 11 = .ok (.aload_n 0, 1) := by decide +kernel
theorem dX11_whereAt_12 : decode cX11_whereAt 12 = .ok (.iconst (-1), 1) := by decide +kernel
theorem dX11_whereAt_13 : decode cX11_whereAt 13 = .ok (.invokevirtual 36, 3) := by decide +kernel
theorem dX11_whereAt_16 : decode cX11_whereAt 16 = .ok (.ireturn, 1) := by decide +kernel
theorem dX11_whereAt_17 : decode cX11_whereAt 17 = .ok (.iload_n 2, 1) := by decide +kernel
theorem dX11_whereAt_18 : decode cX11_whereAt 18 = .ok (.ifCond .lt 8, 3) := by decide +kernel
theorem dX11_whereAt_21 : decode cX11_whereAt 21 = .ok (.iload_n 3, 1) := by decide +kernel
theorem dX11_whereAt_22 : decode cX11_whereAt 22 = .ok (.iconst (-1), 1) := by decide +kernel
theorem dX11_whereAt_23 : decode cX11_whereAt 23 = .ok (.if_icmp .ge 10, 3) := by decide +kernel
theorem dX11_whereAt_26 : decode cX11_whereAt 26 = .ok (.aload_n 0, 1) := by decide +kernel
theorem dX11_whereAt_27 : decode cX11_whereAt 27 = .ok (.bipush (-4), 2) := by decide +kernel
theorem dX11_whereAt_29 : decode cX11_whereAt 29 = .ok (.invokevirtual 36, 3) := by decide +kernel
theorem dX11_whereAt_32 : decode cX11_whereAt 32 = .ok (.ireturn, 1) := by decide +kernel
theorem dX11_whereAt_33 : decode cX11_whereAt 33 = .ok (.iload_n 2, 1) := by decide +kernel
theorem dX11_whereAt_34 : decode cX11_whereAt 34 = .ok (.sipush 9999, 3) := by decide +kernel
theorem dX11_whereAt_37 : decode cX11_whereAt 37 = .ok (.if_icmp .le 10, 3) := by decide +kernel
theorem dX11_whereAt_40 : decode cX11_whereAt 40 = .ok (.aload_n 0, 1) := by decide +kernel
theorem dX11_whereAt_41 : decode cX11_whereAt 41 = .ok (.bipush (-6), 2) := by decide +kernel
theorem dX11_whereAt_43 : decode cX11_whereAt 43 = .ok (.invokevirtual 36, 3) := by decide +kernel
theorem dX11_whereAt_46 : decode cX11_whereAt 46 = .ok (.ireturn, 1) := by decide +kernel
theorem dX11_whereAt_47 : decode cX11_whereAt 47 = .ok (.aload_n 0, 1) := by decide +kernel
theorem dX11_whereAt_48 : decode cX11_whereAt 48 = .ok (.getfield 30, 3) := by decide +kernel
theorem dX11_whereAt_51 : decode cX11_whereAt 51 = .ok (.iload_n 1, 1) := by decide +kernel
theorem dX11_whereAt_52 : decode cX11_whereAt 52 = .ok (.iload_n 2, 1) := by decide +kernel
theorem dX11_whereAt_53 : decode cX11_whereAt 53 = .ok (.invokevirtual 204, 3) := by decide +kernel
theorem dX11_whereAt_56 : decode cX11_whereAt 56 = .ok (.lstore 4, 2) := by decide +kernel
theorem dX11_whereAt_58 : decode cX11_whereAt 58 = .ok (.iload_n 3, 1) := by decide +kernel
theorem dX11_whereAt_59 : decode cX11_whereAt 59 = .ok (.ifCond .ge 11, 3) := by decide +kernel
theorem dX11_whereAt_62 : decode cX11_whereAt 62 = .ok (.lload 4, 2) := by decide +kernel
theorem dX11_whereAt_64 : decode cX11_whereAt 64 = .ok (.invokestatic 112, 3) := by decide +kernel
theorem dX11_whereAt_67 : decode cX11_whereAt 67 = .ok (.goto 9, 3) := by decide +kernel
theorem dX11_whereAt_70 : decode cX11_whereAt 70 = .ok (.lload 4, 2) := by decide +kernel
theorem dX11_whereAt_72 : decode cX11_whereAt 72 = .ok (.iload_n 3, 1) := by decide +kernel
theorem dX11_whereAt_73 : decode cX11_whereAt 73 = .ok (.invokestatic 208, 3) := by decide +kernel
theorem dX11_whereAt_76 : decode cX11_whereAt 76 = .ok (.ireturn, 1) := by decide +kernel
set_option maxRecDepth 20000 in
theorem ggX11_next_X11_noPersonAt : GoodIn wsX11_next wsX11_noPersonAt := goodIn_r _ [6, 1, 7, 8, 9, 10, 11, 12, 13, 14, 5, 15, 219, 220, 221, 222, 223, 224, 225, 226, 227, 228, 229, 230, 231, 232] (by decide +kernel) (by decide +kernel)
set_option maxRecDepth 20000 in
theorem gX11_next_X11_noPersonAt : GoodIn wsX11_next (wsV RX11 176 RX11 yX11_noPersonAt wsX11_noPersonAt) := goodIn_app (goodIn_of _ (by decide +kernel)) ggX11_next_X11_noPersonAt
set_option maxRecDepth 20000 in
theorem ggX11_next_X11_refuse : GoodIn wsX11_next wsX11_refuse := goodIn_r _ [19, 20, 219, 220, 221, 222, 223, 224, 225, 226] (by decide +kernel) (by decide +kernel)
set_option maxRecDepth 20000 in
theorem gX11_next_X11_refuse : GoodIn wsX11_next (wsV RX11 36 RX11 yX11_refuse wsX11_refuse) := goodIn_app (goodIn_of _ (by decide +kernel)) ggX11_next_X11_refuse
set_option maxRecDepth 20000 in
theorem ggX11_next_X10_whereabouts : GoodIn wsX11_next wsX10_whereabouts := goodIn_r _ [24, 25, 26, 27, 28, 29, 30, 10, 31, 32, 33, 34, 35, 36, 37, 38, 39, 40, 41, 42, 43, 44, 45, 46, 47, 48, 49, 50, 51, 52, 53, 54, 55, 56, 57, 58, 59, 60, 61, 62, 63, 64, 65, 66, 67, 68, 69, 70, 71, 72, 73, 74, 75, 76, 77, 78, 79, 80, 81, 82, 83, 84, 85, 86, 87, 88, 89, 90, 91, 92, 93, 94, 95, 96, 97, 98, 99, 100, 101, 102, 103, 104, 105, 106, 107, 108, 109, 110, 111, 112, 113, 114, 115, 116, 117, 118, 119, 120, 121, 122, 123, 124, 125, 126, 127, 128, 129, 130, 131, 132, 133, 134, 135, 136, 137, 138, 139, 140, 141, 142, 143, 144, 145, 146, 147, 148, 149, 150, 151, 152, 153, 154, 155, 156, 157, 158, 159, 160, 161, 162, 163, 164, 165, 166, 167, 168, 169, 170, 171, 172, 173, 174, 175, 176, 177, 178, 179, 180, 12, 181, 182, 183, 184, 185, 186, 187, 188, 189, 190, 191, 192, 193, 194, 195, 227, 228, 229, 230, 231, 232, 233, 234, 235, 236, 237, 238, 239, 240, 241, 242, 243, 244, 245, 246, 247, 248, 249, 250, 251, 252, 253, 254, 255, 256, 257, 258, 259, 260, 261, 262, 263, 264, 265, 266, 267] (by decide +kernel) (by decide +kernel)
set_option maxRecDepth 20000 in
theorem gX11_next_X10_whereabouts : GoodIn wsX11_next (wsV RX11 204 RX10 yX10_whereabouts wsX10_whereabouts) := goodIn_app (goodIn_of _ (by decide +kernel)) ggX11_next_X10_whereabouts
set_option maxRecDepth 20000 in
theorem ggX11_next_X11_evenestLamp : GoodIn wsX11_next wsX11_evenestLamp := goodIn_r _ [199, 1, 200, 201, 202, 203, 47, 204, 205, 34, 35, 10, 36, 25, 37, 206, 160, 161, 162, 42, 163, 164, 165, 166, 167, 168, 169, 170, 171, 172, 173, 107, 174, 175, 176, 177, 178, 179, 180, 12, 181, 182, 183, 184, 185, 186, 187, 188, 29, 30, 31, 27, 32, 26, 72, 73, 74, 75, 76, 77, 78, 79, 80, 81, 82, 83, 189, 190, 191, 207, 193, 194, 195, 208, 209, 210, 211, 212, 213, 214, 215, 216, 217, 218, 219, 220, 221, 222, 223, 224, 225, 226, 227, 228, 229, 230, 231, 232, 233, 234, 235, 236, 237, 238, 239, 240, 241, 242, 243, 244, 245, 246, 247, 248, 249, 250, 251, 252, 253, 254, 255, 256, 257, 258, 259, 260, 261, 262, 263, 264, 265, 266, 267] (by decide +kernel) (by decide +kernel)
set_option maxRecDepth 20000 in
theorem gX11_next_X11_evenestLamp : GoodIn wsX11_next (wsV RX11 212 RX11 yX11_evenestLamp wsX11_evenestLamp) := goodIn_app (goodIn_of _ (by decide +kernel)) ggX11_next_X11_evenestLamp
theorem dX11_next_0 : decode cX11_next 0 = .ok (.aload_n 0, 1) := by decide +kernel
theorem dX11_next_1 : decode cX11_next 1 = .ok (.iload_n 1, 1) := by decide +kernel
theorem dX11_next_2 : decode cX11_next 2 = .ok (.iload_n 2, 1) := by decide +kernel
theorem dX11_next_3 : decode cX11_next 3 = .ok (.invokevirtual 176, 3) := by decide +kernel
theorem dX11_next_6 : decode cX11_next 6 = .ok (.istore_n 3, 1) := by decide +kernel
theorem dX11_next_7 : decode cX11_next 7 = .ok (.iload_n 3, 1) := by decide +kernel
theorem dX11_next_8 : decode cX11_next 8 = .ok (.ifCond .ge 9, 3) := by decide +kernel
theorem dX11_next_11 : decode cX11_next 11 = .ok (.aload_n 0, 1) := by decide +kernel
theorem dX11_next_12 : decode cX11_next 12 = .ok (.iload_n 3, 1) := by decide +kernel
theorem dX11_next_13 : decode cX11_next 13 = .ok (.invokevirtual 36, 3) := by decide +kernel
theorem dX11_next_16 : decode cX11_next 16 = .ok (.ireturn, 1) := by decide +kernel
theorem dX11_next_17 : decode cX11_next 17 = .ok (.aload_n 0, 1) := by decide +kernel
theorem dX11_next_18 : decode cX11_next 18 = .ok (.aload_n 0, 1) := by decide +kernel
theorem dX11_next_19 : decode cX11_next 19 = .ok (.getfield 30, 3) := by decide +kernel
theorem dX11_next_22 : decode cX11_next 22 = .ok (.iload_n 1, 1) := by decide +kernel
theorem dX11_next_23 : decode cX11_next 23 = .ok (.iload_n 2, 1) := by decide +kernel
theorem dX11_next_24 : decode cX11_next 24 = .ok (.invokevirtual 204, 3) := by decide +kernel
theorem dX11_next_27 : decode cX11_next 27 = .ok (.invokevirtual 212, 3) := by decide +kernel
theorem dX11_next_30 : decode cX11_next 30 = .ok (.ireturn, 1) := by decide +kernel
set_option maxRecDepth 20000 in
theorem ggX11_evenestLamp_X10_lampAt : GoodIn wsX11_evenestLamp wsX10_lampAt := goodIn_r _ [12, 13, 14, 92, 93, 94, 95, 96, 97] (by decide +kernel) (by decide +kernel)
set_option maxRecDepth 20000 in
theorem gX11_evenestLamp_X10_lampAt : GoodIn wsX11_evenestLamp (wsV RX11 71 RX10 yX10_lampAt wsX10_lampAt) := goodIn_app (goodIn_of _ (by decide +kernel)) ggX11_evenestLamp_X10_lampAt
set_option maxRecDepth 20000 in
theorem ggX11_evenestLamp_X5_glow : GoodIn wsX11_evenestLamp wsX5_glow := goodIn_r _ [20, 21, 22, 23, 24, 25, 19, 26, 27, 28, 29, 30, 31, 32, 33, 34, 35, 36, 37, 11, 38, 39, 40, 41, 42, 43, 44, 45, 46, 47, 48, 49, 50, 51, 52, 53, 54, 55, 56, 57, 58, 59, 60, 61, 62, 63, 64, 65, 98, 99, 100, 101, 102, 103, 104, 105, 106, 107, 108, 109, 110, 111, 112, 113, 114, 115, 116, 117, 118, 119, 120, 121, 122, 123, 124, 125, 126, 127, 128, 129, 130, 131, 132, 92, 93, 94, 95, 96, 97] (by decide +kernel) (by decide +kernel)
set_option maxRecDepth 20000 in
theorem gX11_evenestLamp_X5_glow_u108X0 : GoodIn wsX11_evenestLamp (va_wsU RX11 108 RX0 "LampsThatRemember$Lamp" ⟨"LampsThatRemember$Lamp", "glow", "(LLampsThatRemember$Town;)J"⟩ yX5_glow wsX5_glow) := goodIn_app (goodIn_of _ (by decide +kernel)) ggX11_evenestLamp_X5_glow
set_option maxRecDepth 20000 in
theorem gX11_evenestLamp_X5_glow_u108X1 : GoodIn wsX11_evenestLamp (va_wsU RX11 108 RX1 "LampsThatRemember$Lamp" ⟨"LampsThatRemember$Lamp", "glow", "(LLampsThatRemember$Town;)J"⟩ yX5_glow wsX5_glow) := goodIn_app (goodIn_of _ (by decide +kernel)) ggX11_evenestLamp_X5_glow
