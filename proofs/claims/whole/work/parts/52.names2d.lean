theorem dX10_lampAt_0 : decode cX10_lampAt 0 = .ok (.iload_n 1, 1) := by decide +kernel
theorem dX10_lampAt_1 : decode cX10_lampAt 1 = .ok (.ifCond .lt 29, 3) := by decide +kernel
theorem dX10_lampAt_4 : decode cX10_lampAt 4 = .ok (.iload_n 1, 1) := by decide +kernel
theorem dX10_lampAt_5 : decode cX10_lampAt 5 = .ok (.aload_n 0, 1) := by decide +kernel
theorem dX10_lampAt_6 : decode cX10_lampAt 6 = .ok (.getfield 37, 3) := by decide +kernel
theorem dX10_lampAt_9 : decode cX10_lampAt 9 = .ok (.if_icmp .ge 21, 3) := by decide +kernel
theorem dX10_lampAt_12 : decode cX10_lampAt 12 = .ok (.iload_n 1, 1) := by decide +kernel
theorem dX10_lampAt_13 : decode cX10_lampAt 13 = .ok (.aload_n 0, 1) := by decide +kernel
theorem dX10_lampAt_14 : decode cX10_lampAt 14 = .ok (.getfield 11, 3) := by decide +kernel
theorem dX10_lampAt_17 : decode cX10_lampAt 17 = .ok (.arraylength, 1) := by decide +kernel
theorem dX10_lampAt_18 : decode cX10_lampAt 18 = .ok (.if_icmp .ge 12, 3) := by decide +kernel
theorem dX10_lampAt_21 : decode cX10_lampAt 21 = .ok (.aload_n 0, 1) := by decide +kernel
theorem dX10_lampAt_22 : decode cX10_lampAt 22 = .ok (.getfield 11, 3) := by decide +kernel
theorem dX10_lampAt_25 : decode cX10_lampAt 25 = .ok (.iload_n 1, 1) := by decide +kernel
theorem dX10_lampAt_26 : decode cX10_lampAt 26 = .ok (.aaload, 1) := by decide +kernel
theorem dX10_lampAt_27 : decode cX10_lampAt 27 = .ok (.goto 4, 3) := by decide +kernel
theorem dX10_lampAt_30 : decode cX10_lampAt 30 = .ok (.aconst_null, 1) := by decide +kernel
theorem dX10_lampAt_31 : decode cX10_lampAt 31 = .ok (.areturn, 1) := by decide +kernel
theorem dX10_isPerson_0 : decode cX10_isPerson 0 = .ok (.iload_n 1, 1) := by decide +kernel
theorem dX10_isPerson_1 : decode cX10_isPerson 1 = .ok (.ifCond .lt 15, 3) := by decide +kernel
theorem dX10_isPerson_4 : decode cX10_isPerson 4 = .ok (.iload_n 1, 1) := by decide +kernel
theorem dX10_isPerson_5 : decode cX10_isPerson 5 = .ok (.aload_n 0, 1) := by decide +kernel
theorem dX10_isPerson_6 : decode cX10_isPerson 6 = .ok (.getfield 41, 3) := by decide +kernel
theorem dX10_isPerson_9 : decode cX10_isPerson 9 = .ok (.if_icmp .ge 7, 3) := by decide +kernel
theorem dX10_isPerson_12 : decode cX10_isPerson 12 = .ok (.iconst 1, 1) := by decide +kernel
theorem dX10_isPerson_13 : decode cX10_isPerson 13 = .ok (.goto 4, 3) := by decide +kernel
theorem dX10_isPerson_16 : decode cX10_isPerson 16 = .ok (.iconst 0, 1) := by decide +kernel
theorem dX10_isPerson_17 : decode cX10_isPerson 17 = .ok (.ireturn, 1) := by decide +kernel
theorem dX10_cellOf_0 : decode cX10_cellOf 0 = .ok (.iload_n 1, 1) := by decide +kernel
theorem dX10_cellOf_1 : decode cX10_cellOf 1 = .ok (.ifCond .lt 24, 3) := by decide +kernel
theorem dX10_cellOf_4 : decode cX10_cellOf 4 = .ok (.iload_n 1, 1) := by decide +kernel
theorem dX10_cellOf_5 : decode cX10_cellOf 5 = .ok (.aload_n 0, 1) := by decide +kernel
theorem dX10_cellOf_6 : decode cX10_cellOf 6 = .ok (.getfield 41, 3) := by decide +kernel
theorem dX10_cellOf_9 : decode cX10_cellOf 9 = .ok (.if_icmp .ge 16, 3) := by decide +kernel
theorem dX10_cellOf_12 : decode cX10_cellOf 12 = .ok (.iload_n 1, 1) := by decide +kernel
theorem dX10_cellOf_13 : decode cX10_cellOf 13 = .ok (.aload_n 0, 1) := by decide +kernel
theorem dX10_cellOf_14 : decode cX10_cellOf 14 = .ok (.getfield 17, 3) := by decide +kernel
theorem dX10_cellOf_17 : decode cX10_cellOf 17 = .ok (.arraylength, 1) := by decide +kernel
theorem dX10_cellOf_18 : decode cX10_cellOf 18 = .ok (.if_icmp .ge 7, 3) := by decide +kernel
theorem dX10_cellOf_21 : decode cX10_cellOf 21 = .ok (.iconst 1, 1) := by decide +kernel
theorem dX10_cellOf_22 : decode cX10_cellOf 22 = .ok (.goto 4, 3) := by decide +kernel
theorem dX10_cellOf_25 : decode cX10_cellOf 25 = .ok (.iconst 0, 1) := by decide +kernel
theorem dX10_cellOf_26 : decode cX10_cellOf 26 = .ok (.istore_n 2, 1) := by decide +kernel
theorem dX10_cellOf_27 : decode cX10_cellOf 27 = .ok (.iload_n 2, 1) := by decide +kernel
theorem dX10_cellOf_28 : decode cX10_cellOf 28 = .ok (.ifCond .eq 12, 3) := by decide +kernel
theorem dX10_cellOf_31 : decode cX10_cellOf 31 = .ok (.aload_n 0, 1) := by decide +kernel
theorem dX10_cellOf_32 : decode cX10_cellOf 32 = .ok (.getfield 17, 3) := by decide +kernel
theorem dX10_cellOf_35 : decode cX10_cellOf 35 = .ok (.iload_n 1, 1) := by decide +kernel
theorem dX10_cellOf_36 : decode cX10_cellOf 36 = .ok (.iaload, 1) := by decide +kernel
theorem dX10_cellOf_37 : decode cX10_cellOf 37 = .ok (.goto 5, 3) := by decide +kernel
theorem dX10_cellOf_40 : decode cX10_cellOf 40 = .ok (.bipush (-9), 2) := by decide +kernel
theorem dX10_cellOf_42 : decode cX10_cellOf 42 = .ok (.ireturn, 1) := by decide +kernel
theorem dX10_free_0 : decode cX10_free 0 = .ok (.ldc2_w 49, 3) := by decide +kernel
theorem dX10_free_3 : decode cX10_free 3 = .ok (.aload_n 0, 1) := by decide +kernel
theorem dX10_free_4 : decode cX10_free 4 = .ok (.getfield 33, 3) := by decide +kernel
theorem dX10_free_7 : decode cX10_free 7 = .ok (.ldc2_w 51, 3) := by decide +kernel
theorem dX10_free_10 : decode cX10_free 10 = .ok (.lxor, 1) := by decide +kernel
theorem dX10_free_11 : decode cX10_free 11 = .ok (.land, 1) := by decide +kernel
theorem dX10_free_12 : decode cX10_free 12 = .ok (.lreturn, 1) := by decide +kernel
set_option maxRecDepth 20000 in
theorem ggX10_peopled_X10_cellOf : GoodIn wsX10_peopled wsX10_cellOf := goodIn_r _ [6, 1, 7, 12, 13, 14, 15, 16, 17] (by decide +kernel) (by decide +kernel)
set_option maxRecDepth 20000 in
theorem gX10_peopled_X10_cellOf : GoodIn wsX10_peopled (wsV RX10 29 RX10 yX10_cellOf wsX10_cellOf) := goodIn_app (goodIn_of _ (by decide +kernel)) ggX10_peopled_X10_cellOf
set_option maxRecDepth 20000 in
theorem ggX10_peopled_X2_only : GoodIn wsX10_peopled wsX2_only := goodIn_r _ [11] (by decide +kernel) (by decide +kernel)
set_option maxRecDepth 20000 in
theorem gX10_peopled_X2_only : GoodIn wsX10_peopled (va_wsS RX10 53 yX2_only wsX2_only) := goodIn_app (goodIn_of _ (by decide +kernel)) ggX10_peopled_X2_only
theorem dX10_peopled_0 : decode cX10_peopled 0 = .ok (.lconst 0, 1) := by decide +kernel
theorem dX10_peopled_1 : decode cX10_peopled 1 = .ok (.lstore_n 1, 1) := by decide +kernel
theorem dX10_peopled_2 : decode cX10_peopled 2 = .ok (.iconst 0, 1) := by decide +kernel
theorem dX10_peopled_3 : decode cX10_peopled 3 = .ok (.istore_n 3, 1) := by decide +kernel
theorem dX10_peopled_4 : decode cX10_peopled 4 = .ok (.iload_n 3, 1) := by decide +kernel
theorem dX10_peopled_5 : decode cX10_peopled 5 = .ok (.aload_n 0, 1) := by decide +kernel
theorem dX10_peopled_6 : decode cX10_peopled 6 = .ok (.getfield 41, 3) := by decide +kernel
theorem dX10_peopled_9 : decode cX10_peopled 9 = .ok (.if_icmp .ge 20, 3) := by decide +kernel
theorem dX10_peopled_12 : decode cX10_peopled 12 = .ok (.lload_n 1, 1) := by decide +kernel
theorem dX10_peopled_13 : decode cX10_peopled 13 = .ok (.aload_n 0, 1) := by decide +kernel
theorem dX10_peopled_14 : decode cX10_peopled 14 = .ok (.iload_n 3, 1) := by decide +kernel
theorem dX10_peopled_15 : decode cX10_peopled 15 = .ok (.invokevirtual 29, 3) := by decide +kernel
theorem dX10_peopled_18 : decode cX10_peopled 18 = .ok (.invokestatic 53, 3) := by decide +kernel
theorem dX10_peopled_21 : decode cX10_peopled 21 = .ok (.lor, 1) := by decide +kernel
theorem dX10_peopled_22 : decode cX10_peopled 22 = .ok (.lstore_n 1, 1) := by decide +kernel
theorem dX10_peopled_23 : decode cX10_peopled 23 = .ok (.iinc 3 1, 3) := by decide +kernel
theorem dX10_peopled_26 : decode cX10_peopled 26 = .ok (.goto (-22), 3) := by decide +kernel
theorem dX10_peopled_29 : decode cX10_peopled 29 = .ok (.lload_n 1, 1) := by decide +kernel
theorem dX10_peopled_30 : decode cX10_peopled 30 = .ok (.lreturn, 1) := by decide +kernel
set_option maxRecDepth 20000 in
theorem ggX10_addLamp_X2_isOne : GoodIn wsX10_addLamp wsX2_isOne := goodIn_r _ [8] (by decide +kernel) (by decide +kernel)
set_option maxRecDepth 20000 in
theorem gX10_addLamp_X2_isOne : GoodIn wsX10_addLamp (va_wsS RX10 57 yX2_isOne wsX2_isOne) := goodIn_app (goodIn_of _ (by decide +kernel)) ggX10_addLamp_X2_isOne
set_option maxRecDepth 20000 in
theorem ggX10_addLamp_X5_ofKind : GoodIn wsX10_addLamp wsX5_ofKind := goodIn_r _ [12, 13, 14, 15, 16, 17, 18, 19, 20, 21, 22, 23, 24, 25, 26, 27, 28, 29, 30, 31, 32, 11, 33, 34, 35, 36, 37, 38, 39, 40, 41, 42, 43, 44, 45, 46, 47, 48, 49, 50, 51, 52, 53, 70, 71, 72, 73, 74, 85, 86, 87, 88, 89, 65, 66, 67, 68, 69, 60, 61, 62, 63, 64, 90, 91, 92, 93, 94, 75, 76, 77, 78, 79, 80, 81, 82, 83, 84] (by decide +kernel) (by decide +kernel)
set_option maxRecDepth 20000 in
theorem gX10_addLamp_X5_ofKind : GoodIn wsX10_addLamp (va_wsS RX10 61 yX5_ofKind wsX5_ofKind) := goodIn_app (goodIn_of _ (by decide +kernel)) ggX10_addLamp_X5_ofKind
theorem dX10_addLamp_0 : decode cX10_addLamp 0 = .ok (.iload_n 2, 1) := by decide +kernel
theorem dX10_addLamp_1 : decode cX10_addLamp 1 = .ok (.invokestatic 57, 3) := by decide +kernel
theorem dX10_addLamp_4 : decode cX10_addLamp 4 = .ok (.ifCond .eq 12, 3) := by decide +kernel
theorem dX10_addLamp_7 : decode cX10_addLamp 7 = .ok (.iload_n 3, 1) := by decide +kernel
theorem dX10_addLamp_8 : decode cX10_addLamp 8 = .ok (.ifCond .lt 8, 3) := by decide +kernel
theorem dX10_addLamp_11 : decode cX10_addLamp 11 = .ok (.iload_n 3, 1) := by decide +kernel
theorem dX10_addLamp_12 : decode cX10_addLamp 12 = .ok (.iconst 5, 1) := by decide +kernel
theorem dX10_addLamp_13 : decode cX10_addLamp 13 = .ok (.if_icmp .le 5, 3) := by decide +kernel
theorem dX10_addLamp_16 : decode cX10_addLamp 16 = .ok (.iconst (-1), 1) := by decide +kernel
theorem dX10_addLamp_17 : decode cX10_addLamp 17 = .ok (.ireturn, 1) := by decide +kernel
theorem dX10_addLamp_18 : decode cX10_addLamp 18 = .ok (.aload_n 0, 1) := by decide +kernel
theorem dX10_addLamp_19 : decode cX10_addLamp 19 = .ok (.getfield 37, 3) := by decide +kernel
theorem dX10_addLamp_22 : decode cX10_addLamp 22 = .ok (.ifCond .lt 15, 3) := by decide +kernel
theorem dX10_addLamp_25 : decode cX10_addLamp 25 = .ok (.aload_n 0, 1) := by decide +kernel
theorem dX10_addLamp_26 : decode cX10_addLamp 26 = .ok (.getfield 37, 3) := by decide +kernel
theorem dX10_addLamp_29 : decode cX10_addLamp 29 = .ok (.aload_n 0, 1) := by decide +kernel
theorem dX10_addLamp_30 : decode cX10_addLamp 30 = .ok (.getfield 11, 3) := by decide +kernel
theorem dX10_addLamp_33 : decode cX10_addLamp 33 = .ok (.arraylength, 1) := by decide +kernel
theorem dX10_addLamp_34 : decode cX10_addLamp 34 = .ok (.if_icmp .lt 6, 3) := by decide +kernel
theorem dX10_addLamp_37 : decode cX10_addLamp 37 = .ok (.bipush (-6), 2) := by decide +kernel
theorem dX10_addLamp_39 : decode cX10_addLamp 39 = .ok (.ireturn, 1) := by decide +kernel
theorem dX10_addLamp_40 : decode cX10_addLamp 40 = .ok (.iload_n 1, 1) := by decide +kernel
theorem dX10_addLamp_41 : decode cX10_addLamp 41 = .ok (.invokestatic 61, 3) := by decide +kernel
theorem dX10_addLamp_44 : decode cX10_addLamp 44 = .ok (.astore 4, 2) := by decide +kernel
theorem dX10_addLamp_46 : decode cX10_addLamp 46 = .ok (.aload 4, 2) := by decide +kernel
theorem dX10_addLamp_48 : decode cX10_addLamp 48 = .ok (.iload_n 2, 1) := by decide +kernel
theorem dX10_addLamp_49 : decode cX10_addLamp 49 = .ok (.putfield 64, 3) := by decide +kernel
theorem dX10_addLamp_52 : decode cX10_addLamp 52 = .ok (.aload 4, 2) := by decide +kernel
theorem dX10_addLamp_54 : decode cX10_addLamp 54 = .ok (.iload_n 3, 1) := by decide +kernel
theorem dX10_addLamp_55 : decode cX10_addLamp 55 = .ok (.putfield 67, 3) := by decide +kernel
theorem dX10_addLamp_58 : decode cX10_addLamp 58 = .ok (.aload_n 0, 1) := by decide +kernel
theorem dX10_addLamp_59 : decode cX10_addLamp 59 = .ok (.getfield 11, 3) := by decide +kernel
theorem dX10_addLamp_62 : decode cX10_addLamp 62 = .ok (.aload_n 0, 1) := by decide +kernel
theorem dX10_addLamp_63 : decode cX10_addLamp 63 = .ok (.getfield 37, 3) := by decide +kernel
theorem dX10_addLamp_66 : decode cX10_addLamp 66 = .ok (.aload 4, 2) := by decide +kernel
theorem dX10_addLamp_68 : decode cX10_addLamp 68 = .ok (.aastore, 1) := by decide +kernel
theorem dX10_addLamp_69 : decode cX10_addLamp 69 = .ok (.aload_n 0, 1) := by decide +kernel
theorem dX10_addLamp_70 : decode cX10_addLamp 70 = .ok (.dup, 1) := by decide +kernel
theorem dX10_addLamp_71 : decode cX10_addLamp 71 = .ok (.getfield 37, 3) := by decide +kernel
theorem dX10_addLamp_74 : decode cX10_addLamp 74 = .ok (.iconst 1, 1) := by decide +kernel
theorem dX10_addLamp_75 : decode cX10_addLamp 75 = .ok (.iadd, 1) := by decide +kernel
theorem dX10_addLamp_76 : decode cX10_addLamp 76 = .ok (.putfield 37, 3) := by decide +kernel
theorem dX10_addLamp_79 : decode cX10_addLamp 79 = .ok (.aload_n 0, 1) := by decide +kernel
theorem dX10_addLamp_80 : decode cX10_addLamp 80 = .ok (.getfield 37, 3) := by decide +kernel
theorem dX10_addLamp_83 : decode cX10_addLamp 83 = .ok (.iconst 1, 1) := by decide +kernel
theorem dX10_addLamp_84 : decode cX10_addLamp 84 = .ok (.isub, 1) := by decide +kernel
theorem dX10_addLamp_85 : decode cX10_addLamp 85 = .ok (.ireturn, 1) := by decide +kernel
set_option maxRecDepth 20000 in
theorem ggX10_turnWall_X2_isOne : GoodIn wsX10_turnWall wsX2_isOne := goodIn_r _ [5] (by decide +kernel) (by decide +kernel)
set_option maxRecDepth 20000 in
theorem gX10_turnWall_X2_isOne : GoodIn wsX10_turnWall (va_wsS RX10 57 yX2_isOne wsX2_isOne) := goodIn_app (goodIn_of _ (by decide +kernel)) ggX10_turnWall_X2_isOne
set_option maxRecDepth 20000 in
theorem ggX10_turnWall_X10_peopled : GoodIn wsX10_turnWall wsX10_peopled := goodIn_r _ [10, 11, 12, 13, 14, 9, 15, 16, 17, 18, 4, 19, 38, 39, 40, 41, 42, 43] (by decide +kernel) (by decide +kernel)
set_option maxRecDepth 20000 in
theorem gX10_turnWall_X10_peopled : GoodIn wsX10_turnWall (wsV RX10 70 RX10 yX10_peopled wsX10_peopled) := goodIn_app (goodIn_of _ (by decide +kernel)) ggX10_turnWall_X10_peopled
set_option maxRecDepth 20000 in
theorem ggX10_turnWall_X2_has : GoodIn wsX10_turnWall wsX2_has := goodIn_r _ [22, 23, 18, 4, 19] (by decide +kernel) (by decide +kernel)
set_option maxRecDepth 20000 in
theorem gX10_turnWall_X2_has : GoodIn wsX10_turnWall (va_wsS RX10 74 yX2_has wsX2_has) := goodIn_app (goodIn_of _ (by decide +kernel)) ggX10_turnWall_X2_has
set_option maxRecDepth 20000 in
theorem ggX10_turnWall_X2_howMany : GoodIn wsX10_turnWall wsX2_howMany := goodIn_r _ [26, 27, 28, 29, 30, 31, 32, 33, 34] (by decide +kernel) (by decide +kernel)
set_option maxRecDepth 20000 in
theorem gX10_turnWall_X2_howMany : GoodIn wsX10_turnWall (va_wsS RX10 78 yX2_howMany wsX2_howMany) := goodIn_app (goodIn_of _ (by decide +kernel)) ggX10_turnWall_X2_howMany
set_option maxRecDepth 20000 in
theorem ggX10_turnWall_X2_only : GoodIn wsX10_turnWall wsX2_only := goodIn_r _ [19] (by decide +kernel) (by decide +kernel)
set_option maxRecDepth 20000 in
theorem gX10_turnWall_X2_only : GoodIn wsX10_turnWall (va_wsS RX10 53 yX2_only wsX2_only) := goodIn_app (goodIn_of _ (by decide +kernel)) ggX10_turnWall_X2_only
set_option maxRecDepth 20000 in
theorem ggX10_turnWall_X11_yes : GoodIn wsX10_turnWall wsX11_yes := goodIn_r _ [37] (by decide +kernel) (by decide +kernel)
set_option maxRecDepth 20000 in
theorem gX10_turnWall_X11_yes_n82 : GoodIn wsX10_turnWall (wsX11_yes) := ggX10_turnWall_X11_yes
theorem dX10_turnWall_0 : decode cX10_turnWall 0 = .ok (.iload_n 1, 1) := by decide +kernel
theorem dX10_turnWall_1 : decode cX10_turnWall 1 = .ok (.invokestatic 57, 3) := by decide +kernel
theorem dX10_turnWall_4 : decode cX10_turnWall 4 = .ok (.ifCond .ne 5, 3) := by decide +kernel
theorem dX10_turnWall_7 : decode cX10_turnWall 7 = .ok (.iconst (-1), 1) := by decide +kernel
theorem dX10_turnWall_8 : decode cX10_turnWall 8 = .ok (.ireturn, 1) := by decide +kernel
theorem dX10_turnWall_9 : decode cX10_turnWall 9 = .ok (.aload_n 0, 1) := by decide +kernel
theorem dX10_turnWall_10 : decode cX10_turnWall 10 = .ok (.invokevirtual 70, 3) := by decide +kernel
theorem dX10_turnWall_13 : decode cX10_turnWall 13 = .ok (.iload_n 1, 1) := by decide +kernel
theorem dX10_turnWall_14 : decode cX10_turnWall 14 = .ok (.invokestatic 74, 3) := by decide +kernel
theorem dX10_turnWall_17 : decode cX10_turnWall 17 = .ok (.ifCond .eq 6, 3) := by decide +kernel
theorem dX10_turnWall_20 : decode cX10_turnWall 20 = .ok (.bipush (-3), 2) := by decide +kernel
theorem dX10_turnWall_22 : decode cX10_turnWall 22 = .ok (.ireturn, 1) := by decide +kernel
theorem dX10_turnWall_23 : decode cX10_turnWall 23 = .ok (.aload_n 0, 1) := by decide +kernel
theorem dX10_turnWall_24 : decode cX10_turnWall 24 = .ok (.getfield 33, 3) := by decide +kernel
theorem dX10_turnWall_27 : decode cX10_turnWall 27 = .ok (.iload_n 1, 1) := by decide +kernel
theorem dX10_turnWall_28 : decode cX10_turnWall 28 = .ok (.invokestatic 74, 3) := by decide +kernel
theorem dX10_turnWall_31 : decode cX10_turnWall 31 = .ok (.istore_n 2, 1) := by decide +kernel
theorem dX10_turnWall_32 : decode cX10_turnWall 32 = .ok (.iload_n 2, 1) := by decide +kernel
theorem dX10_turnWall_33 : decode cX10_turnWall 33 = .ok (.ifCond .ne 18, 3) := by decide +kernel
theorem dX10_turnWall_36 : decode cX10_turnWall 36 = .ok (.aload_n 0, 1) := by decide +kernel
theorem dX10_turnWall_37 : decode cX10_turnWall 37 = .ok (.getfield 33, 3) := by decide +kernel
theorem dX10_turnWall_40 : decode cX10_turnWall 40 = .ok (.invokestatic 78, 3) := by decide +kernel
theorem dX10_turnWall_43 : decode cX10_turnWall 43 = .ok (.bipush 18, 2) := by decide +kernel
theorem dX10_turnWall_45 : decode cX10_turnWall 45 = .ok (.if_icmp .lt 6, 3) := by decide +kernel
theorem dX10_turnWall_48 : decode cX10_turnWall 48 = .ok (.bipush (-6), 2) := by decide +kernel
theorem dX10_turnWall_50 : decode cX10_turnWall 50 = .ok (.ireturn, 1) := by decide +kernel
theorem dX10_turnWall_51 : decode cX10_turnWall 51 = .ok (.aload_n 0, 1) := by decide +kernel
theorem dX10_turnWall_52 : decode cX10_turnWall 52 = .ok (.dup, 1) := by decide +kernel
theorem dX10_turnWall_53 : decode cX10_turnWall 53 = .ok (.getfield 33, 3) := by decide +kernel
theorem dX10_turnWall_56 : decode cX10_turnWall 56 = .ok (.iload_n 1, 1) := by decide +kernel
theorem dX10_turnWall_57 : decode cX10_turnWall 57 = .ok (.invokestatic 53, 3) := by decide +kernel
theorem dX10_turnWall_60 : decode cX10_turnWall 60 = .ok (.lxor, 1) := by decide +kernel
theorem dX10_turnWall_61 : decode cX10_turnWall 61 = .ok (.putfield 33, 3) := by decide +kernel
theorem dX10_turnWall_64 : decode cX10_turnWall 64 = .ok (.iload_n 2, 1) := by decide +kernel
theorem dX10_turnWall_65 : decode cX10_turnWall 65 = .ok (.ifCond .ne 7, 3) := by decide +kernel
theorem dX10_turnWall_68 : decode cX10_turnWall 68 = .ok (.iconst 1, 1) := by decide +kernel
theorem dX10_turnWall_69 : decode cX10_turnWall 69 = .ok (.goto 4, 3) := by decide +kernel
theorem dX10_turnWall_72 : decode cX10_turnWall 72 = .ok (.iconst 0, 1) := by decide +kernel
theorem dX10_turnWall_73 : decode cX10_turnWall 73 = .ok (.invokestatic 82, 3) := by decide +kernel
theorem dX10_turnWall_76 : decode cX10_turnWall 76 = .ok (.ireturn, 1) := by decide +kernel
set_option maxRecDepth 20000 in
theorem ggX10_addPerson_X2_isOne : GoodIn wsX10_addPerson wsX2_isOne := goodIn_r _ [7] (by decide +kernel) (by decide +kernel)
set_option maxRecDepth 20000 in
theorem gX10_addPerson_X2_isOne : GoodIn wsX10_addPerson (va_wsS RX10 57 yX2_isOne wsX2_isOne) := goodIn_app (goodIn_of _ (by decide +kernel)) ggX10_addPerson_X2_isOne
set_option maxRecDepth 20000 in
theorem ggX10_addPerson_X2_has : GoodIn wsX10_addPerson wsX2_has := goodIn_r _ [10, 11, 12, 6, 13] (by decide +kernel) (by decide +kernel)
set_option maxRecDepth 20000 in
theorem gX10_addPerson_X2_has : GoodIn wsX10_addPerson (va_wsS RX10 74 yX2_has wsX2_has) := goodIn_app (goodIn_of _ (by decide +kernel)) ggX10_addPerson_X2_has
theorem dX10_addPerson_0 : decode cX10_addPerson 0 = .ok (.iload_n 1, 1) := by decide +kernel
theorem dX10_addPerson_1 : decode cX10_addPerson 1 = .ok (.invokestatic 57, 3) := by decide +kernel
theorem dX10_addPerson_4 : decode cX10_addPerson 4 = .ok (.ifCond .ne 5, 3) := by decide +kernel
theorem dX10_addPerson_7 : decode cX10_addPerson 7 = .ok (.iconst (-1), 1) := by decide +kernel
theorem dX10_addPerson_8 : decode cX10_addPerson 8 = .ok (.ireturn, 1) := by decide +kernel
theorem dX10_addPerson_9 : decode cX10_addPerson 9 = .ok (.aload_n 0, 1) := by decide +kernel
theorem dX10_addPerson_10 : decode cX10_addPerson 10 = .ok (.getfield 33, 3) := by decide +kernel
theorem dX10_addPerson_13 : decode cX10_addPerson 13 = .ok (.iload_n 1, 1) := by decide +kernel
theorem dX10_addPerson_14 : decode cX10_addPerson 14 = .ok (.invokestatic 74, 3) := by decide +kernel
theorem dX10_addPerson_17 : decode cX10_addPerson 17 = .ok (.ifCond .eq 6, 3) := by decide +kernel
theorem dX10_addPerson_20 : decode cX10_addPerson 20 = .ok (.bipush (-3), 2) := by decide +kernel
theorem dX10_addPerson_22 : decode cX10_addPerson 22 = .ok (.ireturn, 1) := by decide +kernel
theorem dX10_addPerson_23 : decode cX10_addPerson 23 = .ok (.aload_n 0, 1) := by decide +kernel
theorem dX10_addPerson_24 : decode cX10_addPerson 24 = .ok (.getfield 41, 3) := by decide +kernel
theorem dX10_addPerson_27 : decode cX10_addPerson 27 = .ok (.ifCond .lt 15, 3) := by decide +kernel
theorem dX10_addPerson_30 : decode cX10_addPerson 30 = .ok (.aload_n 0, 1) := by decide +kernel
theorem dX10_addPerson_31 : decode cX10_addPerson 31 = .ok (.getfield 41, 3) := by decide +kernel
theorem dX10_addPerson_34 : decode cX10_addPerson 34 = .ok (.aload_n 0, 1) := by decide +kernel
theorem dX10_addPerson_35 : decode cX10_addPerson 35 = .ok (.getfield 17, 3) := by decide +kernel
theorem dX10_addPerson_38 : decode cX10_addPerson 38 = .ok (.arraylength, 1) := by decide +kernel
theorem dX10_addPerson_39 : decode cX10_addPerson 39 = .ok (.if_icmp .lt 6, 3) := by decide +kernel
theorem dX10_addPerson_42 : decode cX10_addPerson 42 = .ok (.bipush (-6), 2) := by decide +kernel
theorem dX10_addPerson_44 : decode cX10_addPerson 44 = .ok (.ireturn, 1) := by decide +kernel
theorem dX10_addPerson_45 : decode cX10_addPerson 45 = .ok (.aload_n 0, 1) := by decide +kernel
theorem dX10_addPerson_46 : decode cX10_addPerson 46 = .ok (.getfield 17, 3) := by decide +kernel
theorem dX10_addPerson_49 : decode cX10_addPerson 49 = .ok (.aload_n 0, 1) := by decide +kernel
theorem dX10_addPerson_50 : decode cX10_addPerson 50 = .ok (.getfield 41, 3) := by decide +kernel
theorem dX10_addPerson_53 : decode cX10_addPerson 53 = .ok (.iload_n 1, 1) := by decide +kernel
theorem dX10_addPerson_54 : decode cX10_addPerson 54 = .ok (.iastore, 1) := by decide +kernel
theorem dX10_addPerson_55 : decode cX10_addPerson 55 = .ok (.aload_n 0, 1) := by decide +kernel
theorem dX10_addPerson_56 : decode cX10_addPerson 56 = .ok (.dup, 1) := by decide +kernel
theorem dX10_addPerson_57 : decode cX10_addPerson 57 = .ok (.getfield 41, 3) := by decide +kernel
theorem dX10_addPerson_60 : decode cX10_addPerson 60 = .ok (.iconst 1, 1) := by decide +kernel
theorem dX10_addPerson_61 : decode cX10_addPerson 61 = .ok (.iadd, 1) := by decide +kernel
theorem dX10_addPerson_62 : decode cX10_addPerson 62 = .ok (.putfield 41, 3) := by decide +kernel
theorem dX10_addPerson_65 : decode cX10_addPerson 65 = .ok (.aload_n 0, 1) := by decide +kernel
theorem dX10_addPerson_66 : decode cX10_addPerson 66 = .ok (.getfield 41, 3) := by decide +kernel
theorem dX10_addPerson_69 : decode cX10_addPerson 69 = .ok (.iconst 1, 1) := by decide +kernel
theorem dX10_addPerson_70 : decode cX10_addPerson 70 = .ok (.isub, 1) := by decide +kernel
theorem dX10_addPerson_71 : decode cX10_addPerson 71 = .ok (.ireturn, 1) := by decide +kernel
set_option maxRecDepth 20000 in
theorem ggX10_walk_X10_isPerson : GoodIn wsX10_walk wsX10_isPerson := goodIn_r _ [7, 8, 183, 184, 185, 186, 187, 188] (by decide +kernel) (by decide +kernel)
set_option maxRecDepth 20000 in
theorem gX10_walk_X10_isPerson : GoodIn wsX10_walk (wsV RX10 86 RX10 yX10_isPerson wsX10_isPerson) := goodIn_app (goodIn_of _ (by decide +kernel)) ggX10_walk_X10_isPerson
set_option maxRecDepth 20000 in
theorem ggX10_walk_X2_isOne : GoodIn wsX10_walk wsX2_isOne := goodIn_r _ [12] (by decide +kernel) (by decide +kernel)
set_option maxRecDepth 20000 in
theorem gX10_walk_X2_isOne : GoodIn wsX10_walk (va_wsS RX10 57 yX2_isOne wsX2_isOne) := goodIn_app (goodIn_of _ (by decide +kernel)) ggX10_walk_X2_isOne
set_option maxRecDepth 20000 in
theorem ggX10_walk_X10_free : GoodIn wsX10_walk wsX10_free := goodIn_r _ [16, 17, 18, 19, 183, 184, 185, 186, 187, 188] (by decide +kernel) (by decide +kernel)
set_option maxRecDepth 20000 in
theorem gX10_walk_X10_free : GoodIn wsX10_walk (wsV RX10 89 RX10 yX10_free wsX10_free) := goodIn_app (goodIn_of _ (by decide +kernel)) ggX10_walk_X10_free
set_option maxRecDepth 20000 in
theorem ggX10_walk_X2_fewestSteps : GoodIn wsX10_walk wsX2_fewestSteps := goodIn_r _ [22, 23, 24, 11, 25, 26, 27, 28, 29, 30, 31, 32, 33] (by decide +kernel) (by decide +kernel)
set_option maxRecDepth 20000 in
theorem gX10_walk_X2_fewestSteps : GoodIn wsX10_walk (va_wsS RX10 92 yX2_fewestSteps wsX2_fewestSteps) := goodIn_app (goodIn_of _ (by decide +kernel)) ggX10_walk_X2_fewestSteps
set_option maxRecDepth 20000 in
theorem ggX10_walk_X2_within : GoodIn wsX10_walk wsX2_within := goodIn_r _ [36, 23, 24, 11, 25, 29, 30, 31, 32, 33] (by decide +kernel) (by decide +kernel)
set_option maxRecDepth 20000 in
theorem gX10_walk_X2_within : GoodIn wsX10_walk (va_wsS RX10 96 yX2_within wsX2_within) := goodIn_app (goodIn_of _ (by decide +kernel)) ggX10_walk_X2_within
set_option maxRecDepth 20000 in
theorem ggX10_walk_X2_byNumber : GoodIn wsX10_walk wsX2_byNumber := goodIn_r _ [39, 26, 27, 11, 28, 23, 24, 25] (by decide +kernel) (by decide +kernel)
set_option maxRecDepth 20000 in
theorem gX10_walk_X2_byNumber : GoodIn wsX10_walk (va_wsS RX10 100 yX2_byNumber wsX2_byNumber) := goodIn_app (goodIn_of _ (by decide +kernel)) ggX10_walk_X2_byNumber
set_option maxRecDepth 20000 in
theorem ggX10_walk_X10_lampsKeep : GoodIn wsX10_walk wsX10_lampsKeep := goodIn_r _ [43, 44, 45, 2, 46, 47, 48, 6, 49, 50, 51, 52, 53, 54, 55, 56, 57, 58, 59, 60, 61, 62, 63, 64, 65, 66, 67, 68, 69, 70, 71, 72, 73, 74, 8, 1, 75, 76, 77, 78, 79, 80, 81, 14, 15, 16, 17, 18, 19, 82, 35, 11, 36, 23, 24, 25, 29, 30, 31, 32, 33, 83, 84, 85, 86, 87, 88, 89, 90, 27, 28, 91, 92, 93, 94, 95, 96, 97, 98, 99, 100, 101, 102, 103, 104, 105, 106, 107, 108, 109, 110, 111, 112, 113, 114, 115, 116, 117, 118, 119, 120, 121, 122, 123, 124, 125, 126, 127, 128, 129, 130, 131, 132, 133, 134, 135, 136, 137, 138, 139, 140, 141, 142, 143, 144, 145, 146, 147, 148, 149, 150, 151, 152, 153, 154, 155, 156, 157, 158, 159, 160, 161, 162, 163, 164, 165, 166, 167, 168, 169, 170, 171, 172, 173, 174, 175, 176, 177, 178, 179, 180, 181, 182, 183, 184, 185, 186, 187, 188, 189, 190, 191, 192, 193, 194, 195, 196, 197, 198, 199, 200, 201, 202, 203, 204, 205, 206, 207, 208, 209, 210, 211, 212, 213, 214, 215, 216, 217, 218, 219, 220, 221, 222, 223] (by decide +kernel) (by decide +kernel)
set_option maxRecDepth 20000 in
theorem gX10_walk_X10_lampsKeep : GoodIn wsX10_walk (wsV RX10 104 RX10 yX10_lampsKeep wsX10_lampsKeep) := goodIn_app (goodIn_of _ (by decide +kernel)) ggX10_walk_X10_lampsKeep
theorem dX10_walk_0 : decode cX10_walk 0 = .ok (.aload_n 0, 1) := by decide +kernel
theorem dX10_walk_1 : decode cX10_walk 1 = .ok (.iload_n 1, 1) := by decide +kernel
theorem dX10_walk_2 : decode cX10_walk 2 = .ok (.invokevirtual 86, 3) := by decide +kernel
theorem dX10_walk_5 : decode cX10_walk 5 = .ok (.ifCond .eq 19, 3) := by decide +kernel
theorem dX10_walk_8 : decode cX10_walk 8 = .ok (.iload_n 1, 1) := by decide +kernel
theorem dX10_walk_9 : decode cX10_walk 9 = .ok (.aload_n 0, 1) := by decide +kernel
theorem dX10_walk_10 : decode cX10_walk 10 = .ok (.getfield 17, 3) := by decide +kernel
theorem dX10_walk_13 : decode cX10_walk 13 = .ok (.arraylength, 1) := by decide +kernel
theorem dX10_walk_14 : decode cX10_walk 14 = .ok (.if_icmp .ge 10, 3) := by decide +kernel
theorem dX10_walk_17 : decode cX10_walk 17 = .ok (.iload_n 2, 1) := by decide +kernel
theorem dX10_walk_18 : decode cX10_walk 18 = .ok (.invokestatic 57, 3) := by decide +kernel
theorem dX10_walk_21 : decode cX10_walk 21 = .ok (.ifCond .ne 5, 3) := by decide +kernel
theorem dX10_walk_24 : decode cX10_walk 24 = .ok (.iconst (-1), 1) := by decide +kernel
theorem dX10_walk_25 : decode cX10_walk 25 = .ok (.ireturn, 1) := by decide +kernel
theorem dX10_walk_26 : decode cX10_walk 26 = .ok (.aload_n 0, 1) := by decide +kernel
theorem dX10_walk_27 : decode cX10_walk 27 = .ok (.getfield 17, 3) := by decide +kernel
theorem dX10_walk_30 : decode cX10_walk 30 = .ok (.iload_n 1, 1) := by decide +kernel
theorem dX10_walk_31 : decode cX10_walk 31 = .ok (.iaload, 1) := by decide +kernel
theorem dX10_walk_32 : decode cX10_walk 32 = .ok (.iload_n 2, 1) := by decide +kernel
theorem dX10_walk_33 : decode cX10_walk 33 = .ok (.aload_n 0, 1) := by decide +kernel
theorem dX10_walk_34 : decode cX10_walk 34 = .ok (.invokevirtual 89, 3) := by decide +kernel
theorem dX10_walk_37 : decode cX10_walk 37 = .ok (.invokestatic 92, 3) := by decide +kernel
theorem dX10_walk_40 : decode cX10_walk 40 = .ok (.istore_n 3, 1) := by decide +kernel
theorem dX10_walk_41 : decode cX10_walk 41 = .ok (.iload_n 3, 1) := by decide +kernel
theorem dX10_walk_42 : decode cX10_walk 42 = .ok (.ifCond .ge 6, 3) := by decide +kernel
theorem dX10_walk_45 : decode cX10_walk 45 = .ok (.bipush (-3), 2) := by decide +kernel
theorem dX10_walk_47 : decode cX10_walk 47 = .ok (.ireturn, 1) := by decide +kernel
theorem dX10_walk_48 : decode cX10_walk 48 = .ok (.aload_n 0, 1) := by decide +kernel
theorem dX10_walk_49 : decode cX10_walk 49 = .ok (.getfield 44, 3) := by decide +kernel
theorem dX10_walk_52 : decode cX10_walk 52 = .ok (.iload_n 3, 1) := by decide +kernel
theorem dX10_walk_53 : decode cX10_walk 53 = .ok (.iadd, 1) := by decide +kernel
theorem dX10_walk_54 : decode cX10_walk 54 = .ok (.sipush 9999, 3) := by decide +kernel
theorem dX10_walk_57 : decode cX10_walk 57 = .ok (.if_icmp .le 6, 3) := by decide +kernel
theorem dX10_walk_60 : decode cX10_walk 60 = .ok (.bipush (-6), 2) := by decide +kernel
theorem dX10_walk_62 : decode cX10_walk 62 = .ok (.ireturn, 1) := by decide +kernel
theorem dX10_walk_63 : decode cX10_walk 63 = .ok (.iload_n 3, 1) := by decide +kernel
theorem dX10_walk_64 : decode cX10_walk 64 = .ok (.iconst 1, 1) := by decide +kernel
theorem dX10_walk_65 : decode cX10_walk 65 = .ok (.isub, 1) := by decide +kernel
theorem dX10_walk_66 : decode cX10_walk 66 = .ok (.istore 4, 2) := by decide +kernel
theorem dX10_walk_68 : decode cX10_walk 68 = .ok (.iload 4, 2) := by decide +kernel
theorem dX10_walk_70 : decode cX10_walk 70 = .ok (.ifCond .lt 69, 3) := by decide +kernel
theorem dX10_walk_73 : decode cX10_walk 73 = .ok (.aload_n 0, 1) := by decide +kernel
theorem dX10_walk_74 : decode cX10_walk 74 = .ok (.getfield 17, 3) := by decide +kernel
theorem dX10_walk_77 : decode cX10_walk 77 = .ok (.iload_n 1, 1) := by decide +kernel
theorem dX10_walk_78 : decode cX10_walk 78 = .ok (.iaload, 1) := by decide +kernel
theorem dX10_walk_79 : decode cX10_walk 79 = .ok (.iconst 1, 1) := by decide +kernel
theorem dX10_walk_80 : decode cX10_walk 80 = .ok (.aload_n 0, 1) := by decide +kernel
theorem dX10_walk_81 : decode cX10_walk 81 = .ok (.invokevirtual 89, 3) := by decide +kernel
theorem dX10_walk_84 : decode cX10_walk 84 = .ok (.invokestatic 96, 3) := by decide +kernel
theorem dX10_walk_87 : decode cX10_walk 87 = .ok (.iload_n 2, 1) := by decide +kernel
theorem dX10_walk_88 : decode cX10_walk 88 = .ok (.iload 4, 2) := by decide +kernel
theorem dX10_walk_90 : decode cX10_walk 90 = .ok (.aload_n 0, 1) := by decide +kernel
theorem dX10_walk_91 : decode cX10_walk 91 = .ok (.invokevirtual 89, 3) := by decide +kernel
theorem dX10_walk_94 : decode cX10_walk 94 = .ok (.invokestatic 96, 3) := by decide +kernel
theorem dX10_walk_97 : decode cX10_walk 97 = .ok (.land, 1) := by decide +kernel
theorem dX10_walk_98 : decode cX10_walk 98 = .ok (.lstore 5, 2) := by decide +kernel
theorem dX10_walk_100 : decode cX10_walk 100 = .ok (.aload_n 0, 1) := by decide +kernel
theorem dX10_walk_101 : decode cX10_walk 101 = .ok (.getfield 17, 3) := by decide +kernel
theorem dX10_walk_104 : decode cX10_walk 104 = .ok (.iload_n 1, 1) := by decide +kernel
theorem dX10_walk_105 : decode cX10_walk 105 = .ok (.lload 5, 2) := by decide +kernel
theorem dX10_walk_107 : decode cX10_walk 107 = .ok (.iconst 0, 1) := by decide +kernel
theorem dX10_walk_108 : decode cX10_walk 108 = .ok (.invokestatic 100, 3) := by decide +kernel
theorem dX10_walk_111 : decode cX10_walk 111 = .ok (.iastore, 1) := by decide +kernel
theorem dX10_walk_112 : decode cX10_walk 112 = .ok (.aload_n 0, 1) := by decide +kernel
theorem dX10_walk_113 : decode cX10_walk 113 = .ok (.dup, 1) := by decide +kernel
theorem dX10_walk_114 : decode cX10_walk 114 = .ok (.getfield 44, 3) := by decide +kernel
theorem dX10_walk_117 : decode cX10_walk 117 = .ok (.iconst 1, 1) := by decide +kernel
theorem dX10_walk_118 : decode cX10_walk 118 = .ok (.iadd, 1) := by decide +kernel
theorem dX10_walk_119 : decode cX10_walk 119 = .ok (.putfield 44, 3) := by decide +kernel
theorem dX10_walk_122 : decode cX10_walk 122 = .ok (.aload_n 0, 1) := by decide +kernel
theorem dX10_walk_123 : decode cX10_walk 123 = .ok (.iload_n 1, 1) := by decide +kernel
theorem dX10_walk_124 : decode cX10_walk 124 = .ok (.aload_n 0, 1) := by decide +kernel
theorem dX10_walk_125 : decode cX10_walk 125 = .ok (.getfield 17, 3) := by decide +kernel
theorem dX10_walk_128 : decode cX10_walk 128 = .ok (.iload_n 1, 1) := by decide +kernel
theorem dX10_walk_129 : decode cX10_walk 129 = .ok (.iaload, 1) := by decide +kernel
theorem dX10_walk_130 : decode cX10_walk 130 = .ok (.invokevirtual 104, 3) := by decide +kernel
theorem dX10_walk_133 : decode cX10_walk 133 = .ok (.iinc 4 (-1), 3) := by decide +kernel
theorem dX10_walk_136 : decode cX10_walk 136 = .ok (.goto (-68), 3) := by decide +kernel
theorem dX10_walk_139 : decode cX10_walk 139 = .ok (.iload_n 3, 1) := by decide +kernel
theorem dX10_walk_140 : decode cX10_walk 140 = .ok (.ireturn, 1) := by decide +kernel
set_option maxRecDepth 20000 in
theorem ggX10_lampsKeep_X10_lampAt : GoodIn wsX10_lampsKeep wsX10_lampAt := goodIn_r _ [8, 1, 9, 163, 164, 165, 166, 167, 168] (by decide +kernel) (by decide +kernel)
set_option maxRecDepth 20000 in
theorem gX10_lampsKeep_X10_lampAt : GoodIn wsX10_lampsKeep (wsV RX10 21 RX10 yX10_lampAt wsX10_lampAt) := goodIn_app (goodIn_of _ (by decide +kernel)) ggX10_lampsKeep_X10_lampAt
set_option maxRecDepth 20000 in
theorem ggX10_lampsKeep_X5_glow : GoodIn wsX10_lampsKeep wsX5_glow := goodIn_r _ [15, 16, 17, 18, 19, 20, 14, 21, 22, 23, 24, 25, 26, 27, 28, 29, 30, 31, 32, 7, 33, 34, 35, 36, 37, 38, 39, 40, 41, 42, 43, 44, 45, 46, 47, 48, 49, 50, 51, 52, 53, 54, 55, 56, 57, 58, 59, 60, 169, 170, 171, 172, 173, 174, 175, 176, 177, 178, 179, 180, 181, 182, 183, 184, 185, 186, 187, 188, 189, 190, 191, 192, 193, 194, 195, 196, 197, 198, 199, 200, 201, 202, 203, 163, 164, 165, 166, 167, 168] (by decide +kernel) (by decide +kernel)
set_option maxRecDepth 20000 in
theorem gX10_lampsKeep_X5_glow_u112X0 : GoodIn wsX10_lampsKeep (va_wsU RX10 112 RX0 "LampsThatRemember$Lamp" ⟨"LampsThatRemember$Lamp", "glow", "(LLampsThatRemember$Town;)J"⟩ yX5_glow wsX5_glow) := goodIn_app (goodIn_of _ (by decide +kernel)) ggX10_lampsKeep_X5_glow
set_option maxRecDepth 20000 in
theorem gX10_lampsKeep_X5_glow_u112X1 : GoodIn wsX10_lampsKeep (va_wsU RX10 112 RX1 "LampsThatRemember$Lamp" ⟨"LampsThatRemember$Lamp", "glow", "(LLampsThatRemember$Town;)J"⟩ yX5_glow wsX5_glow) := goodIn_app (goodIn_of _ (by decide +kernel)) ggX10_lampsKeep_X5_glow
set_option maxRecDepth 20000 in
theorem gX10_lampsKeep_X5_glow_u112X3 : GoodIn wsX10_lampsKeep (va_wsU RX10 112 RX3 "LampsThatRemember$Lamp" ⟨"LampsThatRemember$Lamp", "glow", "(LLampsThatRemember$Town;)J"⟩ yX5_glow wsX5_glow) := goodIn_app (goodIn_of _ (by decide +kernel)) ggX10_lampsKeep_X5_glow
set_option maxRecDepth 20000 in
theorem gX10_lampsKeep_X5_glow_u112X4 : GoodIn wsX10_lampsKeep (va_wsU RX10 112 RX4 "LampsThatRemember$Lamp" ⟨"LampsThatRemember$Lamp", "glow", "(LLampsThatRemember$Town;)J"⟩ yX5_glow wsX5_glow) := goodIn_app (goodIn_of _ (by decide +kernel)) ggX10_lampsKeep_X5_glow
set_option maxRecDepth 20000 in
theorem gX10_lampsKeep_X5_glow : GoodIn wsX10_lampsKeep (wsV RX10 112 RX5 yX5_glow wsX5_glow) := goodIn_app (goodIn_of _ (by decide +kernel)) ggX10_lampsKeep_X5_glow
set_option maxRecDepth 20000 in
theorem gX10_lampsKeep_X5_glow_u112X7 : GoodIn wsX10_lampsKeep (va_wsU RX10 112 RX7 "LampsThatRemember$Lamp" ⟨"LampsThatRemember$Lamp", "glow", "(LLampsThatRemember$Town;)J"⟩ yX5_glow wsX5_glow) := goodIn_app (goodIn_of _ (by decide +kernel)) ggX10_lampsKeep_X5_glow
set_option maxRecDepth 20000 in
theorem gX10_lampsKeep_X5_glow_u112X8 : GoodIn wsX10_lampsKeep (va_wsU RX10 112 RX8 "LampsThatRemember$Lamp" ⟨"LampsThatRemember$Lamp", "glow", "(LLampsThatRemember$Town;)J"⟩ yX5_glow wsX5_glow) := goodIn_app (goodIn_of _ (by decide +kernel)) ggX10_lampsKeep_X5_glow
set_option maxRecDepth 20000 in
theorem ggX10_lampsKeep_X2_has : GoodIn wsX10_lampsKeep wsX2_has := goodIn_r _ [70, 53, 54, 51, 55] (by decide +kernel) (by decide +kernel)
set_option maxRecDepth 20000 in
theorem gX10_lampsKeep_X2_has : GoodIn wsX10_lampsKeep (va_wsS RX10 74 yX2_has wsX2_has) := goodIn_app (goodIn_of _ (by decide +kernel)) ggX10_lampsKeep_X2_has
set_option maxRecDepth 20000 in
theorem ggX10_lampsKeep_X5_keep : GoodIn wsX10_lampsKeep wsX5_keep := goodIn_r _ [75, 76, 77, 78, 79, 80, 81, 14, 82, 83, 84, 85, 86, 87, 88, 89, 90, 91, 92, 93, 94, 95, 96, 97, 98, 99, 100, 101, 102, 103, 104, 105, 106, 107, 108, 109, 110, 111, 112, 113, 114, 115, 116, 117, 118, 119, 120, 121, 122, 123, 124, 125, 126, 127, 128, 129, 130, 131, 132, 133, 134, 135, 136, 137, 138, 139, 140, 141, 142, 143, 144, 145, 146, 147, 148, 149, 150, 151, 152, 153, 154, 155, 169, 170, 171, 172, 173, 174, 175, 176, 177, 178, 179, 180, 181, 182, 183, 184, 185, 186, 187, 188, 189, 190, 191, 192, 193, 194, 195, 196, 197, 198, 199, 200, 201, 202, 203] (by decide +kernel) (by decide +kernel)
set_option maxRecDepth 20000 in
theorem gX10_lampsKeep_X5_keep_u116X0 : GoodIn wsX10_lampsKeep (va_wsU RX10 116 RX0 "LampsThatRemember$Lamp" ⟨"LampsThatRemember$Lamp", "keep", "(III)V"⟩ yX5_keep wsX5_keep) := goodIn_app (goodIn_of _ (by decide +kernel)) ggX10_lampsKeep_X5_keep
set_option maxRecDepth 20000 in
theorem gX10_lampsKeep_X5_keep_u116X1 : GoodIn wsX10_lampsKeep (va_wsU RX10 116 RX1 "LampsThatRemember$Lamp" ⟨"LampsThatRemember$Lamp", "keep", "(III)V"⟩ yX5_keep wsX5_keep) := goodIn_app (goodIn_of _ (by decide +kernel)) ggX10_lampsKeep_X5_keep
set_option maxRecDepth 20000 in
theorem gX10_lampsKeep_X5_keep_u116X3 : GoodIn wsX10_lampsKeep (va_wsU RX10 116 RX3 "LampsThatRemember$Lamp" ⟨"LampsThatRemember$Lamp", "keep", "(III)V"⟩ yX5_keep wsX5_keep) := goodIn_app (goodIn_of _ (by decide +kernel)) ggX10_lampsKeep_X5_keep
set_option maxRecDepth 20000 in
theorem gX10_lampsKeep_X5_keep_u116X4 : GoodIn wsX10_lampsKeep (va_wsU RX10 116 RX4 "LampsThatRemember$Lamp" ⟨"LampsThatRemember$Lamp", "keep", "(III)V"⟩ yX5_keep wsX5_keep) := goodIn_app (goodIn_of _ (by decide +kernel)) ggX10_lampsKeep_X5_keep
set_option maxRecDepth 20000 in
theorem gX10_lampsKeep_X5_keep : GoodIn wsX10_lampsKeep (wsV RX10 116 RX5 yX5_keep wsX5_keep) := goodIn_app (goodIn_of _ (by decide +kernel)) ggX10_lampsKeep_X5_keep
set_option maxRecDepth 20000 in
theorem gX10_lampsKeep_X5_keep_u116X7 : GoodIn wsX10_lampsKeep (va_wsU RX10 116 RX7 "LampsThatRemember$Lamp" ⟨"LampsThatRemember$Lamp", "keep", "(III)V"⟩ yX5_keep wsX5_keep) := goodIn_app (goodIn_of _ (by decide +kernel)) ggX10_lampsKeep_X5_keep
set_option maxRecDepth 20000 in
theorem gX10_lampsKeep_X5_keep_u116X8 : GoodIn wsX10_lampsKeep (va_wsU RX10 116 RX8 "LampsThatRemember$Lamp" ⟨"LampsThatRemember$Lamp", "keep", "(III)V"⟩ yX5_keep wsX5_keep) := goodIn_app (goodIn_of _ (by decide +kernel)) ggX10_lampsKeep_X5_keep
theorem dX10_lampsKeep_0 : decode cX10_lampsKeep 0 = .ok (.iconst 0, 1) := by decide +kernel
theorem dX10_lampsKeep_1 : decode cX10_lampsKeep 1 = .ok (.istore_n 3, 1) := by decide +kernel
theorem dX10_lampsKeep_2 : decode cX10_lampsKeep 2 = .ok (.iload_n 3, 1) := by decide +kernel
theorem dX10_lampsKeep_3 : decode cX10_lampsKeep 3 = .ok (.aload_n 0, 1) := by decide +kernel
theorem dX10_lampsKeep_4 : decode cX10_lampsKeep 4 = .ok (.getfield 37, 3) := by decide +kernel
theorem dX10_lampsKeep_7 : decode cX10_lampsKeep 7 = .ok (.if_icmp .ge 53, 3) := by decide +kernel
theorem dX10_lampsKeep_10 : decode cX10_lampsKeep 10 = .ok (.aload_n 0, 1) := by decide +kernel
theorem dX10_lampsKeep_11 : decode cX10_lampsKeep 11 = .ok (.iload_n 3, 1) := by decide +kernel
theorem dX10_lampsKeep_12 : decode cX10_lampsKeep 12 = .ok (.invokevirtual 21, 3) := by decide +kernel
theorem dX10_lampsKeep_15 : decode cX10_lampsKeep 15 = .ok (.astore 4, 2) := by decide +kernel
theorem dX10_lampsKeep_17 : decode cX10_lampsKeep 17 = .ok (.aload 4, 2) := by decide +kernel
theorem dX10_lampsKeep_19 : decode cX10_lampsKeep 19 = .ok (.ifnull 35, 3) := by decide +kernel
theorem dX10_lampsKeep_22 : decode cX10_lampsKeep 22 = .ok (.aload 4, 2) := by decide +kernel
theorem dX10_lampsKeep_24 : decode cX10_lampsKeep 24 = .ok (.getfield 108, 3) := by decide +kernel
theorem dX10_lampsKeep_27 : decode cX10_lampsKeep 27 = .ok (.ifCond .eq 27, 3) := by decide +kernel
theorem dX10_lampsKeep_30 : decode cX10_lampsKeep 30 = .ok (.aload 4, 2) := by decide +kernel
theorem dX10_lampsKeep_32 : decode cX10_lampsKeep 32 = .ok (.aload_n 0, 1) := by decide +kernel
theorem dX10_lampsKeep_33 : decode cX10_lampsKeep 33 = .ok (.invokevirtual 112, 3) := by decide +kernel
theorem dX10_lampsKeep_36 : decode cX10_lampsKeep 36 = .ok (.iload_n 2, 1) := by decide +kernel
theorem dX10_lampsKeep_37 : decode cX10_lampsKeep 37 = .ok (.invokestatic 74, 3) := by decide +kernel
theorem dX10_lampsKeep_40 : decode cX10_lampsKeep 40 = .ok (.ifCond .eq 14, 3) := by decide +kernel
theorem dX10_lampsKeep_43 : decode cX10_lampsKeep 43 = .ok (.aload 4, 2) := by decide +kernel
theorem dX10_lampsKeep_45 : decode cX10_lampsKeep 45 = .ok (.iload_n 1, 1) := by decide +kernel
theorem dX10_lampsKeep_46 : decode cX10_lampsKeep 46 = .ok (.iload_n 2, 1) := by decide +kernel
theorem dX10_lampsKeep_47 : decode cX10_lampsKeep 47 = .ok (.aload_n 0, 1) := by decide +kernel
theorem dX10_lampsKeep_48 : decode cX10_lampsKeep 48 = .ok (.getfield 44, 3) := by decide +kernel
theorem dX10_lampsKeep_51 : decode cX10_lampsKeep 51 = .ok (.invokevirtual 116, 3) := by decide +kernel
theorem dX10_lampsKeep_54 : decode cX10_lampsKeep 54 = .ok (.iinc 3 1, 3) := by decide +kernel
theorem dX10_lampsKeep_57 : decode cX10_lampsKeep 57 = .ok (.goto (-55), 3) := by decide +kernel
theorem dX10_lampsKeep_60 : decode cX10_lampsKeep 60 = .ok (.return_, 1) := by decide +kernel
set_option maxRecDepth 20000 in
theorem ggX10_litBut_X10_litLamps : GoodIn wsX10_litBut wsX10_litLamps := goodIn_r _ [5, 6, 7, 8, 9, 10, 4, 11, 12, 75, 76, 77, 78, 79, 80, 81, 82, 83, 84, 85, 86, 87, 88, 89, 90, 91, 92, 93, 94, 95, 96, 97, 98, 99, 100, 101, 102, 103, 104, 105, 106, 107, 108, 109, 110, 111, 112, 113, 114, 115] (by decide +kernel) (by decide +kernel)
set_option maxRecDepth 20000 in
theorem gX10_litBut_X10_litLamps : GoodIn wsX10_litBut (wsV RX10 120 RX10 yX10_litLamps wsX10_litLamps) := goodIn_app (goodIn_of _ (by decide +kernel)) ggX10_litBut_X10_litLamps
set_option maxRecDepth 20000 in
theorem ggX10_litBut_X10_glowOf : GoodIn wsX10_litBut wsX10_glowOf := goodIn_r _ [16, 6, 8, 9, 10, 4, 11, 12, 17, 18, 19, 20, 21, 22, 23, 24, 25, 26, 27, 28, 29, 30, 31, 32, 33, 34, 35, 36, 37, 38, 39, 40, 41, 42, 43, 44, 45, 46, 47, 48, 49, 50, 51, 52, 53, 54, 55, 56, 57, 58, 59, 60, 61, 62, 63, 64, 65, 66, 67, 68, 69, 70, 71, 72, 73, 74, 75, 76, 77, 78, 79, 80, 81, 82, 83, 84, 85, 86, 87, 88, 89, 90, 91, 92, 93, 94, 95, 96, 97, 98, 99, 100, 101, 102, 103, 104, 105, 106, 107, 108, 109, 110, 111, 112, 113, 114, 115] (by decide +kernel) (by decide +kernel)
set_option maxRecDepth 20000 in
theorem gX10_litBut_X10_glowOf : GoodIn wsX10_litBut (wsV RX10 124 RX10 yX10_glowOf wsX10_glowOf) := goodIn_app (goodIn_of _ (by decide +kernel)) ggX10_litBut_X10_glowOf
theorem dX10_litBut_0 : decode cX10_litBut 0 = .ok (.aload_n 0, 1) := by decide +kernel
theorem dX10_litBut_1 : decode cX10_litBut 1 = .ok (.aload_n 0, 1) := by decide +kernel
theorem dX10_litBut_2 : decode cX10_litBut 2 = .ok (.invokevirtual 120, 3) := by decide +kernel
theorem dX10_litBut_5 : decode cX10_litBut 5 = .ok (.iload_n 1, 1) := by decide +kernel
theorem dX10_litBut_6 : decode cX10_litBut 6 = .ok (.iconst (-1), 1) := by decide +kernel
theorem dX10_litBut_7 : decode cX10_litBut 7 = .ok (.ixor, 1) := by decide +kernel
theorem dX10_litBut_8 : decode cX10_litBut 8 = .ok (.iand, 1) := by decide +kernel
theorem dX10_litBut_9 : decode cX10_litBut 9 = .ok (.invokevirtual 124, 3) := by decide +kernel
theorem dX10_litBut_12 : decode cX10_litBut 12 = .ok (.lreturn, 1) := by decide +kernel
set_option maxRecDepth 20000 in
theorem ggX10_glowOf_X10_lampAt : GoodIn wsX10_glowOf wsX10_lampAt := goodIn_r _ [6, 1, 7, 66, 67, 68, 69, 70, 71] (by decide +kernel) (by decide +kernel)
set_option maxRecDepth 20000 in
theorem gX10_glowOf_X10_lampAt : GoodIn wsX10_glowOf (wsV RX10 21 RX10 yX10_lampAt wsX10_lampAt) := goodIn_app (goodIn_of _ (by decide +kernel)) ggX10_glowOf_X10_lampAt
set_option maxRecDepth 20000 in
theorem ggX10_glowOf_X5_glow : GoodIn wsX10_glowOf wsX5_glow := goodIn_r _ [13, 14, 15, 16, 17, 18, 12, 19, 20, 21, 22, 23, 24, 25, 26, 27, 28, 29, 30, 5, 31, 32, 33, 34, 35, 36, 37, 38, 39, 40, 41, 42, 43, 44, 45, 46, 47, 48, 49, 50, 51, 52, 53, 54, 55, 56, 57, 58, 72, 73, 74, 75, 76, 77, 78, 79, 80, 81, 82, 83, 84, 85, 86, 87, 88, 89, 90, 91, 92, 93, 94, 95, 96, 97, 98, 99, 100, 101, 102, 103, 104, 105, 106, 66, 67, 68, 69, 70, 71] (by decide +kernel) (by decide +kernel)
set_option maxRecDepth 20000 in
theorem gX10_glowOf_X5_glow_u112X0 : GoodIn wsX10_glowOf (va_wsU RX10 112 RX0 "LampsThatRemember$Lamp" ⟨"LampsThatRemember$Lamp", "glow", "(LLampsThatRemember$Town;)J"⟩ yX5_glow wsX5_glow) := goodIn_app (goodIn_of _ (by decide +kernel)) ggX10_glowOf_X5_glow
set_option maxRecDepth 20000 in
theorem gX10_glowOf_X5_glow_u112X1 : GoodIn wsX10_glowOf (va_wsU RX10 112 RX1 "LampsThatRemember$Lamp" ⟨"LampsThatRemember$Lamp", "glow", "(LLampsThatRemember$Town;)J"⟩ yX5_glow wsX5_glow) := goodIn_app (goodIn_of _ (by decide +kernel)) ggX10_glowOf_X5_glow
set_option maxRecDepth 20000 in
theorem gX10_glowOf_X5_glow_u112X3 : GoodIn wsX10_glowOf (va_wsU RX10 112 RX3 "LampsThatRemember$Lamp" ⟨"LampsThatRemember$Lamp", "glow", "(LLampsThatRemember$Town;)J"⟩ yX5_glow wsX5_glow) := goodIn_app (goodIn_of _ (by decide +kernel)) ggX10_glowOf_X5_glow
set_option maxRecDepth 20000 in
theorem gX10_glowOf_X5_glow_u112X4 : GoodIn wsX10_glowOf (va_wsU RX10 112 RX4 "LampsThatRemember$Lamp" ⟨"LampsThatRemember$Lamp", "glow", "(LLampsThatRemember$Town;)J"⟩ yX5_glow wsX5_glow) := goodIn_app (goodIn_of _ (by decide +kernel)) ggX10_glowOf_X5_glow
set_option maxRecDepth 20000 in
theorem gX10_glowOf_X5_glow : GoodIn wsX10_glowOf (wsV RX10 112 RX5 yX5_glow wsX5_glow) := goodIn_app (goodIn_of _ (by decide +kernel)) ggX10_glowOf_X5_glow
set_option maxRecDepth 20000 in
theorem gX10_glowOf_X5_glow_u112X7 : GoodIn wsX10_glowOf (va_wsU RX10 112 RX7 "LampsThatRemember$Lamp" ⟨"LampsThatRemember$Lamp", "glow", "(LLampsThatRemember$Town;)J"⟩ yX5_glow wsX5_glow) := goodIn_app (goodIn_of _ (by decide +kernel)) ggX10_glowOf_X5_glow
set_option maxRecDepth 20000 in
theorem gX10_glowOf_X5_glow_u112X8 : GoodIn wsX10_glowOf (va_wsU RX10 112 RX8 "LampsThatRemember$Lamp" ⟨"LampsThatRemember$Lamp", "glow", "(LLampsThatRemember$Town;)J"⟩ yX5_glow wsX5_glow) := goodIn_app (goodIn_of _ (by decide +kernel)) ggX10_glowOf_X5_glow
theorem dX10_glowOf_0 : decode cX10_glowOf 0 = .ok (.lconst 0, 1) := by decide +kernel
theorem dX10_glowOf_1 : decode cX10_glowOf 1 = .ok (.lstore_n 2, 1) := by decide +kernel
theorem dX10_glowOf_2 : decode cX10_glowOf 2 = .ok (.iconst 0, 1) := by decide +kernel
theorem dX10_glowOf_3 : decode cX10_glowOf 3 = .ok (.istore 4, 2) := by decide +kernel
theorem dX10_glowOf_5 : decode cX10_glowOf 5 = .ok (.iload 4, 2) := by decide +kernel
theorem dX10_glowOf_7 : decode cX10_glowOf 7 = .ok (.aload_n 0, 1) := by decide +kernel
theorem dX10_glowOf_8 : decode cX10_glowOf 8 = .ok (.getfield 37, 3) := by decide +kernel
theorem dX10_glowOf_11 : decode cX10_glowOf 11 = .ok (.if_icmp .ge 41, 3) := by decide +kernel
theorem dX10_glowOf_14 : decode cX10_glowOf 14 = .ok (.aload_n 0, 1) := by decide +kernel
theorem dX10_glowOf_15 : decode cX10_glowOf 15 = .ok (.iload 4, 2) := by decide +kernel
theorem dX10_glowOf_17 : decode cX10_glowOf 17 = .ok (.invokevirtual 21, 3) := by decide +kernel
theorem dX10_glowOf_20 : decode cX10_glowOf 20 = .ok (.astore 5, 2) := by decide +kernel
theorem dX10_glowOf_22 : decode cX10_glowOf 22 = .ok (.aload 5, 2) := by decide +kernel
theorem dX10_glowOf_24 : decode cX10_glowOf 24 = .ok (.ifnull 22, 3) := by decide +kernel
theorem dX10_glowOf_27 : decode cX10_glowOf 27 = .ok (.iload_n 1, 1) := by decide +kernel
theorem dX10_glowOf_28 : decode cX10_glowOf 28 = .ok (.iload 4, 2) := by decide +kernel
theorem dX10_glowOf_30 : decode cX10_glowOf 30 = .ok (.ishr, 1) := by decide +kernel
theorem dX10_glowOf_31 : decode cX10_glowOf 31 = .ok (.iconst 1, 1) := by decide +kernel
theorem dX10_glowOf_32 : decode cX10_glowOf 32 = .ok (.iand, 1) := by decide +kernel
theorem dX10_glowOf_33 : decode cX10_glowOf 33 = .ok (.iconst 1, 1) := by decide +kernel
theorem dX10_glowOf_34 : decode cX10_glowOf 34 = .ok (.if_icmp .ne 12, 3) := by decide +kernel
theorem dX10_glowOf_37 : decode cX10_glowOf 37 = .ok (.lload_n 2, 1) := by decide +kernel
theorem dX10_glowOf_38 : decode cX10_glowOf 38 = .ok (.aload 5, 2) := by decide +kernel
theorem dX10_glowOf_40 : decode cX10_glowOf 40 = .ok (.aload_n 0, 1) := by decide +kernel
theorem dX10_glowOf_41 : decode cX10_glowOf 41 = .ok (.invokevirtual 112, 3) := by decide +kernel
theorem dX10_glowOf_44 : decode cX10_glowOf 44 = .ok (.lor, 1) := by decide +kernel
theorem dX10_glowOf_45 : decode cX10_glowOf 45 = .ok (.lstore_n 2, 1) := by decide +kernel
theorem dX10_glowOf_46 : decode cX10_glowOf 46 = .ok (.iinc 4 1, 3) := by decide +kernel
theorem dX10_glowOf_49 : decode cX10_glowOf 49 = .ok (.goto (-44), 3) := by decide +kernel
theorem dX10_glowOf_52 : decode cX10_glowOf 52 = .ok (.lload_n 2, 1) := by decide +kernel
theorem dX10_glowOf_53 : decode cX10_glowOf 53 = .ok (.lreturn, 1) := by decide +kernel
set_option maxRecDepth 20000 in
theorem ggX10_litLamps_X10_lampAt : GoodIn wsX10_litLamps wsX10_lampAt := goodIn_r _ [7, 1, 8, 9, 10, 11, 12, 13, 14] (by decide +kernel) (by decide +kernel)
set_option maxRecDepth 20000 in
theorem gX10_litLamps_X10_lampAt : GoodIn wsX10_litLamps (wsV RX10 21 RX10 yX10_lampAt wsX10_lampAt) := goodIn_app (goodIn_of _ (by decide +kernel)) ggX10_litLamps_X10_lampAt
theorem dX10_litLamps_0 : decode cX10_litLamps 0 = .ok (.iconst 0, 1) := by decide +kernel
theorem dX10_litLamps_1 : decode cX10_litLamps 1 = .ok (.istore_n 1, 1) := by decide +kernel
theorem dX10_litLamps_2 : decode cX10_litLamps 2 = .ok (.iconst 0, 1) := by decide +kernel
theorem dX10_litLamps_3 : decode cX10_litLamps 3 = .ok (.istore_n 2, 1) := by decide +kernel
theorem dX10_litLamps_4 : decode cX10_litLamps 4 = .ok (.iload_n 2, 1) := by decide +kernel
theorem dX10_litLamps_5 : decode cX10_litLamps 5 = .ok (.aload_n 0, 1) := by decide +kernel
theorem dX10_litLamps_6 : decode cX10_litLamps 6 = .ok (.getfield 37, 3) := by decide +kernel
theorem dX10_litLamps_9 : decode cX10_litLamps 9 = .ok (.if_icmp .ge 32, 3) := by decide +kernel
theorem dX10_litLamps_12 : decode cX10_litLamps 12 = .ok (.aload_n 0, 1) := by decide +kernel
theorem dX10_litLamps_13 : decode cX10_litLamps 13 = .ok (.iload_n 2, 1) := by decide +kernel
theorem dX10_litLamps_14 : decode cX10_litLamps 14 = .ok (.invokevirtual 21, 3) := by decide +kernel
theorem dX10_litLamps_17 : decode cX10_litLamps 17 = .ok (.astore_n 3, 1) := by decide +kernel
theorem dX10_litLamps_18 : decode cX10_litLamps 18 = .ok (.aload_n 3, 1) := by decide +kernel
theorem dX10_litLamps_19 : decode cX10_litLamps 19 = .ok (.ifnull 16, 3) := by decide +kernel
theorem dX10_litLamps_22 : decode cX10_litLamps 22 = .ok (.aload_n 3, 1) := by decide +kernel
theorem dX10_litLamps_23 : decode cX10_litLamps 23 = .ok (.getfield 108, 3) := by decide +kernel
theorem dX10_litLamps_26 : decode cX10_litLamps 26 = .ok (.ifCond .eq 9, 3) := by decide +kernel
