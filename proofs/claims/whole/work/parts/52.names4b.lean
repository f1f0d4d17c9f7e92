theorem dX12_cellOf_24 : decode cX12_cellOf 24 = .ok (.if_icmp .ge 12, 3) := by decide +kernel
theorem dX12_cellOf_27 : decode cX12_cellOf 27 = .ok (.aload_n 0, 1) := by decide +kernel
theorem dX12_cellOf_28 : decode cX12_cellOf 28 = .ok (.getfield 40, 3) := by decide +kernel
theorem dX12_cellOf_31 : decode cX12_cellOf 31 = .ok (.iload_n 2, 1) := by decide +kernel
theorem dX12_cellOf_32 : decode cX12_cellOf 32 = .ok (.iaload, 1) := by decide +kernel
theorem dX12_cellOf_33 : decode cX12_cellOf 33 = .ok (.goto 9, 3) := by decide +kernel
theorem dX12_cellOf_36 : decode cX12_cellOf 36 = .ok (.aload_n 0, 1) := by decide +kernel
theorem dX12_cellOf_37 : decode cX12_cellOf 37 = .ok (.getfield 19, 3) := by decide +kernel
theorem dX12_cellOf_40 : decode cX12_cellOf 40 = .ok (.iload_n 1, 1) := by decide +kernel
theorem dX12_cellOf_41 : decode cX12_cellOf 41 = .ok (.iaload, 1) := by decide +kernel
theorem dX12_cellOf_42 : decode cX12_cellOf 42 = .ok (.ireturn, 1) := by decide +kernel
set_option maxRecDepth 20000 in
theorem ggX12_findLight_X12_shutsWalls : GoodIn wsX12_findLight wsX12_shutsWalls := goodIn_r _ [7, 8, 2, 22, 23, 24, 25, 26, 27, 28, 29, 30, 31, 32, 33, 34, 35, 36, 37, 38, 39, 40, 41, 42, 43, 44, 45, 46, 47, 48, 49, 50, 51, 52, 53, 54] (by decide +kernel) (by decide +kernel)
set_option maxRecDepth 20000 in
theorem gX12_findLight_X12_shutsWalls : GoodIn wsX12_findLight (wsV RX12 198 RX12 yX12_shutsWalls wsX12_shutsWalls) := goodIn_app (goodIn_of _ (by decide +kernel)) ggX12_findLight_X12_shutsWalls
set_option maxRecDepth 20000 in
theorem ggX12_findLight_X12_findFar : GoodIn wsX12_findLight wsX12_findFar := goodIn_r _ [12, 1, 13, 14, 15, 16, 17, 6, 18, 8, 19, 20, 21, 22, 23, 24, 25, 26, 27, 28, 29, 30, 31, 32, 33, 34, 35, 36, 37, 38, 39, 40, 41, 42, 43, 44, 45, 46, 47, 48, 49, 50, 51, 52, 53, 54] (by decide +kernel) (by decide +kernel)
set_option maxRecDepth 20000 in
theorem gX12_findLight_X12_findFar : GoodIn wsX12_findLight (wsV RX12 201 RX12 yX12_findFar wsX12_findFar) := goodIn_app (goodIn_of _ (by decide +kernel)) ggX12_findLight_X12_findFar
theorem dX12_findLight_0 : decode cX12_findLight 0 = .ok (.aload_n 0, 1) := by decide +kernel
theorem dX12_findLight_1 : decode cX12_findLight 1 = .ok (.invokevirtual 198, 3) := by decide +kernel
theorem dX12_findLight_4 : decode cX12_findLight 4 = .ok (.aload_n 0, 1) := by decide +kernel
theorem dX12_findLight_5 : decode cX12_findLight 5 = .ok (.iload_n 1, 1) := by decide +kernel
theorem dX12_findLight_6 : decode cX12_findLight 6 = .ok (.invokevirtual 201, 3) := by decide +kernel
theorem dX12_findLight_9 : decode cX12_findLight 9 = .ok (.iconst 0, 1) := by decide +kernel
theorem dX12_findLight_10 : decode cX12_findLight 10 = .ok (.istore_n 3, 1) := by decide +kernel
theorem dX12_findLight_11 : decode cX12_findLight 11 = .ok (.iload_n 3, 1) := by decide +kernel
theorem dX12_findLight_12 : decode cX12_findLight 12 = .ok (.bipush 36, 2) := by decide +kernel
theorem dX12_findLight_14 : decode cX12_findLight 14 = .ok (.if_icmp .ge 60, 3) := by decide +kernel
theorem dX12_findLight_17 : decode cX12_findLight 17 = .ok (.aload_n 0, 1) := by decide +kernel
theorem dX12_findLight_18 : decode cX12_findLight 18 = .ok (.getfield 58, 3) := by decide +kernel
theorem dX12_findLight_21 : decode cX12_findLight 21 = .ok (.iload_n 3, 1) := by decide +kernel
theorem dX12_findLight_22 : decode cX12_findLight 22 = .ok (.aload_n 0, 1) := by decide +kernel
theorem dX12_findLight_23 : decode cX12_findLight 23 = .ok (.getfield 13, 3) := by decide +kernel
theorem dX12_findLight_26 : decode cX12_findLight 26 = .ok (.iload_n 1, 1) := by decide +kernel
theorem dX12_findLight_27 : decode cX12_findLight 27 = .ok (.iaload, 1) := by decide +kernel
theorem dX12_findLight_28 : decode cX12_findLight 28 = .ok (.iconst 1, 1) := by decide +kernel
theorem dX12_findLight_29 : decode cX12_findLight 29 = .ok (.if_icmp .ne 17, 3) := by decide +kernel
theorem dX12_findLight_32 : decode cX12_findLight 32 = .ok (.iload_n 3, 1) := by decide +kernel
theorem dX12_findLight_33 : decode cX12_findLight 33 = .ok (.iload_n 1, 1) := by decide +kernel
theorem dX12_findLight_34 : decode cX12_findLight 34 = .ok (.if_icmp .ne 7, 3) := by decide +kernel
theorem dX12_findLight_37 : decode cX12_findLight 37 = .ok (.iconst 0, 1) := by decide +kernel
theorem dX12_findLight_38 : decode cX12_findLight 38 = .ok (.goto 29, 3) := by decide +kernel
theorem dX12_findLight_41 : decode cX12_findLight 41 = .ok (.bipush (-9), 2) := by decide +kernel
theorem dX12_findLight_43 : decode cX12_findLight 43 = .ok (.goto 24, 3) := by decide +kernel
theorem dX12_findLight_46 : decode cX12_findLight 46 = .ok (.aload_n 0, 1) := by decide +kernel
theorem dX12_findLight_47 : decode cX12_findLight 47 = .ok (.getfield 58, 3) := by decide +kernel
theorem dX12_findLight_50 : decode cX12_findLight 50 = .ok (.iload_n 3, 1) := by decide +kernel
theorem dX12_findLight_51 : decode cX12_findLight 51 = .ok (.iaload, 1) := by decide +kernel
theorem dX12_findLight_52 : decode cX12_findLight 52 = .ok (.iload_n 2, 1) := by decide +kernel
theorem dX12_findLight_53 : decode cX12_findLight 53 = .ok (.if_icmp .le 8, 3) := by decide +kernel
theorem dX12_findLight_56 : decode cX12_findLight 56 = .ok (.bipush (-9), 2) := by decide +kernel
theorem dX12_findLight_58 : decode cX12_findLight 58 = .ok (.goto 9, 3) := by decide +kernel
theorem dX12_findLight_61 : decode cX12_findLight 61 = .ok (.aload_n 0, 1) := by decide +kernel
theorem dX12_findLight_62 : decode cX12_findLight 62 = .ok (.getfield 58, 3) := by decide +kernel
theorem dX12_findLight_65 : decode cX12_findLight 65 = .ok (.iload_n 3, 1) := by decide +kernel
theorem dX12_findLight_66 : decode cX12_findLight 66 = .ok (.iaload, 1) := by decide +kernel
theorem dX12_findLight_67 : decode cX12_findLight 67 = .ok (.iastore, 1) := by decide +kernel
theorem dX12_findLight_68 : decode cX12_findLight 68 = .ok (.iinc 3 1, 3) := by decide +kernel
theorem dX12_findLight_71 : decode cX12_findLight 71 = .ok (.goto (-60), 3) := by decide +kernel
theorem dX12_findLight_74 : decode cX12_findLight 74 = .ok (.return_, 1) := by decide +kernel
set_option maxRecDepth 20000 in
theorem ggX12_findLit_X12_cellOf : GoodIn wsX12_findLit wsX12_cellOf := goodIn_r _ [9, 10, 11, 12, 13, 37, 38, 39, 40, 41, 42, 43, 44, 45, 46, 47, 48, 49, 50, 51, 52, 53, 54, 55, 56, 57, 58, 59, 60, 61, 62, 63, 64, 65, 66, 67, 68, 69] (by decide +kernel) (by decide +kernel)
set_option maxRecDepth 20000 in
theorem gX12_findLit_X12_cellOf : GoodIn wsX12_findLit (wsV RX12 205 RX12 yX12_cellOf wsX12_cellOf) := goodIn_app (goodIn_of _ (by decide +kernel)) ggX12_findLit_X12_cellOf
set_option maxRecDepth 20000 in
theorem ggX12_findLit_X12_findLight : GoodIn wsX12_findLit wsX12_findLight := goodIn_r _ [17, 4, 18, 19, 20, 21, 8, 22, 23, 24, 25, 26, 27, 28, 29, 30, 31, 32, 33, 34, 35, 36, 37, 38, 39, 40, 41, 42, 43, 44, 45, 46, 47, 48, 49, 50, 51, 52, 53, 54, 55, 56, 57, 58, 59, 60, 61, 62, 63, 64, 65, 66, 67, 68, 69] (by decide +kernel) (by decide +kernel)
set_option maxRecDepth 20000 in
theorem gX12_findLit_X12_findLight : GoodIn wsX12_findLit (wsV RX12 208 RX12 yX12_findLight wsX12_findLight) := goodIn_app (goodIn_of _ (by decide +kernel)) ggX12_findLit_X12_findLight
theorem dX12_findLit_0 : decode cX12_findLit 0 = .ok (.iconst 0, 1) := by decide +kernel
theorem dX12_findLit_1 : decode cX12_findLit 1 = .ok (.istore_n 1, 1) := by decide +kernel
theorem dX12_findLit_2 : decode cX12_findLit 2 = .ok (.iload_n 1, 1) := by decide +kernel
theorem dX12_findLit_3 : decode cX12_findLit 3 = .ok (.bipush 36, 2) := by decide +kernel
theorem dX12_findLit_5 : decode cX12_findLit 5 = .ok (.if_icmp .ge 16, 3) := by decide +kernel
theorem dX12_findLit_8 : decode cX12_findLit 8 = .ok (.aload_n 0, 1) := by decide +kernel
theorem dX12_findLit_9 : decode cX12_findLit 9 = .ok (.getfield 67, 3) := by decide +kernel
theorem dX12_findLit_12 : decode cX12_findLit 12 = .ok (.iload_n 1, 1) := by decide +kernel
theorem dX12_findLit_13 : decode cX12_findLit 13 = .ok (.iconst 0, 1) := by decide +kernel
theorem dX12_findLit_14 : decode cX12_findLit 14 = .ok (.iastore, 1) := by decide +kernel
theorem dX12_findLit_15 : decode cX12_findLit 15 = .ok (.iinc 1 1, 3) := by decide +kernel
theorem dX12_findLit_18 : decode cX12_findLit 18 = .ok (.goto (-16), 3) := by decide +kernel
theorem dX12_findLit_21 : decode cX12_findLit 21 = .ok (.iconst 0, 1) := by decide +kernel
theorem dX12_findLit_22 : decode cX12_findLit 22 = .ok (.istore_n 1, 1) := by decide +kernel
theorem dX12_findLit_23 : decode cX12_findLit 23 = .ok (.iload_n 1, 1) := by decide +kernel
theorem dX12_findLit_24 : decode cX12_findLit 24 = .ok (.aload_n 0, 1) := by decide +kernel
theorem dX12_findLit_25 : decode cX12_findLit 25 = .ok (.getfield 76, 3) := by decide +kernel
theorem dX12_findLit_28 : decode cX12_findLit 28 = .ok (.if_icmp .ge 63, 3) := by decide +kernel
theorem dX12_findLit_31 : decode cX12_findLit 31 = .ok (.aload_n 0, 1) := by decide +kernel
theorem dX12_findLit_32 : decode cX12_findLit 32 = .ok (.aload_n 0, 1) := by decide +kernel
theorem dX12_findLit_33 : decode cX12_findLit 33 = .ok (.iload_n 1, 1) := by decide +kernel
theorem dX12_findLit_34 : decode cX12_findLit 34 = .ok (.invokevirtual 205, 3) := by decide +kernel
theorem dX12_findLit_37 : decode cX12_findLit 37 = .ok (.aload_n 0, 1) := by decide +kernel
theorem dX12_findLit_38 : decode cX12_findLit 38 = .ok (.getfield 22, 3) := by decide +kernel
theorem dX12_findLit_41 : decode cX12_findLit 41 = .ok (.iload_n 1, 1) := by decide +kernel
theorem dX12_findLit_42 : decode cX12_findLit 42 = .ok (.iaload, 1) := by decide +kernel
theorem dX12_findLit_43 : decode cX12_findLit 43 = .ok (.invokevirtual 208, 3) := by decide +kernel
theorem dX12_findLit_46 : decode cX12_findLit 46 = .ok (.iconst 0, 1) := by decide +kernel
theorem dX12_findLit_47 : decode cX12_findLit 47 = .ok (.istore_n 2, 1) := by decide +kernel
theorem dX12_findLit_48 : decode cX12_findLit 48 = .ok (.iload_n 2, 1) := by decide +kernel
theorem dX12_findLit_49 : decode cX12_findLit 49 = .ok (.bipush 36, 2) := by decide +kernel
theorem dX12_findLit_51 : decode cX12_findLit 51 = .ok (.if_icmp .ge 34, 3) := by decide +kernel
theorem dX12_findLit_54 : decode cX12_findLit 54 = .ok (.aload_n 0, 1) := by decide +kernel
theorem dX12_findLit_55 : decode cX12_findLit 55 = .ok (.getfield 67, 3) := by decide +kernel
theorem dX12_findLit_58 : decode cX12_findLit 58 = .ok (.iload_n 2, 1) := by decide +kernel
theorem dX12_findLit_59 : decode cX12_findLit 59 = .ok (.dup2, 1) := by decide +kernel
theorem dX12_findLit_60 : decode cX12_findLit 60 = .ok (.iaload, 1) := by decide +kernel
theorem dX12_findLit_61 : decode cX12_findLit 61 = .ok (.aload_n 0, 1) := by decide +kernel
theorem dX12_findLit_62 : decode cX12_findLit 62 = .ok (.getfield 58, 3) := by decide +kernel
theorem dX12_findLit_65 : decode cX12_findLit 65 = .ok (.iload_n 2, 1) := by decide +kernel
theorem dX12_findLit_66 : decode cX12_findLit 66 = .ok (.iaload, 1) := by decide +kernel
theorem dX12_findLit_67 : decode cX12_findLit 67 = .ok (.ifCond .lt 9, 3) := by decide +kernel
theorem dX12_findLit_70 : decode cX12_findLit 70 = .ok (.iconst 1, 1) := by decide +kernel
theorem dX12_findLit_71 : decode cX12_findLit 71 = .ok (.iload_n 1, 1) := by decide +kernel
theorem dX12_findLit_72 : decode cX12_findLit 72 = .ok (.ishl, 1) := by decide +kernel
theorem dX12_findLit_73 : decode cX12_findLit 73 = .ok (.goto 4, 3) := by decide +kernel
theorem dX12_findLit_76 : decode cX12_findLit 76 = .ok (.iconst 0, 1) := by decide +kernel
theorem dX12_findLit_77 : decode cX12_findLit 77 = .ok (.ior, 1) := by decide +kernel
theorem dX12_findLit_78 : decode cX12_findLit 78 = .ok (.iastore, 1) := by decide +kernel
theorem dX12_findLit_79 : decode cX12_findLit 79 = .ok (.iinc 2 1, 3) := by decide +kernel
theorem dX12_findLit_82 : decode cX12_findLit 82 = .ok (.goto (-34), 3) := by decide +kernel
theorem dX12_findLit_85 : decode cX12_findLit 85 = .ok (.iinc 1 1, 3) := by decide +kernel
theorem dX12_findLit_88 : decode cX12_findLit 88 = .ok (.goto (-65), 3) := by decide +kernel
theorem dX12_findLit_91 : decode cX12_findLit 91 = .ok (.return_, 1) := by decide +kernel
theorem dX12_litBits_0 : decode cX12_litBits 0 = .ok (.iconst 0, 1) := by decide +kernel
theorem dX12_litBits_1 : decode cX12_litBits 1 = .ok (.istore_n 1, 1) := by decide +kernel
theorem dX12_litBits_2 : decode cX12_litBits 2 = .ok (.iconst 0, 1) := by decide +kernel
theorem dX12_litBits_3 : decode cX12_litBits 3 = .ok (.istore_n 2, 1) := by decide +kernel
theorem dX12_litBits_4 : decode cX12_litBits 4 = .ok (.iload_n 2, 1) := by decide +kernel
theorem dX12_litBits_5 : decode cX12_litBits 5 = .ok (.aload_n 0, 1) := by decide +kernel
theorem dX12_litBits_6 : decode cX12_litBits 6 = .ok (.getfield 76, 3) := by decide +kernel
theorem dX12_litBits_9 : decode cX12_litBits 9 = .ok (.if_icmp .ge 20, 3) := by decide +kernel
theorem dX12_litBits_12 : decode cX12_litBits 12 = .ok (.iload_n 1, 1) := by decide +kernel
theorem dX12_litBits_13 : decode cX12_litBits 13 = .ok (.aload_n 0, 1) := by decide +kernel
theorem dX12_litBits_14 : decode cX12_litBits 14 = .ok (.getfield 25, 3) := by decide +kernel
theorem dX12_litBits_17 : decode cX12_litBits 17 = .ok (.iload_n 2, 1) := by decide +kernel
theorem dX12_litBits_18 : decode cX12_litBits 18 = .ok (.iaload, 1) := by decide +kernel
theorem dX12_litBits_19 : decode cX12_litBits 19 = .ok (.iload_n 2, 1) := by decide +kernel
theorem dX12_litBits_20 : decode cX12_litBits 20 = .ok (.ishl, 1) := by decide +kernel
theorem dX12_litBits_21 : decode cX12_litBits 21 = .ok (.ior, 1) := by decide +kernel
theorem dX12_litBits_22 : decode cX12_litBits 22 = .ok (.istore_n 1, 1) := by decide +kernel
theorem dX12_litBits_23 : decode cX12_litBits 23 = .ok (.iinc 2 1, 3) := by decide +kernel
theorem dX12_litBits_26 : decode cX12_litBits 26 = .ok (.goto (-22), 3) := by decide +kernel
theorem dX12_litBits_29 : decode cX12_litBits 29 = .ok (.iload_n 1, 1) := by decide +kernel
theorem dX12_litBits_30 : decode cX12_litBits 30 = .ok (.ireturn, 1) := by decide +kernel
theorem dX12_keepsOf_0 : decode cX12_keepsOf 0 = .ok (.iload_n 0, 1) := by decide +kernel
theorem dX12_keepsOf_1 : decode cX12_keepsOf 1 = .ok (.iconst 2, 1) := by decide +kernel
theorem dX12_keepsOf_2 : decode cX12_keepsOf 2 = .ok (.if_icmp .ne 7, 3) := by decide +kernel
theorem dX12_keepsOf_5 : decode cX12_keepsOf 5 = .ok (.iconst 0, 1) := by decide +kernel
theorem dX12_keepsOf_6 : decode cX12_keepsOf 6 = .ok (.goto 14, 3) := by decide +kernel
theorem dX12_keepsOf_9 : decode cX12_keepsOf 9 = .ok (.iload_n 0, 1) := by decide +kernel
theorem dX12_keepsOf_10 : decode cX12_keepsOf 10 = .ok (.iconst 4, 1) := by decide +kernel
theorem dX12_keepsOf_11 : decode cX12_keepsOf 11 = .ok (.if_icmp .ne 7, 3) := by decide +kernel
theorem dX12_keepsOf_14 : decode cX12_keepsOf 14 = .ok (.iconst 3, 1) := by decide +kernel
theorem dX12_keepsOf_15 : decode cX12_keepsOf 15 = .ok (.goto 5, 3) := by decide +kernel
theorem dX12_keepsOf_18 : decode cX12_keepsOf 18 = .ok (.bipush 9, 2) := by decide +kernel
theorem dX12_keepsOf_20 : decode cX12_keepsOf 20 = .ok (.ireturn, 1) := by decide +kernel
theorem dX12_isNameless_0 : decode cX12_isNameless 0 = .ok (.iload_n 0, 1) := by decide +kernel
theorem dX12_isNameless_1 : decode cX12_isNameless 1 = .ok (.iconst 1, 1) := by decide +kernel
theorem dX12_isNameless_2 : decode cX12_isNameless 2 = .ok (.if_icmp .eq 8, 3) := by decide +kernel
theorem dX12_isNameless_5 : decode cX12_isNameless 5 = .ok (.iload_n 0, 1) := by decide +kernel
theorem dX12_isNameless_6 : decode cX12_isNameless 6 = .ok (.iconst 4, 1) := by decide +kernel
theorem dX12_isNameless_7 : decode cX12_isNameless 7 = .ok (.if_icmp .ne 7, 3) := by decide +kernel
theorem dX12_isNameless_10 : decode cX12_isNameless 10 = .ok (.iconst 1, 1) := by decide +kernel
theorem dX12_isNameless_11 : decode cX12_isNameless 11 = .ok (.goto 4, 3) := by decide +kernel
theorem dX12_isNameless_14 : decode cX12_isNameless 14 = .ok (.iconst 0, 1) := by decide +kernel
theorem dX12_isNameless_15 : decode cX12_isNameless 15 = .ok (.ireturn, 1) := by decide +kernel
theorem dX12_takesOut_0 : decode cX12_takesOut 0 = .ok (.aload_n 0, 1) := by decide +kernel
theorem dX12_takesOut_1 : decode cX12_takesOut 1 = .ok (.getfield 28, 3) := by decide +kernel
theorem dX12_takesOut_4 : decode cX12_takesOut 4 = .ok (.iload_n 1, 1) := by decide +kernel
theorem dX12_takesOut_5 : decode cX12_takesOut 5 = .ok (.dup2, 1) := by decide +kernel
theorem dX12_takesOut_6 : decode cX12_takesOut 6 = .ok (.iaload, 1) := by decide +kernel
theorem dX12_takesOut_7 : decode cX12_takesOut 7 = .ok (.iconst 1, 1) := by decide +kernel
theorem dX12_takesOut_8 : decode cX12_takesOut 8 = .ok (.isub, 1) := by decide +kernel
theorem dX12_takesOut_9 : decode cX12_takesOut 9 = .ok (.iastore, 1) := by decide +kernel
theorem dX12_takesOut_10 : decode cX12_takesOut 10 = .ok (.bipush 9, 2) := by decide +kernel
theorem dX12_takesOut_12 : decode cX12_takesOut 12 = .ok (.iload_n 1, 1) := by decide +kernel
theorem dX12_takesOut_13 : decode cX12_takesOut 13 = .ok (.imul, 1) := by decide +kernel
theorem dX12_takesOut_14 : decode cX12_takesOut 14 = .ok (.iload_n 2, 1) := by decide +kernel
theorem dX12_takesOut_15 : decode cX12_takesOut 15 = .ok (.iadd, 1) := by decide +kernel
theorem dX12_takesOut_16 : decode cX12_takesOut 16 = .ok (.istore_n 3, 1) := by decide +kernel
theorem dX12_takesOut_17 : decode cX12_takesOut 17 = .ok (.iload_n 3, 1) := by decide +kernel
theorem dX12_takesOut_18 : decode cX12_takesOut 18 = .ok (.bipush 9, 2) := by decide +kernel
theorem dX12_takesOut_20 : decode cX12_takesOut 20 = .ok (.iload_n 1, 1) := by decide +kernel
theorem dX12_takesOut_21 : decode cX12_takesOut 21 = .ok (.imul, 1) := by decide +kernel
theorem dX12_takesOut_22 : decode cX12_takesOut 22 = .ok (.aload_n 0, 1) := by decide +kernel
theorem dX12_takesOut_23 : decode cX12_takesOut 23 = .ok (.getfield 28, 3) := by decide +kernel
theorem dX12_takesOut_26 : decode cX12_takesOut 26 = .ok (.iload_n 1, 1) := by decide +kernel
theorem dX12_takesOut_27 : decode cX12_takesOut 27 = .ok (.iaload, 1) := by decide +kernel
theorem dX12_takesOut_28 : decode cX12_takesOut 28 = .ok (.iadd, 1) := by decide +kernel
theorem dX12_takesOut_29 : decode cX12_takesOut 29 = .ok (.if_icmp .ge 51, 3) := by decide +kernel
theorem dX12_takesOut_32 : decode cX12_takesOut 32 = .ok (.aload_n 0, 1) := by decide +kernel
theorem dX12_takesOut_33 : decode cX12_takesOut 33 = .ok (.getfield 31, 3) := by decide +kernel
theorem dX12_takesOut_36 : decode cX12_takesOut 36 = .ok (.iload_n 3, 1) := by decide +kernel
theorem dX12_takesOut_37 : decode cX12_takesOut 37 = .ok (.aload_n 0, 1) := by decide +kernel
theorem dX12_takesOut_38 : decode cX12_takesOut 38 = .ok (.getfield 31, 3) := by decide +kernel
theorem dX12_takesOut_41 : decode cX12_takesOut 41 = .ok (.iload_n 3, 1) := by decide +kernel
theorem dX12_takesOut_42 : decode cX12_takesOut 42 = .ok (.iconst 1, 1) := by decide +kernel
theorem dX12_takesOut_43 : decode cX12_takesOut 43 = .ok (.iadd, 1) := by decide +kernel
theorem dX12_takesOut_44 : decode cX12_takesOut 44 = .ok (.iaload, 1) := by decide +kernel
theorem dX12_takesOut_45 : decode cX12_takesOut 45 = .ok (.iastore, 1) := by decide +kernel
theorem dX12_takesOut_46 : decode cX12_takesOut 46 = .ok (.aload_n 0, 1) := by decide +kernel
theorem dX12_takesOut_47 : decode cX12_takesOut 47 = .ok (.getfield 34, 3) := by decide +kernel
theorem dX12_takesOut_50 : decode cX12_takesOut 50 = .ok (.iload_n 3, 1) := by decide +kernel
theorem dX12_takesOut_51 : decode cX12_takesOut 51 = .ok (.aload_n 0, 1) := by decide +kernel
theorem dX12_takesOut_52 : decode cX12_takesOut 52 = .ok (.getfield 34, 3) := by decide +kernel
theorem dX12_takesOut_55 : decode cX12_takesOut 55 = .ok (.iload_n 3, 1) := by decide +kernel
theorem dX12_takesOut_56 : decode cX12_takesOut 56 = .ok (.iconst 1, 1) := by decide +kernel
theorem dX12_takesOut_57 : decode cX12_takesOut 57 = .ok (.iadd, 1) := by decide +kernel
theorem dX12_takesOut_58 : decode cX12_takesOut 58 = .ok (.iaload, 1) := by decide +kernel
theorem dX12_takesOut_59 : decode cX12_takesOut 59 = .ok (.iastore, 1) := by decide +kernel
theorem dX12_takesOut_60 : decode cX12_takesOut 60 = .ok (.aload_n 0, 1) := by decide +kernel
theorem dX12_takesOut_61 : decode cX12_takesOut 61 = .ok (.getfield 37, 3) := by decide +kernel
theorem dX12_takesOut_64 : decode cX12_takesOut 64 = .ok (.iload_n 3, 1) := by decide +kernel
theorem dX12_takesOut_65 : decode cX12_takesOut 65 = .ok (.aload_n 0, 1) := by decide +kernel
theorem dX12_takesOut_66 : decode cX12_takesOut 66 = .ok (.getfield 37, 3) := by decide +kernel
theorem dX12_takesOut_69 : decode cX12_takesOut 69 = .ok (.iload_n 3, 1) := by decide +kernel
theorem dX12_takesOut_70 : decode cX12_takesOut 70 = .ok (.iconst 1, 1) := by decide +kernel
theorem dX12_takesOut_71 : decode cX12_takesOut 71 = .ok (.iadd, 1) := by decide +kernel
theorem dX12_takesOut_72 : decode cX12_takesOut 72 = .ok (.iaload, 1) := by decide +kernel
theorem dX12_takesOut_73 : decode cX12_takesOut 73 = .ok (.iastore, 1) := by decide +kernel
theorem dX12_takesOut_74 : decode cX12_takesOut 74 = .ok (.iinc 3 1, 3) := by decide +kernel
theorem dX12_takesOut_77 : decode cX12_takesOut 77 = .ok (.goto (-60), 3) := by decide +kernel
theorem dX12_takesOut_80 : decode cX12_takesOut 80 = .ok (.return_, 1) := by decide +kernel
set_option maxRecDepth 20000 in
theorem ggX12_keepsScene_X12_keepsOf : GoodIn wsX12_keepsScene wsX12_keepsOf := goodIn_r _ [10] (by decide +kernel) (by decide +kernel)
set_option maxRecDepth 20000 in
theorem gX12_keepsScene_X12_keepsOf : GoodIn wsX12_keepsScene (va_wsS RX12 211 yX12_keepsOf wsX12_keepsOf) := goodIn_app (goodIn_of _ (by decide +kernel)) ggX12_keepsScene_X12_keepsOf
set_option maxRecDepth 20000 in
theorem ggX12_keepsScene_X12_takesOut : GoodIn wsX12_keepsScene wsX12_takesOut := goodIn_r _ [14, 2, 4, 3, 5, 18, 19, 20, 21, 22, 23, 24, 25, 26, 27, 28, 29, 30, 31, 32, 33, 34, 35, 36, 37, 38, 39, 40, 41, 42, 43, 44, 45, 46, 47, 48, 49, 50] (by decide +kernel) (by decide +kernel)
set_option maxRecDepth 20000 in
theorem gX12_keepsScene_X12_takesOut : GoodIn wsX12_keepsScene (wsV RX12 214 RX12 yX12_takesOut wsX12_takesOut) := goodIn_app (goodIn_of _ (by decide +kernel)) ggX12_keepsScene_X12_takesOut
set_option maxRecDepth 20000 in
theorem ggX12_keepsScene_X12_isNameless : GoodIn wsX12_keepsScene wsX12_isNameless := goodIn_r _ [17] (by decide +kernel) (by decide +kernel)
set_option maxRecDepth 20000 in
theorem gX12_keepsScene_X12_isNameless : GoodIn wsX12_keepsScene (va_wsS RX12 217 yX12_isNameless wsX12_isNameless) := goodIn_app (goodIn_of _ (by decide +kernel)) ggX12_keepsScene_X12_isNameless
theorem dX12_keepsScene_0 : decode cX12_keepsScene 0 = .ok (.aload_n 0, 1) := by decide +kernel
theorem dX12_keepsScene_1 : decode cX12_keepsScene 1 = .ok (.getfield 16, 3) := by decide +kernel
theorem dX12_keepsScene_4 : decode cX12_keepsScene 4 = .ok (.iload_n 1, 1) := by decide +kernel
theorem dX12_keepsScene_5 : decode cX12_keepsScene 5 = .ok (.iaload, 1) := by decide +kernel
theorem dX12_keepsScene_6 : decode cX12_keepsScene 6 = .ok (.invokestatic 211, 3) := by decide +kernel
theorem dX12_keepsScene_9 : decode cX12_keepsScene 9 = .ok (.istore 4, 2) := by decide +kernel
theorem dX12_keepsScene_11 : decode cX12_keepsScene 11 = .ok (.iload 4, 2) := by decide +kernel
theorem dX12_keepsScene_13 : decode cX12_keepsScene 13 = .ok (.ifCond .ne 4, 3) := by decide +kernel
theorem dX12_keepsScene_16 : decode cX12_keepsScene 16 = .ok (.return_, 1) := by decide +kernel
theorem dX12_keepsScene_17 : decode cX12_keepsScene 17 = .ok (.iconst 0, 1) := by decide +kernel
theorem dX12_keepsScene_18 : decode cX12_keepsScene 18 = .ok (.istore 5, 2) := by decide +kernel
theorem dX12_keepsScene_20 : decode cX12_keepsScene 20 = .ok (.iload 5, 2) := by decide +kernel
theorem dX12_keepsScene_22 : decode cX12_keepsScene 22 = .ok (.aload_n 0, 1) := by decide +kernel
theorem dX12_keepsScene_23 : decode cX12_keepsScene 23 = .ok (.getfield 28, 3) := by decide +kernel
theorem dX12_keepsScene_26 : decode cX12_keepsScene 26 = .ok (.iload_n 1, 1) := by decide +kernel
theorem dX12_keepsScene_27 : decode cX12_keepsScene 27 = .ok (.iaload, 1) := by decide +kernel
theorem dX12_keepsScene_28 : decode cX12_keepsScene 28 = .ok (.if_icmp .ge 48, 3) := by decide +kernel
theorem dX12_keepsScene_31 : decode cX12_keepsScene 31 = .ok (.aload_n 0, 1) := by decide +kernel
theorem dX12_keepsScene_32 : decode cX12_keepsScene 32 = .ok (.getfield 16, 3) := by decide +kernel
theorem dX12_keepsScene_35 : decode cX12_keepsScene 35 = .ok (.iload_n 1, 1) := by decide +kernel
theorem dX12_keepsScene_36 : decode cX12_keepsScene 36 = .ok (.iaload, 1) := by decide +kernel
theorem dX12_keepsScene_37 : decode cX12_keepsScene 37 = .ok (.iconst 5, 1) := by decide +kernel
theorem dX12_keepsScene_38 : decode cX12_keepsScene 38 = .ok (.if_icmp .lt 38, 3) := by decide +kernel
theorem dX12_keepsScene_41 : decode cX12_keepsScene 41 = .ok (.aload_n 0, 1) := by decide +kernel
theorem dX12_keepsScene_42 : decode cX12_keepsScene 42 = .ok (.getfield 34, 3) := by decide +kernel
theorem dX12_keepsScene_45 : decode cX12_keepsScene 45 = .ok (.bipush 9, 2) := by decide +kernel
theorem dX12_keepsScene_47 : decode cX12_keepsScene 47 = .ok (.iload_n 1, 1) := by decide +kernel
theorem dX12_keepsScene_48 : decode cX12_keepsScene 48 = .ok (.imul, 1) := by decide +kernel
theorem dX12_keepsScene_49 : decode cX12_keepsScene 49 = .ok (.iload 5, 2) := by decide +kernel
theorem dX12_keepsScene_51 : decode cX12_keepsScene 51 = .ok (.iadd, 1) := by decide +kernel
theorem dX12_keepsScene_52 : decode cX12_keepsScene 52 = .ok (.iaload, 1) := by decide +kernel
theorem dX12_keepsScene_53 : decode cX12_keepsScene 53 = .ok (.iload_n 3, 1) := by decide +kernel
theorem dX12_keepsScene_54 : decode cX12_keepsScene 54 = .ok (.if_icmp .eq 6, 3) := by decide +kernel
theorem dX12_keepsScene_57 : decode cX12_keepsScene 57 = .ok (.goto 13, 3) := by decide +kernel
theorem dX12_keepsScene_60 : decode cX12_keepsScene 60 = .ok (.aload_n 0, 1) := by decide +kernel
theorem dX12_keepsScene_61 : decode cX12_keepsScene 61 = .ok (.iload_n 1, 1) := by decide +kernel
theorem dX12_keepsScene_62 : decode cX12_keepsScene 62 = .ok (.iload 5, 2) := by decide +kernel
theorem dX12_keepsScene_64 : decode cX12_keepsScene 64 = .ok (.invokevirtual 214, 3) := by decide +kernel
theorem dX12_keepsScene_67 : decode cX12_keepsScene 67 = .ok (.goto 9, 3) := by decide +kernel
theorem dX12_keepsScene_70 : decode cX12_keepsScene 70 = .ok (.iinc 5 1, 3) := by decide +kernel
theorem dX12_keepsScene_73 : decode cX12_keepsScene 73 = .ok (.goto (-53), 3) := by decide +kernel
theorem dX12_keepsScene_76 : decode cX12_keepsScene 76 = .ok (.aload_n 0, 1) := by decide +kernel
theorem dX12_keepsScene_77 : decode cX12_keepsScene 77 = .ok (.getfield 28, 3) := by decide +kernel
theorem dX12_keepsScene_80 : decode cX12_keepsScene 80 = .ok (.iload_n 1, 1) := by decide +kernel
theorem dX12_keepsScene_81 : decode cX12_keepsScene 81 = .ok (.iaload, 1) := by decide +kernel
theorem dX12_keepsScene_82 : decode cX12_keepsScene 82 = .ok (.iload 4, 2) := by decide +kernel
theorem dX12_keepsScene_84 : decode cX12_keepsScene 84 = .ok (.if_icmp .ne 9, 3) := by decide +kernel
theorem dX12_keepsScene_87 : decode cX12_keepsScene 87 = .ok (.aload_n 0, 1) := by decide +kernel
theorem dX12_keepsScene_88 : decode cX12_keepsScene 88 = .ok (.iload_n 1, 1) := by decide +kernel
theorem dX12_keepsScene_89 : decode cX12_keepsScene 89 = .ok (.iconst 0, 1) := by decide +kernel
theorem dX12_keepsScene_90 : decode cX12_keepsScene 90 = .ok (.invokevirtual 214, 3) := by decide +kernel
theorem dX12_keepsScene_93 : decode cX12_keepsScene 93 = .ok (.bipush 9, 2) := by decide +kernel
theorem dX12_keepsScene_95 : decode cX12_keepsScene 95 = .ok (.iload_n 1, 1) := by decide +kernel
theorem dX12_keepsScene_96 : decode cX12_keepsScene 96 = .ok (.imul, 1) := by decide +kernel
theorem dX12_keepsScene_97 : decode cX12_keepsScene 97 = .ok (.aload_n 0, 1) := by decide +kernel
theorem dX12_keepsScene_98 : decode cX12_keepsScene 98 = .ok (.getfield 28, 3) := by decide +kernel
theorem dX12_keepsScene_101 : decode cX12_keepsScene 101 = .ok (.iload_n 1, 1) := by decide +kernel
theorem dX12_keepsScene_102 : decode cX12_keepsScene 102 = .ok (.iaload, 1) := by decide +kernel
theorem dX12_keepsScene_103 : decode cX12_keepsScene 103 = .ok (.iadd, 1) := by decide +kernel
theorem dX12_keepsScene_104 : decode cX12_keepsScene 104 = .ok (.istore 5, 2) := by decide +kernel
theorem dX12_keepsScene_106 : decode cX12_keepsScene 106 = .ok (.aload_n 0, 1) := by decide +kernel
theorem dX12_keepsScene_107 : decode cX12_keepsScene 107 = .ok (.getfield 31, 3) := by decide +kernel
theorem dX12_keepsScene_110 : decode cX12_keepsScene 110 = .ok (.iload 5, 2) := by decide +kernel
theorem dX12_keepsScene_112 : decode cX12_keepsScene 112 = .ok (.aload_n 0, 1) := by decide +kernel
theorem dX12_keepsScene_113 : decode cX12_keepsScene 113 = .ok (.getfield 16, 3) := by decide +kernel
theorem dX12_keepsScene_116 : decode cX12_keepsScene 116 = .ok (.iload_n 1, 1) := by decide +kernel
theorem dX12_keepsScene_117 : decode cX12_keepsScene 117 = .ok (.iaload, 1) := by decide +kernel
theorem dX12_keepsScene_118 : decode cX12_keepsScene 118 = .ok (.invokestatic 217, 3) := by decide +kernel
theorem dX12_keepsScene_121 : decode cX12_keepsScene 121 = .ok (.ifCond .eq 8, 3) := by decide +kernel
theorem dX12_keepsScene_124 : decode cX12_keepsScene 124 = .ok (.bipush 9, 2) := by decide +kernel
theorem dX12_keepsScene_126 : decode cX12_keepsScene 126 = .ok (.goto 4, 3) := by decide +kernel
theorem dX12_keepsScene_129 : decode cX12_keepsScene 129 = .ok (.iload_n 2, 1) := by decide +kernel
theorem dX12_keepsScene_130 : decode cX12_keepsScene 130 = .ok (.iastore, 1) := by decide +kernel
theorem dX12_keepsScene_131 : decode cX12_keepsScene 131 = .ok (.aload_n 0, 1) := by decide +kernel
theorem dX12_keepsScene_132 : decode cX12_keepsScene 132 = .ok (.getfield 34, 3) := by decide +kernel
theorem dX12_keepsScene_135 : decode cX12_keepsScene 135 = .ok (.iload 5, 2) := by decide +kernel
theorem dX12_keepsScene_137 : decode cX12_keepsScene 137 = .ok (.iload_n 3, 1) := by decide +kernel
theorem dX12_keepsScene_138 : decode cX12_keepsScene 138 = .ok (.iastore, 1) := by decide +kernel
theorem dX12_keepsScene_139 : decode cX12_keepsScene 139 = .ok (.aload_n 0, 1) := by decide +kernel
theorem dX12_keepsScene_140 : decode cX12_keepsScene 140 = .ok (.getfield 37, 3) := by decide +kernel
theorem dX12_keepsScene_143 : decode cX12_keepsScene 143 = .ok (.iload 5, 2) := by decide +kernel
theorem dX12_keepsScene_145 : decode cX12_keepsScene 145 = .ok (.aload_n 0, 1) := by decide +kernel
theorem dX12_keepsScene_146 : decode cX12_keepsScene 146 = .ok (.getfield 139, 3) := by decide +kernel
theorem dX12_keepsScene_149 : decode cX12_keepsScene 149 = .ok (.iastore, 1) := by decide +kernel
theorem dX12_keepsScene_150 : decode cX12_keepsScene 150 = .ok (.aload_n 0, 1) := by decide +kernel
theorem dX12_keepsScene_151 : decode cX12_keepsScene 151 = .ok (.getfield 28, 3) := by decide +kernel
theorem dX12_keepsScene_154 : decode cX12_keepsScene 154 = .ok (.iload_n 1, 1) := by decide +kernel
theorem dX12_keepsScene_155 : decode cX12_keepsScene 155 = .ok (.dup2, 1) := by decide +kernel
theorem dX12_keepsScene_156 : decode cX12_keepsScene 156 = .ok (.iaload, 1) := by decide +kernel
theorem dX12_keepsScene_157 : decode cX12_keepsScene 157 = .ok (.iconst 1, 1) := by decide +kernel
theorem dX12_keepsScene_158 : decode cX12_keepsScene 158 = .ok (.iadd, 1) := by decide +kernel
theorem dX12_keepsScene_159 : decode cX12_keepsScene 159 = .ok (.iastore, 1) := by decide +kernel
theorem dX12_keepsScene_160 : decode cX12_keepsScene 160 = .ok (.return_, 1) := by decide +kernel
set_option maxRecDepth 20000 in
theorem ggX12_stepsTo_X12_findLit : GoodIn wsX12_stepsTo wsX12_findLit := goodIn_r _ [10, 5, 3, 11, 12, 13, 14, 15, 9, 16, 17, 18, 19, 1, 20, 21, 22, 23, 24, 25, 26, 27, 28, 29, 30, 31, 32, 33, 34, 35, 36, 37, 38, 39, 40, 41, 42, 64, 65, 66, 67, 68, 69, 70, 71, 72, 73, 74, 75, 76, 77, 78, 79, 80, 81, 82, 83, 84, 85, 86, 87, 88, 89, 90, 91, 92, 93, 94, 95, 96] (by decide +kernel) (by decide +kernel)
set_option maxRecDepth 20000 in
theorem gX12_stepsTo_X12_findLit : GoodIn wsX12_stepsTo (wsV RX12 220 RX12 yX12_findLit wsX12_findLit) := goodIn_app (goodIn_of _ (by decide +kernel)) ggX12_stepsTo_X12_findLit
set_option maxRecDepth 20000 in
theorem ggX12_stepsTo_X12_has : GoodIn wsX12_stepsTo wsX12_has := goodIn_r _ [45] (by decide +kernel) (by decide +kernel)
set_option maxRecDepth 20000 in
theorem gX12_stepsTo_X12_has : GoodIn wsX12_stepsTo (va_wsS RX12 223 yX12_has wsX12_has) := goodIn_app (goodIn_of _ (by decide +kernel)) ggX12_stepsTo_X12_has
set_option maxRecDepth 20000 in
theorem ggX12_stepsTo_X12_keepsScene : GoodIn wsX12_stepsTo wsX12_keepsScene := goodIn_r _ [49, 18, 50, 51, 52, 53, 2, 54, 55, 9, 56, 57, 58, 59, 60, 61, 62, 63, 64, 65, 66, 67, 68, 69, 70, 71, 72, 73, 74, 75, 76, 77, 78, 79, 80, 81, 82, 83, 84, 85, 86, 87, 88, 89, 90, 91, 92, 93, 94, 95, 96] (by decide +kernel) (by decide +kernel)
set_option maxRecDepth 20000 in
theorem gX12_stepsTo_X12_keepsScene : GoodIn wsX12_stepsTo (wsV RX12 226 RX12 yX12_keepsScene wsX12_keepsScene) := goodIn_app (goodIn_of _ (by decide +kernel)) ggX12_stepsTo_X12_keepsScene
theorem dX12_stepsTo_0 : decode cX12_stepsTo 0 = .ok (.aload_n 0, 1) := by decide +kernel
theorem dX12_stepsTo_1 : decode cX12_stepsTo 1 = .ok (.getfield 40, 3) := by decide +kernel
theorem dX12_stepsTo_4 : decode cX12_stepsTo 4 = .ok (.iload_n 1, 1) := by decide +kernel
theorem dX12_stepsTo_5 : decode cX12_stepsTo 5 = .ok (.iload_n 2, 1) := by decide +kernel
theorem dX12_stepsTo_6 : decode cX12_stepsTo 6 = .ok (.iastore, 1) := by decide +kernel
theorem dX12_stepsTo_7 : decode cX12_stepsTo 7 = .ok (.aload_n 0, 1) := by decide +kernel
theorem dX12_stepsTo_8 : decode cX12_stepsTo 8 = .ok (.dup, 1) := by decide +kernel
theorem dX12_stepsTo_9 : decode cX12_stepsTo 9 = .ok (.getfield 139, 3) := by decide +kernel
theorem dX12_stepsTo_12 : decode cX12_stepsTo 12 = .ok (.iconst 1, 1) := by decide +kernel
theorem dX12_stepsTo_13 : decode cX12_stepsTo 13 = .ok (.iadd, 1) := by decide +kernel
theorem dX12_stepsTo_14 : decode cX12_stepsTo 14 = .ok (.putfield 139, 3) := by decide +kernel
theorem dX12_stepsTo_17 : decode cX12_stepsTo 17 = .ok (.aload_n 0, 1) := by decide +kernel
theorem dX12_stepsTo_18 : decode cX12_stepsTo 18 = .ok (.invokevirtual 220, 3) := by decide +kernel
theorem dX12_stepsTo_21 : decode cX12_stepsTo 21 = .ok (.iconst 0, 1) := by decide +kernel
theorem dX12_stepsTo_22 : decode cX12_stepsTo 22 = .ok (.istore_n 3, 1) := by decide +kernel
theorem dX12_stepsTo_23 : decode cX12_stepsTo 23 = .ok (.iload_n 3, 1) := by decide +kernel
theorem dX12_stepsTo_24 : decode cX12_stepsTo 24 = .ok (.aload_n 0, 1) := by decide +kernel
theorem dX12_stepsTo_25 : decode cX12_stepsTo 25 = .ok (.getfield 76, 3) := by decide +kernel
theorem dX12_stepsTo_28 : decode cX12_stepsTo 28 = .ok (.if_icmp .ge 39, 3) := by decide +kernel
theorem dX12_stepsTo_31 : decode cX12_stepsTo 31 = .ok (.aload_n 0, 1) := by decide +kernel
theorem dX12_stepsTo_32 : decode cX12_stepsTo 32 = .ok (.getfield 25, 3) := by decide +kernel
theorem dX12_stepsTo_35 : decode cX12_stepsTo 35 = .ok (.iload_n 3, 1) := by decide +kernel
theorem dX12_stepsTo_36 : decode cX12_stepsTo 36 = .ok (.iaload, 1) := by decide +kernel
theorem dX12_stepsTo_37 : decode cX12_stepsTo 37 = .ok (.iconst 1, 1) := by decide +kernel
theorem dX12_stepsTo_38 : decode cX12_stepsTo 38 = .ok (.if_icmp .ne 23, 3) := by decide +kernel
theorem dX12_stepsTo_41 : decode cX12_stepsTo 41 = .ok (.aload_n 0, 1) := by decide +kernel
theorem dX12_stepsTo_42 : decode cX12_stepsTo 42 = .ok (.getfield 67, 3) := by decide +kernel
theorem dX12_stepsTo_45 : decode cX12_stepsTo 45 = .ok (.iload_n 2, 1) := by decide +kernel
theorem dX12_stepsTo_46 : decode cX12_stepsTo 46 = .ok (.iaload, 1) := by decide +kernel
theorem dX12_stepsTo_47 : decode cX12_stepsTo 47 = .ok (.iload_n 3, 1) := by decide +kernel
theorem dX12_stepsTo_48 : decode cX12_stepsTo 48 = .ok (.invokestatic 223, 3) := by decide +kernel
theorem dX12_stepsTo_51 : decode cX12_stepsTo 51 = .ok (.ifCond .eq 10, 3) := by decide +kernel
theorem dX12_stepsTo_54 : decode cX12_stepsTo 54 = .ok (.aload_n 0, 1) := by decide +kernel
theorem dX12_stepsTo_55 : decode cX12_stepsTo 55 = .ok (.iload_n 3, 1) := by decide +kernel
theorem dX12_stepsTo_56 : decode cX12_stepsTo 56 = .ok (.iload_n 1, 1) := by decide +kernel
theorem dX12_stepsTo_57 : decode cX12_stepsTo 57 = .ok (.iload_n 2, 1) := by decide +kernel
theorem dX12_stepsTo_58 : decode cX12_stepsTo 58 = .ok (.invokevirtual 226, 3) := by decide +kernel
theorem dX12_stepsTo_61 : decode cX12_stepsTo 61 = .ok (.iinc 3 1, 3) := by decide +kernel
theorem dX12_stepsTo_64 : decode cX12_stepsTo 64 = .ok (.goto (-41), 3) := by decide +kernel
theorem dX12_stepsTo_67 : decode cX12_stepsTo 67 = .ok (.return_, 1) := by decide +kernel
set_option maxRecDepth 20000 in
theorem ggX12_goesTo_X12_shutsWalls : GoodIn wsX12_goesTo wsX12_shutsWalls := goodIn_r _ [7, 8, 9, 68, 69, 70, 71, 72, 73, 74, 75, 76, 77, 78, 79, 80, 81, 82, 83, 84, 85, 86, 87, 88, 89, 90, 91, 92, 93, 94, 95, 96, 97, 98, 99, 100] (by decide +kernel) (by decide +kernel)
set_option maxRecDepth 20000 in
theorem gX12_goesTo_X12_shutsWalls : GoodIn wsX12_goesTo (wsV RX12 198 RX12 yX12_shutsWalls wsX12_shutsWalls) := goodIn_app (goodIn_of _ (by decide +kernel)) ggX12_goesTo_X12_shutsWalls
set_option maxRecDepth 20000 in
theorem ggX12_goesTo_X12_findFar : GoodIn wsX12_goesTo wsX12_findFar := goodIn_r _ [13, 2, 14, 15, 16, 17, 18, 6, 19, 8, 20, 21, 22, 68, 69, 70, 71, 72, 73, 74, 75, 76, 77, 78, 79, 80, 81, 82, 83, 84, 85, 86, 87, 88, 89, 90, 91, 92, 93, 94, 95, 96, 97, 98, 99, 100] (by decide +kernel) (by decide +kernel)
set_option maxRecDepth 20000 in
theorem gX12_goesTo_X12_findFar : GoodIn wsX12_goesTo (wsV RX12 201 RX12 yX12_findFar wsX12_findFar) := goodIn_app (goodIn_of _ (by decide +kernel)) ggX12_goesTo_X12_findFar
set_option maxRecDepth 20000 in
theorem ggX12_goesTo_X12_beside : GoodIn wsX12_goesTo wsX12_beside := goodIn_r _ [22] (by decide +kernel) (by decide +kernel)
set_option maxRecDepth 20000 in
theorem gX12_goesTo_X12_beside : GoodIn wsX12_goesTo (va_wsS RX12 195 yX12_beside wsX12_beside) := goodIn_app (goodIn_of _ (by decide +kernel)) ggX12_goesTo_X12_beside
set_option maxRecDepth 20000 in
theorem ggX12_goesTo_X12_stepsTo : GoodIn wsX12_goesTo wsX12_stepsTo := goodIn_r _ [26, 1, 27, 28, 29, 30, 31, 32, 33, 6, 34, 35, 2, 36, 37, 38, 39, 40, 41, 42, 43, 44, 45, 46, 9, 3, 4, 5, 7, 8, 10, 11, 12, 13, 14, 15, 16, 17, 18, 19, 20, 21, 22, 47, 48, 49, 50, 51, 52, 53, 54, 55, 56, 57, 58, 59, 60, 61, 62, 63, 64, 65, 66, 67, 68, 69, 70, 71, 72, 73, 74, 75, 76, 77, 78, 79, 80, 81, 82, 83, 84, 85, 86, 87, 88, 89, 90, 91, 92, 93, 94, 95, 96, 97, 98, 99, 100] (by decide +kernel) (by decide +kernel)
set_option maxRecDepth 20000 in
theorem gX12_goesTo_X12_stepsTo : GoodIn wsX12_goesTo (wsV RX12 230 RX12 yX12_stepsTo wsX12_stepsTo) := goodIn_app (goodIn_of _ (by decide +kernel)) ggX12_goesTo_X12_stepsTo
theorem dX12_goesTo_0 : decode cX12_goesTo 0 = .ok (.iconst 0, 1) := by decide +kernel
theorem dX12_goesTo_1 : decode cX12_goesTo 1 = .ok (.istore_n 3, 1) := by decide +kernel
theorem dX12_goesTo_2 : decode cX12_goesTo 2 = .ok (.aload_n 0, 1) := by decide +kernel
theorem dX12_goesTo_3 : decode cX12_goesTo 3 = .ok (.getfield 40, 3) := by decide +kernel
theorem dX12_goesTo_6 : decode cX12_goesTo 6 = .ok (.iload_n 1, 1) := by decide +kernel
theorem dX12_goesTo_7 : decode cX12_goesTo 7 = .ok (.iaload, 1) := by decide +kernel
theorem dX12_goesTo_8 : decode cX12_goesTo 8 = .ok (.iload_n 2, 1) := by decide +kernel
theorem dX12_goesTo_9 : decode cX12_goesTo 9 = .ok (.if_icmp .eq 101, 3) := by decide +kernel
theorem dX12_goesTo_12 : decode cX12_goesTo 12 = .ok (.aload_n 0, 1) := by decide +kernel
theorem dX12_goesTo_13 : decode cX12_goesTo 13 = .ok (.invokevirtual 198, 3) := by decide +kernel
theorem dX12_goesTo_16 : decode cX12_goesTo 16 = .ok (.aload_n 0, 1) := by decide +kernel
theorem dX12_goesTo_17 : decode cX12_goesTo 17 = .ok (.iload_n 2, 1) := by decide +kernel
theorem dX12_goesTo_18 : decode cX12_goesTo 18 = .ok (.invokevirtual 201, 3) := by decide +kernel
theorem dX12_goesTo_21 : decode cX12_goesTo 21 = .ok (.bipush (-9), 2) := by decide +kernel
theorem dX12_goesTo_23 : decode cX12_goesTo 23 = .ok (.istore 4, 2) := by decide +kernel
theorem dX12_goesTo_25 : decode cX12_goesTo 25 = .ok (.iconst 0, 1) := by decide +kernel
theorem dX12_goesTo_26 : decode cX12_goesTo 26 = .ok (.istore 5, 2) := by decide +kernel
theorem dX12_goesTo_28 : decode cX12_goesTo 28 = .ok (.iload 5, 2) := by decide +kernel
theorem dX12_goesTo_30 : decode cX12_goesTo 30 = .ok (.iconst 4, 1) := by decide +kernel
theorem dX12_goesTo_31 : decode cX12_goesTo 31 = .ok (.if_icmp .ge 66, 3) := by decide +kernel
theorem dX12_goesTo_34 : decode cX12_goesTo 34 = .ok (.aload_n 0, 1) := by decide +kernel
theorem dX12_goesTo_35 : decode cX12_goesTo 35 = .ok (.getfield 40, 3) := by decide +kernel
theorem dX12_goesTo_38 : decode cX12_goesTo 38 = .ok (.iload_n 1, 1) := by decide +kernel
theorem dX12_goesTo_39 : decode cX12_goesTo 39 = .ok (.iaload, 1) := by decide +kernel
theorem dX12_goesTo_40 : decode cX12_goesTo 40 = .ok (.iload 5, 2) := by decide +kernel
theorem dX12_goesTo_42 : decode cX12_goesTo 42 = .ok (.invokestatic 195, 3) := by decide +kernel
theorem dX12_goesTo_45 : decode cX12_goesTo 45 = .ok (.istore 6, 2) := by decide +kernel
theorem dX12_goesTo_47 : decode cX12_goesTo 47 = .ok (.iload 6, 2) := by decide +kernel
theorem dX12_goesTo_49 : decode cX12_goesTo 49 = .ok (.ifCond .lt 42, 3) := by decide +kernel
theorem dX12_goesTo_52 : decode cX12_goesTo 52 = .ok (.aload_n 0, 1) := by decide +kernel
theorem dX12_goesTo_53 : decode cX12_goesTo 53 = .ok (.getfield 58, 3) := by decide +kernel
theorem dX12_goesTo_56 : decode cX12_goesTo 56 = .ok (.iload 6, 2) := by decide +kernel
theorem dX12_goesTo_58 : decode cX12_goesTo 58 = .ok (.iaload, 1) := by decide +kernel
theorem dX12_goesTo_59 : decode cX12_goesTo 59 = .ok (.aload_n 0, 1) := by decide +kernel
theorem dX12_goesTo_60 : decode cX12_goesTo 60 = .ok (.getfield 58, 3) := by decide +kernel
theorem dX12_goesTo_63 : decode cX12_goesTo 63 = .ok (.aload_n 0, 1) := by decide +kernel
theorem dX12_goesTo_64 : decode cX12_goesTo 64 = .ok (.getfield 40, 3) := by decide +kernel
theorem dX12_goesTo_67 : decode cX12_goesTo 67 = .ok (.iload_n 1, 1) := by decide +kernel
theorem dX12_goesTo_68 : decode cX12_goesTo 68 = .ok (.iaload, 1) := by decide +kernel
theorem dX12_goesTo_69 : decode cX12_goesTo 69 = .ok (.iaload, 1) := by decide +kernel
theorem dX12_goesTo_70 : decode cX12_goesTo 70 = .ok (.iconst 1, 1) := by decide +kernel
theorem dX12_goesTo_71 : decode cX12_goesTo 71 = .ok (.isub, 1) := by decide +kernel
theorem dX12_goesTo_72 : decode cX12_goesTo 72 = .ok (.if_icmp .ne 19, 3) := by decide +kernel
theorem dX12_goesTo_75 : decode cX12_goesTo 75 = .ok (.iload 4, 2) := by decide +kernel
theorem dX12_goesTo_77 : decode cX12_goesTo 77 = .ok (.ifCond .lt 10, 3) := by decide +kernel
theorem dX12_goesTo_80 : decode cX12_goesTo 80 = .ok (.iload 6, 2) := by decide +kernel
theorem dX12_goesTo_82 : decode cX12_goesTo 82 = .ok (.iload 4, 2) := by decide +kernel
theorem dX12_goesTo_84 : decode cX12_goesTo 84 = .ok (.if_icmp .ge 7, 3) := by decide +kernel
theorem dX12_goesTo_87 : decode cX12_goesTo 87 = .ok (.iload 6, 2) := by decide +kernel
theorem dX12_goesTo_89 : decode cX12_goesTo 89 = .ok (.istore 4, 2) := by decide +kernel
theorem dX12_goesTo_91 : decode cX12_goesTo 91 = .ok (.iinc 5 1, 3) := by decide +kernel
theorem dX12_goesTo_94 : decode cX12_goesTo 94 = .ok (.goto (-66), 3) := by decide +kernel
theorem dX12_goesTo_97 : decode cX12_goesTo 97 = .ok (.aload_n 0, 1) := by decide +kernel
theorem dX12_goesTo_98 : decode cX12_goesTo 98 = .ok (.iload_n 1, 1) := by decide +kernel
theorem dX12_goesTo_99 : decode cX12_goesTo 99 = .ok (.iload 4, 2) := by decide +kernel
theorem dX12_goesTo_101 : decode cX12_goesTo 101 = .ok (.invokevirtual 230, 3) := by decide +kernel
theorem dX12_goesTo_104 : decode cX12_goesTo 104 = .ok (.iinc 3 1, 3) := by decide +kernel
theorem dX12_goesTo_107 : decode cX12_goesTo 107 = .ok (.goto (-105), 3) := by decide +kernel
theorem dX12_goesTo_110 : decode cX12_goesTo 110 = .ok (.iload_n 3, 1) := by decide +kernel
theorem dX12_goesTo_111 : decode cX12_goesTo 111 = .ok (.ireturn, 1) := by decide +kernel
set_option maxRecDepth 20000 in
theorem ggX12_lamp_X12_isLamp : GoodIn wsX12_lamp wsX12_isLamp := goodIn_r _ [9, 10, 56, 57, 58, 59, 60, 61, 62, 63, 64, 65, 66, 67, 68, 69, 70, 71, 72, 73, 74, 75, 76, 77, 78, 79, 80, 81, 82, 83, 84, 85, 86, 87, 88] (by decide +kernel) (by decide +kernel)
set_option maxRecDepth 20000 in
theorem gX12_lamp_X12_isLamp : GoodIn wsX12_lamp (wsV RX12 157 RX12 yX12_isLamp wsX12_isLamp) := goodIn_app (goodIn_of _ (by decide +kernel)) ggX12_lamp_X12_isLamp
set_option maxRecDepth 20000 in
theorem ggX12_lamp_X12_no : GoodIn wsX12_lamp wsX12_no := goodIn_r _ [14, 15, 56, 57, 58, 59, 60, 61, 62, 63, 64, 65, 66, 67, 68, 69, 70, 71, 72, 73, 74, 75, 76, 77, 78, 79, 80, 81, 82, 83, 84, 85, 86, 87, 88] (by decide +kernel) (by decide +kernel)
set_option maxRecDepth 20000 in
theorem gX12_lamp_X12_no : GoodIn wsX12_lamp (wsV RX12 91 RX12 yX12_no wsX12_no) := goodIn_app (goodIn_of _ (by decide +kernel)) ggX12_lamp_X12_no
set_option maxRecDepth 20000 in
theorem ggX12_lamp_X12_cellOf : GoodIn wsX12_lamp wsX12_cellOf := goodIn_r _ [19, 20, 1, 21, 22, 56, 57, 58, 59, 60, 61, 62, 63, 64, 65, 66, 67, 68, 69, 70, 71, 72, 73, 74, 75, 76, 77, 78, 79, 80, 81, 82, 83, 84, 85, 86, 87, 88] (by decide +kernel) (by decide +kernel)
set_option maxRecDepth 20000 in
theorem gX12_lamp_X12_cellOf : GoodIn wsX12_lamp (wsV RX12 205 RX12 yX12_cellOf wsX12_cellOf) := goodIn_app (goodIn_of _ (by decide +kernel)) ggX12_lamp_X12_cellOf
set_option maxRecDepth 20000 in
theorem ggX12_lamp_X12_cellsLitBy : GoodIn wsX12_lamp wsX12_cellsLitBy := goodIn_r _ [26, 27, 28, 29, 30, 8, 31, 10, 2, 32, 16, 17, 18, 19, 20, 1, 21, 22, 33, 34, 35, 36, 37, 38, 39, 40, 41, 42, 43, 44, 45, 46, 47, 48, 49, 50, 51, 52, 53, 54, 55, 56, 57, 58, 59, 60, 61, 62, 63, 64, 65, 66, 67, 68, 69, 70, 71, 72, 73, 74, 75, 76, 77, 78, 79, 80, 81, 82, 83, 84, 85, 86, 87, 88] (by decide +kernel) (by decide +kernel)
set_option maxRecDepth 20000 in
theorem gX12_lamp_X12_cellsLitBy : GoodIn wsX12_lamp (wsV RX12 233 RX12 yX12_cellsLitBy wsX12_cellsLitBy) := goodIn_app (goodIn_of _ (by decide +kernel)) ggX12_lamp_X12_cellsLitBy
theorem dX12_lamp_0 : decode cX12_lamp 0 = .ok (.aload_n 0, 1) := by decide +kernel
theorem dX12_lamp_1 : decode cX12_lamp 1 = .ok (.iload_n 1, 1) := by decide +kernel
theorem dX12_lamp_2 : decode cX12_lamp 2 = .ok (.invokevirtual 157, 3) := by decide +kernel
theorem dX12_lamp_5 : decode cX12_lamp 5 = .ok (.ifCond .ne 9, 3) := by decide +kernel
theorem dX12_lamp_8 : decode cX12_lamp 8 = .ok (.aload_n 0, 1) := by decide +kernel
theorem dX12_lamp_9 : decode cX12_lamp 9 = .ok (.iconst (-1), 1) := by decide +kernel
theorem dX12_lamp_10 : decode cX12_lamp 10 = .ok (.invokevirtual 91, 3) := by decide +kernel
theorem dX12_lamp_13 : decode cX12_lamp 13 = .ok (.ireturn, 1) := by decide +kernel
theorem dX12_lamp_14 : decode cX12_lamp 14 = .ok (.iload_n 2, 1) := by decide +kernel
theorem dX12_lamp_15 : decode cX12_lamp 15 = .ok (.tableswitch 79 0 5 #[37, 44, 50, 57, 64, 71], 37) := by decide +kernel
theorem dX12_lamp_52 : decode cX12_lamp 52 = .ok (.aload_n 0, 1) := by decide +kernel
theorem dX12_lamp_53 : decode cX12_lamp 53 = .ok (.getfield 16, 3) := by decide +kernel
theorem dX12_lamp_56 : decode cX12_lamp 56 = .ok (.iload_n 1, 1) := by decide +kernel
theorem dX12_lamp_57 : decode cX12_lamp 57 = .ok (.iaload, 1) := by decide +kernel
theorem dX12_lamp_58 : decode cX12_lamp 58 = .ok (.ireturn, 1) := by decide +kernel
theorem dX12_lamp_59 : decode cX12_lamp 59 = .ok (.aload_n 0, 1) := by decide +kernel
theorem dX12_lamp_60 : decode cX12_lamp 60 = .ok (.iload_n 1, 1) := by decide +kernel
theorem dX12_lamp_61 : decode cX12_lamp 61 = .ok (.invokevirtual 205, 3) := by decide +kernel
theorem dX12_lamp_64 : decode cX12_lamp 64 = .ok (.ireturn, 1) := by decide +kernel
theorem dX12_lamp_65 : decode cX12_lamp 65 = .ok (.aload_n 0, 1) := by decide +kernel
theorem dX12_lamp_66 : decode cX12_lamp 66 = .ok (.getfield 22, 3) := by decide +kernel
theorem dX12_lamp_69 : decode cX12_lamp 69 = .ok (.iload_n 1, 1) := by decide +kernel
theorem dX12_lamp_70 : decode cX12_lamp 70 = .ok (.iaload, 1) := by decide +kernel
theorem dX12_lamp_71 : decode cX12_lamp 71 = .ok (.ireturn, 1) := by decide +kernel
theorem dX12_lamp_72 : decode cX12_lamp 72 = .ok (.aload_n 0, 1) := by decide +kernel
theorem dX12_lamp_73 : decode cX12_lamp 73 = .ok (.getfield 25, 3) := by decide +kernel
theorem dX12_lamp_76 : decode cX12_lamp 76 = .ok (.iload_n 1, 1) := by decide +kernel
theorem dX12_lamp_77 : decode cX12_lamp 77 = .ok (.iaload, 1) := by decide +kernel
theorem dX12_lamp_78 : decode cX12_lamp 78 = .ok (.ireturn, 1) := by decide +kernel
theorem dX12_lamp_79 : decode cX12_lamp 79 = .ok (.aload_n 0, 1) := by decide +kernel
theorem dX12_lamp_80 : decode cX12_lamp 80 = .ok (.getfield 28, 3) := by decide +kernel
theorem dX12_lamp_83 : decode cX12_lamp 83 = .ok (.iload_n 1, 1) := by decide +kernel
theorem dX12_lamp_84 : decode cX12_lamp 84 = .ok (.iaload, 1) := by decide +kernel
theorem dX12_lamp_85 : decode cX12_lamp 85 = .ok (.ireturn, 1) := by decide +kernel
theorem dX12_lamp_86 : decode cX12_lamp 86 = .ok (.aload_n 0, 1) := by decide +kernel
theorem dX12_lamp_87 : decode cX12_lamp 87 = .ok (.iconst 1, 1) := by decide +kernel
theorem dX12_lamp_88 : decode cX12_lamp 88 = .ok (.iload_n 1, 1) := by decide +kernel
theorem dX12_lamp_89 : decode cX12_lamp 89 = .ok (.ishl, 1) := by decide +kernel
theorem dX12_lamp_90 : decode cX12_lamp 90 = .ok (.invokevirtual 233, 3) := by decide +kernel
theorem dX12_lamp_93 : decode cX12_lamp 93 = .ok (.ireturn, 1) := by decide +kernel
theorem dX12_lamp_94 : decode cX12_lamp 94 = .ok (.aload_n 0, 1) := by decide +kernel
theorem dX12_lamp_95 : decode cX12_lamp 95 = .ok (.bipush (-2), 2) := by decide +kernel
theorem dX12_lamp_97 : decode cX12_lamp 97 = .ok (.invokevirtual 91, 3) := by decide +kernel
theorem dX12_lamp_100 : decode cX12_lamp 100 = .ok (.ireturn, 1) := by decide +kernel
set_option maxRecDepth 20000 in
theorem ggX12_cellsLitBy_X12_findLit : GoodIn wsX12_cellsLitBy wsX12_findLit := goodIn_r _ [6, 1, 7, 8, 9, 10, 11, 12, 5, 13, 14, 15, 16, 17, 18, 19, 20, 21, 22, 23, 24, 25, 26, 27, 28, 29, 30, 31, 32, 33, 34, 35, 36, 37, 38, 39, 40, 41, 42, 43, 44, 45, 46, 47, 48, 49, 50, 51, 52, 53, 54, 55, 56, 57, 58, 59, 60, 61, 62, 63, 64, 65, 66, 67, 68, 69, 70, 71, 72, 73] (by decide +kernel) (by decide +kernel)
set_option maxRecDepth 20000 in
theorem gX12_cellsLitBy_X12_findLit : GoodIn wsX12_cellsLitBy (wsV RX12 220 RX12 yX12_findLit wsX12_findLit) := goodIn_app (goodIn_of _ (by decide +kernel)) ggX12_cellsLitBy_X12_findLit
