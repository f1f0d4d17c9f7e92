theorem dX12_oneMore_0 : decode cX12_oneMore 0 = .ok (.iload_n 1, 1) := by decide +kernel
theorem dX12_oneMore_1 : decode cX12_oneMore 1 = .ok (.iconst 0, 1) := by decide +kernel
theorem dX12_oneMore_2 : decode cX12_oneMore 2 = .ok (.iconst 5, 1) := by decide +kernel
theorem dX12_oneMore_3 : decode cX12_oneMore 3 = .ok (.invokestatic 84, 3) := by decide +kernel
theorem dX12_oneMore_6 : decode cX12_oneMore 6 = .ok (.istore_n 3, 1) := by decide +kernel
theorem dX12_oneMore_7 : decode cX12_oneMore 7 = .ok (.iload_n 3, 1) := by decide +kernel
theorem dX12_oneMore_8 : decode cX12_oneMore 8 = .ok (.ifCond .ne 15, 3) := by decide +kernel
theorem dX12_oneMore_11 : decode cX12_oneMore 11 = .ok (.iload_n 2, 1) := by decide +kernel
theorem dX12_oneMore_12 : decode cX12_oneMore 12 = .ok (.iconst 0, 1) := by decide +kernel
theorem dX12_oneMore_13 : decode cX12_oneMore 13 = .ok (.iconst 1, 1) := by decide +kernel
theorem dX12_oneMore_14 : decode cX12_oneMore 14 = .ok (.invokestatic 102, 3) := by decide +kernel
theorem dX12_oneMore_17 : decode cX12_oneMore 17 = .ok (.ifCond .ne 6, 3) := by decide +kernel
theorem dX12_oneMore_20 : decode cX12_oneMore 20 = .ok (.bipush (-2), 2) := by decide +kernel
theorem dX12_oneMore_22 : decode cX12_oneMore 22 = .ok (.istore_n 3, 1) := by decide +kernel
theorem dX12_oneMore_23 : decode cX12_oneMore 23 = .ok (.iload_n 3, 1) := by decide +kernel
theorem dX12_oneMore_24 : decode cX12_oneMore 24 = .ok (.ifCond .eq 9, 3) := by decide +kernel
theorem dX12_oneMore_27 : decode cX12_oneMore 27 = .ok (.aload_n 0, 1) := by decide +kernel
theorem dX12_oneMore_28 : decode cX12_oneMore 28 = .ok (.iload_n 3, 1) := by decide +kernel
theorem dX12_oneMore_29 : decode cX12_oneMore 29 = .ok (.invokevirtual 91, 3) := by decide +kernel
theorem dX12_oneMore_32 : decode cX12_oneMore 32 = .ok (.ireturn, 1) := by decide +kernel
theorem dX12_oneMore_33 : decode cX12_oneMore 33 = .ok (.aload_n 0, 1) := by decide +kernel
theorem dX12_oneMore_34 : decode cX12_oneMore 34 = .ok (.invokevirtual 220, 3) := by decide +kernel
theorem dX12_oneMore_37 : decode cX12_oneMore 37 = .ok (.iconst 0, 1) := by decide +kernel
theorem dX12_oneMore_38 : decode cX12_oneMore 38 = .ok (.istore 4, 2) := by decide +kernel
theorem dX12_oneMore_40 : decode cX12_oneMore 40 = .ok (.iconst (-1), 1) := by decide +kernel
theorem dX12_oneMore_41 : decode cX12_oneMore 41 = .ok (.istore 5, 2) := by decide +kernel
theorem dX12_oneMore_43 : decode cX12_oneMore 43 = .ok (.iconst 0, 1) := by decide +kernel
theorem dX12_oneMore_44 : decode cX12_oneMore 44 = .ok (.istore 6, 2) := by decide +kernel
theorem dX12_oneMore_46 : decode cX12_oneMore 46 = .ok (.iload 6, 2) := by decide +kernel
theorem dX12_oneMore_48 : decode cX12_oneMore 48 = .ok (.bipush 36, 2) := by decide +kernel
theorem dX12_oneMore_50 : decode cX12_oneMore 50 = .ok (.if_icmp .ge 88, 3) := by decide +kernel
theorem dX12_oneMore_53 : decode cX12_oneMore 53 = .ok (.aload_n 0, 1) := by decide +kernel
theorem dX12_oneMore_54 : decode cX12_oneMore 54 = .ok (.iload 6, 2) := by decide +kernel
theorem dX12_oneMore_56 : decode cX12_oneMore 56 = .ok (.iload_n 1, 1) := by decide +kernel
theorem dX12_oneMore_57 : decode cX12_oneMore 57 = .ok (.invokevirtual 208, 3) := by decide +kernel
theorem dX12_oneMore_60 : decode cX12_oneMore 60 = .ok (.iconst 0, 1) := by decide +kernel
theorem dX12_oneMore_61 : decode cX12_oneMore 61 = .ok (.istore 7, 2) := by decide +kernel
theorem dX12_oneMore_63 : decode cX12_oneMore 63 = .ok (.iconst 0, 1) := by decide +kernel
theorem dX12_oneMore_64 : decode cX12_oneMore 64 = .ok (.istore 8, 2) := by decide +kernel
theorem dX12_oneMore_66 : decode cX12_oneMore 66 = .ok (.iload 8, 2) := by decide +kernel
theorem dX12_oneMore_68 : decode cX12_oneMore 68 = .ok (.bipush 36, 2) := by decide +kernel
theorem dX12_oneMore_70 : decode cX12_oneMore 70 = .ok (.if_icmp .ge 44, 3) := by decide +kernel
theorem dX12_oneMore_73 : decode cX12_oneMore 73 = .ok (.iload 7, 2) := by decide +kernel
theorem dX12_oneMore_75 : decode cX12_oneMore 75 = .ok (.aload_n 0, 1) := by decide +kernel
theorem dX12_oneMore_76 : decode cX12_oneMore 76 = .ok (.getfield 58, 3) := by decide +kernel
theorem dX12_oneMore_79 : decode cX12_oneMore 79 = .ok (.iload 8, 2) := by decide +kernel
theorem dX12_oneMore_81 : decode cX12_oneMore 81 = .ok (.iaload, 1) := by decide +kernel
theorem dX12_oneMore_82 : decode cX12_oneMore 82 = .ok (.ifCond .lt 22, 3) := by decide +kernel
theorem dX12_oneMore_85 : decode cX12_oneMore 85 = .ok (.aload_n 0, 1) := by decide +kernel
theorem dX12_oneMore_86 : decode cX12_oneMore 86 = .ok (.getfield 67, 3) := by decide +kernel
theorem dX12_oneMore_89 : decode cX12_oneMore 89 = .ok (.iload 8, 2) := by decide +kernel
theorem dX12_oneMore_91 : decode cX12_oneMore 91 = .ok (.iaload, 1) := by decide +kernel
theorem dX12_oneMore_92 : decode cX12_oneMore 92 = .ok (.aload_n 0, 1) := by decide +kernel
theorem dX12_oneMore_93 : decode cX12_oneMore 93 = .ok (.invokevirtual 239, 3) := by decide +kernel
theorem dX12_oneMore_96 : decode cX12_oneMore 96 = .ok (.iand, 1) := by decide +kernel
theorem dX12_oneMore_97 : decode cX12_oneMore 97 = .ok (.ifCond .ne 7, 3) := by decide +kernel
theorem dX12_oneMore_100 : decode cX12_oneMore 100 = .ok (.iconst 1, 1) := by decide +kernel
theorem dX12_oneMore_101 : decode cX12_oneMore 101 = .ok (.goto 4, 3) := by decide +kernel
theorem dX12_oneMore_104 : decode cX12_oneMore 104 = .ok (.iconst 0, 1) := by decide +kernel
theorem dX12_oneMore_105 : decode cX12_oneMore 105 = .ok (.iadd, 1) := by decide +kernel
theorem dX12_oneMore_106 : decode cX12_oneMore 106 = .ok (.istore 7, 2) := by decide +kernel
theorem dX12_oneMore_108 : decode cX12_oneMore 108 = .ok (.iinc 8 1, 3) := by decide +kernel
theorem dX12_oneMore_111 : decode cX12_oneMore 111 = .ok (.goto (-45), 3) := by decide +kernel
theorem dX12_oneMore_114 : decode cX12_oneMore 114 = .ok (.iload 7, 2) := by decide +kernel
theorem dX12_oneMore_116 : decode cX12_oneMore 116 = .ok (.iload 5, 2) := by decide +kernel
theorem dX12_oneMore_118 : decode cX12_oneMore 118 = .ok (.if_icmp .gt 6, 3) := by decide +kernel
theorem dX12_oneMore_121 : decode cX12_oneMore 121 = .ok (.goto 11, 3) := by decide +kernel
theorem dX12_oneMore_124 : decode cX12_oneMore 124 = .ok (.iload 6, 2) := by decide +kernel
theorem dX12_oneMore_126 : decode cX12_oneMore 126 = .ok (.istore 4, 2) := by decide +kernel
theorem dX12_oneMore_128 : decode cX12_oneMore 128 = .ok (.iload 7, 2) := by decide +kernel
theorem dX12_oneMore_130 : decode cX12_oneMore 130 = .ok (.istore 5, 2) := by decide +kernel
theorem dX12_oneMore_132 : decode cX12_oneMore 132 = .ok (.iinc 6 1, 3) := by decide +kernel
theorem dX12_oneMore_135 : decode cX12_oneMore 135 = .ok (.goto (-89), 3) := by decide +kernel
theorem dX12_oneMore_138 : decode cX12_oneMore 138 = .ok (.iload_n 2, 1) := by decide +kernel
theorem dX12_oneMore_139 : decode cX12_oneMore 139 = .ok (.ifCond .ne 8, 3) := by decide +kernel
theorem dX12_oneMore_142 : decode cX12_oneMore 142 = .ok (.iload 5, 2) := by decide +kernel
theorem dX12_oneMore_144 : decode cX12_oneMore 144 = .ok (.goto 5, 3) := by decide +kernel
theorem dX12_oneMore_147 : decode cX12_oneMore 147 = .ok (.iload 4, 2) := by decide +kernel
theorem dX12_oneMore_149 : decode cX12_oneMore 149 = .ok (.ireturn, 1) := by decide +kernel
theorem dX12_hasScene_0 : decode cX12_hasScene 0 = .ok (.bipush 9, 2) := by decide +kernel
theorem dX12_hasScene_2 : decode cX12_hasScene 2 = .ok (.iload_n 1, 1) := by decide +kernel
theorem dX12_hasScene_3 : decode cX12_hasScene 3 = .ok (.imul, 1) := by decide +kernel
theorem dX12_hasScene_4 : decode cX12_hasScene 4 = .ok (.istore 4, 2) := by decide +kernel
theorem dX12_hasScene_6 : decode cX12_hasScene 6 = .ok (.iload 4, 2) := by decide +kernel
theorem dX12_hasScene_8 : decode cX12_hasScene 8 = .ok (.bipush 9, 2) := by decide +kernel
theorem dX12_hasScene_10 : decode cX12_hasScene 10 = .ok (.iload_n 1, 1) := by decide +kernel
theorem dX12_hasScene_11 : decode cX12_hasScene 11 = .ok (.imul, 1) := by decide +kernel
theorem dX12_hasScene_12 : decode cX12_hasScene 12 = .ok (.aload_n 0, 1) := by decide +kernel
theorem dX12_hasScene_13 : decode cX12_hasScene 13 = .ok (.getfield 28, 3) := by decide +kernel
theorem dX12_hasScene_16 : decode cX12_hasScene 16 = .ok (.iload_n 1, 1) := by decide +kernel
theorem dX12_hasScene_17 : decode cX12_hasScene 17 = .ok (.iaload, 1) := by decide +kernel
theorem dX12_hasScene_18 : decode cX12_hasScene 18 = .ok (.iadd, 1) := by decide +kernel
theorem dX12_hasScene_19 : decode cX12_hasScene 19 = .ok (.if_icmp .ge 33, 3) := by decide +kernel
theorem dX12_hasScene_22 : decode cX12_hasScene 22 = .ok (.aload_n 0, 1) := by decide +kernel
theorem dX12_hasScene_23 : decode cX12_hasScene 23 = .ok (.getfield 34, 3) := by decide +kernel
theorem dX12_hasScene_26 : decode cX12_hasScene 26 = .ok (.iload 4, 2) := by decide +kernel
theorem dX12_hasScene_28 : decode cX12_hasScene 28 = .ok (.iaload, 1) := by decide +kernel
theorem dX12_hasScene_29 : decode cX12_hasScene 29 = .ok (.iload_n 2, 1) := by decide +kernel
theorem dX12_hasScene_30 : decode cX12_hasScene 30 = .ok (.if_icmp .ne 16, 3) := by decide +kernel
theorem dX12_hasScene_33 : decode cX12_hasScene 33 = .ok (.aload_n 0, 1) := by decide +kernel
theorem dX12_hasScene_34 : decode cX12_hasScene 34 = .ok (.getfield 37, 3) := by decide +kernel
theorem dX12_hasScene_37 : decode cX12_hasScene 37 = .ok (.iload 4, 2) := by decide +kernel
theorem dX12_hasScene_39 : decode cX12_hasScene 39 = .ok (.iaload, 1) := by decide +kernel
theorem dX12_hasScene_40 : decode cX12_hasScene 40 = .ok (.iload_n 3, 1) := by decide +kernel
theorem dX12_hasScene_41 : decode cX12_hasScene 41 = .ok (.if_icmp .ne 5, 3) := by decide +kernel
theorem dX12_hasScene_44 : decode cX12_hasScene 44 = .ok (.iconst 1, 1) := by decide +kernel
theorem dX12_hasScene_45 : decode cX12_hasScene 45 = .ok (.ireturn, 1) := by decide +kernel
theorem dX12_hasScene_46 : decode cX12_hasScene 46 = .ok (.iinc 4 1, 3) := by decide +kernel
theorem dX12_hasScene_49 : decode cX12_hasScene 49 = .ok (.goto (-43), 3) := by decide +kernel
theorem dX12_hasScene_52 : decode cX12_hasScene 52 = .ok (.iconst 0, 1) := by decide +kernel
theorem dX12_hasScene_53 : decode cX12_hasScene 53 = .ok (.ireturn, 1) := by decide +kernel
set_option maxRecDepth 20000 in
theorem ggX12_two_X12_isLamp : GoodIn wsX12_two wsX12_isLamp := goodIn_r _ [8, 9, 19, 20, 21, 22, 23, 24, 25, 26, 27, 28, 29, 30, 31, 32, 33, 34, 35, 36, 37, 38, 39, 40, 41, 42, 43, 44, 45, 46, 47, 48, 49, 50, 51] (by decide +kernel) (by decide +kernel)
set_option maxRecDepth 20000 in
theorem gX12_two_X12_isLamp : GoodIn wsX12_two (wsV RX12 157 RX12 yX12_isLamp wsX12_isLamp) := goodIn_app (goodIn_of _ (by decide +kernel)) ggX12_two_X12_isLamp
set_option maxRecDepth 20000 in
theorem ggX12_two_X12_no : GoodIn wsX12_two wsX12_no := goodIn_r _ [13, 14, 19, 20, 21, 22, 23, 24, 25, 26, 27, 28, 29, 30, 31, 32, 33, 34, 35, 36, 37, 38, 39, 40, 41, 42, 43, 44, 45, 46, 47, 48, 49, 50, 51] (by decide +kernel) (by decide +kernel)
set_option maxRecDepth 20000 in
theorem gX12_two_X12_no : GoodIn wsX12_two (wsV RX12 91 RX12 yX12_no wsX12_no) := goodIn_app (goodIn_of _ (by decide +kernel)) ggX12_two_X12_no
set_option maxRecDepth 20000 in
theorem ggX12_two_X12_hasScene : GoodIn wsX12_two wsX12_hasScene := goodIn_r _ [18, 1, 2, 3, 19, 20, 21, 22, 23, 24, 25, 26, 27, 28, 29, 30, 31, 32, 33, 34, 35, 36, 37, 38, 39, 40, 41, 42, 43, 44, 45, 46, 47, 48, 49, 50, 51] (by decide +kernel) (by decide +kernel)
set_option maxRecDepth 20000 in
theorem gX12_two_X12_hasScene : GoodIn wsX12_two (wsV RX12 272 RX12 yX12_hasScene wsX12_hasScene) := goodIn_app (goodIn_of _ (by decide +kernel)) ggX12_two_X12_hasScene
theorem dX12_two_0 : decode cX12_two 0 = .ok (.aload_n 0, 1) := by decide +kernel
theorem dX12_two_1 : decode cX12_two 1 = .ok (.iload_n 1, 1) := by decide +kernel
theorem dX12_two_2 : decode cX12_two 2 = .ok (.invokevirtual 157, 3) := by decide +kernel
theorem dX12_two_5 : decode cX12_two 5 = .ok (.ifCond .eq 11, 3) := by decide +kernel
theorem dX12_two_8 : decode cX12_two 8 = .ok (.aload_n 0, 1) := by decide +kernel
theorem dX12_two_9 : decode cX12_two 9 = .ok (.iload_n 2, 1) := by decide +kernel
theorem dX12_two_10 : decode cX12_two 10 = .ok (.invokevirtual 157, 3) := by decide +kernel
theorem dX12_two_13 : decode cX12_two 13 = .ok (.ifCond .ne 9, 3) := by decide +kernel
theorem dX12_two_16 : decode cX12_two 16 = .ok (.aload_n 0, 1) := by decide +kernel
theorem dX12_two_17 : decode cX12_two 17 = .ok (.iconst (-1), 1) := by decide +kernel
theorem dX12_two_18 : decode cX12_two 18 = .ok (.invokevirtual 91, 3) := by decide +kernel
theorem dX12_two_21 : decode cX12_two 21 = .ok (.ireturn, 1) := by decide +kernel
theorem dX12_two_22 : decode cX12_two 22 = .ok (.iconst 0, 1) := by decide +kernel
theorem dX12_two_23 : decode cX12_two 23 = .ok (.istore_n 3, 1) := by decide +kernel
theorem dX12_two_24 : decode cX12_two 24 = .ok (.bipush 9, 2) := by decide +kernel
theorem dX12_two_26 : decode cX12_two 26 = .ok (.iload_n 1, 1) := by decide +kernel
theorem dX12_two_27 : decode cX12_two 27 = .ok (.imul, 1) := by decide +kernel
theorem dX12_two_28 : decode cX12_two 28 = .ok (.istore 4, 2) := by decide +kernel
theorem dX12_two_30 : decode cX12_two 30 = .ok (.iload 4, 2) := by decide +kernel
theorem dX12_two_32 : decode cX12_two 32 = .ok (.bipush 9, 2) := by decide +kernel
theorem dX12_two_34 : decode cX12_two 34 = .ok (.iload_n 1, 1) := by decide +kernel
theorem dX12_two_35 : decode cX12_two 35 = .ok (.imul, 1) := by decide +kernel
theorem dX12_two_36 : decode cX12_two 36 = .ok (.aload_n 0, 1) := by decide +kernel
theorem dX12_two_37 : decode cX12_two 37 = .ok (.getfield 28, 3) := by decide +kernel
theorem dX12_two_40 : decode cX12_two 40 = .ok (.iload_n 1, 1) := by decide +kernel
theorem dX12_two_41 : decode cX12_two 41 = .ok (.iaload, 1) := by decide +kernel
theorem dX12_two_42 : decode cX12_two 42 = .ok (.iadd, 1) := by decide +kernel
theorem dX12_two_43 : decode cX12_two 43 = .ok (.if_icmp .ge 39, 3) := by decide +kernel
theorem dX12_two_46 : decode cX12_two 46 = .ok (.iload_n 3, 1) := by decide +kernel
theorem dX12_two_47 : decode cX12_two 47 = .ok (.aload_n 0, 1) := by decide +kernel
theorem dX12_two_48 : decode cX12_two 48 = .ok (.iload_n 2, 1) := by decide +kernel
theorem dX12_two_49 : decode cX12_two 49 = .ok (.aload_n 0, 1) := by decide +kernel
theorem dX12_two_50 : decode cX12_two 50 = .ok (.getfield 34, 3) := by decide +kernel
theorem dX12_two_53 : decode cX12_two 53 = .ok (.iload 4, 2) := by decide +kernel
theorem dX12_two_55 : decode cX12_two 55 = .ok (.iaload, 1) := by decide +kernel
theorem dX12_two_56 : decode cX12_two 56 = .ok (.aload_n 0, 1) := by decide +kernel
theorem dX12_two_57 : decode cX12_two 57 = .ok (.getfield 37, 3) := by decide +kernel
theorem dX12_two_60 : decode cX12_two 60 = .ok (.iload 4, 2) := by decide +kernel
theorem dX12_two_62 : decode cX12_two 62 = .ok (.iaload, 1) := by decide +kernel
theorem dX12_two_63 : decode cX12_two 63 = .ok (.invokevirtual 272, 3) := by decide +kernel
theorem dX12_two_66 : decode cX12_two 66 = .ok (.ifCond .eq 7, 3) := by decide +kernel
theorem dX12_two_69 : decode cX12_two 69 = .ok (.iconst 1, 1) := by decide +kernel
theorem dX12_two_70 : decode cX12_two 70 = .ok (.goto 4, 3) := by decide +kernel
theorem dX12_two_73 : decode cX12_two 73 = .ok (.iconst 0, 1) := by decide +kernel
theorem dX12_two_74 : decode cX12_two 74 = .ok (.iadd, 1) := by decide +kernel
theorem dX12_two_75 : decode cX12_two 75 = .ok (.istore_n 3, 1) := by decide +kernel
theorem dX12_two_76 : decode cX12_two 76 = .ok (.iinc 4 1, 3) := by decide +kernel
theorem dX12_two_79 : decode cX12_two 79 = .ok (.goto (-49), 3) := by decide +kernel
theorem dX12_two_82 : decode cX12_two 82 = .ok (.iload_n 3, 1) := by decide +kernel
theorem dX12_two_83 : decode cX12_two 83 = .ok (.ireturn, 1) := by decide +kernel
theorem dX12_exchanges_0 : decode cX12_exchanges 0 = .ok (.aload_n 0, 1) := by decide +kernel
theorem dX12_exchanges_1 : decode cX12_exchanges 1 = .ok (.getfield 19, 3) := by decide +kernel
theorem dX12_exchanges_4 : decode cX12_exchanges 4 = .ok (.iload_n 1, 1) := by decide +kernel
theorem dX12_exchanges_5 : decode cX12_exchanges 5 = .ok (.iaload, 1) := by decide +kernel
theorem dX12_exchanges_6 : decode cX12_exchanges 6 = .ok (.istore_n 3, 1) := by decide +kernel
theorem dX12_exchanges_7 : decode cX12_exchanges 7 = .ok (.aload_n 0, 1) := by decide +kernel
theorem dX12_exchanges_8 : decode cX12_exchanges 8 = .ok (.getfield 19, 3) := by decide +kernel
theorem dX12_exchanges_11 : decode cX12_exchanges 11 = .ok (.iload_n 1, 1) := by decide +kernel
theorem dX12_exchanges_12 : decode cX12_exchanges 12 = .ok (.aload_n 0, 1) := by decide +kernel
theorem dX12_exchanges_13 : decode cX12_exchanges 13 = .ok (.getfield 19, 3) := by decide +kernel
theorem dX12_exchanges_16 : decode cX12_exchanges 16 = .ok (.iload_n 2, 1) := by decide +kernel
theorem dX12_exchanges_17 : decode cX12_exchanges 17 = .ok (.iaload, 1) := by decide +kernel
theorem dX12_exchanges_18 : decode cX12_exchanges 18 = .ok (.iastore, 1) := by decide +kernel
theorem dX12_exchanges_19 : decode cX12_exchanges 19 = .ok (.aload_n 0, 1) := by decide +kernel
theorem dX12_exchanges_20 : decode cX12_exchanges 20 = .ok (.getfield 19, 3) := by decide +kernel
theorem dX12_exchanges_23 : decode cX12_exchanges 23 = .ok (.iload_n 2, 1) := by decide +kernel
theorem dX12_exchanges_24 : decode cX12_exchanges 24 = .ok (.iload_n 3, 1) := by decide +kernel
theorem dX12_exchanges_25 : decode cX12_exchanges 25 = .ok (.iastore, 1) := by decide +kernel
theorem dX12_exchanges_26 : decode cX12_exchanges 26 = .ok (.return_, 1) := by decide +kernel
set_option maxRecDepth 20000 in
theorem ggX12_swap_X12_isLamp : GoodIn wsX12_swap wsX12_isLamp := goodIn_r _ [5, 6, 64, 65, 66, 67, 68, 69, 70, 71, 72, 73, 74, 75, 76, 77, 78, 79, 80, 81, 82, 83, 84, 85, 86, 87, 88, 89, 90, 91, 92, 93, 94, 95, 96] (by decide +kernel) (by decide +kernel)
set_option maxRecDepth 20000 in
theorem gX12_swap_X12_isLamp : GoodIn wsX12_swap (wsV RX12 157 RX12 yX12_isLamp wsX12_isLamp) := goodIn_app (goodIn_of _ (by decide +kernel)) ggX12_swap_X12_isLamp
set_option maxRecDepth 20000 in
theorem ggX12_swap_X12_lower : GoodIn wsX12_swap wsX12_lower := goodIn_r _ [10, 11, 12, 64, 65, 66, 67, 68, 69, 70, 71, 72, 73, 74, 75, 76, 77, 78, 79, 80, 81, 82, 83, 84, 85, 86, 87, 88, 89, 90, 91, 92, 93, 94, 95, 96] (by decide +kernel) (by decide +kernel)
set_option maxRecDepth 20000 in
theorem gX12_swap_X12_lower : GoodIn wsX12_swap (wsV RX12 275 RX12 yX12_lower wsX12_lower) := goodIn_app (goodIn_of _ (by decide +kernel)) ggX12_swap_X12_lower
set_option maxRecDepth 20000 in
theorem ggX12_swap_X12_litBits : GoodIn wsX12_swap wsX12_litBits := goodIn_r _ [16, 6, 17, 64, 65, 66, 67, 68, 69, 70, 71, 72, 73, 74, 75, 76, 77, 78, 79, 80, 81, 82, 83, 84, 85, 86, 87, 88, 89, 90, 91, 92, 93, 94, 95, 96] (by decide +kernel) (by decide +kernel)
set_option maxRecDepth 20000 in
theorem gX12_swap_X12_litBits : GoodIn wsX12_swap (wsV RX12 239 RX12 yX12_litBits wsX12_litBits) := goodIn_app (goodIn_of _ (by decide +kernel)) ggX12_swap_X12_litBits
set_option maxRecDepth 20000 in
theorem ggX12_swap_X12_cellsLitBy : GoodIn wsX12_swap wsX12_cellsLitBy := goodIn_r _ [21, 22, 23, 24, 25, 4, 26, 6, 27, 28, 29, 30, 31, 32, 33, 34, 35, 36, 37, 38, 39, 40, 41, 42, 43, 44, 45, 46, 47, 48, 49, 50, 51, 52, 53, 54, 55, 56, 57, 58, 59, 64, 65, 66, 67, 68, 69, 70, 71, 72, 73, 74, 75, 76, 77, 78, 79, 80, 81, 82, 83, 84, 85, 86, 87, 88, 89, 90, 91, 92, 93, 94, 95, 96] (by decide +kernel) (by decide +kernel)
set_option maxRecDepth 20000 in
theorem gX12_swap_X12_cellsLitBy : GoodIn wsX12_swap (wsV RX12 233 RX12 yX12_cellsLitBy wsX12_cellsLitBy) := goodIn_app (goodIn_of _ (by decide +kernel)) ggX12_swap_X12_cellsLitBy
set_option maxRecDepth 20000 in
theorem ggX12_swap_X12_exchanges : GoodIn wsX12_swap wsX12_exchanges := goodIn_r _ [63, 33, 64, 65, 66, 67, 68, 69, 70, 71, 72, 73, 74, 75, 76, 77, 78, 79, 80, 81, 82, 83, 84, 85, 86, 87, 88, 89, 90, 91, 92, 93, 94, 95, 96] (by decide +kernel) (by decide +kernel)
set_option maxRecDepth 20000 in
theorem gX12_swap_X12_exchanges : GoodIn wsX12_swap (wsV RX12 278 RX12 yX12_exchanges wsX12_exchanges) := goodIn_app (goodIn_of _ (by decide +kernel)) ggX12_swap_X12_exchanges
theorem dX12_swap_0 : decode cX12_swap 0 = .ok (.aload_n 0, 1) := by decide +kernel
theorem dX12_swap_1 : decode cX12_swap 1 = .ok (.iload_n 1, 1) := by decide +kernel
theorem dX12_swap_2 : decode cX12_swap 2 = .ok (.invokevirtual 157, 3) := by decide +kernel
theorem dX12_swap_5 : decode cX12_swap 5 = .ok (.ifCond .eq 11, 3) := by decide +kernel
theorem dX12_swap_8 : decode cX12_swap 8 = .ok (.aload_n 0, 1) := by decide +kernel
theorem dX12_swap_9 : decode cX12_swap 9 = .ok (.iload_n 2, 1) := by decide +kernel
theorem dX12_swap_10 : decode cX12_swap 10 = .ok (.invokevirtual 157, 3) := by decide +kernel
theorem dX12_swap_13 : decode cX12_swap 13 = .ok (.ifCond .ne 9, 3) := by decide +kernel
theorem dX12_swap_16 : decode cX12_swap 16 = .ok (.aload_n 0, 1) := by decide +kernel
theorem dX12_swap_17 : decode cX12_swap 17 = .ok (.iconst (-1), 1) := by decide +kernel
theorem dX12_swap_18 : decode cX12_swap 18 = .ok (.invokevirtual 275, 3) := by decide +kernel
theorem dX12_swap_21 : decode cX12_swap 21 = .ok (.ireturn, 1) := by decide +kernel
theorem dX12_swap_22 : decode cX12_swap 22 = .ok (.aload_n 0, 1) := by decide +kernel
theorem dX12_swap_23 : decode cX12_swap 23 = .ok (.aload_n 0, 1) := by decide +kernel
theorem dX12_swap_24 : decode cX12_swap 24 = .ok (.invokevirtual 239, 3) := by decide +kernel
theorem dX12_swap_27 : decode cX12_swap 27 = .ok (.invokevirtual 233, 3) := by decide +kernel
theorem dX12_swap_30 : decode cX12_swap 30 = .ok (.istore_n 3, 1) := by decide +kernel
theorem dX12_swap_31 : decode cX12_swap 31 = .ok (.aload_n 0, 1) := by decide +kernel
theorem dX12_swap_32 : decode cX12_swap 32 = .ok (.iload_n 1, 1) := by decide +kernel
theorem dX12_swap_33 : decode cX12_swap 33 = .ok (.iload_n 2, 1) := by decide +kernel
theorem dX12_swap_34 : decode cX12_swap 34 = .ok (.invokevirtual 278, 3) := by decide +kernel
theorem dX12_swap_37 : decode cX12_swap 37 = .ok (.aload_n 0, 1) := by decide +kernel
theorem dX12_swap_38 : decode cX12_swap 38 = .ok (.aload_n 0, 1) := by decide +kernel
theorem dX12_swap_39 : decode cX12_swap 39 = .ok (.invokevirtual 239, 3) := by decide +kernel
theorem dX12_swap_42 : decode cX12_swap 42 = .ok (.invokevirtual 233, 3) := by decide +kernel
theorem dX12_swap_45 : decode cX12_swap 45 = .ok (.istore 4, 2) := by decide +kernel
theorem dX12_swap_47 : decode cX12_swap 47 = .ok (.aload_n 0, 1) := by decide +kernel
theorem dX12_swap_48 : decode cX12_swap 48 = .ok (.iload_n 1, 1) := by decide +kernel
theorem dX12_swap_49 : decode cX12_swap 49 = .ok (.iload_n 2, 1) := by decide +kernel
theorem dX12_swap_50 : decode cX12_swap 50 = .ok (.invokevirtual 278, 3) := by decide +kernel
theorem dX12_swap_53 : decode cX12_swap 53 = .ok (.iload 4, 2) := by decide +kernel
theorem dX12_swap_55 : decode cX12_swap 55 = .ok (.iload_n 3, 1) := by decide +kernel
theorem dX12_swap_56 : decode cX12_swap 56 = .ok (.isub, 1) := by decide +kernel
theorem dX12_swap_57 : decode cX12_swap 57 = .ok (.ireturn, 1) := by decide +kernel
set_option maxRecDepth 20000 in
theorem ggX12_row_X12_bound : GoodIn wsX12_row wsX12_bound := goodIn_r _ [6] (by decide +kernel) (by decide +kernel)
set_option maxRecDepth 20000 in
theorem gX12_row_X12_bound : GoodIn wsX12_row (va_wsS RX12 84 yX12_bound wsX12_bound) := goodIn_app (goodIn_of _ (by decide +kernel)) ggX12_row_X12_bound
set_option maxRecDepth 20000 in
theorem ggX12_row_X12_no : GoodIn wsX12_row wsX12_no := goodIn_r _ [10, 11, 12, 13, 14, 15, 16, 17, 18, 19, 20, 21, 22, 23, 24, 25, 26, 27, 28, 29, 30, 31, 32, 33, 34, 35, 36, 37, 38, 39, 40, 41, 42, 43, 44] (by decide +kernel) (by decide +kernel)
set_option maxRecDepth 20000 in
theorem gX12_row_X12_no : GoodIn wsX12_row (wsV RX12 91 RX12 yX12_no wsX12_no) := goodIn_app (goodIn_of _ (by decide +kernel)) ggX12_row_X12_no
theorem dX12_row_0 : decode cX12_row 0 = .ok (.iload_n 1, 1) := by decide +kernel
theorem dX12_row_1 : decode cX12_row 1 = .ok (.iconst 0, 1) := by decide +kernel
theorem dX12_row_2 : decode cX12_row 2 = .ok (.bipush 99, 2) := by decide +kernel
theorem dX12_row_4 : decode cX12_row 4 = .ok (.invokestatic 84, 3) := by decide +kernel
theorem dX12_row_7 : decode cX12_row 7 = .ok (.istore_n 2, 1) := by decide +kernel
theorem dX12_row_8 : decode cX12_row 8 = .ok (.iload_n 2, 1) := by decide +kernel
theorem dX12_row_9 : decode cX12_row 9 = .ok (.ifCond .ne 15, 3) := by decide +kernel
theorem dX12_row_12 : decode cX12_row 12 = .ok (.aload_n 0, 1) := by decide +kernel
theorem dX12_row_13 : decode cX12_row 13 = .ok (.getfield 263, 3) := by decide +kernel
theorem dX12_row_16 : decode cX12_row 16 = .ok (.bipush 12, 2) := by decide +kernel
theorem dX12_row_18 : decode cX12_row 18 = .ok (.if_icmp .ne 6, 3) := by decide +kernel
theorem dX12_row_21 : decode cX12_row 21 = .ok (.bipush (-6), 2) := by decide +kernel
theorem dX12_row_23 : decode cX12_row 23 = .ok (.istore_n 2, 1) := by decide +kernel
theorem dX12_row_24 : decode cX12_row 24 = .ok (.iload_n 2, 1) := by decide +kernel
theorem dX12_row_25 : decode cX12_row 25 = .ok (.ifCond .eq 9, 3) := by decide +kernel
theorem dX12_row_28 : decode cX12_row 28 = .ok (.aload_n 0, 1) := by decide +kernel
theorem dX12_row_29 : decode cX12_row 29 = .ok (.iload_n 2, 1) := by decide +kernel
theorem dX12_row_30 : decode cX12_row 30 = .ok (.invokevirtual 91, 3) := by decide +kernel
theorem dX12_row_33 : decode cX12_row 33 = .ok (.ireturn, 1) := by decide +kernel
theorem dX12_row_34 : decode cX12_row 34 = .ok (.aload_n 0, 1) := by decide +kernel
theorem dX12_row_35 : decode cX12_row 35 = .ok (.getfield 73, 3) := by decide +kernel
theorem dX12_row_38 : decode cX12_row 38 = .ok (.aload_n 0, 1) := by decide +kernel
theorem dX12_row_39 : decode cX12_row 39 = .ok (.getfield 263, 3) := by decide +kernel
theorem dX12_row_42 : decode cX12_row 42 = .ok (.iload_n 1, 1) := by decide +kernel
theorem dX12_row_43 : decode cX12_row 43 = .ok (.iastore, 1) := by decide +kernel
theorem dX12_row_44 : decode cX12_row 44 = .ok (.aload_n 0, 1) := by decide +kernel
theorem dX12_row_45 : decode cX12_row 45 = .ok (.dup, 1) := by decide +kernel
theorem dX12_row_46 : decode cX12_row 46 = .ok (.getfield 263, 3) := by decide +kernel
theorem dX12_row_49 : decode cX12_row 49 = .ok (.iconst 1, 1) := by decide +kernel
theorem dX12_row_50 : decode cX12_row 50 = .ok (.iadd, 1) := by decide +kernel
theorem dX12_row_51 : decode cX12_row 51 = .ok (.putfield 263, 3) := by decide +kernel
theorem dX12_row_54 : decode cX12_row 54 = .ok (.aload_n 0, 1) := by decide +kernel
theorem dX12_row_55 : decode cX12_row 55 = .ok (.getfield 263, 3) := by decide +kernel
theorem dX12_row_58 : decode cX12_row 58 = .ok (.ireturn, 1) := by decide +kernel
set_option maxRecDepth 20000 in
theorem ggX12_areNear_X12_beside : GoodIn wsX12_areNear wsX12_beside := goodIn_r _ [4] (by decide +kernel) (by decide +kernel)
set_option maxRecDepth 20000 in
theorem gX12_areNear_X12_beside : GoodIn wsX12_areNear (va_wsS RX12 195 yX12_beside wsX12_beside) := goodIn_app (goodIn_of _ (by decide +kernel)) ggX12_areNear_X12_beside
theorem dX12_areNear_0 : decode cX12_areNear 0 = .ok (.iconst 0, 1) := by decide +kernel
theorem dX12_areNear_1 : decode cX12_areNear 1 = .ok (.istore_n 2, 1) := by decide +kernel
theorem dX12_areNear_2 : decode cX12_areNear 2 = .ok (.iload_n 2, 1) := by decide +kernel
theorem dX12_areNear_3 : decode cX12_areNear 3 = .ok (.iconst 4, 1) := by decide +kernel
theorem dX12_areNear_4 : decode cX12_areNear 4 = .ok (.if_icmp .ge 20, 3) := by decide +kernel
theorem dX12_areNear_7 : decode cX12_areNear 7 = .ok (.iload_n 0, 1) := by decide +kernel
theorem dX12_areNear_8 : decode cX12_areNear 8 = .ok (.iload_n 2, 1) := by decide +kernel
theorem dX12_areNear_9 : decode cX12_areNear 9 = .ok (.invokestatic 195, 3) := by decide +kernel
theorem dX12_areNear_12 : decode cX12_areNear 12 = .ok (.iload_n 1, 1) := by decide +kernel
theorem dX12_areNear_13 : decode cX12_areNear 13 = .ok (.if_icmp .ne 5, 3) := by decide +kernel
theorem dX12_areNear_16 : decode cX12_areNear 16 = .ok (.iconst 1, 1) := by decide +kernel
theorem dX12_areNear_17 : decode cX12_areNear 17 = .ok (.ireturn, 1) := by decide +kernel
theorem dX12_areNear_18 : decode cX12_areNear 18 = .ok (.iinc 2 1, 3) := by decide +kernel
theorem dX12_areNear_21 : decode cX12_areNear 21 = .ok (.goto (-19), 3) := by decide +kernel
theorem dX12_areNear_24 : decode cX12_areNear 24 = .ok (.iload_n 0, 1) := by decide +kernel
theorem dX12_areNear_25 : decode cX12_areNear 25 = .ok (.iload_n 1, 1) := by decide +kernel
theorem dX12_areNear_26 : decode cX12_areNear 26 = .ok (.if_icmp .ne 7, 3) := by decide +kernel
theorem dX12_areNear_29 : decode cX12_areNear 29 = .ok (.iconst 1, 1) := by decide +kernel
theorem dX12_areNear_30 : decode cX12_areNear 30 = .ok (.goto 4, 3) := by decide +kernel
theorem dX12_areNear_33 : decode cX12_areNear 33 = .ok (.iconst 0, 1) := by decide +kernel
theorem dX12_areNear_34 : decode cX12_areNear 34 = .ok (.ireturn, 1) := by decide +kernel
set_option maxRecDepth 20000 in
theorem ggX12_judge_X12_isPerson : GoodIn wsX12_judge wsX12_isPerson := goodIn_r _ [9, 10, 25, 26, 27, 28, 29, 30, 31, 32, 33, 34, 35, 36, 37, 38, 39, 40, 41, 42, 43, 44, 45, 46, 47, 48, 49, 50, 51, 52, 53, 54, 55, 56, 57] (by decide +kernel) (by decide +kernel)
set_option maxRecDepth 20000 in
theorem gX12_judge_X12_isPerson : GoodIn wsX12_judge (wsV RX12 132 RX12 yX12_isPerson wsX12_isPerson) := goodIn_app (goodIn_of _ (by decide +kernel)) ggX12_judge_X12_isPerson
set_option maxRecDepth 20000 in
theorem ggX12_judge_X12_no : GoodIn wsX12_judge wsX12_no := goodIn_r _ [14, 15, 25, 26, 27, 28, 29, 30, 31, 32, 33, 34, 35, 36, 37, 38, 39, 40, 41, 42, 43, 44, 45, 46, 47, 48, 49, 50, 51, 52, 53, 54, 55, 56, 57] (by decide +kernel) (by decide +kernel)
set_option maxRecDepth 20000 in
theorem gX12_judge_X12_no : GoodIn wsX12_judge (wsV RX12 91 RX12 yX12_no wsX12_no) := goodIn_app (goodIn_of _ (by decide +kernel)) ggX12_judge_X12_no
set_option maxRecDepth 20000 in
theorem ggX12_judge_X12_isCell : GoodIn wsX12_judge wsX12_isCell := goodIn_r _ [18] (by decide +kernel) (by decide +kernel)
set_option maxRecDepth 20000 in
theorem gX12_judge_X12_isCell : GoodIn wsX12_judge (va_wsS RX12 123 yX12_isCell wsX12_isCell) := goodIn_app (goodIn_of _ (by decide +kernel)) ggX12_judge_X12_isCell
set_option maxRecDepth 20000 in
theorem ggX12_judge_X12_areNear : GoodIn wsX12_judge wsX12_areNear := goodIn_r _ [21, 22, 23, 8, 24] (by decide +kernel) (by decide +kernel)
set_option maxRecDepth 20000 in
theorem gX12_judge_X12_areNear : GoodIn wsX12_judge (va_wsS RX12 281 yX12_areNear wsX12_areNear) := goodIn_app (goodIn_of _ (by decide +kernel)) ggX12_judge_X12_areNear
theorem dX12_judge_0 : decode cX12_judge 0 = .ok (.aload_n 0, 1) := by decide +kernel
theorem dX12_judge_1 : decode cX12_judge 1 = .ok (.iload_n 1, 1) := by decide +kernel
theorem dX12_judge_2 : decode cX12_judge 2 = .ok (.invokevirtual 132, 3) := by decide +kernel
theorem dX12_judge_5 : decode cX12_judge 5 = .ok (.ifCond .ne 9, 3) := by decide +kernel
theorem dX12_judge_8 : decode cX12_judge 8 = .ok (.aload_n 0, 1) := by decide +kernel
theorem dX12_judge_9 : decode cX12_judge 9 = .ok (.iconst (-1), 1) := by decide +kernel
theorem dX12_judge_10 : decode cX12_judge 10 = .ok (.invokevirtual 91, 3) := by decide +kernel
theorem dX12_judge_13 : decode cX12_judge 13 = .ok (.ireturn, 1) := by decide +kernel
theorem dX12_judge_14 : decode cX12_judge 14 = .ok (.aload_n 0, 1) := by decide +kernel
theorem dX12_judge_15 : decode cX12_judge 15 = .ok (.getfield 40, 3) := by decide +kernel
theorem dX12_judge_18 : decode cX12_judge 18 = .ok (.iload_n 1, 1) := by decide +kernel
theorem dX12_judge_19 : decode cX12_judge 19 = .ok (.iaload, 1) := by decide +kernel
theorem dX12_judge_20 : decode cX12_judge 20 = .ok (.istore_n 2, 1) := by decide +kernel
theorem dX12_judge_21 : decode cX12_judge 21 = .ok (.iconst 0, 1) := by decide +kernel
theorem dX12_judge_22 : decode cX12_judge 22 = .ok (.istore_n 3, 1) := by decide +kernel
theorem dX12_judge_23 : decode cX12_judge 23 = .ok (.iload_n 3, 1) := by decide +kernel
theorem dX12_judge_24 : decode cX12_judge 24 = .ok (.aload_n 0, 1) := by decide +kernel
theorem dX12_judge_25 : decode cX12_judge 25 = .ok (.getfield 263, 3) := by decide +kernel
theorem dX12_judge_28 : decode cX12_judge 28 = .ok (.if_icmp .ge 58, 3) := by decide +kernel
theorem dX12_judge_31 : decode cX12_judge 31 = .ok (.aload_n 0, 1) := by decide +kernel
theorem dX12_judge_32 : decode cX12_judge 32 = .ok (.getfield 73, 3) := by decide +kernel
theorem dX12_judge_35 : decode cX12_judge 35 = .ok (.iload_n 3, 1) := by decide +kernel
theorem dX12_judge_36 : decode cX12_judge 36 = .ok (.iaload, 1) := by decide +kernel
theorem dX12_judge_37 : decode cX12_judge 37 = .ok (.invokestatic 123, 3) := by decide +kernel
theorem dX12_judge_40 : decode cX12_judge 40 = .ok (.ifCond .eq 31, 3) := by decide +kernel
theorem dX12_judge_43 : decode cX12_judge 43 = .ok (.aload_n 0, 1) := by decide +kernel
theorem dX12_judge_44 : decode cX12_judge 44 = .ok (.getfield 13, 3) := by decide +kernel
theorem dX12_judge_47 : decode cX12_judge 47 = .ok (.aload_n 0, 1) := by decide +kernel
theorem dX12_judge_48 : decode cX12_judge 48 = .ok (.getfield 73, 3) := by decide +kernel
theorem dX12_judge_51 : decode cX12_judge 51 = .ok (.iload_n 3, 1) := by decide +kernel
theorem dX12_judge_52 : decode cX12_judge 52 = .ok (.iaload, 1) := by decide +kernel
theorem dX12_judge_53 : decode cX12_judge 53 = .ok (.iaload, 1) := by decide +kernel
theorem dX12_judge_54 : decode cX12_judge 54 = .ok (.iconst 1, 1) := by decide +kernel
theorem dX12_judge_55 : decode cX12_judge 55 = .ok (.if_icmp .eq 16, 3) := by decide +kernel
theorem dX12_judge_58 : decode cX12_judge 58 = .ok (.iload_n 2, 1) := by decide +kernel
theorem dX12_judge_59 : decode cX12_judge 59 = .ok (.aload_n 0, 1) := by decide +kernel
theorem dX12_judge_60 : decode cX12_judge 60 = .ok (.getfield 73, 3) := by decide +kernel
theorem dX12_judge_63 : decode cX12_judge 63 = .ok (.iload_n 3, 1) := by decide +kernel
theorem dX12_judge_64 : decode cX12_judge 64 = .ok (.iaload, 1) := by decide +kernel
theorem dX12_judge_65 : decode cX12_judge 65 = .ok (.invokestatic 281, 3) := by decide +kernel
theorem dX12_judge_68 : decode cX12_judge 68 = .ok (.ifCond .ne 5, 3) := by decide +kernel
theorem dX12_judge_71 : decode cX12_judge 71 = .ok (.iload_n 3, 1) := by decide +kernel
theorem dX12_judge_72 : decode cX12_judge 72 = .ok (.ireturn, 1) := by decide +kernel
theorem dX12_judge_73 : decode cX12_judge 73 = .ok (.aload_n 0, 1) := by decide +kernel
theorem dX12_judge_74 : decode cX12_judge 74 = .ok (.getfield 73, 3) := by decide +kernel
theorem dX12_judge_77 : decode cX12_judge 77 = .ok (.iload_n 3, 1) := by decide +kernel
theorem dX12_judge_78 : decode cX12_judge 78 = .ok (.iaload, 1) := by decide +kernel
theorem dX12_judge_79 : decode cX12_judge 79 = .ok (.istore_n 2, 1) := by decide +kernel
theorem dX12_judge_80 : decode cX12_judge 80 = .ok (.iinc 3 1, 3) := by decide +kernel
theorem dX12_judge_83 : decode cX12_judge 83 = .ok (.goto (-60), 3) := by decide +kernel
theorem dX12_judge_86 : decode cX12_judge 86 = .ok (.bipush (-9), 2) := by decide +kernel
theorem dX12_judge_88 : decode cX12_judge 88 = .ok (.ireturn, 1) := by decide +kernel
set_option maxRecDepth 20000 in
theorem ggX12_caught_X12_isPerson : GoodIn wsX12_caught wsX12_isPerson := goodIn_r _ [8, 9, 60, 61, 62, 63, 64, 65, 66, 67, 68, 69, 70, 71, 72, 73, 74, 75, 76, 77, 78, 79, 80, 81, 82, 83, 84, 85, 86, 87, 88, 89, 90, 91, 92] (by decide +kernel) (by decide +kernel)
set_option maxRecDepth 20000 in
theorem gX12_caught_X12_isPerson : GoodIn wsX12_caught (wsV RX12 132 RX12 yX12_isPerson wsX12_isPerson) := goodIn_app (goodIn_of _ (by decide +kernel)) ggX12_caught_X12_isPerson
set_option maxRecDepth 20000 in
theorem ggX12_caught_X12_no : GoodIn wsX12_caught wsX12_no := goodIn_r _ [13, 14, 60, 61, 62, 63, 64, 65, 66, 67, 68, 69, 70, 71, 72, 73, 74, 75, 76, 77, 78, 79, 80, 81, 82, 83, 84, 85, 86, 87, 88, 89, 90, 91, 92] (by decide +kernel) (by decide +kernel)
set_option maxRecDepth 20000 in
theorem gX12_caught_X12_no : GoodIn wsX12_caught (wsV RX12 91 RX12 yX12_no wsX12_no) := goodIn_app (goodIn_of _ (by decide +kernel)) ggX12_caught_X12_no
set_option maxRecDepth 20000 in
theorem ggX12_caught_X12_findLit : GoodIn wsX12_caught wsX12_findLit := goodIn_r _ [18, 3, 19, 20, 21, 22, 23, 24, 7, 25, 26, 27, 9, 28, 29, 30, 31, 32, 33, 34, 35, 36, 37, 38, 39, 40, 41, 42, 43, 44, 45, 46, 47, 48, 49, 50, 51, 60, 61, 62, 63, 64, 65, 66, 67, 68, 69, 70, 71, 72, 73, 74, 75, 76, 77, 78, 79, 80, 81, 82, 83, 84, 85, 86, 87, 88, 89, 90, 91, 92] (by decide +kernel) (by decide +kernel)
set_option maxRecDepth 20000 in
theorem gX12_caught_X12_findLit : GoodIn wsX12_caught (wsV RX12 220 RX12 yX12_findLit wsX12_findLit) := goodIn_app (goodIn_of _ (by decide +kernel)) ggX12_caught_X12_findLit
set_option maxRecDepth 20000 in
theorem ggX12_caught_X12_isCell : GoodIn wsX12_caught wsX12_isCell := goodIn_r _ [54] (by decide +kernel) (by decide +kernel)
set_option maxRecDepth 20000 in
theorem gX12_caught_X12_isCell : GoodIn wsX12_caught (va_wsS RX12 123 yX12_isCell wsX12_isCell) := goodIn_app (goodIn_of _ (by decide +kernel)) ggX12_caught_X12_isCell
set_option maxRecDepth 20000 in
theorem ggX12_caught_X12_litBits : GoodIn wsX12_caught wsX12_litBits := goodIn_r _ [58, 19, 59, 60, 61, 62, 63, 64, 65, 66, 67, 68, 69, 70, 71, 72, 73, 74, 75, 76, 77, 78, 79, 80, 81, 82, 83, 84, 85, 86, 87, 88, 89, 90, 91, 92] (by decide +kernel) (by decide +kernel)
set_option maxRecDepth 20000 in
theorem gX12_caught_X12_litBits : GoodIn wsX12_caught (wsV RX12 239 RX12 yX12_litBits wsX12_litBits) := goodIn_app (goodIn_of _ (by decide +kernel)) ggX12_caught_X12_litBits
theorem dX12_caught_0 : decode cX12_caught 0 = .ok (.aload_n 0, 1) := by decide +kernel
theorem dX12_caught_1 : decode cX12_caught 1 = .ok (.iload_n 1, 1) := by decide +kernel
theorem dX12_caught_2 : decode cX12_caught 2 = .ok (.invokevirtual 132, 3) := by decide +kernel
theorem dX12_caught_5 : decode cX12_caught 5 = .ok (.ifCond .ne 9, 3) := by decide +kernel
theorem dX12_caught_8 : decode cX12_caught 8 = .ok (.aload_n 0, 1) := by decide +kernel
theorem dX12_caught_9 : decode cX12_caught 9 = .ok (.iconst (-1), 1) := by decide +kernel
theorem dX12_caught_10 : decode cX12_caught 10 = .ok (.invokevirtual 91, 3) := by decide +kernel
theorem dX12_caught_13 : decode cX12_caught 13 = .ok (.ireturn, 1) := by decide +kernel
theorem dX12_caught_14 : decode cX12_caught 14 = .ok (.aload_n 0, 1) := by decide +kernel
theorem dX12_caught_15 : decode cX12_caught 15 = .ok (.getfield 263, 3) := by decide +kernel
theorem dX12_caught_18 : decode cX12_caught 18 = .ok (.istore_n 2, 1) := by decide +kernel
theorem dX12_caught_19 : decode cX12_caught 19 = .ok (.aload_n 0, 1) := by decide +kernel
theorem dX12_caught_20 : decode cX12_caught 20 = .ok (.iconst 0, 1) := by decide +kernel
theorem dX12_caught_21 : decode cX12_caught 21 = .ok (.putfield 263, 3) := by decide +kernel
theorem dX12_caught_24 : decode cX12_caught 24 = .ok (.aload_n 0, 1) := by decide +kernel
theorem dX12_caught_25 : decode cX12_caught 25 = .ok (.invokevirtual 220, 3) := by decide +kernel
theorem dX12_caught_28 : decode cX12_caught 28 = .ok (.iconst 0, 1) := by decide +kernel
theorem dX12_caught_29 : decode cX12_caught 29 = .ok (.istore_n 3, 1) := by decide +kernel
theorem dX12_caught_30 : decode cX12_caught 30 = .ok (.iload_n 3, 1) := by decide +kernel
theorem dX12_caught_31 : decode cX12_caught 31 = .ok (.iload_n 2, 1) := by decide +kernel
theorem dX12_caught_32 : decode cX12_caught 32 = .ok (.if_icmp .ge 42, 3) := by decide +kernel
theorem dX12_caught_35 : decode cX12_caught 35 = .ok (.aload_n 0, 1) := by decide +kernel
theorem dX12_caught_36 : decode cX12_caught 36 = .ok (.getfield 73, 3) := by decide +kernel
theorem dX12_caught_39 : decode cX12_caught 39 = .ok (.iload_n 3, 1) := by decide +kernel
theorem dX12_caught_40 : decode cX12_caught 40 = .ok (.iaload, 1) := by decide +kernel
theorem dX12_caught_41 : decode cX12_caught 41 = .ok (.invokestatic 123, 3) := by decide +kernel
theorem dX12_caught_44 : decode cX12_caught 44 = .ok (.ifCond .eq 24, 3) := by decide +kernel
theorem dX12_caught_47 : decode cX12_caught 47 = .ok (.aload_n 0, 1) := by decide +kernel
theorem dX12_caught_48 : decode cX12_caught 48 = .ok (.getfield 67, 3) := by decide +kernel
theorem dX12_caught_51 : decode cX12_caught 51 = .ok (.aload_n 0, 1) := by decide +kernel
theorem dX12_caught_52 : decode cX12_caught 52 = .ok (.getfield 73, 3) := by decide +kernel
theorem dX12_caught_55 : decode cX12_caught 55 = .ok (.iload_n 3, 1) := by decide +kernel
theorem dX12_caught_56 : decode cX12_caught 56 = .ok (.iaload, 1) := by decide +kernel
theorem dX12_caught_57 : decode cX12_caught 57 = .ok (.iaload, 1) := by decide +kernel
theorem dX12_caught_58 : decode cX12_caught 58 = .ok (.aload_n 0, 1) := by decide +kernel
theorem dX12_caught_59 : decode cX12_caught 59 = .ok (.invokevirtual 239, 3) := by decide +kernel
theorem dX12_caught_62 : decode cX12_caught 62 = .ok (.iand, 1) := by decide +kernel
theorem dX12_caught_63 : decode cX12_caught 63 = .ok (.ifCond .eq 5, 3) := by decide +kernel
theorem dX12_caught_66 : decode cX12_caught 66 = .ok (.iload_n 3, 1) := by decide +kernel
theorem dX12_caught_67 : decode cX12_caught 67 = .ok (.ireturn, 1) := by decide +kernel
theorem dX12_caught_68 : decode cX12_caught 68 = .ok (.iinc 3 1, 3) := by decide +kernel
theorem dX12_caught_71 : decode cX12_caught 71 = .ok (.goto (-41), 3) := by decide +kernel
theorem dX12_caught_74 : decode cX12_caught 74 = .ok (.bipush (-9), 2) := by decide +kernel
theorem dX12_caught_76 : decode cX12_caught 76 = .ok (.ireturn, 1) := by decide +kernel
set_option maxRecDepth 20000 in
theorem ggX12_lots_X12_isPerson : GoodIn wsX12_lots wsX12_isPerson := goodIn_r _ [13, 14, 64, 65, 66, 67, 68, 69, 70, 71, 72, 73, 74, 75, 76, 77, 78, 79, 80, 81, 82, 83, 84, 85, 86, 87, 88, 89, 90, 91, 92, 93, 94, 95, 96] (by decide +kernel) (by decide +kernel)
set_option maxRecDepth 20000 in
theorem gX12_lots_X12_isPerson : GoodIn wsX12_lots (wsV RX12 132 RX12 yX12_isPerson wsX12_isPerson) := goodIn_app (goodIn_of _ (by decide +kernel)) ggX12_lots_X12_isPerson
set_option maxRecDepth 20000 in
theorem ggX12_lots_X12_bound : GoodIn wsX12_lots wsX12_bound := goodIn_r _ [17] (by decide +kernel) (by decide +kernel)
set_option maxRecDepth 20000 in
theorem gX12_lots_X12_bound : GoodIn wsX12_lots (va_wsS RX12 84 yX12_bound wsX12_bound) := goodIn_app (goodIn_of _ (by decide +kernel)) ggX12_lots_X12_bound
set_option maxRecDepth 20000 in
theorem ggX12_lots_X12_no : GoodIn wsX12_lots wsX12_no := goodIn_r _ [21, 22, 64, 65, 66, 67, 68, 69, 70, 71, 72, 73, 74, 75, 76, 77, 78, 79, 80, 81, 82, 83, 84, 85, 86, 87, 88, 89, 90, 91, 92, 93, 94, 95, 96] (by decide +kernel) (by decide +kernel)
set_option maxRecDepth 20000 in
theorem gX12_lots_X12_no : GoodIn wsX12_lots (wsV RX12 91 RX12 yX12_no wsX12_no) := goodIn_app (goodIn_of _ (by decide +kernel)) ggX12_lots_X12_no
set_option maxRecDepth 20000 in
theorem ggX12_lots_X12_findLit : GoodIn wsX12_lots wsX12_findLit := goodIn_r _ [26, 8, 1, 27, 28, 29, 30, 31, 12, 32, 33, 2, 14, 3, 34, 35, 36, 37, 7, 38, 39, 40, 41, 42, 43, 44, 45, 46, 47, 48, 49, 50, 51, 52, 53, 54, 55, 64, 65, 66, 67, 68, 69, 70, 71, 72, 73, 74, 75, 76, 77, 78, 79, 80, 81, 82, 83, 84, 85, 86, 87, 88, 89, 90, 91, 92, 93, 94, 95, 96] (by decide +kernel) (by decide +kernel)
set_option maxRecDepth 20000 in
theorem gX12_lots_X12_findLit : GoodIn wsX12_lots (wsV RX12 220 RX12 yX12_findLit wsX12_findLit) := goodIn_app (goodIn_of _ (by decide +kernel)) ggX12_lots_X12_findLit
set_option maxRecDepth 20000 in
theorem ggX12_lots_X12_litBits : GoodIn wsX12_lots wsX12_litBits := goodIn_r _ [59, 1, 60, 64, 65, 66, 67, 68, 69, 70, 71, 72, 73, 74, 75, 76, 77, 78, 79, 80, 81, 82, 83, 84, 85, 86, 87, 88, 89, 90, 91, 92, 93, 94, 95, 96] (by decide +kernel) (by decide +kernel)
set_option maxRecDepth 20000 in
theorem gX12_lots_X12_litBits : GoodIn wsX12_lots (wsV RX12 239 RX12 yX12_litBits wsX12_litBits) := goodIn_app (goodIn_of _ (by decide +kernel)) ggX12_lots_X12_litBits
set_option maxRecDepth 20000 in
theorem ggX12_lots_X12_beside : GoodIn wsX12_lots wsX12_beside := goodIn_r _ [55] (by decide +kernel) (by decide +kernel)
set_option maxRecDepth 20000 in
theorem gX12_lots_X12_beside : GoodIn wsX12_lots (va_wsS RX12 195 yX12_beside wsX12_beside) := goodIn_app (goodIn_of _ (by decide +kernel)) ggX12_lots_X12_beside
set_option maxRecDepth 20000 in
theorem ggX12_lots_X12_bits : GoodIn wsX12_lots wsX12_bits := goodIn_r _ [63] (by decide +kernel) (by decide +kernel)
set_option maxRecDepth 20000 in
theorem gX12_lots_X12_bits : GoodIn wsX12_lots (va_wsS RX12 266 yX12_bits wsX12_bits) := goodIn_app (goodIn_of _ (by decide +kernel)) ggX12_lots_X12_bits
theorem dX12_lots_0 : decode cX12_lots 0 = .ok (.aload_n 0, 1) := by decide +kernel
theorem dX12_lots_1 : decode cX12_lots 1 = .ok (.iload_n 1, 1) := by decide +kernel
theorem dX12_lots_2 : decode cX12_lots 2 = .ok (.invokevirtual 132, 3) := by decide +kernel
theorem dX12_lots_5 : decode cX12_lots 5 = .ok (.ifCond .ne 7, 3) := by decide +kernel
theorem dX12_lots_8 : decode cX12_lots 8 = .ok (.iconst (-1), 1) := by decide +kernel
theorem dX12_lots_9 : decode cX12_lots 9 = .ok (.goto 10, 3) := by decide +kernel
theorem dX12_lots_12 : decode cX12_lots 12 = .ok (.iload_n 2, 1) := by decide +kernel
theorem dX12_lots_13 : decode cX12_lots 13 = .ok (.iconst 1, 1) := by decide +kernel
theorem dX12_lots_14 : decode cX12_lots 14 = .ok (.bipush 20, 2) := by decide +kernel
theorem dX12_lots_16 : decode cX12_lots 16 = .ok (.invokestatic 84, 3) := by decide +kernel
theorem dX12_lots_19 : decode cX12_lots 19 = .ok (.istore 4, 2) := by decide +kernel
theorem dX12_lots_21 : decode cX12_lots 21 = .ok (.iload 4, 2) := by decide +kernel
theorem dX12_lots_23 : decode cX12_lots 23 = .ok (.ifCond .eq 10, 3) := by decide +kernel
theorem dX12_lots_26 : decode cX12_lots 26 = .ok (.aload_n 0, 1) := by decide +kernel
theorem dX12_lots_27 : decode cX12_lots 27 = .ok (.iload 4, 2) := by decide +kernel
theorem dX12_lots_29 : decode cX12_lots 29 = .ok (.invokevirtual 91, 3) := by decide +kernel
theorem dX12_lots_32 : decode cX12_lots 32 = .ok (.ireturn, 1) := by decide +kernel
theorem dX12_lots_33 : decode cX12_lots 33 = .ok (.aload_n 0, 1) := by decide +kernel
theorem dX12_lots_34 : decode cX12_lots 34 = .ok (.invokevirtual 220, 3) := by decide +kernel
theorem dX12_lots_37 : decode cX12_lots 37 = .ok (.aload_n 0, 1) := by decide +kernel
theorem dX12_lots_38 : decode cX12_lots 38 = .ok (.invokevirtual 239, 3) := by decide +kernel
theorem dX12_lots_41 : decode cX12_lots 41 = .ok (.istore 5, 2) := by decide +kernel
theorem dX12_lots_43 : decode cX12_lots 43 = .ok (.iconst 0, 1) := by decide +kernel
theorem dX12_lots_44 : decode cX12_lots 44 = .ok (.istore 6, 2) := by decide +kernel
theorem dX12_lots_46 : decode cX12_lots 46 = .ok (.iload 6, 2) := by decide +kernel
theorem dX12_lots_48 : decode cX12_lots 48 = .ok (.aload_n 0, 1) := by decide +kernel
theorem dX12_lots_49 : decode cX12_lots 49 = .ok (.getfield 76, 3) := by decide +kernel
theorem dX12_lots_52 : decode cX12_lots 52 = .ok (.if_icmp .ge 35, 3) := by decide +kernel
theorem dX12_lots_55 : decode cX12_lots 55 = .ok (.iload 5, 2) := by decide +kernel
theorem dX12_lots_57 : decode cX12_lots 57 = .ok (.aload_n 0, 1) := by decide +kernel
theorem dX12_lots_58 : decode cX12_lots 58 = .ok (.getfield 16, 3) := by decide +kernel
theorem dX12_lots_61 : decode cX12_lots 61 = .ok (.iload 6, 2) := by decide +kernel
theorem dX12_lots_63 : decode cX12_lots 63 = .ok (.iaload, 1) := by decide +kernel
theorem dX12_lots_64 : decode cX12_lots 64 = .ok (.iconst 2, 1) := by decide +kernel
theorem dX12_lots_65 : decode cX12_lots 65 = .ok (.if_icmp .ne 12, 3) := by decide +kernel
theorem dX12_lots_68 : decode cX12_lots 68 = .ok (.iconst 1, 1) := by decide +kernel
theorem dX12_lots_69 : decode cX12_lots 69 = .ok (.iload 6, 2) := by decide +kernel
theorem dX12_lots_71 : decode cX12_lots 71 = .ok (.ishl, 1) := by decide +kernel
theorem dX12_lots_72 : decode cX12_lots 72 = .ok (.iconst (-1), 1) := by decide +kernel
theorem dX12_lots_73 : decode cX12_lots 73 = .ok (.ixor, 1) := by decide +kernel
theorem dX12_lots_74 : decode cX12_lots 74 = .ok (.goto 4, 3) := by decide +kernel
theorem dX12_lots_77 : decode cX12_lots 77 = .ok (.iconst (-1), 1) := by decide +kernel
theorem dX12_lots_78 : decode cX12_lots 78 = .ok (.iand, 1) := by decide +kernel
theorem dX12_lots_79 : decode cX12_lots 79 = .ok (.istore 5, 2) := by decide +kernel
theorem dX12_lots_81 : decode cX12_lots 81 = .ok (.iinc 6 1, 3) := by decide +kernel
theorem dX12_lots_84 : decode cX12_lots 84 = .ok (.goto (-38), 3) := by decide +kernel
theorem dX12_lots_87 : decode cX12_lots 87 = .ok (.iload_n 3, 1) := by decide +kernel
