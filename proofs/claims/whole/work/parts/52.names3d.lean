theorem dX11_lots_18 : decode cX11_lots 18 = .ok (.iconst 1, 1) := by decide +kernel
theorem dX11_lots_19 : decode cX11_lots 19 = .ok (.bipush 20, 2) := by decide +kernel
theorem dX11_lots_21 : decode cX11_lots 21 = .ok (.invokestatic 143, 3) := by decide +kernel
theorem dX11_lots_24 : decode cX11_lots 24 = .ok (.istore 4, 2) := by decide +kernel
theorem dX11_lots_26 : decode cX11_lots 26 = .ok (.iload 4, 2) := by decide +kernel
theorem dX11_lots_28 : decode cX11_lots 28 = .ok (.ifCond .ge 10, 3) := by decide +kernel
theorem dX11_lots_31 : decode cX11_lots 31 = .ok (.aload_n 0, 1) := by decide +kernel
theorem dX11_lots_32 : decode cX11_lots 32 = .ok (.iload 4, 2) := by decide +kernel
theorem dX11_lots_34 : decode cX11_lots 34 = .ok (.invokevirtual 36, 3) := by decide +kernel
theorem dX11_lots_37 : decode cX11_lots 37 = .ok (.ireturn, 1) := by decide +kernel
theorem dX11_lots_38 : decode cX11_lots 38 = .ok (.iconst 0, 1) := by decide +kernel
theorem dX11_lots_39 : decode cX11_lots 39 = .ok (.istore 5, 2) := by decide +kernel
theorem dX11_lots_41 : decode cX11_lots 41 = .ok (.iconst 0, 1) := by decide +kernel
theorem dX11_lots_42 : decode cX11_lots 42 = .ok (.istore 6, 2) := by decide +kernel
theorem dX11_lots_44 : decode cX11_lots 44 = .ok (.iload 6, 2) := by decide +kernel
theorem dX11_lots_46 : decode cX11_lots 46 = .ok (.aload_n 0, 1) := by decide +kernel
theorem dX11_lots_47 : decode cX11_lots 47 = .ok (.getfield 30, 3) := by decide +kernel
theorem dX11_lots_50 : decode cX11_lots 50 = .ok (.getfield 179, 3) := by decide +kernel
theorem dX11_lots_53 : decode cX11_lots 53 = .ok (.if_icmp .ge 70, 3) := by decide +kernel
theorem dX11_lots_56 : decode cX11_lots 56 = .ok (.aload_n 0, 1) := by decide +kernel
theorem dX11_lots_57 : decode cX11_lots 57 = .ok (.getfield 30, 3) := by decide +kernel
theorem dX11_lots_60 : decode cX11_lots 60 = .ok (.iload 6, 2) := by decide +kernel
theorem dX11_lots_62 : decode cX11_lots 62 = .ok (.invokevirtual 71, 3) := by decide +kernel
theorem dX11_lots_65 : decode cX11_lots 65 = .ok (.astore 7, 2) := by decide +kernel
theorem dX11_lots_67 : decode cX11_lots 67 = .ok (.aload 7, 2) := by decide +kernel
theorem dX11_lots_69 : decode cX11_lots 69 = .ok (.ifnull 48, 3) := by decide +kernel
theorem dX11_lots_72 : decode cX11_lots 72 = .ok (.aload 7, 2) := by decide +kernel
theorem dX11_lots_74 : decode cX11_lots 74 = .ok (.getfield 75, 3) := by decide +kernel
theorem dX11_lots_77 : decode cX11_lots 77 = .ok (.ifCond .eq 40, 3) := by decide +kernel
theorem dX11_lots_80 : decode cX11_lots 80 = .ok (.aload 7, 2) := by decide +kernel
theorem dX11_lots_82 : decode cX11_lots 82 = .ok (.invokevirtual 95, 3) := by decide +kernel
theorem dX11_lots_85 : decode cX11_lots 85 = .ok (.iconst 2, 1) := by decide +kernel
theorem dX11_lots_86 : decode cX11_lots 86 = .ok (.if_icmp .eq 31, 3) := by decide +kernel
theorem dX11_lots_89 : decode cX11_lots 89 = .ok (.iload 5, 2) := by decide +kernel
theorem dX11_lots_91 : decode cX11_lots 91 = .ok (.aload_n 0, 1) := by decide +kernel
theorem dX11_lots_92 : decode cX11_lots 92 = .ok (.aload 7, 2) := by decide +kernel
theorem dX11_lots_94 : decode cX11_lots 94 = .ok (.aload_n 0, 1) := by decide +kernel
theorem dX11_lots_95 : decode cX11_lots 95 = .ok (.getfield 30, 3) := by decide +kernel
theorem dX11_lots_98 : decode cX11_lots 98 = .ok (.invokevirtual 108, 3) := by decide +kernel
theorem dX11_lots_101 : decode cX11_lots 101 = .ok (.aload_n 0, 1) := by decide +kernel
theorem dX11_lots_102 : decode cX11_lots 102 = .ok (.getfield 30, 3) := by decide +kernel
theorem dX11_lots_105 : decode cX11_lots 105 = .ok (.iload_n 1, 1) := by decide +kernel
theorem dX11_lots_106 : decode cX11_lots 106 = .ok (.invokevirtual 159, 3) := by decide +kernel
theorem dX11_lots_109 : decode cX11_lots 109 = .ok (.iload_n 2, 1) := by decide +kernel
theorem dX11_lots_110 : decode cX11_lots 110 = .ok (.iload_n 3, 1) := by decide +kernel
theorem dX11_lots_111 : decode cX11_lots 111 = .ok (.invokevirtual 243, 3) := by decide +kernel
theorem dX11_lots_114 : decode cX11_lots 114 = .ok (.iadd, 1) := by decide +kernel
theorem dX11_lots_115 : decode cX11_lots 115 = .ok (.istore 5, 2) := by decide +kernel
theorem dX11_lots_117 : decode cX11_lots 117 = .ok (.iinc 6 1, 3) := by decide +kernel
theorem dX11_lots_120 : decode cX11_lots 120 = .ok (.goto (-76), 3) := by decide +kernel
theorem dX11_lots_123 : decode cX11_lots 123 = .ok (.iload 5, 2) := by decide +kernel
theorem dX11_lots_125 : decode cX11_lots 125 = .ok (.ireturn, 1) := by decide +kernel
set_option maxRecDepth 20000 in
theorem ggX11_minutesIn_X2_towards : GoodIn wsX11_minutesIn wsX2_towards := goodIn_r _ [8, 9, 10, 11, 12, 7, 13] (by decide +kernel) (by decide +kernel)
set_option maxRecDepth 20000 in
theorem gX11_minutesIn_X2_towards : GoodIn wsX11_minutesIn (va_wsS RX11 250 yX2_towards wsX2_towards) := goodIn_app (goodIn_of _ (by decide +kernel)) ggX11_minutesIn_X2_towards
set_option maxRecDepth 20000 in
theorem ggX11_minutesIn_X10_free : GoodIn wsX11_minutesIn wsX10_free := goodIn_r _ [18, 19, 20, 21, 37, 38, 39, 40, 41, 42] (by decide +kernel) (by decide +kernel)
set_option maxRecDepth 20000 in
theorem gX11_minutesIn_X10_free : GoodIn wsX11_minutesIn (wsV RX11 162 RX10 yX10_free wsX10_free) := goodIn_app (goodIn_of _ (by decide +kernel)) ggX11_minutesIn_X10_free
set_option maxRecDepth 20000 in
theorem ggX11_minutesIn_X2_has : GoodIn wsX11_minutesIn wsX2_has := goodIn_r _ [24, 11, 12, 7, 13] (by decide +kernel) (by decide +kernel)
set_option maxRecDepth 20000 in
theorem gX11_minutesIn_X2_has : GoodIn wsX11_minutesIn (va_wsS RX11 122 yX2_has wsX2_has) := goodIn_app (goodIn_of _ (by decide +kernel)) ggX11_minutesIn_X2_has
set_option maxRecDepth 20000 in
theorem ggX11_minutesIn_X11_yes : GoodIn wsX11_minutesIn wsX11_yes := goodIn_r _ [28] (by decide +kernel) (by decide +kernel)
set_option maxRecDepth 20000 in
theorem gX11_minutesIn_X11_yes : GoodIn wsX11_minutesIn (va_wsS RX11 81 yX11_yes wsX11_yes) := goodIn_app (goodIn_of _ (by decide +kernel)) ggX11_minutesIn_X11_yes
theorem dX11_minutesIn_0 : decode cX11_minutesIn 0 = .ok (.iconst 0, 1) := by decide +kernel
theorem dX11_minutesIn_1 : decode cX11_minutesIn 1 = .ok (.istore 6, 2) := by decide +kernel
theorem dX11_minutesIn_3 : decode cX11_minutesIn 3 = .ok (.iload 5, 2) := by decide +kernel
theorem dX11_minutesIn_5 : decode cX11_minutesIn 5 = .ok (.istore 7, 2) := by decide +kernel
theorem dX11_minutesIn_7 : decode cX11_minutesIn 7 = .ok (.iconst 0, 1) := by decide +kernel
theorem dX11_minutesIn_8 : decode cX11_minutesIn 8 = .ok (.istore 8, 2) := by decide +kernel
theorem dX11_minutesIn_10 : decode cX11_minutesIn 10 = .ok (.iload 8, 2) := by decide +kernel
theorem dX11_minutesIn_12 : decode cX11_minutesIn 12 = .ok (.iload 4, 2) := by decide +kernel
theorem dX11_minutesIn_14 : decode cX11_minutesIn 14 = .ok (.if_icmp .ge 94, 3) := by decide +kernel
theorem dX11_minutesIn_17 : decode cX11_minutesIn 17 = .ok (.iload_n 3, 1) := by decide +kernel
theorem dX11_minutesIn_18 : decode cX11_minutesIn 18 = .ok (.istore 9, 2) := by decide +kernel
theorem dX11_minutesIn_20 : decode cX11_minutesIn 20 = .ok (.iconst 0, 1) := by decide +kernel
theorem dX11_minutesIn_21 : decode cX11_minutesIn 21 = .ok (.istore 10, 2) := by decide +kernel
theorem dX11_minutesIn_23 : decode cX11_minutesIn 23 = .ok (.iload 10, 2) := by decide +kernel
theorem dX11_minutesIn_25 : decode cX11_minutesIn 25 = .ok (.bipush 12, 2) := by decide +kernel
theorem dX11_minutesIn_27 : decode cX11_minutesIn 27 = .ok (.if_icmp .ge 75, 3) := by decide +kernel
theorem dX11_minutesIn_30 : decode cX11_minutesIn 30 = .ok (.iload 7, 2) := by decide +kernel
theorem dX11_minutesIn_32 : decode cX11_minutesIn 32 = .ok (.ldc 247, 2) := by decide +kernel
theorem dX11_minutesIn_34 : decode cX11_minutesIn 34 = .ok (.imul, 1) := by decide +kernel
theorem dX11_minutesIn_35 : decode cX11_minutesIn 35 = .ok (.ldc 248, 2) := by decide +kernel
theorem dX11_minutesIn_37 : decode cX11_minutesIn 37 = .ok (.iadd, 1) := by decide +kernel
theorem dX11_minutesIn_38 : decode cX11_minutesIn 38 = .ok (.istore 7, 2) := by decide +kernel
theorem dX11_minutesIn_40 : decode cX11_minutesIn 40 = .ok (.iload 9, 2) := by decide +kernel
theorem dX11_minutesIn_42 : decode cX11_minutesIn 42 = .ok (.iload 7, 2) := by decide +kernel
theorem dX11_minutesIn_44 : decode cX11_minutesIn 44 = .ok (.ldc 249, 2) := by decide +kernel
theorem dX11_minutesIn_46 : decode cX11_minutesIn 46 = .ok (.iand, 1) := by decide +kernel
theorem dX11_minutesIn_47 : decode cX11_minutesIn 47 = .ok (.sipush 256, 3) := by decide +kernel
theorem dX11_minutesIn_50 : decode cX11_minutesIn 50 = .ok (.idiv, 1) := by decide +kernel
theorem dX11_minutesIn_51 : decode cX11_minutesIn 51 = .ok (.iconst 4, 1) := by decide +kernel
theorem dX11_minutesIn_52 : decode cX11_minutesIn 52 = .ok (.irem, 1) := by decide +kernel
theorem dX11_minutesIn_53 : decode cX11_minutesIn 53 = .ok (.invokestatic 250, 3) := by decide +kernel
theorem dX11_minutesIn_56 : decode cX11_minutesIn 56 = .ok (.istore 11, 2) := by decide +kernel
theorem dX11_minutesIn_58 : decode cX11_minutesIn 58 = .ok (.aload_n 0, 1) := by decide +kernel
theorem dX11_minutesIn_59 : decode cX11_minutesIn 59 = .ok (.getfield 30, 3) := by decide +kernel
theorem dX11_minutesIn_62 : decode cX11_minutesIn 62 = .ok (.invokevirtual 162, 3) := by decide +kernel
theorem dX11_minutesIn_65 : decode cX11_minutesIn 65 = .ok (.iload 11, 2) := by decide +kernel
theorem dX11_minutesIn_67 : decode cX11_minutesIn 67 = .ok (.invokestatic 122, 3) := by decide +kernel
theorem dX11_minutesIn_70 : decode cX11_minutesIn 70 = .ok (.ifCond .eq 8, 3) := by decide +kernel
theorem dX11_minutesIn_73 : decode cX11_minutesIn 73 = .ok (.iload 11, 2) := by decide +kernel
theorem dX11_minutesIn_75 : decode cX11_minutesIn 75 = .ok (.goto 5, 3) := by decide +kernel
theorem dX11_minutesIn_78 : decode cX11_minutesIn 78 = .ok (.iload 9, 2) := by decide +kernel
theorem dX11_minutesIn_80 : decode cX11_minutesIn 80 = .ok (.istore 9, 2) := by decide +kernel
theorem dX11_minutesIn_82 : decode cX11_minutesIn 82 = .ok (.iload 6, 2) := by decide +kernel
theorem dX11_minutesIn_84 : decode cX11_minutesIn 84 = .ok (.lload_n 1, 1) := by decide +kernel
theorem dX11_minutesIn_85 : decode cX11_minutesIn 85 = .ok (.iload 9, 2) := by decide +kernel
theorem dX11_minutesIn_87 : decode cX11_minutesIn 87 = .ok (.invokestatic 122, 3) := by decide +kernel
theorem dX11_minutesIn_90 : decode cX11_minutesIn 90 = .ok (.invokestatic 81, 3) := by decide +kernel
theorem dX11_minutesIn_93 : decode cX11_minutesIn 93 = .ok (.iadd, 1) := by decide +kernel
theorem dX11_minutesIn_94 : decode cX11_minutesIn 94 = .ok (.istore 6, 2) := by decide +kernel
theorem dX11_minutesIn_96 : decode cX11_minutesIn 96 = .ok (.iinc 10 1, 3) := by decide +kernel
theorem dX11_minutesIn_99 : decode cX11_minutesIn 99 = .ok (.goto (-76), 3) := by decide +kernel
theorem dX11_minutesIn_102 : decode cX11_minutesIn 102 = .ok (.iinc 8 1, 3) := by decide +kernel
theorem dX11_minutesIn_105 : decode cX11_minutesIn 105 = .ok (.goto (-95), 3) := by decide +kernel
theorem dX11_minutesIn_108 : decode cX11_minutesIn 108 = .ok (.iload 6, 2) := by decide +kernel
theorem dX11_minutesIn_110 : decode cX11_minutesIn 110 = .ok (.ireturn, 1) := by decide +kernel
set_option maxRecDepth 20000 in
theorem ggX11_count_X2_howMany : GoodIn wsX11_count wsX2_howMany := goodIn_r _ [13, 14, 15, 16, 17, 18, 19, 20, 21] (by decide +kernel) (by decide +kernel)
set_option maxRecDepth 20000 in
theorem gX11_count_X2_howMany : GoodIn wsX11_count (va_wsS RX11 112 yX2_howMany wsX2_howMany) := goodIn_app (goodIn_of _ (by decide +kernel)) ggX11_count_X2_howMany
set_option maxRecDepth 20000 in
theorem ggX11_count_X10_allScenes : GoodIn wsX11_count wsX10_allScenes := goodIn_r _ [26, 27, 28, 29, 30, 31, 25, 32, 33, 113, 114, 115, 116, 117, 118, 121, 122, 123, 124, 125, 126, 127, 128, 129, 130, 131, 132, 133, 134, 135, 136, 137, 138, 139, 140, 141, 142, 143, 144, 145, 146, 147, 148, 149, 150, 151, 152, 153, 154, 155] (by decide +kernel) (by decide +kernel)
set_option maxRecDepth 20000 in
theorem gX11_count_X10_allScenes : GoodIn wsX11_count (wsV RX11 260 RX10 yX10_allScenes wsX10_allScenes) := goodIn_app (goodIn_of _ (by decide +kernel)) ggX11_count_X10_allScenes
set_option maxRecDepth 20000 in
theorem ggX11_count_X10_litBut : GoodIn wsX11_count wsX10_litBut := goodIn_r _ [37, 38, 39, 40, 25, 41, 27, 42, 29, 30, 31, 32, 33, 43, 44, 45, 46, 47, 48, 49, 50, 51, 52, 53, 54, 55, 56, 57, 58, 59, 60, 61, 62, 63, 64, 65, 66, 67, 68, 69, 70, 71, 72, 73, 74, 75, 76, 77, 78, 79, 80, 81, 82, 83, 84, 85, 86, 87, 12, 88, 89, 90, 91, 92, 93, 94, 95, 96, 97, 98, 99, 100, 101, 102, 103, 113, 114, 115, 116, 117, 118, 121, 122, 123, 124, 125, 126, 127, 128, 129, 130, 131, 132, 133, 134, 135, 136, 137, 138, 139, 140, 141, 142, 143, 144, 145, 146, 147, 148, 149, 150, 151, 152, 153, 154, 155] (by decide +kernel) (by decide +kernel)
set_option maxRecDepth 20000 in
theorem gX11_count_X10_litBut : GoodIn wsX11_count (wsV RX11 170 RX10 yX10_litBut wsX10_litBut) := goodIn_app (goodIn_of _ (by decide +kernel)) ggX11_count_X10_litBut
set_option maxRecDepth 20000 in
theorem ggX11_count_X10_litLamps : GoodIn wsX11_count wsX10_litLamps := goodIn_r _ [41, 27, 42, 29, 30, 31, 25, 32, 33, 113, 114, 115, 116, 117, 118, 121, 122, 123, 124, 125, 126, 127, 128, 129, 130, 131, 132, 133, 134, 135, 136, 137, 138, 139, 140, 141, 142, 143, 144, 145, 146, 147, 148, 149, 150, 151, 152, 153, 154, 155] (by decide +kernel) (by decide +kernel)
set_option maxRecDepth 20000 in
theorem gX11_count_X10_litLamps : GoodIn wsX11_count (wsV RX11 263 RX10 yX10_litLamps wsX10_litLamps) := goodIn_app (goodIn_of _ (by decide +kernel)) ggX11_count_X10_litLamps
theorem dX11_count_0 : decode cX11_count 0 = .ok (.iload_n 1, 1) := by decide +kernel
theorem dX11_count_1 : decode cX11_count 1 = .ok (.tableswitch 127 0 8 #[51, 59, 67, 78, 86, 94, 106, 114, 119], 51) := by decide +kernel
theorem dX11_count_52 : decode cX11_count 52 = .ok (.aload_n 0, 1) := by decide +kernel
theorem dX11_count_53 : decode cX11_count 53 = .ok (.getfield 30, 3) := by decide +kernel
theorem dX11_count_56 : decode cX11_count 56 = .ok (.getfield 179, 3) := by decide +kernel
theorem dX11_count_59 : decode cX11_count 59 = .ok (.ireturn, 1) := by decide +kernel
theorem dX11_count_60 : decode cX11_count 60 = .ok (.aload_n 0, 1) := by decide +kernel
theorem dX11_count_61 : decode cX11_count 61 = .ok (.getfield 30, 3) := by decide +kernel
theorem dX11_count_64 : decode cX11_count 64 = .ok (.getfield 253, 3) := by decide +kernel
theorem dX11_count_67 : decode cX11_count 67 = .ok (.ireturn, 1) := by decide +kernel
theorem dX11_count_68 : decode cX11_count 68 = .ok (.aload_n 0, 1) := by decide +kernel
theorem dX11_count_69 : decode cX11_count 69 = .ok (.getfield 30, 3) := by decide +kernel
theorem dX11_count_72 : decode cX11_count 72 = .ok (.getfield 256, 3) := by decide +kernel
theorem dX11_count_75 : decode cX11_count 75 = .ok (.invokestatic 112, 3) := by decide +kernel
theorem dX11_count_78 : decode cX11_count 78 = .ok (.ireturn, 1) := by decide +kernel
theorem dX11_count_79 : decode cX11_count 79 = .ok (.aload_n 0, 1) := by decide +kernel
theorem dX11_count_80 : decode cX11_count 80 = .ok (.getfield 30, 3) := by decide +kernel
theorem dX11_count_83 : decode cX11_count 83 = .ok (.getfield 92, 3) := by decide +kernel
theorem dX11_count_86 : decode cX11_count 86 = .ok (.ireturn, 1) := by decide +kernel
theorem dX11_count_87 : decode cX11_count 87 = .ok (.aload_n 0, 1) := by decide +kernel
theorem dX11_count_88 : decode cX11_count 88 = .ok (.getfield 30, 3) := by decide +kernel
theorem dX11_count_91 : decode cX11_count 91 = .ok (.invokevirtual 260, 3) := by decide +kernel
theorem dX11_count_94 : decode cX11_count 94 = .ok (.ireturn, 1) := by decide +kernel
theorem dX11_count_95 : decode cX11_count 95 = .ok (.aload_n 0, 1) := by decide +kernel
theorem dX11_count_96 : decode cX11_count 96 = .ok (.getfield 30, 3) := by decide +kernel
theorem dX11_count_99 : decode cX11_count 99 = .ok (.iconst 0, 1) := by decide +kernel
theorem dX11_count_100 : decode cX11_count 100 = .ok (.invokevirtual 170, 3) := by decide +kernel
theorem dX11_count_103 : decode cX11_count 103 = .ok (.invokestatic 112, 3) := by decide +kernel
theorem dX11_count_106 : decode cX11_count 106 = .ok (.ireturn, 1) := by decide +kernel
theorem dX11_count_107 : decode cX11_count 107 = .ok (.aload_n 0, 1) := by decide +kernel
theorem dX11_count_108 : decode cX11_count 108 = .ok (.getfield 30, 3) := by decide +kernel
theorem dX11_count_111 : decode cX11_count 111 = .ok (.invokevirtual 263, 3) := by decide +kernel
theorem dX11_count_114 : decode cX11_count 114 = .ok (.ireturn, 1) := by decide +kernel
theorem dX11_count_115 : decode cX11_count 115 = .ok (.aload_n 0, 1) := by decide +kernel
theorem dX11_count_116 : decode cX11_count 116 = .ok (.getfield 85, 3) := by decide +kernel
theorem dX11_count_119 : decode cX11_count 119 = .ok (.ireturn, 1) := by decide +kernel
theorem dX11_count_120 : decode cX11_count 120 = .ok (.aload_n 0, 1) := by decide +kernel
theorem dX11_count_121 : decode cX11_count 121 = .ok (.getfield 10, 3) := by decide +kernel
theorem dX11_count_124 : decode cX11_count 124 = .ok (.getfield 266, 3) := by decide +kernel
theorem dX11_count_127 : decode cX11_count 127 = .ok (.ireturn, 1) := by decide +kernel
theorem dX11_count_128 : decode cX11_count 128 = .ok (.iload_n 1, 1) := by decide +kernel
theorem dX11_count_129 : decode cX11_count 129 = .ok (.bipush 11, 2) := by decide +kernel
theorem dX11_count_131 : decode cX11_count 131 = .ok (.if_icmp .lt 9, 3) := by decide +kernel
theorem dX11_count_134 : decode cX11_count 134 = .ok (.iload_n 1, 1) := by decide +kernel
theorem dX11_count_135 : decode cX11_count 135 = .ok (.bipush 16, 2) := by decide +kernel
theorem dX11_count_137 : decode cX11_count 137 = .ok (.if_icmp .le 8, 3) := by decide +kernel
theorem dX11_count_140 : decode cX11_count 140 = .ok (.bipush (-9), 2) := by decide +kernel
theorem dX11_count_142 : decode cX11_count 142 = .ok (.goto 12, 3) := by decide +kernel
theorem dX11_count_145 : decode cX11_count 145 = .ok (.aload_n 0, 1) := by decide +kernel
theorem dX11_count_146 : decode cX11_count 146 = .ok (.getfield 20, 3) := by decide +kernel
theorem dX11_count_149 : decode cX11_count 149 = .ok (.iload_n 1, 1) := by decide +kernel
theorem dX11_count_150 : decode cX11_count 150 = .ok (.bipush 10, 2) := by decide +kernel
theorem dX11_count_152 : decode cX11_count 152 = .ok (.isub, 1) := by decide +kernel
theorem dX11_count_153 : decode cX11_count 153 = .ok (.iaload, 1) := by decide +kernel
theorem dX11_count_154 : decode cX11_count 154 = .ok (.ireturn, 1) := by decide +kernel
theorem dX11_refuse_0 : decode cX11_refuse 0 = .ok (.iload_n 1, 1) := by decide +kernel
theorem dX11_refuse_1 : decode cX11_refuse 1 = .ok (.ifCond .ge 24, 3) := by decide +kernel
theorem dX11_refuse_4 : decode cX11_refuse 4 = .ok (.iload_n 1, 1) := by decide +kernel
theorem dX11_refuse_5 : decode cX11_refuse 5 = .ok (.aload_n 0, 1) := by decide +kernel
theorem dX11_refuse_6 : decode cX11_refuse 6 = .ok (.getfield 20, 3) := by decide +kernel
theorem dX11_refuse_9 : decode cX11_refuse 9 = .ok (.arraylength, 1) := by decide +kernel
theorem dX11_refuse_10 : decode cX11_refuse 10 = .ok (.ineg, 1) := by decide +kernel
theorem dX11_refuse_11 : decode cX11_refuse 11 = .ok (.if_icmp .le 14, 3) := by decide +kernel
theorem dX11_refuse_14 : decode cX11_refuse 14 = .ok (.aload_n 0, 1) := by decide +kernel
theorem dX11_refuse_15 : decode cX11_refuse 15 = .ok (.getfield 20, 3) := by decide +kernel
theorem dX11_refuse_18 : decode cX11_refuse 18 = .ok (.iload_n 1, 1) := by decide +kernel
theorem dX11_refuse_19 : decode cX11_refuse 19 = .ok (.ineg, 1) := by decide +kernel
theorem dX11_refuse_20 : decode cX11_refuse 20 = .ok (.dup2, 1) := by decide +kernel
theorem dX11_refuse_21 : decode cX11_refuse 21 = .ok (.iaload, 1) := by decide +kernel
theorem dX11_refuse_22 : decode cX11_refuse 22 = .ok (.iconst 1, 1) := by decide +kernel
theorem dX11_refuse_23 : decode cX11_refuse 23 = .ok (.iadd, 1) := by decide +kernel
theorem dX11_refuse_24 : decode cX11_refuse 24 = .ok (.iastore, 1) := by decide +kernel
theorem dX11_refuse_25 : decode cX11_refuse 25 = .ok (.iload_n 1, 1) := by decide +kernel
theorem dX11_refuse_26 : decode cX11_refuse 26 = .ok (.ireturn, 1) := by decide +kernel
set_option maxRecDepth 20000 in
theorem ggX11_counted_X11_refuse : GoodIn wsX11_counted wsX11_refuse := goodIn_r _ [5, 6, 7, 8, 9, 10, 11, 12, 13, 14] (by decide +kernel) (by decide +kernel)
set_option maxRecDepth 20000 in
theorem gX11_counted_X11_refuse : GoodIn wsX11_counted (wsV RX11 36 RX11 yX11_refuse wsX11_refuse) := goodIn_app (goodIn_of _ (by decide +kernel)) ggX11_counted_X11_refuse
theorem dX11_counted_0 : decode cX11_counted 0 = .ok (.iload_n 1, 1) := by decide +kernel
theorem dX11_counted_1 : decode cX11_counted 1 = .ok (.ifCond .ge 11, 3) := by decide +kernel
theorem dX11_counted_4 : decode cX11_counted 4 = .ok (.aload_n 0, 1) := by decide +kernel
theorem dX11_counted_5 : decode cX11_counted 5 = .ok (.iload_n 1, 1) := by decide +kernel
theorem dX11_counted_6 : decode cX11_counted 6 = .ok (.invokevirtual 36, 3) := by decide +kernel
theorem dX11_counted_9 : decode cX11_counted 9 = .ok (.goto 4, 3) := by decide +kernel
theorem dX11_counted_12 : decode cX11_counted 12 = .ok (.iload_n 1, 1) := by decide +kernel
theorem dX11_counted_13 : decode cX11_counted 13 = .ok (.ireturn, 1) := by decide +kernel
set_option maxRecDepth 20000 in
theorem ggX11_noPersonAt_X10_isPerson : GoodIn wsX11_noPersonAt wsX10_isPerson := goodIn_r _ [6, 7, 20, 21, 22, 23, 24, 25] (by decide +kernel) (by decide +kernel)
set_option maxRecDepth 20000 in
theorem gX11_noPersonAt_X10_isPerson : GoodIn wsX11_noPersonAt (wsV RX11 156 RX10 yX10_isPerson wsX10_isPerson) := goodIn_app (goodIn_of _ (by decide +kernel)) ggX11_noPersonAt_X10_isPerson
set_option maxRecDepth 20000 in
theorem ggX11_noPersonAt_X11_outside : GoodIn wsX11_noPersonAt wsX11_outside := goodIn_r _ [11] (by decide +kernel) (by decide +kernel)
set_option maxRecDepth 20000 in
theorem gX11_noPersonAt_X11_outside : GoodIn wsX11_noPersonAt (va_wsS RX11 143 yX11_outside wsX11_outside) := goodIn_app (goodIn_of _ (by decide +kernel)) ggX11_noPersonAt_X11_outside
theorem dX11_noPersonAt_0 : decode cX11_noPersonAt 0 = .ok (.aload_n 0, 1) := by decide +kernel
theorem dX11_noPersonAt_1 : decode cX11_noPersonAt 1 = .ok (.getfield 30, 3) := by decide +kernel
theorem dX11_noPersonAt_4 : decode cX11_noPersonAt 4 = .ok (.iload_n 1, 1) := by decide +kernel
theorem dX11_noPersonAt_5 : decode cX11_noPersonAt 5 = .ok (.invokevirtual 156, 3) := by decide +kernel
theorem dX11_noPersonAt_8 : decode cX11_noPersonAt 8 = .ok (.ifCond .eq 14, 3) := by decide +kernel
theorem dX11_noPersonAt_11 : decode cX11_noPersonAt 11 = .ok (.iload_n 2, 1) := by decide +kernel
theorem dX11_noPersonAt_12 : decode cX11_noPersonAt 12 = .ok (.iconst 0, 1) := by decide +kernel
theorem dX11_noPersonAt_13 : decode cX11_noPersonAt 13 = .ok (.sipush 9999, 3) := by decide +kernel
theorem dX11_noPersonAt_16 : decode cX11_noPersonAt 16 = .ok (.invokestatic 143, 3) := by decide +kernel
theorem dX11_noPersonAt_19 : decode cX11_noPersonAt 19 = .ok (.goto 4, 3) := by decide +kernel
theorem dX11_noPersonAt_22 : decode cX11_noPersonAt 22 = .ok (.iconst (-1), 1) := by decide +kernel
theorem dX11_noPersonAt_23 : decode cX11_noPersonAt 23 = .ok (.ireturn, 1) := by decide +kernel
theorem dX11_outside_0 : decode cX11_outside 0 = .ok (.iload_n 0, 1) := by decide +kernel
theorem dX11_outside_1 : decode cX11_outside 1 = .ok (.iload_n 1, 1) := by decide +kernel
theorem dX11_outside_2 : decode cX11_outside 2 = .ok (.if_icmp .ge 6, 3) := by decide +kernel
theorem dX11_outside_5 : decode cX11_outside 5 = .ok (.bipush (-4), 2) := by decide +kernel
theorem dX11_outside_7 : decode cX11_outside 7 = .ok (.ireturn, 1) := by decide +kernel
theorem dX11_outside_8 : decode cX11_outside 8 = .ok (.iload_n 0, 1) := by decide +kernel
theorem dX11_outside_9 : decode cX11_outside 9 = .ok (.iload_n 2, 1) := by decide +kernel
theorem dX11_outside_10 : decode cX11_outside 10 = .ok (.if_icmp .le 8, 3) := by decide +kernel
theorem dX11_outside_13 : decode cX11_outside 13 = .ok (.bipush (-6), 2) := by decide +kernel
theorem dX11_outside_15 : decode cX11_outside 15 = .ok (.goto 4, 3) := by decide +kernel
theorem dX11_outside_18 : decode cX11_outside 18 = .ok (.iconst 0, 1) := by decide +kernel
theorem dX11_outside_19 : decode cX11_outside 19 = .ok (.ireturn, 1) := by decide +kernel
theorem dX11_inRowAt_0 : decode cX11_inRowAt 0 = .ok (.iload_n 1, 1) := by decide +kernel
theorem dX11_inRowAt_1 : decode cX11_inRowAt 1 = .ok (.ifCond .lt 21, 3) := by decide +kernel
theorem dX11_inRowAt_4 : decode cX11_inRowAt 4 = .ok (.iload_n 1, 1) := by decide +kernel
theorem dX11_inRowAt_5 : decode cX11_inRowAt 5 = .ok (.aload_n 0, 1) := by decide +kernel
theorem dX11_inRowAt_6 : decode cX11_inRowAt 6 = .ok (.getfield 16, 3) := by decide +kernel
theorem dX11_inRowAt_9 : decode cX11_inRowAt 9 = .ok (.arraylength, 1) := by decide +kernel
theorem dX11_inRowAt_10 : decode cX11_inRowAt 10 = .ok (.if_icmp .ge 12, 3) := by decide +kernel
theorem dX11_inRowAt_13 : decode cX11_inRowAt 13 = .ok (.aload_n 0, 1) := by decide +kernel
theorem dX11_inRowAt_14 : decode cX11_inRowAt 14 = .ok (.getfield 16, 3) := by decide +kernel
theorem dX11_inRowAt_17 : decode cX11_inRowAt 17 = .ok (.iload_n 1, 1) := by decide +kernel
theorem dX11_inRowAt_18 : decode cX11_inRowAt 18 = .ok (.iaload, 1) := by decide +kernel
theorem dX11_inRowAt_19 : decode cX11_inRowAt 19 = .ok (.goto 5, 3) := by decide +kernel
theorem dX11_inRowAt_22 : decode cX11_inRowAt 22 = .ok (.bipush (-9), 2) := by decide +kernel
theorem dX11_inRowAt_24 : decode cX11_inRowAt 24 = .ok (.ireturn, 1) := by decide +kernel
theorem dX11_yes_0 : decode cX11_yes 0 = .ok (.iload_n 0, 1) := by decide +kernel
theorem dX11_yes_1 : decode cX11_yes 1 = .ok (.ifCond .eq 7, 3) := by decide +kernel
theorem dX11_yes_4 : decode cX11_yes 4 = .ok (.iconst 1, 1) := by decide +kernel
theorem dX11_yes_5 : decode cX11_yes 5 = .ok (.goto 4, 3) := by decide +kernel
theorem dX11_yes_8 : decode cX11_yes 8 = .ok (.iconst 0, 1) := by decide +kernel
theorem dX11_yes_9 : decode cX11_yes 9 = .ok (.ireturn, 1) := by decide +kernel
theorem dX12_init_0 : decode cX12_init 0 = .ok (.aload_n 0, 1) := by decide +kernel
theorem dX12_init_1 : decode cX12_init 1 = .ok (.invokespecial 1, 3) := by decide +kernel
theorem dX12_init_4 : decode cX12_init 4 = .ok (.aload_n 0, 1) := by decide +kernel
theorem dX12_init_5 : decode cX12_init 5 = .ok (.bipush 7, 2) := by decide +kernel
theorem dX12_init_7 : decode cX12_init 7 = .ok (.newarray .int, 2) := by decide +kernel
theorem dX12_init_9 : decode cX12_init 9 = .ok (.putfield 7, 3) := by decide +kernel
theorem dX12_init_12 : decode cX12_init 12 = .ok (.aload_n 0, 1) := by decide +kernel
theorem dX12_init_13 : decode cX12_init 13 = .ok (.bipush 36, 2) := by decide +kernel
theorem dX12_init_15 : decode cX12_init 15 = .ok (.newarray .int, 2) := by decide +kernel
theorem dX12_init_17 : decode cX12_init 17 = .ok (.putfield 13, 3) := by decide +kernel
theorem dX12_init_20 : decode cX12_init 20 = .ok (.aload_n 0, 1) := by decide +kernel
theorem dX12_init_21 : decode cX12_init 21 = .ok (.bipush 6, 2) := by decide +kernel
theorem dX12_init_23 : decode cX12_init 23 = .ok (.newarray .int, 2) := by decide +kernel
theorem dX12_init_25 : decode cX12_init 25 = .ok (.putfield 16, 3) := by decide +kernel
theorem dX12_init_28 : decode cX12_init 28 = .ok (.aload_n 0, 1) := by decide +kernel
theorem dX12_init_29 : decode cX12_init 29 = .ok (.bipush 6, 2) := by decide +kernel
theorem dX12_init_31 : decode cX12_init 31 = .ok (.newarray .int, 2) := by decide +kernel
theorem dX12_init_33 : decode cX12_init 33 = .ok (.putfield 19, 3) := by decide +kernel
theorem dX12_init_36 : decode cX12_init 36 = .ok (.aload_n 0, 1) := by decide +kernel
theorem dX12_init_37 : decode cX12_init 37 = .ok (.bipush 6, 2) := by decide +kernel
theorem dX12_init_39 : decode cX12_init 39 = .ok (.newarray .int, 2) := by decide +kernel
theorem dX12_init_41 : decode cX12_init 41 = .ok (.putfield 22, 3) := by decide +kernel
theorem dX12_init_44 : decode cX12_init 44 = .ok (.aload_n 0, 1) := by decide +kernel
theorem dX12_init_45 : decode cX12_init 45 = .ok (.bipush 6, 2) := by decide +kernel
theorem dX12_init_47 : decode cX12_init 47 = .ok (.newarray .int, 2) := by decide +kernel
theorem dX12_init_49 : decode cX12_init 49 = .ok (.putfield 25, 3) := by decide +kernel
theorem dX12_init_52 : decode cX12_init 52 = .ok (.aload_n 0, 1) := by decide +kernel
theorem dX12_init_53 : decode cX12_init 53 = .ok (.bipush 6, 2) := by decide +kernel
theorem dX12_init_55 : decode cX12_init 55 = .ok (.newarray .int, 2) := by decide +kernel
theorem dX12_init_57 : decode cX12_init 57 = .ok (.putfield 28, 3) := by decide +kernel
theorem dX12_init_60 : decode cX12_init 60 = .ok (.aload_n 0, 1) := by decide +kernel
theorem dX12_init_61 : decode cX12_init 61 = .ok (.bipush 54, 2) := by decide +kernel
theorem dX12_init_63 : decode cX12_init 63 = .ok (.newarray .int, 2) := by decide +kernel
theorem dX12_init_65 : decode cX12_init 65 = .ok (.putfield 31, 3) := by decide +kernel
theorem dX12_init_68 : decode cX12_init 68 = .ok (.aload_n 0, 1) := by decide +kernel
theorem dX12_init_69 : decode cX12_init 69 = .ok (.bipush 54, 2) := by decide +kernel
theorem dX12_init_71 : decode cX12_init 71 = .ok (.newarray .int, 2) := by decide +kernel
theorem dX12_init_73 : decode cX12_init 73 = .ok (.putfield 34, 3) := by decide +kernel
theorem dX12_init_76 : decode cX12_init 76 = .ok (.aload_n 0, 1) := by decide +kernel
theorem dX12_init_77 : decode cX12_init 77 = .ok (.bipush 54, 2) := by decide +kernel
theorem dX12_init_79 : decode cX12_init 79 = .ok (.newarray .int, 2) := by decide +kernel
theorem dX12_init_81 : decode cX12_init 81 = .ok (.putfield 37, 3) := by decide +kernel
theorem dX12_init_84 : decode cX12_init 84 = .ok (.aload_n 0, 1) := by decide +kernel
theorem dX12_init_85 : decode cX12_init 85 = .ok (.iconst 4, 1) := by decide +kernel
theorem dX12_init_86 : decode cX12_init 86 = .ok (.newarray .int, 2) := by decide +kernel
theorem dX12_init_88 : decode cX12_init 88 = .ok (.putfield 40, 3) := by decide +kernel
theorem dX12_init_91 : decode cX12_init 91 = .ok (.aload_n 0, 1) := by decide +kernel
theorem dX12_init_92 : decode cX12_init 92 = .ok (.bipush 96, 2) := by decide +kernel
theorem dX12_init_94 : decode cX12_init 94 = .ok (.newarray .int, 2) := by decide +kernel
theorem dX12_init_96 : decode cX12_init 96 = .ok (.putfield 43, 3) := by decide +kernel
theorem dX12_init_99 : decode cX12_init 99 = .ok (.aload_n 0, 1) := by decide +kernel
theorem dX12_init_100 : decode cX12_init 100 = .ok (.bipush 48, 2) := by decide +kernel
theorem dX12_init_102 : decode cX12_init 102 = .ok (.newarray .int, 2) := by decide +kernel
theorem dX12_init_104 : decode cX12_init 104 = .ok (.putfield 46, 3) := by decide +kernel
theorem dX12_init_107 : decode cX12_init 107 = .ok (.aload_n 0, 1) := by decide +kernel
theorem dX12_init_108 : decode cX12_init 108 = .ok (.bipush 48, 2) := by decide +kernel
theorem dX12_init_110 : decode cX12_init 110 = .ok (.newarray .int, 2) := by decide +kernel
theorem dX12_init_112 : decode cX12_init 112 = .ok (.putfield 49, 3) := by decide +kernel
theorem dX12_init_115 : decode cX12_init 115 = .ok (.aload_n 0, 1) := by decide +kernel
theorem dX12_init_116 : decode cX12_init 116 = .ok (.sipush 144, 3) := by decide +kernel
theorem dX12_init_119 : decode cX12_init 119 = .ok (.newarray .int, 2) := by decide +kernel
theorem dX12_init_121 : decode cX12_init 121 = .ok (.putfield 52, 3) := by decide +kernel
theorem dX12_init_124 : decode cX12_init 124 = .ok (.aload_n 0, 1) := by decide +kernel
theorem dX12_init_125 : decode cX12_init 125 = .ok (.sipush 600, 3) := by decide +kernel
theorem dX12_init_128 : decode cX12_init 128 = .ok (.newarray .int, 2) := by decide +kernel
theorem dX12_init_130 : decode cX12_init 130 = .ok (.putfield 55, 3) := by decide +kernel
theorem dX12_init_133 : decode cX12_init 133 = .ok (.aload_n 0, 1) := by decide +kernel
theorem dX12_init_134 : decode cX12_init 134 = .ok (.bipush 36, 2) := by decide +kernel
theorem dX12_init_136 : decode cX12_init 136 = .ok (.newarray .int, 2) := by decide +kernel
theorem dX12_init_138 : decode cX12_init 138 = .ok (.putfield 58, 3) := by decide +kernel
theorem dX12_init_141 : decode cX12_init 141 = .ok (.aload_n 0, 1) := by decide +kernel
theorem dX12_init_142 : decode cX12_init 142 = .ok (.bipush 36, 2) := by decide +kernel
theorem dX12_init_144 : decode cX12_init 144 = .ok (.newarray .int, 2) := by decide +kernel
theorem dX12_init_146 : decode cX12_init 146 = .ok (.putfield 61, 3) := by decide +kernel
theorem dX12_init_149 : decode cX12_init 149 = .ok (.aload_n 0, 1) := by decide +kernel
theorem dX12_init_150 : decode cX12_init 150 = .ok (.bipush 36, 2) := by decide +kernel
theorem dX12_init_152 : decode cX12_init 152 = .ok (.newarray .int, 2) := by decide +kernel
theorem dX12_init_154 : decode cX12_init 154 = .ok (.putfield 64, 3) := by decide +kernel
theorem dX12_init_157 : decode cX12_init 157 = .ok (.aload_n 0, 1) := by decide +kernel
theorem dX12_init_158 : decode cX12_init 158 = .ok (.bipush 36, 2) := by decide +kernel
theorem dX12_init_160 : decode cX12_init 160 = .ok (.newarray .int, 2) := by decide +kernel
theorem dX12_init_162 : decode cX12_init 162 = .ok (.putfield 67, 3) := by decide +kernel
theorem dX12_init_165 : decode cX12_init 165 = .ok (.aload_n 0, 1) := by decide +kernel
theorem dX12_init_166 : decode cX12_init 166 = .ok (.bipush 36, 2) := by decide +kernel
theorem dX12_init_168 : decode cX12_init 168 = .ok (.newarray .int, 2) := by decide +kernel
theorem dX12_init_170 : decode cX12_init 170 = .ok (.putfield 70, 3) := by decide +kernel
theorem dX12_init_173 : decode cX12_init 173 = .ok (.aload_n 0, 1) := by decide +kernel
theorem dX12_init_174 : decode cX12_init 174 = .ok (.bipush 12, 2) := by decide +kernel
theorem dX12_init_176 : decode cX12_init 176 = .ok (.newarray .int, 2) := by decide +kernel
theorem dX12_init_178 : decode cX12_init 178 = .ok (.putfield 73, 3) := by decide +kernel
theorem dX12_init_181 : decode cX12_init 181 = .ok (.aload_n 0, 1) := by decide +kernel
theorem dX12_init_182 : decode cX12_init 182 = .ok (.iconst 0, 1) := by decide +kernel
theorem dX12_init_183 : decode cX12_init 183 = .ok (.putfield 76, 3) := by decide +kernel
theorem dX12_init_186 : decode cX12_init 186 = .ok (.return_, 1) := by decide +kernel
theorem dX12_no_0 : decode cX12_no 0 = .ok (.aload_n 0, 1) := by decide +kernel
theorem dX12_no_1 : decode cX12_no 1 = .ok (.getfield 7, 3) := by decide +kernel
theorem dX12_no_4 : decode cX12_no 4 = .ok (.iload_n 1, 1) := by decide +kernel
theorem dX12_no_5 : decode cX12_no 5 = .ok (.ineg, 1) := by decide +kernel
theorem dX12_no_6 : decode cX12_no 6 = .ok (.dup2, 1) := by decide +kernel
theorem dX12_no_7 : decode cX12_no 7 = .ok (.iaload, 1) := by decide +kernel
theorem dX12_no_8 : decode cX12_no 8 = .ok (.iconst 1, 1) := by decide +kernel
theorem dX12_no_9 : decode cX12_no 9 = .ok (.iadd, 1) := by decide +kernel
theorem dX12_no_10 : decode cX12_no 10 = .ok (.iastore, 1) := by decide +kernel
theorem dX12_no_11 : decode cX12_no 11 = .ok (.iload_n 1, 1) := by decide +kernel
theorem dX12_no_12 : decode cX12_no 12 = .ok (.ireturn, 1) := by decide +kernel
theorem dX12_lower_0 : decode cX12_lower 0 = .ok (.aload_n 0, 1) := by decide +kernel
theorem dX12_lower_1 : decode cX12_lower 1 = .ok (.getfield 7, 3) := by decide +kernel
theorem dX12_lower_4 : decode cX12_lower 4 = .ok (.iload_n 1, 1) := by decide +kernel
theorem dX12_lower_5 : decode cX12_lower 5 = .ok (.ineg, 1) := by decide +kernel
theorem dX12_lower_6 : decode cX12_lower 6 = .ok (.dup2, 1) := by decide +kernel
theorem dX12_lower_7 : decode cX12_lower 7 = .ok (.iaload, 1) := by decide +kernel
theorem dX12_lower_8 : decode cX12_lower 8 = .ok (.iconst 1, 1) := by decide +kernel
theorem dX12_lower_9 : decode cX12_lower 9 = .ok (.iadd, 1) := by decide +kernel
theorem dX12_lower_10 : decode cX12_lower 10 = .ok (.iastore, 1) := by decide +kernel
theorem dX12_lower_11 : decode cX12_lower 11 = .ok (.ldc 80, 2) := by decide +kernel
theorem dX12_lower_13 : decode cX12_lower 13 = .ok (.iload_n 1, 1) := by decide +kernel
theorem dX12_lower_14 : decode cX12_lower 14 = .ok (.isub, 1) := by decide +kernel
theorem dX12_lower_15 : decode cX12_lower 15 = .ok (.ireturn, 1) := by decide +kernel
theorem dX12_isIn_0 : decode cX12_isIn 0 = .ok (.iload_n 0, 1) := by decide +kernel
theorem dX12_isIn_1 : decode cX12_isIn 1 = .ok (.iload_n 1, 1) := by decide +kernel
theorem dX12_isIn_2 : decode cX12_isIn 2 = .ok (.if_icmp .lt 12, 3) := by decide +kernel
theorem dX12_isIn_5 : decode cX12_isIn 5 = .ok (.iload_n 0, 1) := by decide +kernel
theorem dX12_isIn_6 : decode cX12_isIn 6 = .ok (.iload_n 2, 1) := by decide +kernel
theorem dX12_isIn_7 : decode cX12_isIn 7 = .ok (.if_icmp .gt 7, 3) := by decide +kernel
theorem dX12_isIn_10 : decode cX12_isIn 10 = .ok (.iconst 1, 1) := by decide +kernel
theorem dX12_isIn_11 : decode cX12_isIn 11 = .ok (.goto 4, 3) := by decide +kernel
theorem dX12_isIn_14 : decode cX12_isIn 14 = .ok (.iconst 0, 1) := by decide +kernel
theorem dX12_isIn_15 : decode cX12_isIn 15 = .ok (.ireturn, 1) := by decide +kernel
theorem dX12_bound_0 : decode cX12_bound 0 = .ok (.iload_n 0, 1) := by decide +kernel
theorem dX12_bound_1 : decode cX12_bound 1 = .ok (.iload_n 1, 1) := by decide +kernel
theorem dX12_bound_2 : decode cX12_bound 2 = .ok (.if_icmp .ge 8, 3) := by decide +kernel
theorem dX12_bound_5 : decode cX12_bound 5 = .ok (.bipush (-4), 2) := by decide +kernel
theorem dX12_bound_7 : decode cX12_bound 7 = .ok (.goto 14, 3) := by decide +kernel
theorem dX12_bound_10 : decode cX12_bound 10 = .ok (.iload_n 0, 1) := by decide +kernel
theorem dX12_bound_11 : decode cX12_bound 11 = .ok (.iload_n 2, 1) := by decide +kernel
theorem dX12_bound_12 : decode cX12_bound 12 = .ok (.if_icmp .le 8, 3) := by decide +kernel
theorem dX12_bound_15 : decode cX12_bound 15 = .ok (.bipush (-6), 2) := by decide +kernel
theorem dX12_bound_17 : decode cX12_bound 17 = .ok (.goto 4, 3) := by decide +kernel
theorem dX12_bound_20 : decode cX12_bound 20 = .ok (.iconst 0, 1) := by decide +kernel
theorem dX12_bound_21 : decode cX12_bound 21 = .ok (.ireturn, 1) := by decide +kernel
theorem dX12_has_0 : decode cX12_has 0 = .ok (.iload_n 0, 1) := by decide +kernel
theorem dX12_has_1 : decode cX12_has 1 = .ok (.iload_n 1, 1) := by decide +kernel
theorem dX12_has_2 : decode cX12_has 2 = .ok (.ishr, 1) := by decide +kernel
theorem dX12_has_3 : decode cX12_has 3 = .ok (.iconst 1, 1) := by decide +kernel
theorem dX12_has_4 : decode cX12_has 4 = .ok (.iand, 1) := by decide +kernel
theorem dX12_has_5 : decode cX12_has 5 = .ok (.iconst 1, 1) := by decide +kernel
theorem dX12_has_6 : decode cX12_has 6 = .ok (.if_icmp .ne 7, 3) := by decide +kernel
theorem dX12_has_9 : decode cX12_has 9 = .ok (.iconst 1, 1) := by decide +kernel
theorem dX12_has_10 : decode cX12_has 10 = .ok (.goto 4, 3) := by decide +kernel
theorem dX12_has_13 : decode cX12_has 13 = .ok (.iconst 0, 1) := by decide +kernel
theorem dX12_has_14 : decode cX12_has 14 = .ok (.ireturn, 1) := by decide +kernel
theorem dX12_bits_0 : decode cX12_bits 0 = .ok (.iconst 0, 1) := by decide +kernel
theorem dX12_bits_1 : decode cX12_bits 1 = .ok (.istore_n 1, 1) := by decide +kernel
theorem dX12_bits_2 : decode cX12_bits 2 = .ok (.iconst 0, 1) := by decide +kernel
theorem dX12_bits_3 : decode cX12_bits 3 = .ok (.istore_n 2, 1) := by decide +kernel
theorem dX12_bits_4 : decode cX12_bits 4 = .ok (.iload_n 2, 1) := by decide +kernel
theorem dX12_bits_5 : decode cX12_bits 5 = .ok (.bipush 31, 2) := by decide +kernel
theorem dX12_bits_7 : decode cX12_bits 7 = .ok (.if_icmp .ge 17, 3) := by decide +kernel
theorem dX12_bits_10 : decode cX12_bits 10 = .ok (.iload_n 1, 1) := by decide +kernel
theorem dX12_bits_11 : decode cX12_bits 11 = .ok (.iload_n 0, 1) := by decide +kernel
theorem dX12_bits_12 : decode cX12_bits 12 = .ok (.iload_n 2, 1) := by decide +kernel
theorem dX12_bits_13 : decode cX12_bits 13 = .ok (.ishr, 1) := by decide +kernel
theorem dX12_bits_14 : decode cX12_bits 14 = .ok (.iconst 1, 1) := by decide +kernel
theorem dX12_bits_15 : decode cX12_bits 15 = .ok (.iand, 1) := by decide +kernel
theorem dX12_bits_16 : decode cX12_bits 16 = .ok (.iadd, 1) := by decide +kernel
theorem dX12_bits_17 : decode cX12_bits 17 = .ok (.istore_n 1, 1) := by decide +kernel
theorem dX12_bits_18 : decode cX12_bits 18 = .ok (.iinc 2 1, 3) := by decide +kernel
theorem dX12_bits_21 : decode cX12_bits 21 = .ok (.goto (-17), 3) := by decide +kernel
theorem dX12_bits_24 : decode cX12_bits 24 = .ok (.iload_n 1, 1) := by decide +kernel
theorem dX12_bits_25 : decode cX12_bits 25 = .ok (.ireturn, 1) := by decide +kernel
theorem dX12_isCell_0 : decode cX12_isCell 0 = .ok (.iload_n 0, 1) := by decide +kernel
theorem dX12_isCell_1 : decode cX12_isCell 1 = .ok (.ifCond .lt 13, 3) := by decide +kernel
theorem dX12_isCell_4 : decode cX12_isCell 4 = .ok (.iload_n 0, 1) := by decide +kernel
theorem dX12_isCell_5 : decode cX12_isCell 5 = .ok (.bipush 36, 2) := by decide +kernel
theorem dX12_isCell_7 : decode cX12_isCell 7 = .ok (.if_icmp .ge 7, 3) := by decide +kernel
theorem dX12_isCell_10 : decode cX12_isCell 10 = .ok (.iconst 1, 1) := by decide +kernel
theorem dX12_isCell_11 : decode cX12_isCell 11 = .ok (.goto 4, 3) := by decide +kernel
theorem dX12_isCell_14 : decode cX12_isCell 14 = .ok (.iconst 0, 1) := by decide +kernel
theorem dX12_isCell_15 : decode cX12_isCell 15 = .ok (.ireturn, 1) := by decide +kernel
theorem dX12_isLamp_0 : decode cX12_isLamp 0 = .ok (.iload_n 1, 1) := by decide +kernel
theorem dX12_isLamp_1 : decode cX12_isLamp 1 = .ok (.ifCond .lt 15, 3) := by decide +kernel
theorem dX12_isLamp_4 : decode cX12_isLamp 4 = .ok (.iload_n 1, 1) := by decide +kernel
theorem dX12_isLamp_5 : decode cX12_isLamp 5 = .ok (.aload_n 0, 1) := by decide +kernel
theorem dX12_isLamp_6 : decode cX12_isLamp 6 = .ok (.getfield 76, 3) := by decide +kernel
theorem dX12_isLamp_9 : decode cX12_isLamp 9 = .ok (.if_icmp .ge 7, 3) := by decide +kernel
theorem dX12_isLamp_12 : decode cX12_isLamp 12 = .ok (.iconst 1, 1) := by decide +kernel
theorem dX12_isLamp_13 : decode cX12_isLamp 13 = .ok (.goto 4, 3) := by decide +kernel
theorem dX12_isLamp_16 : decode cX12_isLamp 16 = .ok (.iconst 0, 1) := by decide +kernel
theorem dX12_isLamp_17 : decode cX12_isLamp 17 = .ok (.ireturn, 1) := by decide +kernel
theorem dX12_isPerson_0 : decode cX12_isPerson 0 = .ok (.iload_n 1, 1) := by decide +kernel
theorem dX12_isPerson_1 : decode cX12_isPerson 1 = .ok (.ifCond .lt 15, 3) := by decide +kernel
theorem dX12_isPerson_4 : decode cX12_isPerson 4 = .ok (.iload_n 1, 1) := by decide +kernel
theorem dX12_isPerson_5 : decode cX12_isPerson 5 = .ok (.aload_n 0, 1) := by decide +kernel
theorem dX12_isPerson_6 : decode cX12_isPerson 6 = .ok (.getfield 81, 3) := by decide +kernel
theorem dX12_isPerson_9 : decode cX12_isPerson 9 = .ok (.if_icmp .ge 7, 3) := by decide +kernel
theorem dX12_isPerson_12 : decode cX12_isPerson 12 = .ok (.iconst 1, 1) := by decide +kernel
theorem dX12_isPerson_13 : decode cX12_isPerson 13 = .ok (.goto 4, 3) := by decide +kernel
theorem dX12_isPerson_16 : decode cX12_isPerson 16 = .ok (.iconst 0, 1) := by decide +kernel
theorem dX12_isPerson_17 : decode cX12_isPerson 17 = .ok (.ireturn, 1) := by decide +kernel
set_option maxRecDepth 20000 in
theorem ggX12_letter_X12_bound : GoodIn wsX12_letter wsX12_bound := goodIn_r _ [6] (by decide +kernel) (by decide +kernel)
set_option maxRecDepth 20000 in
theorem gX12_letter_X12_bound : GoodIn wsX12_letter (va_wsS RX12 84 yX12_bound wsX12_bound) := goodIn_app (goodIn_of _ (by decide +kernel)) ggX12_letter_X12_bound
set_option maxRecDepth 20000 in
theorem ggX12_letter_X12_no : GoodIn wsX12_letter wsX12_no := goodIn_r _ [10, 11, 12, 13, 14, 15, 16, 17, 18, 19, 20, 21, 22, 23, 24, 25, 26, 27, 28, 29, 30, 31, 32, 33, 34, 35, 36, 37, 38, 39, 40, 41, 42, 43, 44] (by decide +kernel) (by decide +kernel)
set_option maxRecDepth 20000 in
theorem gX12_letter_X12_no : GoodIn wsX12_letter (wsV RX12 91 RX12 yX12_no wsX12_no) := goodIn_app (goodIn_of _ (by decide +kernel)) ggX12_letter_X12_no
theorem dX12_letter_0 : decode cX12_letter 0 = .ok (.iload_n 1, 1) := by decide +kernel
theorem dX12_letter_1 : decode cX12_letter 1 = .ok (.iconst 0, 1) := by decide +kernel
theorem dX12_letter_2 : decode cX12_letter 2 = .ok (.sipush 255, 3) := by decide +kernel
theorem dX12_letter_5 : decode cX12_letter 5 = .ok (.invokestatic 84, 3) := by decide +kernel
theorem dX12_letter_8 : decode cX12_letter 8 = .ok (.istore_n 2, 1) := by decide +kernel
theorem dX12_letter_9 : decode cX12_letter 9 = .ok (.iload_n 2, 1) := by decide +kernel
theorem dX12_letter_10 : decode cX12_letter 10 = .ok (.ifCond .ne 15, 3) := by decide +kernel
theorem dX12_letter_13 : decode cX12_letter 13 = .ok (.aload_n 0, 1) := by decide +kernel
theorem dX12_letter_14 : decode cX12_letter 14 = .ok (.getfield 88, 3) := by decide +kernel
theorem dX12_letter_17 : decode cX12_letter 17 = .ok (.bipush 96, 2) := by decide +kernel
theorem dX12_letter_19 : decode cX12_letter 19 = .ok (.if_icmp .ne 6, 3) := by decide +kernel
theorem dX12_letter_22 : decode cX12_letter 22 = .ok (.bipush (-6), 2) := by decide +kernel
theorem dX12_letter_24 : decode cX12_letter 24 = .ok (.istore_n 2, 1) := by decide +kernel
theorem dX12_letter_25 : decode cX12_letter 25 = .ok (.iload_n 2, 1) := by decide +kernel
theorem dX12_letter_26 : decode cX12_letter 26 = .ok (.ifCond .eq 9, 3) := by decide +kernel
theorem dX12_letter_29 : decode cX12_letter 29 = .ok (.aload_n 0, 1) := by decide +kernel
theorem dX12_letter_30 : decode cX12_letter 30 = .ok (.iload_n 2, 1) := by decide +kernel
theorem dX12_letter_31 : decode cX12_letter 31 = .ok (.invokevirtual 91, 3) := by decide +kernel
theorem dX12_letter_34 : decode cX12_letter 34 = .ok (.ireturn, 1) := by decide +kernel
theorem dX12_letter_35 : decode cX12_letter 35 = .ok (.aload_n 0, 1) := by decide +kernel
theorem dX12_letter_36 : decode cX12_letter 36 = .ok (.getfield 43, 3) := by decide +kernel
theorem dX12_letter_39 : decode cX12_letter 39 = .ok (.aload_n 0, 1) := by decide +kernel
theorem dX12_letter_40 : decode cX12_letter 40 = .ok (.getfield 88, 3) := by decide +kernel
theorem dX12_letter_43 : decode cX12_letter 43 = .ok (.iload_n 1, 1) := by decide +kernel
theorem dX12_letter_44 : decode cX12_letter 44 = .ok (.iastore, 1) := by decide +kernel
theorem dX12_letter_45 : decode cX12_letter 45 = .ok (.aload_n 0, 1) := by decide +kernel
theorem dX12_letter_46 : decode cX12_letter 46 = .ok (.dup, 1) := by decide +kernel
theorem dX12_letter_47 : decode cX12_letter 47 = .ok (.getfield 88, 3) := by decide +kernel
theorem dX12_letter_50 : decode cX12_letter 50 = .ok (.iconst 1, 1) := by decide +kernel
theorem dX12_letter_51 : decode cX12_letter 51 = .ok (.iadd, 1) := by decide +kernel
theorem dX12_letter_52 : decode cX12_letter 52 = .ok (.putfield 88, 3) := by decide +kernel
theorem dX12_letter_55 : decode cX12_letter 55 = .ok (.aload_n 0, 1) := by decide +kernel
theorem dX12_letter_56 : decode cX12_letter 56 = .ok (.getfield 88, 3) := by decide +kernel
theorem dX12_letter_59 : decode cX12_letter 59 = .ok (.ireturn, 1) := by decide +kernel
theorem dX12_signAt_0 : decode cX12_signAt 0 = .ok (.aload_n 0, 1) := by decide +kernel
theorem dX12_signAt_1 : decode cX12_signAt 1 = .ok (.getfield 95, 3) := by decide +kernel
