theorem dX12_findWhere_63 : decode cX12_findWhere 63 = .ok (.iload 6, 2) := by decide +kernel
theorem dX12_findWhere_65 : decode cX12_findWhere 65 = .ok (.iaload, 1) := by decide +kernel
theorem dX12_findWhere_66 : decode cX12_findWhere 66 = .ok (.bipush 9, 2) := by decide +kernel
theorem dX12_findWhere_68 : decode cX12_findWhere 68 = .ok (.if_icmp .ge 19, 3) := by decide +kernel
theorem dX12_findWhere_71 : decode cX12_findWhere 71 = .ok (.iload_n 3, 1) := by decide +kernel
theorem dX12_findWhere_72 : decode cX12_findWhere 72 = .ok (.iload 6, 2) := by decide +kernel
theorem dX12_findWhere_74 : decode cX12_findWhere 74 = .ok (.invokestatic 223, 3) := by decide +kernel
theorem dX12_findWhere_77 : decode cX12_findWhere 77 = .ok (.ifCond .ne 10, 3) := by decide +kernel
theorem dX12_findWhere_80 : decode cX12_findWhere 80 = .ok (.iconst 1, 1) := by decide +kernel
theorem dX12_findWhere_81 : decode cX12_findWhere 81 = .ok (.iload 6, 2) := by decide +kernel
theorem dX12_findWhere_83 : decode cX12_findWhere 83 = .ok (.ishl, 1) := by decide +kernel
theorem dX12_findWhere_84 : decode cX12_findWhere 84 = .ok (.goto 4, 3) := by decide +kernel
theorem dX12_findWhere_87 : decode cX12_findWhere 87 = .ok (.iconst 0, 1) := by decide +kernel
theorem dX12_findWhere_88 : decode cX12_findWhere 88 = .ok (.ior, 1) := by decide +kernel
theorem dX12_findWhere_89 : decode cX12_findWhere 89 = .ok (.istore 5, 2) := by decide +kernel
theorem dX12_findWhere_91 : decode cX12_findWhere 91 = .ok (.iinc 6 1, 3) := by decide +kernel
theorem dX12_findWhere_94 : decode cX12_findWhere 94 = .ok (.goto (-67), 3) := by decide +kernel
theorem dX12_findWhere_97 : decode cX12_findWhere 97 = .ok (.aload_n 0, 1) := by decide +kernel
theorem dX12_findWhere_98 : decode cX12_findWhere 98 = .ok (.getfield 70, 3) := by decide +kernel
theorem dX12_findWhere_101 : decode cX12_findWhere 101 = .ok (.iload 4, 2) := by decide +kernel
theorem dX12_findWhere_103 : decode cX12_findWhere 103 = .ok (.aload_n 0, 1) := by decide +kernel
theorem dX12_findWhere_104 : decode cX12_findWhere 104 = .ok (.getfield 13, 3) := by decide +kernel
theorem dX12_findWhere_107 : decode cX12_findWhere 107 = .ok (.iload 4, 2) := by decide +kernel
theorem dX12_findWhere_109 : decode cX12_findWhere 109 = .ok (.iaload, 1) := by decide +kernel
theorem dX12_findWhere_110 : decode cX12_findWhere 110 = .ok (.iconst 1, 1) := by decide +kernel
theorem dX12_findWhere_111 : decode cX12_findWhere 111 = .ok (.if_icmp .eq 16, 3) := by decide +kernel
theorem dX12_findWhere_114 : decode cX12_findWhere 114 = .ok (.aload_n 0, 1) := by decide +kernel
theorem dX12_findWhere_115 : decode cX12_findWhere 115 = .ok (.getfield 67, 3) := by decide +kernel
theorem dX12_findWhere_118 : decode cX12_findWhere 118 = .ok (.iload 4, 2) := by decide +kernel
theorem dX12_findWhere_120 : decode cX12_findWhere 120 = .ok (.iaload, 1) := by decide +kernel
theorem dX12_findWhere_121 : decode cX12_findWhere 121 = .ok (.iload 5, 2) := by decide +kernel
theorem dX12_findWhere_123 : decode cX12_findWhere 123 = .ok (.iand, 1) := by decide +kernel
theorem dX12_findWhere_124 : decode cX12_findWhere 124 = .ok (.ifCond .eq 7, 3) := by decide +kernel
theorem dX12_findWhere_127 : decode cX12_findWhere 127 = .ok (.iconst 0, 1) := by decide +kernel
theorem dX12_findWhere_128 : decode cX12_findWhere 128 = .ok (.goto 4, 3) := by decide +kernel
theorem dX12_findWhere_131 : decode cX12_findWhere 131 = .ok (.iconst 1, 1) := by decide +kernel
theorem dX12_findWhere_132 : decode cX12_findWhere 132 = .ok (.iastore, 1) := by decide +kernel
theorem dX12_findWhere_133 : decode cX12_findWhere 133 = .ok (.iinc 4 1, 3) := by decide +kernel
theorem dX12_findWhere_136 : decode cX12_findWhere 136 = .ok (.goto (-122), 3) := by decide +kernel
theorem dX12_findWhere_139 : decode cX12_findWhere 139 = .ok (.iconst 0, 1) := by decide +kernel
theorem dX12_findWhere_140 : decode cX12_findWhere 140 = .ok (.istore 4, 2) := by decide +kernel
theorem dX12_findWhere_142 : decode cX12_findWhere 142 = .ok (.iload 4, 2) := by decide +kernel
theorem dX12_findWhere_144 : decode cX12_findWhere 144 = .ok (.aload_n 0, 1) := by decide +kernel
theorem dX12_findWhere_145 : decode cX12_findWhere 145 = .ok (.getfield 76, 3) := by decide +kernel
theorem dX12_findWhere_148 : decode cX12_findWhere 148 = .ok (.if_icmp .ge 58, 3) := by decide +kernel
theorem dX12_findWhere_151 : decode cX12_findWhere 151 = .ok (.bipush 9, 2) := by decide +kernel
theorem dX12_findWhere_153 : decode cX12_findWhere 153 = .ok (.iload 4, 2) := by decide +kernel
theorem dX12_findWhere_155 : decode cX12_findWhere 155 = .ok (.imul, 1) := by decide +kernel
theorem dX12_findWhere_156 : decode cX12_findWhere 156 = .ok (.istore 5, 2) := by decide +kernel
theorem dX12_findWhere_158 : decode cX12_findWhere 158 = .ok (.iload 5, 2) := by decide +kernel
theorem dX12_findWhere_160 : decode cX12_findWhere 160 = .ok (.bipush 9, 2) := by decide +kernel
theorem dX12_findWhere_162 : decode cX12_findWhere 162 = .ok (.iload 4, 2) := by decide +kernel
theorem dX12_findWhere_164 : decode cX12_findWhere 164 = .ok (.imul, 1) := by decide +kernel
theorem dX12_findWhere_165 : decode cX12_findWhere 165 = .ok (.aload_n 0, 1) := by decide +kernel
theorem dX12_findWhere_166 : decode cX12_findWhere 166 = .ok (.getfield 28, 3) := by decide +kernel
theorem dX12_findWhere_169 : decode cX12_findWhere 169 = .ok (.iload 4, 2) := by decide +kernel
theorem dX12_findWhere_171 : decode cX12_findWhere 171 = .ok (.iaload, 1) := by decide +kernel
theorem dX12_findWhere_172 : decode cX12_findWhere 172 = .ok (.iadd, 1) := by decide +kernel
theorem dX12_findWhere_173 : decode cX12_findWhere 173 = .ok (.if_icmp .ge 27, 3) := by decide +kernel
theorem dX12_findWhere_176 : decode cX12_findWhere 176 = .ok (.aload_n 0, 1) := by decide +kernel
theorem dX12_findWhere_177 : decode cX12_findWhere 177 = .ok (.getfield 31, 3) := by decide +kernel
theorem dX12_findWhere_180 : decode cX12_findWhere 180 = .ok (.iload 5, 2) := by decide +kernel
theorem dX12_findWhere_182 : decode cX12_findWhere 182 = .ok (.iaload, 1) := by decide +kernel
theorem dX12_findWhere_183 : decode cX12_findWhere 183 = .ok (.iload_n 1, 1) := by decide +kernel
theorem dX12_findWhere_184 : decode cX12_findWhere 184 = .ok (.if_icmp .ne 10, 3) := by decide +kernel
theorem dX12_findWhere_187 : decode cX12_findWhere 187 = .ok (.aload_n 0, 1) := by decide +kernel
theorem dX12_findWhere_188 : decode cX12_findWhere 188 = .ok (.iload 5, 2) := by decide +kernel
theorem dX12_findWhere_190 : decode cX12_findWhere 190 = .ok (.iload_n 2, 1) := by decide +kernel
theorem dX12_findWhere_191 : decode cX12_findWhere 191 = .ok (.invokevirtual 254, 3) := by decide +kernel
theorem dX12_findWhere_194 : decode cX12_findWhere 194 = .ok (.iinc 5 1, 3) := by decide +kernel
theorem dX12_findWhere_197 : decode cX12_findWhere 197 = .ok (.goto (-39), 3) := by decide +kernel
theorem dX12_findWhere_200 : decode cX12_findWhere 200 = .ok (.iinc 4 1, 3) := by decide +kernel
theorem dX12_findWhere_203 : decode cX12_findWhere 203 = .ok (.goto (-61), 3) := by decide +kernel
theorem dX12_findWhere_206 : decode cX12_findWhere 206 = .ok (.return_, 1) := by decide +kernel
set_option maxRecDepth 20000 in
theorem ggX12_seersOf_X12_sceneAt : GoodIn wsX12_seersOf wsX12_sceneAt := goodIn_r _ [7, 8, 9, 10, 11, 12, 13, 14, 15, 16, 17, 18, 19, 20, 21, 22, 23, 24, 25, 26, 27, 28, 29, 30, 31, 32, 33, 34, 35, 36, 37, 38, 39, 40, 41, 42] (by decide +kernel) (by decide +kernel)
set_option maxRecDepth 20000 in
theorem gX12_seersOf_X12_sceneAt : GoodIn wsX12_seersOf (wsV RX12 236 RX12 yX12_sceneAt wsX12_sceneAt) := goodIn_app (goodIn_of _ (by decide +kernel)) ggX12_seersOf_X12_sceneAt
theorem dX12_seersOf_0 : decode cX12_seersOf 0 = .ok (.iconst 0, 1) := by decide +kernel
theorem dX12_seersOf_1 : decode cX12_seersOf 1 = .ok (.istore_n 3, 1) := by decide +kernel
theorem dX12_seersOf_2 : decode cX12_seersOf 2 = .ok (.iconst 0, 1) := by decide +kernel
theorem dX12_seersOf_3 : decode cX12_seersOf 3 = .ok (.istore 4, 2) := by decide +kernel
theorem dX12_seersOf_5 : decode cX12_seersOf 5 = .ok (.iload 4, 2) := by decide +kernel
theorem dX12_seersOf_7 : decode cX12_seersOf 7 = .ok (.aload_n 0, 1) := by decide +kernel
theorem dX12_seersOf_8 : decode cX12_seersOf 8 = .ok (.getfield 76, 3) := by decide +kernel
theorem dX12_seersOf_11 : decode cX12_seersOf 11 = .ok (.if_icmp .ge 52, 3) := by decide +kernel
theorem dX12_seersOf_14 : decode cX12_seersOf 14 = .ok (.iload_n 3, 1) := by decide +kernel
theorem dX12_seersOf_15 : decode cX12_seersOf 15 = .ok (.aload_n 0, 1) := by decide +kernel
theorem dX12_seersOf_16 : decode cX12_seersOf 16 = .ok (.iload 4, 2) := by decide +kernel
theorem dX12_seersOf_18 : decode cX12_seersOf 18 = .ok (.iload_n 2, 1) := by decide +kernel
theorem dX12_seersOf_19 : decode cX12_seersOf 19 = .ok (.invokevirtual 236, 3) := by decide +kernel
theorem dX12_seersOf_22 : decode cX12_seersOf 22 = .ok (.ifCond .lt 32, 3) := by decide +kernel
theorem dX12_seersOf_25 : decode cX12_seersOf 25 = .ok (.aload_n 0, 1) := by decide +kernel
theorem dX12_seersOf_26 : decode cX12_seersOf 26 = .ok (.getfield 31, 3) := by decide +kernel
theorem dX12_seersOf_29 : decode cX12_seersOf 29 = .ok (.bipush 9, 2) := by decide +kernel
theorem dX12_seersOf_31 : decode cX12_seersOf 31 = .ok (.iload 4, 2) := by decide +kernel
theorem dX12_seersOf_33 : decode cX12_seersOf 33 = .ok (.imul, 1) := by decide +kernel
theorem dX12_seersOf_34 : decode cX12_seersOf 34 = .ok (.aload_n 0, 1) := by decide +kernel
theorem dX12_seersOf_35 : decode cX12_seersOf 35 = .ok (.iload 4, 2) := by decide +kernel
theorem dX12_seersOf_37 : decode cX12_seersOf 37 = .ok (.iload_n 2, 1) := by decide +kernel
theorem dX12_seersOf_38 : decode cX12_seersOf 38 = .ok (.invokevirtual 236, 3) := by decide +kernel
theorem dX12_seersOf_41 : decode cX12_seersOf 41 = .ok (.iadd, 1) := by decide +kernel
theorem dX12_seersOf_42 : decode cX12_seersOf 42 = .ok (.iaload, 1) := by decide +kernel
theorem dX12_seersOf_43 : decode cX12_seersOf 43 = .ok (.iload_n 1, 1) := by decide +kernel
theorem dX12_seersOf_44 : decode cX12_seersOf 44 = .ok (.if_icmp .ne 10, 3) := by decide +kernel
theorem dX12_seersOf_47 : decode cX12_seersOf 47 = .ok (.iconst 1, 1) := by decide +kernel
theorem dX12_seersOf_48 : decode cX12_seersOf 48 = .ok (.iload 4, 2) := by decide +kernel
theorem dX12_seersOf_50 : decode cX12_seersOf 50 = .ok (.ishl, 1) := by decide +kernel
theorem dX12_seersOf_51 : decode cX12_seersOf 51 = .ok (.goto 4, 3) := by decide +kernel
theorem dX12_seersOf_54 : decode cX12_seersOf 54 = .ok (.iconst 0, 1) := by decide +kernel
theorem dX12_seersOf_55 : decode cX12_seersOf 55 = .ok (.ior, 1) := by decide +kernel
theorem dX12_seersOf_56 : decode cX12_seersOf 56 = .ok (.istore_n 3, 1) := by decide +kernel
theorem dX12_seersOf_57 : decode cX12_seersOf 57 = .ok (.iinc 4 1, 3) := by decide +kernel
theorem dX12_seersOf_60 : decode cX12_seersOf 60 = .ok (.goto (-55), 3) := by decide +kernel
theorem dX12_seersOf_63 : decode cX12_seersOf 63 = .ok (.iload_n 3, 1) := by decide +kernel
theorem dX12_seersOf_64 : decode cX12_seersOf 64 = .ok (.ireturn, 1) := by decide +kernel
set_option maxRecDepth 20000 in
theorem ggX12_notWhere_X12_isPerson : GoodIn wsX12_notWhere wsX12_isPerson := goodIn_r _ [5, 6, 7, 8, 9, 10, 11, 12, 13, 14, 15, 16, 17, 18, 19, 20, 21, 22, 23, 24, 25, 26, 27, 28, 29, 30, 31, 32, 33, 34, 35, 36, 37, 38, 39] (by decide +kernel) (by decide +kernel)
set_option maxRecDepth 20000 in
theorem gX12_notWhere_X12_isPerson : GoodIn wsX12_notWhere (wsV RX12 132 RX12 yX12_isPerson wsX12_isPerson) := goodIn_app (goodIn_of _ (by decide +kernel)) ggX12_notWhere_X12_isPerson
theorem dX12_notWhere_0 : decode cX12_notWhere 0 = .ok (.aload_n 0, 1) := by decide +kernel
theorem dX12_notWhere_1 : decode cX12_notWhere 1 = .ok (.iload_n 1, 1) := by decide +kernel
theorem dX12_notWhere_2 : decode cX12_notWhere 2 = .ok (.invokevirtual 132, 3) := by decide +kernel
theorem dX12_notWhere_5 : decode cX12_notWhere 5 = .ok (.ifCond .ne 5, 3) := by decide +kernel
theorem dX12_notWhere_8 : decode cX12_notWhere 8 = .ok (.iconst (-1), 1) := by decide +kernel
theorem dX12_notWhere_9 : decode cX12_notWhere 9 = .ok (.ireturn, 1) := by decide +kernel
theorem dX12_notWhere_10 : decode cX12_notWhere 10 = .ok (.iload_n 2, 1) := by decide +kernel
theorem dX12_notWhere_11 : decode cX12_notWhere 11 = .ok (.ifCond .lt 8, 3) := by decide +kernel
theorem dX12_notWhere_14 : decode cX12_notWhere 14 = .ok (.iload_n 3, 1) := by decide +kernel
theorem dX12_notWhere_15 : decode cX12_notWhere 15 = .ok (.iconst (-1), 1) := by decide +kernel
theorem dX12_notWhere_16 : decode cX12_notWhere 16 = .ok (.if_icmp .ge 6, 3) := by decide +kernel
theorem dX12_notWhere_19 : decode cX12_notWhere 19 = .ok (.bipush (-4), 2) := by decide +kernel
theorem dX12_notWhere_21 : decode cX12_notWhere 21 = .ok (.ireturn, 1) := by decide +kernel
theorem dX12_notWhere_22 : decode cX12_notWhere 22 = .ok (.iload_n 2, 1) := by decide +kernel
theorem dX12_notWhere_23 : decode cX12_notWhere 23 = .ok (.sipush 9999, 3) := by decide +kernel
theorem dX12_notWhere_26 : decode cX12_notWhere 26 = .ok (.if_icmp .le 8, 3) := by decide +kernel
theorem dX12_notWhere_29 : decode cX12_notWhere 29 = .ok (.bipush (-6), 2) := by decide +kernel
theorem dX12_notWhere_31 : decode cX12_notWhere 31 = .ok (.goto 4, 3) := by decide +kernel
theorem dX12_notWhere_34 : decode cX12_notWhere 34 = .ok (.iconst 0, 1) := by decide +kernel
theorem dX12_notWhere_35 : decode cX12_notWhere 35 = .ok (.ireturn, 1) := by decide +kernel
set_option maxRecDepth 20000 in
theorem ggX12_whereAt_X12_notWhere : GoodIn wsX12_whereAt wsX12_notWhere := goodIn_r _ [6, 7, 8, 9, 5, 10, 11, 83, 84, 85, 86, 87, 88, 89, 90, 91, 92, 93, 94, 95, 96, 97, 98, 99, 100, 101, 102, 103, 104, 105, 106, 107, 108, 109, 110, 111, 112, 113, 114, 115] (by decide +kernel) (by decide +kernel)
set_option maxRecDepth 20000 in
theorem gX12_whereAt_X12_notWhere : GoodIn wsX12_whereAt (wsV RX12 257 RX12 yX12_notWhere wsX12_notWhere) := goodIn_app (goodIn_of _ (by decide +kernel)) ggX12_whereAt_X12_notWhere
set_option maxRecDepth 20000 in
theorem ggX12_whereAt_X12_no : GoodIn wsX12_whereAt wsX12_no := goodIn_r _ [15, 16, 83, 84, 85, 86, 87, 88, 89, 90, 91, 92, 93, 94, 95, 96, 97, 98, 99, 100, 101, 102, 103, 104, 105, 106, 107, 108, 109, 110, 111, 112, 113, 114, 115] (by decide +kernel) (by decide +kernel)
set_option maxRecDepth 20000 in
theorem gX12_whereAt_X12_no : GoodIn wsX12_whereAt (wsV RX12 91 RX12 yX12_no wsX12_no) := goodIn_app (goodIn_of _ (by decide +kernel)) ggX12_whereAt_X12_no
set_option maxRecDepth 20000 in
theorem ggX12_whereAt_X12_findWhere : GoodIn wsX12_whereAt wsX12_findWhere := goodIn_r _ [20, 21, 22, 23, 24, 1, 25, 26, 27, 28, 29, 30, 5, 31, 32, 33, 34, 35, 36, 37, 38, 39, 40, 41, 42, 43, 44, 45, 46, 47, 11, 48, 49, 50, 51, 52, 53, 54, 55, 56, 57, 58, 59, 60, 61, 62, 63, 64, 65, 66, 67, 68, 69, 70, 71, 72, 73, 74, 75, 76, 77, 78, 79, 80, 81, 82, 83, 84, 85, 86, 87, 88, 89, 90, 91, 92, 93, 94, 95, 96, 97, 98, 99, 100, 101, 102, 103, 104, 105, 106, 107, 108, 109, 110, 111, 112, 113, 114, 115] (by decide +kernel) (by decide +kernel)
set_option maxRecDepth 20000 in
theorem gX12_whereAt_X12_findWhere : GoodIn wsX12_whereAt (wsV RX12 260 RX12 yX12_findWhere wsX12_findWhere) := goodIn_app (goodIn_of _ (by decide +kernel)) ggX12_whereAt_X12_findWhere
theorem dX12_whereAt_0 : decode cX12_whereAt 0 = .ok (.aload_n 0, 1) := by decide +kernel
theorem dX12_whereAt_1 : decode cX12_whereAt 1 = .ok (.iload_n 1, 1) := by decide +kernel
theorem dX12_whereAt_2 : decode cX12_whereAt 2 = .ok (.iload_n 2, 1) := by decide +kernel
theorem dX12_whereAt_3 : decode cX12_whereAt 3 = .ok (.iload_n 3, 1) := by decide +kernel
theorem dX12_whereAt_4 : decode cX12_whereAt 4 = .ok (.invokevirtual 257, 3) := by decide +kernel
theorem dX12_whereAt_7 : decode cX12_whereAt 7 = .ok (.istore 4, 2) := by decide +kernel
theorem dX12_whereAt_9 : decode cX12_whereAt 9 = .ok (.iload 4, 2) := by decide +kernel
theorem dX12_whereAt_11 : decode cX12_whereAt 11 = .ok (.ifCond .eq 10, 3) := by decide +kernel
theorem dX12_whereAt_14 : decode cX12_whereAt 14 = .ok (.aload_n 0, 1) := by decide +kernel
theorem dX12_whereAt_15 : decode cX12_whereAt 15 = .ok (.iload 4, 2) := by decide +kernel
theorem dX12_whereAt_17 : decode cX12_whereAt 17 = .ok (.invokevirtual 91, 3) := by decide +kernel
theorem dX12_whereAt_20 : decode cX12_whereAt 20 = .ok (.ireturn, 1) := by decide +kernel
theorem dX12_whereAt_21 : decode cX12_whereAt 21 = .ok (.aload_n 0, 1) := by decide +kernel
theorem dX12_whereAt_22 : decode cX12_whereAt 22 = .ok (.iload_n 1, 1) := by decide +kernel
theorem dX12_whereAt_23 : decode cX12_whereAt 23 = .ok (.iload_n 2, 1) := by decide +kernel
theorem dX12_whereAt_24 : decode cX12_whereAt 24 = .ok (.invokevirtual 260, 3) := by decide +kernel
theorem dX12_whereAt_27 : decode cX12_whereAt 27 = .ok (.iconst 0, 1) := by decide +kernel
theorem dX12_whereAt_28 : decode cX12_whereAt 28 = .ok (.istore 5, 2) := by decide +kernel
theorem dX12_whereAt_30 : decode cX12_whereAt 30 = .ok (.iconst 0, 1) := by decide +kernel
theorem dX12_whereAt_31 : decode cX12_whereAt 31 = .ok (.istore 6, 2) := by decide +kernel
theorem dX12_whereAt_33 : decode cX12_whereAt 33 = .ok (.iload 6, 2) := by decide +kernel
theorem dX12_whereAt_35 : decode cX12_whereAt 35 = .ok (.bipush 36, 2) := by decide +kernel
theorem dX12_whereAt_37 : decode cX12_whereAt 37 = .ok (.if_icmp .ge 34, 3) := by decide +kernel
theorem dX12_whereAt_40 : decode cX12_whereAt 40 = .ok (.aload_n 0, 1) := by decide +kernel
theorem dX12_whereAt_41 : decode cX12_whereAt 41 = .ok (.getfield 70, 3) := by decide +kernel
theorem dX12_whereAt_44 : decode cX12_whereAt 44 = .ok (.iload 6, 2) := by decide +kernel
theorem dX12_whereAt_46 : decode cX12_whereAt 46 = .ok (.iaload, 1) := by decide +kernel
theorem dX12_whereAt_47 : decode cX12_whereAt 47 = .ok (.ifCond .ne 6, 3) := by decide +kernel
theorem dX12_whereAt_50 : decode cX12_whereAt 50 = .ok (.goto 15, 3) := by decide +kernel
theorem dX12_whereAt_53 : decode cX12_whereAt 53 = .ok (.iload 5, 2) := by decide +kernel
theorem dX12_whereAt_55 : decode cX12_whereAt 55 = .ok (.iload_n 3, 1) := by decide +kernel
theorem dX12_whereAt_56 : decode cX12_whereAt 56 = .ok (.if_icmp .ne 6, 3) := by decide +kernel
theorem dX12_whereAt_59 : decode cX12_whereAt 59 = .ok (.iload 6, 2) := by decide +kernel
theorem dX12_whereAt_61 : decode cX12_whereAt 61 = .ok (.ireturn, 1) := by decide +kernel
theorem dX12_whereAt_62 : decode cX12_whereAt 62 = .ok (.iinc 5 1, 3) := by decide +kernel
theorem dX12_whereAt_65 : decode cX12_whereAt 65 = .ok (.iinc 6 1, 3) := by decide +kernel
theorem dX12_whereAt_68 : decode cX12_whereAt 68 = .ok (.goto (-35), 3) := by decide +kernel
theorem dX12_whereAt_71 : decode cX12_whereAt 71 = .ok (.iload_n 3, 1) := by decide +kernel
theorem dX12_whereAt_72 : decode cX12_whereAt 72 = .ok (.ifCond .ge 8, 3) := by decide +kernel
theorem dX12_whereAt_75 : decode cX12_whereAt 75 = .ok (.iload 5, 2) := by decide +kernel
theorem dX12_whereAt_77 : decode cX12_whereAt 77 = .ok (.goto 5, 3) := by decide +kernel
theorem dX12_whereAt_80 : decode cX12_whereAt 80 = .ok (.bipush (-9), 2) := by decide +kernel
theorem dX12_whereAt_82 : decode cX12_whereAt 82 = .ok (.ireturn, 1) := by decide +kernel
set_option maxRecDepth 20000 in
theorem ggX12_next_X12_notWhere : GoodIn wsX12_next wsX12_notWhere := goodIn_r _ [8, 9, 10, 11, 7, 12, 13, 83, 84, 85, 86, 87, 88, 89, 90, 91, 92, 93, 94, 95, 96, 97, 98, 99, 100, 101, 102, 103, 104, 105, 106, 107, 108, 109, 110, 111, 112, 113, 114, 115] (by decide +kernel) (by decide +kernel)
set_option maxRecDepth 20000 in
theorem gX12_next_X12_notWhere : GoodIn wsX12_next (wsV RX12 257 RX12 yX12_notWhere wsX12_notWhere) := goodIn_app (goodIn_of _ (by decide +kernel)) ggX12_next_X12_notWhere
set_option maxRecDepth 20000 in
theorem ggX12_next_X12_no : GoodIn wsX12_next wsX12_no := goodIn_r _ [17, 18, 83, 84, 85, 86, 87, 88, 89, 90, 91, 92, 93, 94, 95, 96, 97, 98, 99, 100, 101, 102, 103, 104, 105, 106, 107, 108, 109, 110, 111, 112, 113, 114, 115] (by decide +kernel) (by decide +kernel)
set_option maxRecDepth 20000 in
theorem gX12_next_X12_no : GoodIn wsX12_next (wsV RX12 91 RX12 yX12_no wsX12_no) := goodIn_app (goodIn_of _ (by decide +kernel)) ggX12_next_X12_no
set_option maxRecDepth 20000 in
theorem ggX12_next_X12_findWhere : GoodIn wsX12_next wsX12_findWhere := goodIn_r _ [22, 2, 23, 24, 25, 1, 26, 3, 27, 28, 29, 30, 7, 31, 32, 33, 34, 35, 36, 37, 38, 39, 40, 41, 42, 43, 44, 45, 46, 47, 13, 48, 49, 50, 51, 52, 53, 54, 55, 56, 57, 58, 59, 60, 61, 62, 63, 64, 65, 66, 67, 68, 69, 70, 71, 72, 73, 74, 75, 76, 77, 78, 79, 80, 81, 82, 83, 84, 85, 86, 87, 88, 89, 90, 91, 92, 93, 94, 95, 96, 97, 98, 99, 100, 101, 102, 103, 104, 105, 106, 107, 108, 109, 110, 111, 112, 113, 114, 115] (by decide +kernel) (by decide +kernel)
set_option maxRecDepth 20000 in
theorem gX12_next_X12_findWhere : GoodIn wsX12_next (wsV RX12 260 RX12 yX12_findWhere wsX12_findWhere) := goodIn_app (goodIn_of _ (by decide +kernel)) ggX12_next_X12_findWhere
set_option maxRecDepth 20000 in
theorem ggX12_next_X12_findLit : GoodIn wsX12_next wsX12_findLit := goodIn_r _ [40, 3, 2, 41, 42, 43, 44, 45, 7, 46, 47, 23, 13, 48, 49, 50, 51, 52, 26, 53, 54, 55, 56, 57, 58, 59, 60, 61, 62, 63, 64, 65, 66, 67, 68, 69, 70, 83, 84, 85, 86, 87, 88, 89, 90, 91, 92, 93, 94, 95, 96, 97, 98, 99, 100, 101, 102, 103, 104, 105, 106, 107, 108, 109, 110, 111, 112, 113, 114, 115] (by decide +kernel) (by decide +kernel)
set_option maxRecDepth 20000 in
theorem gX12_next_X12_findLit : GoodIn wsX12_next (wsV RX12 220 RX12 yX12_findLit wsX12_findLit) := goodIn_app (goodIn_of _ (by decide +kernel)) ggX12_next_X12_findLit
set_option maxRecDepth 20000 in
theorem ggX12_next_X12_has : GoodIn wsX12_next wsX12_has := goodIn_r _ [73] (by decide +kernel) (by decide +kernel)
set_option maxRecDepth 20000 in
theorem gX12_next_X12_has : GoodIn wsX12_next (va_wsS RX12 223 yX12_has wsX12_has) := goodIn_app (goodIn_of _ (by decide +kernel)) ggX12_next_X12_has
theorem dX12_next_0 : decode cX12_next 0 = .ok (.aload_n 0, 1) := by decide +kernel
theorem dX12_next_1 : decode cX12_next 1 = .ok (.iload_n 1, 1) := by decide +kernel
theorem dX12_next_2 : decode cX12_next 2 = .ok (.iload_n 2, 1) := by decide +kernel
theorem dX12_next_3 : decode cX12_next 3 = .ok (.iconst 0, 1) := by decide +kernel
theorem dX12_next_4 : decode cX12_next 4 = .ok (.invokevirtual 257, 3) := by decide +kernel
theorem dX12_next_7 : decode cX12_next 7 = .ok (.istore_n 3, 1) := by decide +kernel
theorem dX12_next_8 : decode cX12_next 8 = .ok (.iload_n 3, 1) := by decide +kernel
theorem dX12_next_9 : decode cX12_next 9 = .ok (.ifCond .eq 9, 3) := by decide +kernel
theorem dX12_next_12 : decode cX12_next 12 = .ok (.aload_n 0, 1) := by decide +kernel
theorem dX12_next_13 : decode cX12_next 13 = .ok (.iload_n 3, 1) := by decide +kernel
theorem dX12_next_14 : decode cX12_next 14 = .ok (.invokevirtual 91, 3) := by decide +kernel
theorem dX12_next_17 : decode cX12_next 17 = .ok (.ireturn, 1) := by decide +kernel
theorem dX12_next_18 : decode cX12_next 18 = .ok (.aload_n 0, 1) := by decide +kernel
theorem dX12_next_19 : decode cX12_next 19 = .ok (.iload_n 1, 1) := by decide +kernel
theorem dX12_next_20 : decode cX12_next 20 = .ok (.iload_n 2, 1) := by decide +kernel
theorem dX12_next_21 : decode cX12_next 21 = .ok (.invokevirtual 260, 3) := by decide +kernel
theorem dX12_next_24 : decode cX12_next 24 = .ok (.aload_n 0, 1) := by decide +kernel
theorem dX12_next_25 : decode cX12_next 25 = .ok (.invokevirtual 220, 3) := by decide +kernel
theorem dX12_next_28 : decode cX12_next 28 = .ok (.iconst 0, 1) := by decide +kernel
theorem dX12_next_29 : decode cX12_next 29 = .ok (.istore 4, 2) := by decide +kernel
theorem dX12_next_31 : decode cX12_next 31 = .ok (.iconst 0, 1) := by decide +kernel
theorem dX12_next_32 : decode cX12_next 32 = .ok (.istore 5, 2) := by decide +kernel
theorem dX12_next_34 : decode cX12_next 34 = .ok (.iload 5, 2) := by decide +kernel
theorem dX12_next_36 : decode cX12_next 36 = .ok (.bipush 36, 2) := by decide +kernel
theorem dX12_next_38 : decode cX12_next 38 = .ok (.if_icmp .ge 21, 3) := by decide +kernel
theorem dX12_next_41 : decode cX12_next 41 = .ok (.iload 4, 2) := by decide +kernel
theorem dX12_next_43 : decode cX12_next 43 = .ok (.aload_n 0, 1) := by decide +kernel
theorem dX12_next_44 : decode cX12_next 44 = .ok (.getfield 70, 3) := by decide +kernel
theorem dX12_next_47 : decode cX12_next 47 = .ok (.iload 5, 2) := by decide +kernel
theorem dX12_next_49 : decode cX12_next 49 = .ok (.iaload, 1) := by decide +kernel
theorem dX12_next_50 : decode cX12_next 50 = .ok (.iadd, 1) := by decide +kernel
theorem dX12_next_51 : decode cX12_next 51 = .ok (.istore 4, 2) := by decide +kernel
theorem dX12_next_53 : decode cX12_next 53 = .ok (.iinc 5 1, 3) := by decide +kernel
theorem dX12_next_56 : decode cX12_next 56 = .ok (.goto (-22), 3) := by decide +kernel
theorem dX12_next_59 : decode cX12_next 59 = .ok (.bipush (-9), 2) := by decide +kernel
theorem dX12_next_61 : decode cX12_next 61 = .ok (.istore 5, 2) := by decide +kernel
theorem dX12_next_63 : decode cX12_next 63 = .ok (.iconst (-1), 1) := by decide +kernel
theorem dX12_next_64 : decode cX12_next 64 = .ok (.istore 6, 2) := by decide +kernel
theorem dX12_next_66 : decode cX12_next 66 = .ok (.iconst 0, 1) := by decide +kernel
theorem dX12_next_67 : decode cX12_next 67 = .ok (.istore 7, 2) := by decide +kernel
theorem dX12_next_69 : decode cX12_next 69 = .ok (.iload 7, 2) := by decide +kernel
theorem dX12_next_71 : decode cX12_next 71 = .ok (.aload_n 0, 1) := by decide +kernel
theorem dX12_next_72 : decode cX12_next 72 = .ok (.getfield 76, 3) := by decide +kernel
theorem dX12_next_75 : decode cX12_next 75 = .ok (.if_icmp .ge 109, 3) := by decide +kernel
theorem dX12_next_78 : decode cX12_next 78 = .ok (.iload 4, 2) := by decide +kernel
theorem dX12_next_80 : decode cX12_next 80 = .ok (.ifCond .le 104, 3) := by decide +kernel
theorem dX12_next_83 : decode cX12_next 83 = .ok (.iconst 0, 1) := by decide +kernel
theorem dX12_next_84 : decode cX12_next 84 = .ok (.istore 8, 2) := by decide +kernel
theorem dX12_next_86 : decode cX12_next 86 = .ok (.iconst 0, 1) := by decide +kernel
theorem dX12_next_87 : decode cX12_next 87 = .ok (.istore 9, 2) := by decide +kernel
theorem dX12_next_89 : decode cX12_next 89 = .ok (.iload 9, 2) := by decide +kernel
theorem dX12_next_91 : decode cX12_next 91 = .ok (.bipush 36, 2) := by decide +kernel
theorem dX12_next_93 : decode cX12_next 93 = .ok (.if_icmp .ge 45, 3) := by decide +kernel
theorem dX12_next_96 : decode cX12_next 96 = .ok (.iload 8, 2) := by decide +kernel
theorem dX12_next_98 : decode cX12_next 98 = .ok (.aload_n 0, 1) := by decide +kernel
theorem dX12_next_99 : decode cX12_next 99 = .ok (.getfield 70, 3) := by decide +kernel
theorem dX12_next_102 : decode cX12_next 102 = .ok (.iload 9, 2) := by decide +kernel
theorem dX12_next_104 : decode cX12_next 104 = .ok (.iaload, 1) := by decide +kernel
theorem dX12_next_105 : decode cX12_next 105 = .ok (.iconst 1, 1) := by decide +kernel
theorem dX12_next_106 : decode cX12_next 106 = .ok (.if_icmp .ne 22, 3) := by decide +kernel
theorem dX12_next_109 : decode cX12_next 109 = .ok (.aload_n 0, 1) := by decide +kernel
theorem dX12_next_110 : decode cX12_next 110 = .ok (.getfield 67, 3) := by decide +kernel
theorem dX12_next_113 : decode cX12_next 113 = .ok (.iload 9, 2) := by decide +kernel
theorem dX12_next_115 : decode cX12_next 115 = .ok (.iaload, 1) := by decide +kernel
theorem dX12_next_116 : decode cX12_next 116 = .ok (.iload 7, 2) := by decide +kernel
theorem dX12_next_118 : decode cX12_next 118 = .ok (.invokestatic 223, 3) := by decide +kernel
theorem dX12_next_121 : decode cX12_next 121 = .ok (.ifCond .eq 7, 3) := by decide +kernel
theorem dX12_next_124 : decode cX12_next 124 = .ok (.iconst 1, 1) := by decide +kernel
theorem dX12_next_125 : decode cX12_next 125 = .ok (.goto 4, 3) := by decide +kernel
theorem dX12_next_128 : decode cX12_next 128 = .ok (.iconst 0, 1) := by decide +kernel
theorem dX12_next_129 : decode cX12_next 129 = .ok (.iadd, 1) := by decide +kernel
theorem dX12_next_130 : decode cX12_next 130 = .ok (.istore 8, 2) := by decide +kernel
theorem dX12_next_132 : decode cX12_next 132 = .ok (.iinc 9 1, 3) := by decide +kernel
theorem dX12_next_135 : decode cX12_next 135 = .ok (.goto (-46), 3) := by decide +kernel
theorem dX12_next_138 : decode cX12_next 138 = .ok (.iload 8, 2) := by decide +kernel
theorem dX12_next_140 : decode cX12_next 140 = .ok (.iload 4, 2) := by decide +kernel
theorem dX12_next_142 : decode cX12_next 142 = .ok (.iload 8, 2) := by decide +kernel
theorem dX12_next_144 : decode cX12_next 144 = .ok (.isub, 1) := by decide +kernel
theorem dX12_next_145 : decode cX12_next 145 = .ok (.if_icmp .ge 8, 3) := by decide +kernel
theorem dX12_next_148 : decode cX12_next 148 = .ok (.iload 8, 2) := by decide +kernel
theorem dX12_next_150 : decode cX12_next 150 = .ok (.goto 8, 3) := by decide +kernel
theorem dX12_next_153 : decode cX12_next 153 = .ok (.iload 4, 2) := by decide +kernel
theorem dX12_next_155 : decode cX12_next 155 = .ok (.iload 8, 2) := by decide +kernel
theorem dX12_next_157 : decode cX12_next 157 = .ok (.isub, 1) := by decide +kernel
theorem dX12_next_158 : decode cX12_next 158 = .ok (.istore 8, 2) := by decide +kernel
theorem dX12_next_160 : decode cX12_next 160 = .ok (.iload 8, 2) := by decide +kernel
theorem dX12_next_162 : decode cX12_next 162 = .ok (.iload 6, 2) := by decide +kernel
theorem dX12_next_164 : decode cX12_next 164 = .ok (.if_icmp .gt 6, 3) := by decide +kernel
theorem dX12_next_167 : decode cX12_next 167 = .ok (.goto 11, 3) := by decide +kernel
theorem dX12_next_170 : decode cX12_next 170 = .ok (.iload 7, 2) := by decide +kernel
theorem dX12_next_172 : decode cX12_next 172 = .ok (.istore 5, 2) := by decide +kernel
theorem dX12_next_174 : decode cX12_next 174 = .ok (.iload 8, 2) := by decide +kernel
theorem dX12_next_176 : decode cX12_next 176 = .ok (.istore 6, 2) := by decide +kernel
theorem dX12_next_178 : decode cX12_next 178 = .ok (.iinc 7 1, 3) := by decide +kernel
theorem dX12_next_181 : decode cX12_next 181 = .ok (.goto (-112), 3) := by decide +kernel
theorem dX12_next_184 : decode cX12_next 184 = .ok (.iload 5, 2) := by decide +kernel
theorem dX12_next_186 : decode cX12_next 186 = .ok (.ireturn, 1) := by decide +kernel
theorem dX12_lightsAll_0 : decode cX12_lightsAll 0 = .ok (.iconst 0, 1) := by decide +kernel
theorem dX12_lightsAll_1 : decode cX12_lightsAll 1 = .ok (.istore_n 2, 1) := by decide +kernel
theorem dX12_lightsAll_2 : decode cX12_lightsAll 2 = .ok (.iload_n 2, 1) := by decide +kernel
theorem dX12_lightsAll_3 : decode cX12_lightsAll 3 = .ok (.aload_n 0, 1) := by decide +kernel
theorem dX12_lightsAll_4 : decode cX12_lightsAll 4 = .ok (.getfield 263, 3) := by decide +kernel
theorem dX12_lightsAll_7 : decode cX12_lightsAll 7 = .ok (.if_icmp .ge 27, 3) := by decide +kernel
theorem dX12_lightsAll_10 : decode cX12_lightsAll 10 = .ok (.aload_n 0, 1) := by decide +kernel
theorem dX12_lightsAll_11 : decode cX12_lightsAll 11 = .ok (.getfield 67, 3) := by decide +kernel
theorem dX12_lightsAll_14 : decode cX12_lightsAll 14 = .ok (.aload_n 0, 1) := by decide +kernel
theorem dX12_lightsAll_15 : decode cX12_lightsAll 15 = .ok (.getfield 73, 3) := by decide +kernel
theorem dX12_lightsAll_18 : decode cX12_lightsAll 18 = .ok (.iload_n 2, 1) := by decide +kernel
theorem dX12_lightsAll_19 : decode cX12_lightsAll 19 = .ok (.iaload, 1) := by decide +kernel
theorem dX12_lightsAll_20 : decode cX12_lightsAll 20 = .ok (.iaload, 1) := by decide +kernel
theorem dX12_lightsAll_21 : decode cX12_lightsAll 21 = .ok (.iload_n 1, 1) := by decide +kernel
theorem dX12_lightsAll_22 : decode cX12_lightsAll 22 = .ok (.iand, 1) := by decide +kernel
theorem dX12_lightsAll_23 : decode cX12_lightsAll 23 = .ok (.ifCond .ne 5, 3) := by decide +kernel
theorem dX12_lightsAll_26 : decode cX12_lightsAll 26 = .ok (.iconst 0, 1) := by decide +kernel
theorem dX12_lightsAll_27 : decode cX12_lightsAll 27 = .ok (.ireturn, 1) := by decide +kernel
theorem dX12_lightsAll_28 : decode cX12_lightsAll 28 = .ok (.iinc 2 1, 3) := by decide +kernel
theorem dX12_lightsAll_31 : decode cX12_lightsAll 31 = .ok (.goto (-29), 3) := by decide +kernel
theorem dX12_lightsAll_34 : decode cX12_lightsAll 34 = .ok (.iconst 1, 1) := by decide +kernel
theorem dX12_lightsAll_35 : decode cX12_lightsAll 35 = .ok (.ireturn, 1) := by decide +kernel
set_option maxRecDepth 20000 in
theorem ggX12_fewest_X12_isCell : GoodIn wsX12_fewest wsX12_isCell := goodIn_r _ [7] (by decide +kernel) (by decide +kernel)
set_option maxRecDepth 20000 in
theorem gX12_fewest_X12_isCell : GoodIn wsX12_fewest (va_wsS RX12 123 yX12_isCell wsX12_isCell) := goodIn_app (goodIn_of _ (by decide +kernel)) ggX12_fewest_X12_isCell
set_option maxRecDepth 20000 in
theorem ggX12_fewest_X12_no : GoodIn wsX12_fewest wsX12_no := goodIn_r _ [11, 12, 58, 59, 60, 61, 62, 63, 64, 65, 66, 67, 68, 69, 70, 71, 72, 73, 74, 75, 76, 77, 78, 79, 80, 81, 82, 83, 84, 85, 86, 87, 88, 89, 90] (by decide +kernel) (by decide +kernel)
set_option maxRecDepth 20000 in
theorem gX12_fewest_X12_no : GoodIn wsX12_fewest (wsV RX12 91 RX12 yX12_no wsX12_no) := goodIn_app (goodIn_of _ (by decide +kernel)) ggX12_fewest_X12_no
set_option maxRecDepth 20000 in
theorem ggX12_fewest_X12_findLit : GoodIn wsX12_fewest wsX12_findLit := goodIn_r _ [16, 17, 3, 18, 19, 20, 21, 22, 6, 23, 24, 25, 26, 27, 28, 29, 30, 31, 32, 33, 34, 35, 36, 37, 38, 39, 40, 41, 42, 43, 44, 45, 46, 47, 48, 49, 50, 58, 59, 60, 61, 62, 63, 64, 65, 66, 67, 68, 69, 70, 71, 72, 73, 74, 75, 76, 77, 78, 79, 80, 81, 82, 83, 84, 85, 86, 87, 88, 89, 90] (by decide +kernel) (by decide +kernel)
set_option maxRecDepth 20000 in
theorem gX12_fewest_X12_findLit : GoodIn wsX12_fewest (wsV RX12 220 RX12 yX12_findLit wsX12_findLit) := goodIn_app (goodIn_of _ (by decide +kernel)) ggX12_fewest_X12_findLit
set_option maxRecDepth 20000 in
theorem ggX12_fewest_X12_bits : GoodIn wsX12_fewest wsX12_bits := goodIn_r _ [53] (by decide +kernel) (by decide +kernel)
set_option maxRecDepth 20000 in
theorem gX12_fewest_X12_bits : GoodIn wsX12_fewest (va_wsS RX12 266 yX12_bits wsX12_bits) := goodIn_app (goodIn_of _ (by decide +kernel)) ggX12_fewest_X12_bits
set_option maxRecDepth 20000 in
theorem ggX12_fewest_X12_lightsAll : GoodIn wsX12_fewest wsX12_lightsAll := goodIn_r _ [57, 1, 17, 2, 58, 59, 60, 61, 62, 63, 64, 65, 66, 67, 68, 69, 70, 71, 72, 73, 74, 75, 76, 77, 78, 79, 80, 81, 82, 83, 84, 85, 86, 87, 88, 89, 90] (by decide +kernel) (by decide +kernel)
set_option maxRecDepth 20000 in
theorem gX12_fewest_X12_lightsAll : GoodIn wsX12_fewest (wsV RX12 269 RX12 yX12_lightsAll wsX12_lightsAll) := goodIn_app (goodIn_of _ (by decide +kernel)) ggX12_fewest_X12_lightsAll
theorem dX12_fewest_0 : decode cX12_fewest 0 = .ok (.iconst 0, 1) := by decide +kernel
theorem dX12_fewest_1 : decode cX12_fewest 1 = .ok (.istore_n 1, 1) := by decide +kernel
theorem dX12_fewest_2 : decode cX12_fewest 2 = .ok (.iload_n 1, 1) := by decide +kernel
theorem dX12_fewest_3 : decode cX12_fewest 3 = .ok (.aload_n 0, 1) := by decide +kernel
theorem dX12_fewest_4 : decode cX12_fewest 4 = .ok (.getfield 263, 3) := by decide +kernel
theorem dX12_fewest_7 : decode cX12_fewest 7 = .ok (.if_icmp .ge 28, 3) := by decide +kernel
theorem dX12_fewest_10 : decode cX12_fewest 10 = .ok (.aload_n 0, 1) := by decide +kernel
theorem dX12_fewest_11 : decode cX12_fewest 11 = .ok (.getfield 73, 3) := by decide +kernel
theorem dX12_fewest_14 : decode cX12_fewest 14 = .ok (.iload_n 1, 1) := by decide +kernel
theorem dX12_fewest_15 : decode cX12_fewest 15 = .ok (.iaload, 1) := by decide +kernel
theorem dX12_fewest_16 : decode cX12_fewest 16 = .ok (.invokestatic 123, 3) := by decide +kernel
theorem dX12_fewest_19 : decode cX12_fewest 19 = .ok (.ifCond .ne 10, 3) := by decide +kernel
theorem dX12_fewest_22 : decode cX12_fewest 22 = .ok (.aload_n 0, 1) := by decide +kernel
theorem dX12_fewest_23 : decode cX12_fewest 23 = .ok (.bipush (-3), 2) := by decide +kernel
theorem dX12_fewest_25 : decode cX12_fewest 25 = .ok (.invokevirtual 91, 3) := by decide +kernel
theorem dX12_fewest_28 : decode cX12_fewest 28 = .ok (.ireturn, 1) := by decide +kernel
theorem dX12_fewest_29 : decode cX12_fewest 29 = .ok (.iinc 1 1, 3) := by decide +kernel
theorem dX12_fewest_32 : decode cX12_fewest 32 = .ok (.goto (-30), 3) := by decide +kernel
theorem dX12_fewest_35 : decode cX12_fewest 35 = .ok (.aload_n 0, 1) := by decide +kernel
theorem dX12_fewest_36 : decode cX12_fewest 36 = .ok (.invokevirtual 220, 3) := by decide +kernel
theorem dX12_fewest_39 : decode cX12_fewest 39 = .ok (.bipush (-9), 2) := by decide +kernel
theorem dX12_fewest_41 : decode cX12_fewest 41 = .ok (.istore_n 1, 1) := by decide +kernel
theorem dX12_fewest_42 : decode cX12_fewest 42 = .ok (.iconst 0, 1) := by decide +kernel
theorem dX12_fewest_43 : decode cX12_fewest 43 = .ok (.istore_n 2, 1) := by decide +kernel
theorem dX12_fewest_44 : decode cX12_fewest 44 = .ok (.iload_n 2, 1) := by decide +kernel
theorem dX12_fewest_45 : decode cX12_fewest 45 = .ok (.iconst 1, 1) := by decide +kernel
theorem dX12_fewest_46 : decode cX12_fewest 46 = .ok (.aload_n 0, 1) := by decide +kernel
theorem dX12_fewest_47 : decode cX12_fewest 47 = .ok (.getfield 76, 3) := by decide +kernel
theorem dX12_fewest_50 : decode cX12_fewest 50 = .ok (.ishl, 1) := by decide +kernel
theorem dX12_fewest_51 : decode cX12_fewest 51 = .ok (.if_icmp .ge 34, 3) := by decide +kernel
theorem dX12_fewest_54 : decode cX12_fewest 54 = .ok (.iload_n 1, 1) := by decide +kernel
theorem dX12_fewest_55 : decode cX12_fewest 55 = .ok (.ifCond .lt 14, 3) := by decide +kernel
theorem dX12_fewest_58 : decode cX12_fewest 58 = .ok (.iload_n 2, 1) := by decide +kernel
theorem dX12_fewest_59 : decode cX12_fewest 59 = .ok (.invokestatic 266, 3) := by decide +kernel
theorem dX12_fewest_62 : decode cX12_fewest 62 = .ok (.iload_n 1, 1) := by decide +kernel
theorem dX12_fewest_63 : decode cX12_fewest 63 = .ok (.invokestatic 266, 3) := by decide +kernel
theorem dX12_fewest_66 : decode cX12_fewest 66 = .ok (.if_icmp .ge 13, 3) := by decide +kernel
theorem dX12_fewest_69 : decode cX12_fewest 69 = .ok (.aload_n 0, 1) := by decide +kernel
theorem dX12_fewest_70 : decode cX12_fewest 70 = .ok (.iload_n 2, 1) := by decide +kernel
theorem dX12_fewest_71 : decode cX12_fewest 71 = .ok (.invokevirtual 269, 3) := by decide +kernel
theorem dX12_fewest_74 : decode cX12_fewest 74 = .ok (.ifCond .eq 5, 3) := by decide +kernel
theorem dX12_fewest_77 : decode cX12_fewest 77 = .ok (.iload_n 2, 1) := by decide +kernel
theorem dX12_fewest_78 : decode cX12_fewest 78 = .ok (.istore_n 1, 1) := by decide +kernel
theorem dX12_fewest_79 : decode cX12_fewest 79 = .ok (.iinc 2 1, 3) := by decide +kernel
theorem dX12_fewest_82 : decode cX12_fewest 82 = .ok (.goto (-38), 3) := by decide +kernel
theorem dX12_fewest_85 : decode cX12_fewest 85 = .ok (.iload_n 1, 1) := by decide +kernel
theorem dX12_fewest_86 : decode cX12_fewest 86 = .ok (.ireturn, 1) := by decide +kernel
set_option maxRecDepth 20000 in
theorem ggX12_oneMore_X12_bound : GoodIn wsX12_oneMore wsX12_bound := goodIn_r _ [6] (by decide +kernel) (by decide +kernel)
set_option maxRecDepth 20000 in
theorem gX12_oneMore_X12_bound : GoodIn wsX12_oneMore (va_wsS RX12 84 yX12_bound wsX12_bound) := goodIn_app (goodIn_of _ (by decide +kernel)) ggX12_oneMore_X12_bound
set_option maxRecDepth 20000 in
theorem ggX12_oneMore_X12_isIn : GoodIn wsX12_oneMore wsX12_isIn := goodIn_r _ [9] (by decide +kernel) (by decide +kernel)
set_option maxRecDepth 20000 in
theorem gX12_oneMore_X12_isIn : GoodIn wsX12_oneMore (va_wsS RX12 102 yX12_isIn wsX12_isIn) := goodIn_app (goodIn_of _ (by decide +kernel)) ggX12_oneMore_X12_isIn
set_option maxRecDepth 20000 in
theorem ggX12_oneMore_X12_no : GoodIn wsX12_oneMore wsX12_no := goodIn_r _ [13, 14, 57, 58, 59, 60, 61, 62, 63, 64, 65, 66, 67, 68, 69, 70, 71, 72, 73, 74, 75, 76, 77, 78, 79, 80, 81, 82, 83, 84, 85, 86, 87, 88, 89] (by decide +kernel) (by decide +kernel)
set_option maxRecDepth 20000 in
theorem gX12_oneMore_X12_no : GoodIn wsX12_oneMore (wsV RX12 91 RX12 yX12_no wsX12_no) := goodIn_app (goodIn_of _ (by decide +kernel)) ggX12_oneMore_X12_no
set_option maxRecDepth 20000 in
theorem ggX12_oneMore_X12_findLit : GoodIn wsX12_oneMore wsX12_findLit := goodIn_r _ [18, 2, 19, 20, 1, 21, 22, 23, 5, 24, 25, 26, 27, 28, 29, 30, 31, 32, 33, 34, 35, 36, 37, 38, 39, 40, 41, 42, 43, 44, 45, 46, 47, 48, 49, 50, 51, 57, 58, 59, 60, 61, 62, 63, 64, 65, 66, 67, 68, 69, 70, 71, 72, 73, 74, 75, 76, 77, 78, 79, 80, 81, 82, 83, 84, 85, 86, 87, 88, 89] (by decide +kernel) (by decide +kernel)
set_option maxRecDepth 20000 in
theorem gX12_oneMore_X12_findLit : GoodIn wsX12_oneMore (wsV RX12 220 RX12 yX12_findLit wsX12_findLit) := goodIn_app (goodIn_of _ (by decide +kernel)) ggX12_oneMore_X12_findLit
set_option maxRecDepth 20000 in
theorem ggX12_oneMore_X12_findLight : GoodIn wsX12_oneMore wsX12_findLight := goodIn_r _ [32, 1, 33, 34, 35, 36, 5, 37, 38, 39, 40, 41, 42, 43, 44, 45, 46, 47, 48, 49, 50, 51, 57, 58, 59, 60, 61, 62, 63, 64, 65, 66, 67, 68, 69, 70, 71, 72, 73, 74, 75, 76, 77, 78, 79, 80, 81, 82, 83, 84, 85, 86, 87, 88, 89] (by decide +kernel) (by decide +kernel)
set_option maxRecDepth 20000 in
theorem gX12_oneMore_X12_findLight : GoodIn wsX12_oneMore (wsV RX12 208 RX12 yX12_findLight wsX12_findLight) := goodIn_app (goodIn_of _ (by decide +kernel)) ggX12_oneMore_X12_findLight
set_option maxRecDepth 20000 in
theorem ggX12_oneMore_X12_litBits : GoodIn wsX12_oneMore wsX12_litBits := goodIn_r _ [55, 19, 56, 57, 58, 59, 60, 61, 62, 63, 64, 65, 66, 67, 68, 69, 70, 71, 72, 73, 74, 75, 76, 77, 78, 79, 80, 81, 82, 83, 84, 85, 86, 87, 88, 89] (by decide +kernel) (by decide +kernel)
set_option maxRecDepth 20000 in
theorem gX12_oneMore_X12_litBits : GoodIn wsX12_oneMore (wsV RX12 239 RX12 yX12_litBits wsX12_litBits) := goodIn_app (goodIn_of _ (by decide +kernel)) ggX12_oneMore_X12_litBits
