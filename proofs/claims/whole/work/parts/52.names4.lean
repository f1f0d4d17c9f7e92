theorem dX12_comes_160 : decode cX12_comes 160 = .ok (.invokevirtual 154, 3) := by decide +kernel
theorem dX12_comes_163 : decode cX12_comes 163 = .ok (.pop, 1) := by decide +kernel
theorem dX12_comes_164 : decode cX12_comes 164 = .ok (.iconst 1, 1) := by decide +kernel
theorem dX12_comes_165 : decode cX12_comes 165 = .ok (.ireturn, 1) := by decide +kernel
theorem dX12_comes_166 : decode cX12_comes 166 = .ok (.aload_n 0, 1) := by decide +kernel
theorem dX12_comes_167 : decode cX12_comes 167 = .ok (.iload_n 3, 1) := by decide +kernel
theorem dX12_comes_168 : decode cX12_comes 168 = .ok (.invokevirtual 157, 3) := by decide +kernel
theorem dX12_comes_171 : decode cX12_comes 171 = .ok (.ifCond .ne 5, 3) := by decide +kernel
theorem dX12_comes_174 : decode cX12_comes 174 = .ok (.iconst 0, 1) := by decide +kernel
theorem dX12_comes_175 : decode cX12_comes 175 = .ok (.ireturn, 1) := by decide +kernel
theorem dX12_comes_176 : decode cX12_comes 176 = .ok (.aload_n 0, 1) := by decide +kernel
theorem dX12_comes_177 : decode cX12_comes 177 = .ok (.getfield 25, 3) := by decide +kernel
theorem dX12_comes_180 : decode cX12_comes 180 = .ok (.iload_n 3, 1) := by decide +kernel
theorem dX12_comes_181 : decode cX12_comes 181 = .ok (.iconst 1, 1) := by decide +kernel
theorem dX12_comes_182 : decode cX12_comes 182 = .ok (.aload_n 0, 1) := by decide +kernel
theorem dX12_comes_183 : decode cX12_comes 183 = .ok (.getfield 25, 3) := by decide +kernel
theorem dX12_comes_186 : decode cX12_comes 186 = .ok (.iload_n 3, 1) := by decide +kernel
theorem dX12_comes_187 : decode cX12_comes 187 = .ok (.iaload, 1) := by decide +kernel
theorem dX12_comes_188 : decode cX12_comes 188 = .ok (.isub, 1) := by decide +kernel
theorem dX12_comes_189 : decode cX12_comes 189 = .ok (.iastore, 1) := by decide +kernel
theorem dX12_comes_190 : decode cX12_comes 190 = .ok (.iconst 1, 1) := by decide +kernel
theorem dX12_comes_191 : decode cX12_comes 191 = .ok (.ireturn, 1) := by decide +kernel
theorem dX12_comes_192 : decode cX12_comes 192 = .ok (.aload_n 0, 1) := by decide +kernel
theorem dX12_comes_193 : decode cX12_comes 193 = .ok (.iload_n 3, 1) := by decide +kernel
theorem dX12_comes_194 : decode cX12_comes 194 = .ok (.invokevirtual 157, 3) := by decide +kernel
theorem dX12_comes_197 : decode cX12_comes 197 = .ok (.ifCond .ne 5, 3) := by decide +kernel
theorem dX12_comes_200 : decode cX12_comes 200 = .ok (.iconst 0, 1) := by decide +kernel
theorem dX12_comes_201 : decode cX12_comes 201 = .ok (.ireturn, 1) := by decide +kernel
theorem dX12_comes_202 : decode cX12_comes 202 = .ok (.aload_n 0, 1) := by decide +kernel
theorem dX12_comes_203 : decode cX12_comes 203 = .ok (.getfield 25, 3) := by decide +kernel
theorem dX12_comes_206 : decode cX12_comes 206 = .ok (.iload_n 3, 1) := by decide +kernel
theorem dX12_comes_207 : decode cX12_comes 207 = .ok (.iconst 0, 1) := by decide +kernel
theorem dX12_comes_208 : decode cX12_comes 208 = .ok (.iastore, 1) := by decide +kernel
theorem dX12_comes_209 : decode cX12_comes 209 = .ok (.aload_n 0, 1) := by decide +kernel
theorem dX12_comes_210 : decode cX12_comes 210 = .ok (.getfield 28, 3) := by decide +kernel
theorem dX12_comes_213 : decode cX12_comes 213 = .ok (.iload_n 3, 1) := by decide +kernel
theorem dX12_comes_214 : decode cX12_comes 214 = .ok (.iconst 0, 1) := by decide +kernel
theorem dX12_comes_215 : decode cX12_comes 215 = .ok (.iastore, 1) := by decide +kernel
theorem dX12_comes_216 : decode cX12_comes 216 = .ok (.iconst 1, 1) := by decide +kernel
theorem dX12_comes_217 : decode cX12_comes 217 = .ok (.ireturn, 1) := by decide +kernel
set_option maxRecDepth 20000 in
theorem ggX12_town_X12_statement : GoodIn wsX12_town wsX12_statement := goodIn_r _ [9, 10, 2, 4, 1, 11, 12, 13, 8, 14, 3, 15, 16, 17, 18, 19, 20, 21, 22, 23, 24, 25, 26, 27, 28, 29, 30, 31, 32, 33, 34, 163, 164, 165, 166, 167, 168, 169, 170, 171, 172, 173, 174, 175, 176, 177, 178, 179, 180, 181, 182, 183, 184, 185, 186, 187, 188, 189, 190, 191, 192, 193, 194, 195] (by decide +kernel) (by decide +kernel)
set_option maxRecDepth 20000 in
theorem gX12_town_X12_statement : GoodIn wsX12_town (wsV RX12 160 RX12 yX12_statement wsX12_statement) := goodIn_app (goodIn_of _ (by decide +kernel)) ggX12_town_X12_statement
set_option maxRecDepth 20000 in
theorem ggX12_town_X12_passesAll : GoodIn wsX12_town wsX12_passesAll := goodIn_r _ [38, 39, 40, 41, 42, 43, 44, 45, 46, 47, 48, 49, 50, 51, 52, 53, 54, 55, 56, 8, 57, 58, 59, 60, 61, 62, 163, 164, 165, 166, 167, 168, 169, 170, 171, 172, 173, 174, 175, 176, 177, 178, 179, 180, 181, 182, 183, 184, 185, 186, 187, 188, 189, 190, 191, 192, 193, 194, 195] (by decide +kernel) (by decide +kernel)
set_option maxRecDepth 20000 in
theorem gX12_town_X12_passesAll : GoodIn wsX12_town (wsV RX12 164 RX12 yX12_passesAll wsX12_passesAll) := goodIn_app (goodIn_of _ (by decide +kernel)) ggX12_town_X12_passesAll
set_option maxRecDepth 20000 in
theorem ggX12_town_X12_comes : GoodIn wsX12_town wsX12_comes := goodIn_r _ [66, 24, 10, 41, 50, 52, 45, 46, 67, 68, 69, 8, 70, 51, 42, 43, 44, 71, 72, 73, 74, 75, 76, 77, 78, 79, 80, 81, 82, 83, 84, 85, 86, 87, 88, 89, 90, 91, 92, 93, 53, 94, 95, 96, 97, 98, 99, 100, 101, 102, 103, 104, 105, 106, 107, 108, 109, 110, 111, 112, 113, 114, 115, 116, 117, 118, 119, 120, 121, 122, 123, 124, 125, 126, 127, 128, 129, 130, 131, 132, 133, 134, 135, 136, 137, 138, 139, 140, 141, 142, 143, 144, 145, 146, 147, 148, 48, 47, 49, 149, 150, 151, 152, 153, 154, 155, 156, 157, 158, 159, 160, 161, 162, 163, 164, 165, 166, 167, 168, 169, 170, 171, 172, 173, 174, 175, 176, 177, 178, 179, 180, 181, 182, 183, 184, 185, 186, 187, 188, 189, 190, 191, 192, 193, 194, 195] (by decide +kernel) (by decide +kernel)
set_option maxRecDepth 20000 in
theorem gX12_town_X12_comes : GoodIn wsX12_town (wsV RX12 168 RX12 yX12_comes wsX12_comes) := goodIn_app (goodIn_of _ (by decide +kernel)) ggX12_town_X12_comes
theorem dX12_town_0 : decode cX12_town 0 = .ok (.aload_n 0, 1) := by decide +kernel
theorem dX12_town_1 : decode cX12_town 1 = .ok (.iconst 0, 1) := by decide +kernel
theorem dX12_town_2 : decode cX12_town 2 = .ok (.putfield 95, 3) := by decide +kernel
theorem dX12_town_5 : decode cX12_town 5 = .ok (.aload_n 0, 1) := by decide +kernel
theorem dX12_town_6 : decode cX12_town 6 = .ok (.iconst 0, 1) := by decide +kernel
theorem dX12_town_7 : decode cX12_town 7 = .ok (.putfield 117, 3) := by decide +kernel
theorem dX12_town_10 : decode cX12_town 10 = .ok (.iconst 1, 1) := by decide +kernel
theorem dX12_town_11 : decode cX12_town 11 = .ok (.istore_n 1, 1) := by decide +kernel
theorem dX12_town_12 : decode cX12_town 12 = .ok (.iload_n 1, 1) := by decide +kernel
theorem dX12_town_13 : decode cX12_town 13 = .ok (.ifCond .eq 47, 3) := by decide +kernel
theorem dX12_town_16 : decode cX12_town 16 = .ok (.aload_n 0, 1) := by decide +kernel
theorem dX12_town_17 : decode cX12_town 17 = .ok (.getfield 95, 3) := by decide +kernel
theorem dX12_town_20 : decode cX12_town 20 = .ok (.aload_n 0, 1) := by decide +kernel
theorem dX12_town_21 : decode cX12_town 21 = .ok (.getfield 88, 3) := by decide +kernel
theorem dX12_town_24 : decode cX12_town 24 = .ok (.if_icmp .lt 10, 3) := by decide +kernel
theorem dX12_town_27 : decode cX12_town 27 = .ok (.aload_n 0, 1) := by decide +kernel
theorem dX12_town_28 : decode cX12_town 28 = .ok (.getfield 117, 3) := by decide +kernel
theorem dX12_town_31 : decode cX12_town 31 = .ok (.ifCond .ne 29, 3) := by decide +kernel
theorem dX12_town_34 : decode cX12_town 34 = .ok (.aload_n 0, 1) := by decide +kernel
theorem dX12_town_35 : decode cX12_town 35 = .ok (.invokevirtual 160, 3) := by decide +kernel
theorem dX12_town_38 : decode cX12_town 38 = .ok (.istore_n 1, 1) := by decide +kernel
theorem dX12_town_39 : decode cX12_town 39 = .ok (.aload_n 0, 1) := by decide +kernel
theorem dX12_town_40 : decode cX12_town 40 = .ok (.dup, 1) := by decide +kernel
theorem dX12_town_41 : decode cX12_town 41 = .ok (.getfield 117, 3) := by decide +kernel
theorem dX12_town_44 : decode cX12_town 44 = .ok (.iload_n 1, 1) := by decide +kernel
theorem dX12_town_45 : decode cX12_town 45 = .ok (.ifCond .eq 7, 3) := by decide +kernel
theorem dX12_town_48 : decode cX12_town 48 = .ok (.iconst 1, 1) := by decide +kernel
theorem dX12_town_49 : decode cX12_town 49 = .ok (.goto 4, 3) := by decide +kernel
theorem dX12_town_52 : decode cX12_town 52 = .ok (.iconst 0, 1) := by decide +kernel
theorem dX12_town_53 : decode cX12_town 53 = .ok (.iadd, 1) := by decide +kernel
theorem dX12_town_54 : decode cX12_town 54 = .ok (.putfield 117, 3) := by decide +kernel
theorem dX12_town_57 : decode cX12_town 57 = .ok (.goto (-45), 3) := by decide +kernel
theorem dX12_town_60 : decode cX12_town 60 = .ok (.aload_n 0, 1) := by decide +kernel
theorem dX12_town_61 : decode cX12_town 61 = .ok (.iconst 0, 1) := by decide +kernel
theorem dX12_town_62 : decode cX12_town 62 = .ok (.putfield 88, 3) := by decide +kernel
theorem dX12_town_65 : decode cX12_town 65 = .ok (.iload_n 1, 1) := by decide +kernel
theorem dX12_town_66 : decode cX12_town 66 = .ok (.ifCond .ne 12, 3) := by decide +kernel
theorem dX12_town_69 : decode cX12_town 69 = .ok (.sipush (-1000), 3) := by decide +kernel
theorem dX12_town_72 : decode cX12_town 72 = .ok (.aload_n 0, 1) := by decide +kernel
theorem dX12_town_73 : decode cX12_town 73 = .ok (.getfield 95, 3) := by decide +kernel
theorem dX12_town_76 : decode cX12_town 76 = .ok (.isub, 1) := by decide +kernel
theorem dX12_town_77 : decode cX12_town 77 = .ok (.ireturn, 1) := by decide +kernel
theorem dX12_town_78 : decode cX12_town 78 = .ok (.aload_n 0, 1) := by decide +kernel
theorem dX12_town_79 : decode cX12_town 79 = .ok (.iconst 1, 1) := by decide +kernel
theorem dX12_town_80 : decode cX12_town 80 = .ok (.iconst 1, 1) := by decide +kernel
theorem dX12_town_81 : decode cX12_town 81 = .ok (.invokevirtual 164, 3) := by decide +kernel
theorem dX12_town_84 : decode cX12_town 84 = .ok (.iconst 0, 1) := by decide +kernel
theorem dX12_town_85 : decode cX12_town 85 = .ok (.istore_n 2, 1) := by decide +kernel
theorem dX12_town_86 : decode cX12_town 86 = .ok (.iload_n 2, 1) := by decide +kernel
theorem dX12_town_87 : decode cX12_town 87 = .ok (.aload_n 0, 1) := by decide +kernel
theorem dX12_town_88 : decode cX12_town 88 = .ok (.getfield 117, 3) := by decide +kernel
theorem dX12_town_91 : decode cX12_town 91 = .ok (.if_icmp .ge 37, 3) := by decide +kernel
theorem dX12_town_94 : decode cX12_town 94 = .ok (.aload_n 0, 1) := by decide +kernel
theorem dX12_town_95 : decode cX12_town 95 = .ok (.iload_n 2, 1) := by decide +kernel
theorem dX12_town_96 : decode cX12_town 96 = .ok (.invokevirtual 168, 3) := by decide +kernel
theorem dX12_town_99 : decode cX12_town 99 = .ok (.ifCond .eq 6, 3) := by decide +kernel
theorem dX12_town_102 : decode cX12_town 102 = .ok (.goto 20, 3) := by decide +kernel
theorem dX12_town_105 : decode cX12_town 105 = .ok (.aload_n 0, 1) := by decide +kernel
theorem dX12_town_106 : decode cX12_town 106 = .ok (.iconst 1, 1) := by decide +kernel
theorem dX12_town_107 : decode cX12_town 107 = .ok (.iconst 0, 1) := by decide +kernel
theorem dX12_town_108 : decode cX12_town 108 = .ok (.invokevirtual 164, 3) := by decide +kernel
theorem dX12_town_111 : decode cX12_town 111 = .ok (.sipush (-2000), 3) := by decide +kernel
theorem dX12_town_114 : decode cX12_town 114 = .ok (.aload_n 0, 1) := by decide +kernel
theorem dX12_town_115 : decode cX12_town 115 = .ok (.getfield 49, 3) := by decide +kernel
theorem dX12_town_118 : decode cX12_town 118 = .ok (.iload_n 2, 1) := by decide +kernel
theorem dX12_town_119 : decode cX12_town 119 = .ok (.iaload, 1) := by decide +kernel
theorem dX12_town_120 : decode cX12_town 120 = .ok (.isub, 1) := by decide +kernel
theorem dX12_town_121 : decode cX12_town 121 = .ok (.ireturn, 1) := by decide +kernel
theorem dX12_town_122 : decode cX12_town 122 = .ok (.iinc 2 1, 3) := by decide +kernel
theorem dX12_town_125 : decode cX12_town 125 = .ok (.goto (-39), 3) := by decide +kernel
theorem dX12_town_128 : decode cX12_town 128 = .ok (.aload_n 0, 1) := by decide +kernel
theorem dX12_town_129 : decode cX12_town 129 = .ok (.getfield 117, 3) := by decide +kernel
theorem dX12_town_132 : decode cX12_town 132 = .ok (.ireturn, 1) := by decide +kernel
theorem dX12_passes_0 : decode cX12_passes 0 = .ok (.iconst 0, 1) := by decide +kernel
theorem dX12_passes_1 : decode cX12_passes 1 = .ok (.istore_n 2, 1) := by decide +kernel
theorem dX12_passes_2 : decode cX12_passes 2 = .ok (.iload_n 2, 1) := by decide +kernel
theorem dX12_passes_3 : decode cX12_passes 3 = .ok (.aload_n 1, 1) := by decide +kernel
theorem dX12_passes_4 : decode cX12_passes 4 = .ok (.arraylength, 1) := by decide +kernel
theorem dX12_passes_5 : decode cX12_passes 5 = .ok (.if_icmp .ge 53, 3) := by decide +kernel
theorem dX12_passes_8 : decode cX12_passes 8 = .ok (.aload_n 0, 1) := by decide +kernel
theorem dX12_passes_9 : decode cX12_passes 9 = .ok (.getfield 171, 3) := by decide +kernel
theorem dX12_passes_12 : decode cX12_passes 12 = .ok (.ifCond .eq 18, 3) := by decide +kernel
theorem dX12_passes_15 : decode cX12_passes 15 = .ok (.aload_n 0, 1) := by decide +kernel
theorem dX12_passes_16 : decode cX12_passes 16 = .ok (.getfield 55, 3) := by decide +kernel
theorem dX12_passes_19 : decode cX12_passes 19 = .ok (.aload_n 0, 1) := by decide +kernel
theorem dX12_passes_20 : decode cX12_passes 20 = .ok (.getfield 175, 3) := by decide +kernel
theorem dX12_passes_23 : decode cX12_passes 23 = .ok (.aload_n 1, 1) := by decide +kernel
theorem dX12_passes_24 : decode cX12_passes 24 = .ok (.iload_n 2, 1) := by decide +kernel
theorem dX12_passes_25 : decode cX12_passes 25 = .ok (.iaload, 1) := by decide +kernel
theorem dX12_passes_26 : decode cX12_passes 26 = .ok (.iastore, 1) := by decide +kernel
theorem dX12_passes_27 : decode cX12_passes 27 = .ok (.goto 15, 3) := by decide +kernel
theorem dX12_passes_30 : decode cX12_passes 30 = .ok (.aload_n 1, 1) := by decide +kernel
theorem dX12_passes_31 : decode cX12_passes 31 = .ok (.iload_n 2, 1) := by decide +kernel
theorem dX12_passes_32 : decode cX12_passes 32 = .ok (.aload_n 0, 1) := by decide +kernel
theorem dX12_passes_33 : decode cX12_passes 33 = .ok (.getfield 55, 3) := by decide +kernel
theorem dX12_passes_36 : decode cX12_passes 36 = .ok (.aload_n 0, 1) := by decide +kernel
theorem dX12_passes_37 : decode cX12_passes 37 = .ok (.getfield 175, 3) := by decide +kernel
theorem dX12_passes_40 : decode cX12_passes 40 = .ok (.iaload, 1) := by decide +kernel
theorem dX12_passes_41 : decode cX12_passes 41 = .ok (.iastore, 1) := by decide +kernel
theorem dX12_passes_42 : decode cX12_passes 42 = .ok (.aload_n 0, 1) := by decide +kernel
theorem dX12_passes_43 : decode cX12_passes 43 = .ok (.dup, 1) := by decide +kernel
theorem dX12_passes_44 : decode cX12_passes 44 = .ok (.getfield 175, 3) := by decide +kernel
theorem dX12_passes_47 : decode cX12_passes 47 = .ok (.iconst 1, 1) := by decide +kernel
theorem dX12_passes_48 : decode cX12_passes 48 = .ok (.iadd, 1) := by decide +kernel
theorem dX12_passes_49 : decode cX12_passes 49 = .ok (.putfield 175, 3) := by decide +kernel
theorem dX12_passes_52 : decode cX12_passes 52 = .ok (.iinc 2 1, 3) := by decide +kernel
theorem dX12_passes_55 : decode cX12_passes 55 = .ok (.goto (-53), 3) := by decide +kernel
theorem dX12_passes_58 : decode cX12_passes 58 = .ok (.return_, 1) := by decide +kernel
theorem dX12_passOne_0 : decode cX12_passOne 0 = .ok (.aload_n 0, 1) := by decide +kernel
theorem dX12_passOne_1 : decode cX12_passOne 1 = .ok (.getfield 171, 3) := by decide +kernel
theorem dX12_passOne_4 : decode cX12_passOne 4 = .ok (.ifCond .eq 7, 3) := by decide +kernel
theorem dX12_passOne_7 : decode cX12_passOne 7 = .ok (.iload_n 1, 1) := by decide +kernel
theorem dX12_passOne_8 : decode cX12_passOne 8 = .ok (.goto 12, 3) := by decide +kernel
theorem dX12_passOne_11 : decode cX12_passOne 11 = .ok (.aload_n 0, 1) := by decide +kernel
theorem dX12_passOne_12 : decode cX12_passOne 12 = .ok (.getfield 55, 3) := by decide +kernel
theorem dX12_passOne_15 : decode cX12_passOne 15 = .ok (.aload_n 0, 1) := by decide +kernel
theorem dX12_passOne_16 : decode cX12_passOne 16 = .ok (.getfield 175, 3) := by decide +kernel
theorem dX12_passOne_19 : decode cX12_passOne 19 = .ok (.iaload, 1) := by decide +kernel
theorem dX12_passOne_20 : decode cX12_passOne 20 = .ok (.istore_n 2, 1) := by decide +kernel
theorem dX12_passOne_21 : decode cX12_passOne 21 = .ok (.aload_n 0, 1) := by decide +kernel
theorem dX12_passOne_22 : decode cX12_passOne 22 = .ok (.getfield 171, 3) := by decide +kernel
theorem dX12_passOne_25 : decode cX12_passOne 25 = .ok (.ifCond .eq 13, 3) := by decide +kernel
theorem dX12_passOne_28 : decode cX12_passOne 28 = .ok (.aload_n 0, 1) := by decide +kernel
theorem dX12_passOne_29 : decode cX12_passOne 29 = .ok (.getfield 55, 3) := by decide +kernel
theorem dX12_passOne_32 : decode cX12_passOne 32 = .ok (.aload_n 0, 1) := by decide +kernel
theorem dX12_passOne_33 : decode cX12_passOne 33 = .ok (.getfield 175, 3) := by decide +kernel
theorem dX12_passOne_36 : decode cX12_passOne 36 = .ok (.iload_n 1, 1) := by decide +kernel
theorem dX12_passOne_37 : decode cX12_passOne 37 = .ok (.iastore, 1) := by decide +kernel
theorem dX12_passOne_38 : decode cX12_passOne 38 = .ok (.aload_n 0, 1) := by decide +kernel
theorem dX12_passOne_39 : decode cX12_passOne 39 = .ok (.dup, 1) := by decide +kernel
theorem dX12_passOne_40 : decode cX12_passOne 40 = .ok (.getfield 175, 3) := by decide +kernel
theorem dX12_passOne_43 : decode cX12_passOne 43 = .ok (.iconst 1, 1) := by decide +kernel
theorem dX12_passOne_44 : decode cX12_passOne 44 = .ok (.iadd, 1) := by decide +kernel
theorem dX12_passOne_45 : decode cX12_passOne 45 = .ok (.putfield 175, 3) := by decide +kernel
theorem dX12_passOne_48 : decode cX12_passOne 48 = .ok (.iload_n 2, 1) := by decide +kernel
theorem dX12_passOne_49 : decode cX12_passOne 49 = .ok (.ireturn, 1) := by decide +kernel
set_option maxRecDepth 20000 in
theorem ggX12_passesAll_X12_passes : GoodIn wsX12_passesAll wsX12_passes := goodIn_r _ [20, 2, 21, 1, 26, 27, 28, 29, 30, 31, 32, 33, 34, 35, 36, 37, 38, 39, 40, 41, 42, 43, 44, 45, 46, 47, 48, 49, 50, 51, 52, 53, 54, 55, 56, 57, 58] (by decide +kernel) (by decide +kernel)
set_option maxRecDepth 20000 in
theorem gX12_passesAll_X12_passes : GoodIn wsX12_passesAll (wsV RX12 178 RX12 yX12_passes wsX12_passes) := goodIn_app (goodIn_of _ (by decide +kernel)) ggX12_passesAll_X12_passes
set_option maxRecDepth 20000 in
theorem ggX12_passesAll_X12_passOne : GoodIn wsX12_passesAll wsX12_passOne := goodIn_r _ [25, 2, 21, 1, 26, 27, 28, 29, 30, 31, 32, 33, 34, 35, 36, 37, 38, 39, 40, 41, 42, 43, 44, 45, 46, 47, 48, 49, 50, 51, 52, 53, 54, 55, 56, 57, 58] (by decide +kernel) (by decide +kernel)
set_option maxRecDepth 20000 in
theorem gX12_passesAll_X12_passOne : GoodIn wsX12_passesAll (wsV RX12 182 RX12 yX12_passOne wsX12_passOne) := goodIn_app (goodIn_of _ (by decide +kernel)) ggX12_passesAll_X12_passOne
theorem dX12_passesAll_0 : decode cX12_passesAll 0 = .ok (.aload_n 0, 1) := by decide +kernel
theorem dX12_passesAll_1 : decode cX12_passesAll 1 = .ok (.sipush 300, 3) := by decide +kernel
theorem dX12_passesAll_4 : decode cX12_passesAll 4 = .ok (.iload_n 1, 1) := by decide +kernel
theorem dX12_passesAll_5 : decode cX12_passesAll 5 = .ok (.imul, 1) := by decide +kernel
theorem dX12_passesAll_6 : decode cX12_passesAll 6 = .ok (.putfield 175, 3) := by decide +kernel
theorem dX12_passesAll_9 : decode cX12_passesAll 9 = .ok (.aload_n 0, 1) := by decide +kernel
theorem dX12_passesAll_10 : decode cX12_passesAll 10 = .ok (.iload_n 2, 1) := by decide +kernel
theorem dX12_passesAll_11 : decode cX12_passesAll 11 = .ok (.putfield 171, 3) := by decide +kernel
theorem dX12_passesAll_14 : decode cX12_passesAll 14 = .ok (.aload_n 0, 1) := by decide +kernel
theorem dX12_passesAll_15 : decode cX12_passesAll 15 = .ok (.aload_n 0, 1) := by decide +kernel
theorem dX12_passesAll_16 : decode cX12_passesAll 16 = .ok (.getfield 13, 3) := by decide +kernel
theorem dX12_passesAll_19 : decode cX12_passesAll 19 = .ok (.invokevirtual 178, 3) := by decide +kernel
theorem dX12_passesAll_22 : decode cX12_passesAll 22 = .ok (.aload_n 0, 1) := by decide +kernel
theorem dX12_passesAll_23 : decode cX12_passesAll 23 = .ok (.aload_n 0, 1) := by decide +kernel
theorem dX12_passesAll_24 : decode cX12_passesAll 24 = .ok (.getfield 16, 3) := by decide +kernel
theorem dX12_passesAll_27 : decode cX12_passesAll 27 = .ok (.invokevirtual 178, 3) := by decide +kernel
theorem dX12_passesAll_30 : decode cX12_passesAll 30 = .ok (.aload_n 0, 1) := by decide +kernel
theorem dX12_passesAll_31 : decode cX12_passesAll 31 = .ok (.aload_n 0, 1) := by decide +kernel
theorem dX12_passesAll_32 : decode cX12_passesAll 32 = .ok (.getfield 19, 3) := by decide +kernel
theorem dX12_passesAll_35 : decode cX12_passesAll 35 = .ok (.invokevirtual 178, 3) := by decide +kernel
theorem dX12_passesAll_38 : decode cX12_passesAll 38 = .ok (.aload_n 0, 1) := by decide +kernel
theorem dX12_passesAll_39 : decode cX12_passesAll 39 = .ok (.aload_n 0, 1) := by decide +kernel
theorem dX12_passesAll_40 : decode cX12_passesAll 40 = .ok (.getfield 22, 3) := by decide +kernel
theorem dX12_passesAll_43 : decode cX12_passesAll 43 = .ok (.invokevirtual 178, 3) := by decide +kernel
theorem dX12_passesAll_46 : decode cX12_passesAll 46 = .ok (.aload_n 0, 1) := by decide +kernel
theorem dX12_passesAll_47 : decode cX12_passesAll 47 = .ok (.aload_n 0, 1) := by decide +kernel
theorem dX12_passesAll_48 : decode cX12_passesAll 48 = .ok (.getfield 25, 3) := by decide +kernel
theorem dX12_passesAll_51 : decode cX12_passesAll 51 = .ok (.invokevirtual 178, 3) := by decide +kernel
theorem dX12_passesAll_54 : decode cX12_passesAll 54 = .ok (.aload_n 0, 1) := by decide +kernel
theorem dX12_passesAll_55 : decode cX12_passesAll 55 = .ok (.aload_n 0, 1) := by decide +kernel
theorem dX12_passesAll_56 : decode cX12_passesAll 56 = .ok (.getfield 28, 3) := by decide +kernel
theorem dX12_passesAll_59 : decode cX12_passesAll 59 = .ok (.invokevirtual 178, 3) := by decide +kernel
theorem dX12_passesAll_62 : decode cX12_passesAll 62 = .ok (.aload_n 0, 1) := by decide +kernel
theorem dX12_passesAll_63 : decode cX12_passesAll 63 = .ok (.aload_n 0, 1) := by decide +kernel
theorem dX12_passesAll_64 : decode cX12_passesAll 64 = .ok (.getfield 31, 3) := by decide +kernel
theorem dX12_passesAll_67 : decode cX12_passesAll 67 = .ok (.invokevirtual 178, 3) := by decide +kernel
theorem dX12_passesAll_70 : decode cX12_passesAll 70 = .ok (.aload_n 0, 1) := by decide +kernel
theorem dX12_passesAll_71 : decode cX12_passesAll 71 = .ok (.aload_n 0, 1) := by decide +kernel
theorem dX12_passesAll_72 : decode cX12_passesAll 72 = .ok (.getfield 34, 3) := by decide +kernel
theorem dX12_passesAll_75 : decode cX12_passesAll 75 = .ok (.invokevirtual 178, 3) := by decide +kernel
theorem dX12_passesAll_78 : decode cX12_passesAll 78 = .ok (.aload_n 0, 1) := by decide +kernel
theorem dX12_passesAll_79 : decode cX12_passesAll 79 = .ok (.aload_n 0, 1) := by decide +kernel
theorem dX12_passesAll_80 : decode cX12_passesAll 80 = .ok (.getfield 37, 3) := by decide +kernel
theorem dX12_passesAll_83 : decode cX12_passesAll 83 = .ok (.invokevirtual 178, 3) := by decide +kernel
theorem dX12_passesAll_86 : decode cX12_passesAll 86 = .ok (.aload_n 0, 1) := by decide +kernel
theorem dX12_passesAll_87 : decode cX12_passesAll 87 = .ok (.aload_n 0, 1) := by decide +kernel
theorem dX12_passesAll_88 : decode cX12_passesAll 88 = .ok (.getfield 40, 3) := by decide +kernel
theorem dX12_passesAll_91 : decode cX12_passesAll 91 = .ok (.invokevirtual 178, 3) := by decide +kernel
theorem dX12_passesAll_94 : decode cX12_passesAll 94 = .ok (.aload_n 0, 1) := by decide +kernel
theorem dX12_passesAll_95 : decode cX12_passesAll 95 = .ok (.aload_n 0, 1) := by decide +kernel
theorem dX12_passesAll_96 : decode cX12_passesAll 96 = .ok (.aload_n 0, 1) := by decide +kernel
theorem dX12_passesAll_97 : decode cX12_passesAll 97 = .ok (.getfield 76, 3) := by decide +kernel
theorem dX12_passesAll_100 : decode cX12_passesAll 100 = .ok (.invokevirtual 182, 3) := by decide +kernel
theorem dX12_passesAll_103 : decode cX12_passesAll 103 = .ok (.putfield 76, 3) := by decide +kernel
theorem dX12_passesAll_106 : decode cX12_passesAll 106 = .ok (.aload_n 0, 1) := by decide +kernel
theorem dX12_passesAll_107 : decode cX12_passesAll 107 = .ok (.aload_n 0, 1) := by decide +kernel
theorem dX12_passesAll_108 : decode cX12_passesAll 108 = .ok (.aload_n 0, 1) := by decide +kernel
theorem dX12_passesAll_109 : decode cX12_passesAll 109 = .ok (.getfield 81, 3) := by decide +kernel
theorem dX12_passesAll_112 : decode cX12_passesAll 112 = .ok (.invokevirtual 182, 3) := by decide +kernel
theorem dX12_passesAll_115 : decode cX12_passesAll 115 = .ok (.putfield 81, 3) := by decide +kernel
theorem dX12_passesAll_118 : decode cX12_passesAll 118 = .ok (.aload_n 0, 1) := by decide +kernel
theorem dX12_passesAll_119 : decode cX12_passesAll 119 = .ok (.aload_n 0, 1) := by decide +kernel
theorem dX12_passesAll_120 : decode cX12_passesAll 120 = .ok (.aload_n 0, 1) := by decide +kernel
theorem dX12_passesAll_121 : decode cX12_passesAll 121 = .ok (.getfield 139, 3) := by decide +kernel
theorem dX12_passesAll_124 : decode cX12_passesAll 124 = .ok (.invokevirtual 182, 3) := by decide +kernel
theorem dX12_passesAll_127 : decode cX12_passesAll 127 = .ok (.putfield 139, 3) := by decide +kernel
theorem dX12_passesAll_130 : decode cX12_passesAll 130 = .ok (.return_, 1) := by decide +kernel
set_option maxRecDepth 20000 in
theorem ggX12_image_X12_passesAll : GoodIn wsX12_image wsX12_passesAll := goodIn_r _ [7, 8, 9, 10, 11, 12, 13, 14, 15, 16, 17, 18, 19, 20, 21, 2, 22, 23, 24, 6, 25, 26, 27, 28, 29, 30, 31, 32, 33, 34, 35, 36, 37, 38, 39, 40, 41, 42, 43, 44, 45, 46, 47, 48, 49, 50, 51, 52, 53, 54, 55, 56, 57, 58, 59, 60, 61, 62, 63] (by decide +kernel) (by decide +kernel)
set_option maxRecDepth 20000 in
theorem gX12_image_X12_passesAll : GoodIn wsX12_image (wsV RX12 164 RX12 yX12_passesAll wsX12_passesAll) := goodIn_app (goodIn_of _ (by decide +kernel)) ggX12_image_X12_passesAll
theorem dX12_image_0 : decode cX12_image 0 = .ok (.aload_n 0, 1) := by decide +kernel
theorem dX12_image_1 : decode cX12_image 1 = .ok (.iconst 1, 1) := by decide +kernel
theorem dX12_image_2 : decode cX12_image 2 = .ok (.putfield 185, 3) := by decide +kernel
theorem dX12_image_5 : decode cX12_image 5 = .ok (.aload_n 0, 1) := by decide +kernel
theorem dX12_image_6 : decode cX12_image 6 = .ok (.iconst 0, 1) := by decide +kernel
theorem dX12_image_7 : decode cX12_image 7 = .ok (.iconst 1, 1) := by decide +kernel
theorem dX12_image_8 : decode cX12_image 8 = .ok (.invokevirtual 164, 3) := by decide +kernel
theorem dX12_image_11 : decode cX12_image 11 = .ok (.aload_n 0, 1) := by decide +kernel
theorem dX12_image_12 : decode cX12_image 12 = .ok (.getfield 139, 3) := by decide +kernel
theorem dX12_image_15 : decode cX12_image 15 = .ok (.ireturn, 1) := by decide +kernel
set_option maxRecDepth 20000 in
theorem ggX12_on_X12_no : GoodIn wsX12_on wsX12_no := goodIn_r _ [7, 8, 36, 37, 38, 39, 40, 41, 42, 43, 44, 45, 46, 47, 48, 49, 50, 51, 52, 53, 54, 55, 56, 57, 58, 59, 60, 61, 62, 63, 64, 65, 66, 67, 68] (by decide +kernel) (by decide +kernel)
set_option maxRecDepth 20000 in
theorem gX12_on_X12_no : GoodIn wsX12_on (wsV RX12 91 RX12 yX12_no wsX12_no) := goodIn_app (goodIn_of _ (by decide +kernel)) ggX12_on_X12_no
set_option maxRecDepth 20000 in
theorem ggX12_on_X12_passesAll : GoodIn wsX12_on wsX12_passesAll := goodIn_r _ [12, 13, 14, 15, 16, 17, 18, 19, 20, 21, 22, 23, 24, 25, 26, 2, 27, 28, 29, 6, 30, 31, 32, 33, 34, 35, 36, 37, 38, 39, 40, 41, 42, 43, 44, 45, 46, 47, 48, 49, 50, 51, 52, 53, 54, 55, 56, 57, 58, 59, 60, 61, 62, 63, 64, 65, 66, 67, 68] (by decide +kernel) (by decide +kernel)
set_option maxRecDepth 20000 in
theorem gX12_on_X12_passesAll : GoodIn wsX12_on (wsV RX12 164 RX12 yX12_passesAll wsX12_passesAll) := goodIn_app (goodIn_of _ (by decide +kernel)) ggX12_on_X12_passesAll
theorem dX12_on_0 : decode cX12_on 0 = .ok (.aload_n 0, 1) := by decide +kernel
theorem dX12_on_1 : decode cX12_on 1 = .ok (.getfield 185, 3) := by decide +kernel
theorem dX12_on_4 : decode cX12_on 4 = .ok (.ifCond .ne 10, 3) := by decide +kernel
theorem dX12_on_7 : decode cX12_on 7 = .ok (.aload_n 0, 1) := by decide +kernel
theorem dX12_on_8 : decode cX12_on 8 = .ok (.bipush (-3), 2) := by decide +kernel
theorem dX12_on_10 : decode cX12_on 10 = .ok (.invokevirtual 91, 3) := by decide +kernel
theorem dX12_on_13 : decode cX12_on 13 = .ok (.ireturn, 1) := by decide +kernel
theorem dX12_on_14 : decode cX12_on 14 = .ok (.aload_n 0, 1) := by decide +kernel
theorem dX12_on_15 : decode cX12_on 15 = .ok (.iconst 0, 1) := by decide +kernel
theorem dX12_on_16 : decode cX12_on 16 = .ok (.iconst 0, 1) := by decide +kernel
theorem dX12_on_17 : decode cX12_on 17 = .ok (.invokevirtual 164, 3) := by decide +kernel
theorem dX12_on_20 : decode cX12_on 20 = .ok (.aload_n 0, 1) := by decide +kernel
theorem dX12_on_21 : decode cX12_on 21 = .ok (.getfield 139, 3) := by decide +kernel
theorem dX12_on_24 : decode cX12_on 24 = .ok (.ireturn, 1) := by decide +kernel
theorem dX12_beside_0 : decode cX12_beside 0 = .ok (.iload_n 1, 1) := by decide +kernel
theorem dX12_beside_1 : decode cX12_beside 1 = .ok (.tableswitch 76 0 2 #[27, 43, 59], 27) := by decide +kernel
theorem dX12_beside_28 : decode cX12_beside 28 = .ok (.iload_n 0, 1) := by decide +kernel
theorem dX12_beside_29 : decode cX12_beside 29 = .ok (.bipush 6, 2) := by decide +kernel
theorem dX12_beside_31 : decode cX12_beside 31 = .ok (.if_icmp .lt 10, 3) := by decide +kernel
theorem dX12_beside_34 : decode cX12_beside 34 = .ok (.iload_n 0, 1) := by decide +kernel
theorem dX12_beside_35 : decode cX12_beside 35 = .ok (.bipush 6, 2) := by decide +kernel
theorem dX12_beside_37 : decode cX12_beside 37 = .ok (.isub, 1) := by decide +kernel
theorem dX12_beside_38 : decode cX12_beside 38 = .ok (.goto 5, 3) := by decide +kernel
theorem dX12_beside_41 : decode cX12_beside 41 = .ok (.bipush (-9), 2) := by decide +kernel
theorem dX12_beside_43 : decode cX12_beside 43 = .ok (.ireturn, 1) := by decide +kernel
theorem dX12_beside_44 : decode cX12_beside 44 = .ok (.iload_n 0, 1) := by decide +kernel
theorem dX12_beside_45 : decode cX12_beside 45 = .ok (.bipush 6, 2) := by decide +kernel
theorem dX12_beside_47 : decode cX12_beside 47 = .ok (.irem, 1) := by decide +kernel
theorem dX12_beside_48 : decode cX12_beside 48 = .ok (.ifCond .le 9, 3) := by decide +kernel
theorem dX12_beside_51 : decode cX12_beside 51 = .ok (.iload_n 0, 1) := by decide +kernel
theorem dX12_beside_52 : decode cX12_beside 52 = .ok (.iconst 1, 1) := by decide +kernel
theorem dX12_beside_53 : decode cX12_beside 53 = .ok (.isub, 1) := by decide +kernel
theorem dX12_beside_54 : decode cX12_beside 54 = .ok (.goto 5, 3) := by decide +kernel
theorem dX12_beside_57 : decode cX12_beside 57 = .ok (.bipush (-9), 2) := by decide +kernel
theorem dX12_beside_59 : decode cX12_beside 59 = .ok (.ireturn, 1) := by decide +kernel
theorem dX12_beside_60 : decode cX12_beside 60 = .ok (.iload_n 0, 1) := by decide +kernel
theorem dX12_beside_61 : decode cX12_beside 61 = .ok (.bipush 6, 2) := by decide +kernel
theorem dX12_beside_63 : decode cX12_beside 63 = .ok (.irem, 1) := by decide +kernel
theorem dX12_beside_64 : decode cX12_beside 64 = .ok (.iconst 5, 1) := by decide +kernel
theorem dX12_beside_65 : decode cX12_beside 65 = .ok (.if_icmp .ge 9, 3) := by decide +kernel
theorem dX12_beside_68 : decode cX12_beside 68 = .ok (.iload_n 0, 1) := by decide +kernel
theorem dX12_beside_69 : decode cX12_beside 69 = .ok (.iconst 1, 1) := by decide +kernel
theorem dX12_beside_70 : decode cX12_beside 70 = .ok (.iadd, 1) := by decide +kernel
theorem dX12_beside_71 : decode cX12_beside 71 = .ok (.goto 5, 3) := by decide +kernel
theorem dX12_beside_74 : decode cX12_beside 74 = .ok (.bipush (-9), 2) := by decide +kernel
theorem dX12_beside_76 : decode cX12_beside 76 = .ok (.ireturn, 1) := by decide +kernel
theorem dX12_beside_77 : decode cX12_beside 77 = .ok (.iload_n 0, 1) := by decide +kernel
theorem dX12_beside_78 : decode cX12_beside 78 = .ok (.bipush 6, 2) := by decide +kernel
theorem dX12_beside_80 : decode cX12_beside 80 = .ok (.iadd, 1) := by decide +kernel
theorem dX12_beside_81 : decode cX12_beside 81 = .ok (.bipush 36, 2) := by decide +kernel
theorem dX12_beside_83 : decode cX12_beside 83 = .ok (.if_icmp .ge 10, 3) := by decide +kernel
theorem dX12_beside_86 : decode cX12_beside 86 = .ok (.iload_n 0, 1) := by decide +kernel
theorem dX12_beside_87 : decode cX12_beside 87 = .ok (.bipush 6, 2) := by decide +kernel
theorem dX12_beside_89 : decode cX12_beside 89 = .ok (.iadd, 1) := by decide +kernel
theorem dX12_beside_90 : decode cX12_beside 90 = .ok (.goto 5, 3) := by decide +kernel
theorem dX12_beside_93 : decode cX12_beside 93 = .ok (.bipush (-9), 2) := by decide +kernel
theorem dX12_beside_95 : decode cX12_beside 95 = .ok (.ireturn, 1) := by decide +kernel
theorem dX12_reaches_0 : decode cX12_reaches 0 = .ok (.iload_n 1, 1) := by decide +kernel
theorem dX12_reaches_1 : decode cX12_reaches 1 = .ok (.ifCond .lt 22, 3) := by decide +kernel
theorem dX12_reaches_4 : decode cX12_reaches 4 = .ok (.aload_n 0, 1) := by decide +kernel
theorem dX12_reaches_5 : decode cX12_reaches 5 = .ok (.getfield 61, 3) := by decide +kernel
theorem dX12_reaches_8 : decode cX12_reaches 8 = .ok (.iload_n 1, 1) := by decide +kernel
theorem dX12_reaches_9 : decode cX12_reaches 9 = .ok (.iaload, 1) := by decide +kernel
theorem dX12_reaches_10 : decode cX12_reaches 10 = .ok (.iconst 1, 1) := by decide +kernel
theorem dX12_reaches_11 : decode cX12_reaches 11 = .ok (.if_icmp .eq 12, 3) := by decide +kernel
theorem dX12_reaches_14 : decode cX12_reaches 14 = .ok (.aload_n 0, 1) := by decide +kernel
theorem dX12_reaches_15 : decode cX12_reaches 15 = .ok (.getfield 58, 3) := by decide +kernel
theorem dX12_reaches_18 : decode cX12_reaches 18 = .ok (.iload_n 1, 1) := by decide +kernel
theorem dX12_reaches_19 : decode cX12_reaches 19 = .ok (.iaload, 1) := by decide +kernel
theorem dX12_reaches_20 : decode cX12_reaches 20 = .ok (.ifCond .lt 4, 3) := by decide +kernel
theorem dX12_reaches_23 : decode cX12_reaches 23 = .ok (.return_, 1) := by decide +kernel
theorem dX12_reaches_24 : decode cX12_reaches 24 = .ok (.aload_n 0, 1) := by decide +kernel
theorem dX12_reaches_25 : decode cX12_reaches 25 = .ok (.getfield 58, 3) := by decide +kernel
theorem dX12_reaches_28 : decode cX12_reaches 28 = .ok (.iload_n 1, 1) := by decide +kernel
theorem dX12_reaches_29 : decode cX12_reaches 29 = .ok (.iload_n 2, 1) := by decide +kernel
theorem dX12_reaches_30 : decode cX12_reaches 30 = .ok (.iastore, 1) := by decide +kernel
theorem dX12_reaches_31 : decode cX12_reaches 31 = .ok (.aload_n 0, 1) := by decide +kernel
theorem dX12_reaches_32 : decode cX12_reaches 32 = .ok (.getfield 64, 3) := by decide +kernel
theorem dX12_reaches_35 : decode cX12_reaches 35 = .ok (.aload_n 0, 1) := by decide +kernel
theorem dX12_reaches_36 : decode cX12_reaches 36 = .ok (.getfield 188, 3) := by decide +kernel
theorem dX12_reaches_39 : decode cX12_reaches 39 = .ok (.iload_n 1, 1) := by decide +kernel
theorem dX12_reaches_40 : decode cX12_reaches 40 = .ok (.iastore, 1) := by decide +kernel
theorem dX12_reaches_41 : decode cX12_reaches 41 = .ok (.aload_n 0, 1) := by decide +kernel
theorem dX12_reaches_42 : decode cX12_reaches 42 = .ok (.dup, 1) := by decide +kernel
theorem dX12_reaches_43 : decode cX12_reaches 43 = .ok (.getfield 188, 3) := by decide +kernel
theorem dX12_reaches_46 : decode cX12_reaches 46 = .ok (.iconst 1, 1) := by decide +kernel
theorem dX12_reaches_47 : decode cX12_reaches 47 = .ok (.iadd, 1) := by decide +kernel
theorem dX12_reaches_48 : decode cX12_reaches 48 = .ok (.putfield 188, 3) := by decide +kernel
theorem dX12_reaches_51 : decode cX12_reaches 51 = .ok (.return_, 1) := by decide +kernel
set_option maxRecDepth 20000 in
theorem ggX12_findFar_X12_reaches : GoodIn wsX12_findFar wsX12_reaches := goodIn_r _ [8, 9, 1, 3, 2, 13, 14, 15, 16, 17, 18, 19, 20, 21, 22, 23, 24, 25, 26, 27, 28, 29, 30, 31, 32, 33, 34, 35, 36, 37, 38, 39, 40, 41, 42, 43, 44, 45] (by decide +kernel) (by decide +kernel)
set_option maxRecDepth 20000 in
theorem gX12_findFar_X12_reaches : GoodIn wsX12_findFar (wsV RX12 191 RX12 yX12_reaches wsX12_reaches) := goodIn_app (goodIn_of _ (by decide +kernel)) ggX12_findFar_X12_reaches
set_option maxRecDepth 20000 in
theorem ggX12_findFar_X12_beside : GoodIn wsX12_findFar wsX12_beside := goodIn_r _ [12] (by decide +kernel) (by decide +kernel)
set_option maxRecDepth 20000 in
theorem gX12_findFar_X12_beside : GoodIn wsX12_findFar (va_wsS RX12 195 yX12_beside wsX12_beside) := goodIn_app (goodIn_of _ (by decide +kernel)) ggX12_findFar_X12_beside
theorem dX12_findFar_0 : decode cX12_findFar 0 = .ok (.iconst 0, 1) := by decide +kernel
theorem dX12_findFar_1 : decode cX12_findFar 1 = .ok (.istore_n 2, 1) := by decide +kernel
theorem dX12_findFar_2 : decode cX12_findFar 2 = .ok (.iload_n 2, 1) := by decide +kernel
theorem dX12_findFar_3 : decode cX12_findFar 3 = .ok (.bipush 36, 2) := by decide +kernel
theorem dX12_findFar_5 : decode cX12_findFar 5 = .ok (.if_icmp .ge 17, 3) := by decide +kernel
theorem dX12_findFar_8 : decode cX12_findFar 8 = .ok (.aload_n 0, 1) := by decide +kernel
theorem dX12_findFar_9 : decode cX12_findFar 9 = .ok (.getfield 58, 3) := by decide +kernel
theorem dX12_findFar_12 : decode cX12_findFar 12 = .ok (.iload_n 2, 1) := by decide +kernel
theorem dX12_findFar_13 : decode cX12_findFar 13 = .ok (.bipush (-9), 2) := by decide +kernel
theorem dX12_findFar_15 : decode cX12_findFar 15 = .ok (.iastore, 1) := by decide +kernel
theorem dX12_findFar_16 : decode cX12_findFar 16 = .ok (.iinc 2 1, 3) := by decide +kernel
theorem dX12_findFar_19 : decode cX12_findFar 19 = .ok (.goto (-17), 3) := by decide +kernel
theorem dX12_findFar_22 : decode cX12_findFar 22 = .ok (.aload_n 0, 1) := by decide +kernel
theorem dX12_findFar_23 : decode cX12_findFar 23 = .ok (.iconst 0, 1) := by decide +kernel
theorem dX12_findFar_24 : decode cX12_findFar 24 = .ok (.putfield 188, 3) := by decide +kernel
theorem dX12_findFar_27 : decode cX12_findFar 27 = .ok (.aload_n 0, 1) := by decide +kernel
theorem dX12_findFar_28 : decode cX12_findFar 28 = .ok (.iload_n 1, 1) := by decide +kernel
theorem dX12_findFar_29 : decode cX12_findFar 29 = .ok (.iconst 0, 1) := by decide +kernel
theorem dX12_findFar_30 : decode cX12_findFar 30 = .ok (.invokevirtual 191, 3) := by decide +kernel
theorem dX12_findFar_33 : decode cX12_findFar 33 = .ok (.iconst 0, 1) := by decide +kernel
theorem dX12_findFar_34 : decode cX12_findFar 34 = .ok (.istore_n 2, 1) := by decide +kernel
theorem dX12_findFar_35 : decode cX12_findFar 35 = .ok (.iload_n 2, 1) := by decide +kernel
theorem dX12_findFar_36 : decode cX12_findFar 36 = .ok (.aload_n 0, 1) := by decide +kernel
theorem dX12_findFar_37 : decode cX12_findFar 37 = .ok (.getfield 188, 3) := by decide +kernel
theorem dX12_findFar_40 : decode cX12_findFar 40 = .ok (.if_icmp .ge 49, 3) := by decide +kernel
theorem dX12_findFar_43 : decode cX12_findFar 43 = .ok (.iconst 0, 1) := by decide +kernel
theorem dX12_findFar_44 : decode cX12_findFar 44 = .ok (.istore_n 3, 1) := by decide +kernel
theorem dX12_findFar_45 : decode cX12_findFar 45 = .ok (.iload_n 3, 1) := by decide +kernel
theorem dX12_findFar_46 : decode cX12_findFar 46 = .ok (.iconst 4, 1) := by decide +kernel
theorem dX12_findFar_47 : decode cX12_findFar 47 = .ok (.if_icmp .ge 36, 3) := by decide +kernel
theorem dX12_findFar_50 : decode cX12_findFar 50 = .ok (.aload_n 0, 1) := by decide +kernel
theorem dX12_findFar_51 : decode cX12_findFar 51 = .ok (.aload_n 0, 1) := by decide +kernel
theorem dX12_findFar_52 : decode cX12_findFar 52 = .ok (.getfield 64, 3) := by decide +kernel
theorem dX12_findFar_55 : decode cX12_findFar 55 = .ok (.iload_n 2, 1) := by decide +kernel
theorem dX12_findFar_56 : decode cX12_findFar 56 = .ok (.iaload, 1) := by decide +kernel
theorem dX12_findFar_57 : decode cX12_findFar 57 = .ok (.iload_n 3, 1) := by decide +kernel
theorem dX12_findFar_58 : decode cX12_findFar 58 = .ok (.invokestatic 195, 3) := by decide +kernel
theorem dX12_findFar_61 : decode cX12_findFar 61 = .ok (.aload_n 0, 1) := by decide +kernel
theorem dX12_findFar_62 : decode cX12_findFar 62 = .ok (.getfield 58, 3) := by decide +kernel
theorem dX12_findFar_65 : decode cX12_findFar 65 = .ok (.aload_n 0, 1) := by decide +kernel
theorem dX12_findFar_66 : decode cX12_findFar 66 = .ok (.getfield 64, 3) := by decide +kernel
theorem dX12_findFar_69 : decode cX12_findFar 69 = .ok (.iload_n 2, 1) := by decide +kernel
theorem dX12_findFar_70 : decode cX12_findFar 70 = .ok (.iaload, 1) := by decide +kernel
theorem dX12_findFar_71 : decode cX12_findFar 71 = .ok (.iaload, 1) := by decide +kernel
theorem dX12_findFar_72 : decode cX12_findFar 72 = .ok (.iconst 1, 1) := by decide +kernel
theorem dX12_findFar_73 : decode cX12_findFar 73 = .ok (.iadd, 1) := by decide +kernel
theorem dX12_findFar_74 : decode cX12_findFar 74 = .ok (.invokevirtual 191, 3) := by decide +kernel
theorem dX12_findFar_77 : decode cX12_findFar 77 = .ok (.iinc 3 1, 3) := by decide +kernel
theorem dX12_findFar_80 : decode cX12_findFar 80 = .ok (.goto (-35), 3) := by decide +kernel
theorem dX12_findFar_83 : decode cX12_findFar 83 = .ok (.iinc 2 1, 3) := by decide +kernel
theorem dX12_findFar_86 : decode cX12_findFar 86 = .ok (.goto (-51), 3) := by decide +kernel
theorem dX12_findFar_89 : decode cX12_findFar 89 = .ok (.return_, 1) := by decide +kernel
theorem dX12_shutsWalls_0 : decode cX12_shutsWalls 0 = .ok (.iconst 0, 1) := by decide +kernel
theorem dX12_shutsWalls_1 : decode cX12_shutsWalls 1 = .ok (.istore_n 1, 1) := by decide +kernel
theorem dX12_shutsWalls_2 : decode cX12_shutsWalls 2 = .ok (.iload_n 1, 1) := by decide +kernel
theorem dX12_shutsWalls_3 : decode cX12_shutsWalls 3 = .ok (.bipush 36, 2) := by decide +kernel
theorem dX12_shutsWalls_5 : decode cX12_shutsWalls 5 = .ok (.if_icmp .ge 21, 3) := by decide +kernel
theorem dX12_shutsWalls_8 : decode cX12_shutsWalls 8 = .ok (.aload_n 0, 1) := by decide +kernel
theorem dX12_shutsWalls_9 : decode cX12_shutsWalls 9 = .ok (.getfield 61, 3) := by decide +kernel
theorem dX12_shutsWalls_12 : decode cX12_shutsWalls 12 = .ok (.iload_n 1, 1) := by decide +kernel
theorem dX12_shutsWalls_13 : decode cX12_shutsWalls 13 = .ok (.aload_n 0, 1) := by decide +kernel
theorem dX12_shutsWalls_14 : decode cX12_shutsWalls 14 = .ok (.getfield 13, 3) := by decide +kernel
theorem dX12_shutsWalls_17 : decode cX12_shutsWalls 17 = .ok (.iload_n 1, 1) := by decide +kernel
theorem dX12_shutsWalls_18 : decode cX12_shutsWalls 18 = .ok (.iaload, 1) := by decide +kernel
theorem dX12_shutsWalls_19 : decode cX12_shutsWalls 19 = .ok (.iastore, 1) := by decide +kernel
theorem dX12_shutsWalls_20 : decode cX12_shutsWalls 20 = .ok (.iinc 1 1, 3) := by decide +kernel
theorem dX12_shutsWalls_23 : decode cX12_shutsWalls 23 = .ok (.goto (-21), 3) := by decide +kernel
theorem dX12_shutsWalls_26 : decode cX12_shutsWalls 26 = .ok (.return_, 1) := by decide +kernel
set_option maxRecDepth 20000 in
theorem ggX12_stepsOf_X12_shutsWalls : GoodIn wsX12_stepsOf wsX12_shutsWalls := goodIn_r _ [6, 7, 8, 22, 23, 24, 25, 26, 27, 28, 29, 30, 31, 32, 33, 34, 35, 36, 37, 38, 39, 40, 41, 42, 43, 44, 45, 46, 47, 48, 49, 50, 51, 52, 53, 54] (by decide +kernel) (by decide +kernel)
set_option maxRecDepth 20000 in
theorem gX12_stepsOf_X12_shutsWalls : GoodIn wsX12_stepsOf (wsV RX12 198 RX12 yX12_shutsWalls wsX12_shutsWalls) := goodIn_app (goodIn_of _ (by decide +kernel)) ggX12_stepsOf_X12_shutsWalls
set_option maxRecDepth 20000 in
theorem ggX12_stepsOf_X12_findFar : GoodIn wsX12_stepsOf wsX12_findFar := goodIn_r _ [12, 1, 13, 14, 15, 16, 17, 5, 18, 7, 19, 20, 21, 22, 23, 24, 25, 26, 27, 28, 29, 30, 31, 32, 33, 34, 35, 36, 37, 38, 39, 40, 41, 42, 43, 44, 45, 46, 47, 48, 49, 50, 51, 52, 53, 54] (by decide +kernel) (by decide +kernel)
set_option maxRecDepth 20000 in
theorem gX12_stepsOf_X12_findFar : GoodIn wsX12_stepsOf (wsV RX12 201 RX12 yX12_findFar wsX12_findFar) := goodIn_app (goodIn_of _ (by decide +kernel)) ggX12_stepsOf_X12_findFar
theorem dX12_stepsOf_0 : decode cX12_stepsOf 0 = .ok (.aload_n 0, 1) := by decide +kernel
theorem dX12_stepsOf_1 : decode cX12_stepsOf 1 = .ok (.invokevirtual 198, 3) := by decide +kernel
theorem dX12_stepsOf_4 : decode cX12_stepsOf 4 = .ok (.aload_n 0, 1) := by decide +kernel
theorem dX12_stepsOf_5 : decode cX12_stepsOf 5 = .ok (.iload_n 1, 1) := by decide +kernel
theorem dX12_stepsOf_6 : decode cX12_stepsOf 6 = .ok (.invokevirtual 201, 3) := by decide +kernel
theorem dX12_stepsOf_9 : decode cX12_stepsOf 9 = .ok (.aload_n 0, 1) := by decide +kernel
theorem dX12_stepsOf_10 : decode cX12_stepsOf 10 = .ok (.getfield 58, 3) := by decide +kernel
theorem dX12_stepsOf_13 : decode cX12_stepsOf 13 = .ok (.iload_n 2, 1) := by decide +kernel
theorem dX12_stepsOf_14 : decode cX12_stepsOf 14 = .ok (.iaload, 1) := by decide +kernel
theorem dX12_stepsOf_15 : decode cX12_stepsOf 15 = .ok (.ireturn, 1) := by decide +kernel
theorem dX12_isSomebodyAt_0 : decode cX12_isSomebodyAt 0 = .ok (.iconst 0, 1) := by decide +kernel
theorem dX12_isSomebodyAt_1 : decode cX12_isSomebodyAt 1 = .ok (.istore_n 2, 1) := by decide +kernel
theorem dX12_isSomebodyAt_2 : decode cX12_isSomebodyAt 2 = .ok (.iload_n 2, 1) := by decide +kernel
theorem dX12_isSomebodyAt_3 : decode cX12_isSomebodyAt 3 = .ok (.aload_n 0, 1) := by decide +kernel
theorem dX12_isSomebodyAt_4 : decode cX12_isSomebodyAt 4 = .ok (.getfield 81, 3) := by decide +kernel
theorem dX12_isSomebodyAt_7 : decode cX12_isSomebodyAt 7 = .ok (.if_icmp .ge 21, 3) := by decide +kernel
theorem dX12_isSomebodyAt_10 : decode cX12_isSomebodyAt 10 = .ok (.aload_n 0, 1) := by decide +kernel
theorem dX12_isSomebodyAt_11 : decode cX12_isSomebodyAt 11 = .ok (.getfield 40, 3) := by decide +kernel
theorem dX12_isSomebodyAt_14 : decode cX12_isSomebodyAt 14 = .ok (.iload_n 2, 1) := by decide +kernel
theorem dX12_isSomebodyAt_15 : decode cX12_isSomebodyAt 15 = .ok (.iaload, 1) := by decide +kernel
theorem dX12_isSomebodyAt_16 : decode cX12_isSomebodyAt 16 = .ok (.iload_n 1, 1) := by decide +kernel
theorem dX12_isSomebodyAt_17 : decode cX12_isSomebodyAt 17 = .ok (.if_icmp .ne 5, 3) := by decide +kernel
theorem dX12_isSomebodyAt_20 : decode cX12_isSomebodyAt 20 = .ok (.iconst 1, 1) := by decide +kernel
theorem dX12_isSomebodyAt_21 : decode cX12_isSomebodyAt 21 = .ok (.ireturn, 1) := by decide +kernel
theorem dX12_isSomebodyAt_22 : decode cX12_isSomebodyAt 22 = .ok (.iinc 2 1, 3) := by decide +kernel
theorem dX12_isSomebodyAt_25 : decode cX12_isSomebodyAt 25 = .ok (.goto (-23), 3) := by decide +kernel
theorem dX12_isSomebodyAt_28 : decode cX12_isSomebodyAt 28 = .ok (.iconst 0, 1) := by decide +kernel
theorem dX12_isSomebodyAt_29 : decode cX12_isSomebodyAt 29 = .ok (.ireturn, 1) := by decide +kernel
theorem dX12_wallMany_0 : decode cX12_wallMany 0 = .ok (.iconst 0, 1) := by decide +kernel
theorem dX12_wallMany_1 : decode cX12_wallMany 1 = .ok (.istore_n 1, 1) := by decide +kernel
theorem dX12_wallMany_2 : decode cX12_wallMany 2 = .ok (.iconst 0, 1) := by decide +kernel
theorem dX12_wallMany_3 : decode cX12_wallMany 3 = .ok (.istore_n 2, 1) := by decide +kernel
theorem dX12_wallMany_4 : decode cX12_wallMany 4 = .ok (.iload_n 2, 1) := by decide +kernel
theorem dX12_wallMany_5 : decode cX12_wallMany 5 = .ok (.bipush 36, 2) := by decide +kernel
theorem dX12_wallMany_7 : decode cX12_wallMany 7 = .ok (.if_icmp .ge 18, 3) := by decide +kernel
theorem dX12_wallMany_10 : decode cX12_wallMany 10 = .ok (.iload_n 1, 1) := by decide +kernel
theorem dX12_wallMany_11 : decode cX12_wallMany 11 = .ok (.aload_n 0, 1) := by decide +kernel
theorem dX12_wallMany_12 : decode cX12_wallMany 12 = .ok (.getfield 13, 3) := by decide +kernel
theorem dX12_wallMany_15 : decode cX12_wallMany 15 = .ok (.iload_n 2, 1) := by decide +kernel
theorem dX12_wallMany_16 : decode cX12_wallMany 16 = .ok (.iaload, 1) := by decide +kernel
theorem dX12_wallMany_17 : decode cX12_wallMany 17 = .ok (.iadd, 1) := by decide +kernel
theorem dX12_wallMany_18 : decode cX12_wallMany 18 = .ok (.istore_n 1, 1) := by decide +kernel
theorem dX12_wallMany_19 : decode cX12_wallMany 19 = .ok (.iinc 2 1, 3) := by decide +kernel
theorem dX12_wallMany_22 : decode cX12_wallMany 22 = .ok (.goto (-18), 3) := by decide +kernel
theorem dX12_wallMany_25 : decode cX12_wallMany 25 = .ok (.iload_n 1, 1) := by decide +kernel
theorem dX12_wallMany_26 : decode cX12_wallMany 26 = .ok (.ireturn, 1) := by decide +kernel
theorem dX12_cellOf_0 : decode cX12_cellOf 0 = .ok (.aload_n 0, 1) := by decide +kernel
theorem dX12_cellOf_1 : decode cX12_cellOf 1 = .ok (.getfield 19, 3) := by decide +kernel
theorem dX12_cellOf_4 : decode cX12_cellOf 4 = .ok (.iload_n 1, 1) := by decide +kernel
theorem dX12_cellOf_5 : decode cX12_cellOf 5 = .ok (.iaload, 1) := by decide +kernel
theorem dX12_cellOf_6 : decode cX12_cellOf 6 = .ok (.iconst 4, 1) := by decide +kernel
theorem dX12_cellOf_7 : decode cX12_cellOf 7 = .ok (.irem, 1) := by decide +kernel
theorem dX12_cellOf_8 : decode cX12_cellOf 8 = .ok (.istore_n 2, 1) := by decide +kernel
theorem dX12_cellOf_9 : decode cX12_cellOf 9 = .ok (.aload_n 0, 1) := by decide +kernel
theorem dX12_cellOf_10 : decode cX12_cellOf 10 = .ok (.getfield 16, 3) := by decide +kernel
theorem dX12_cellOf_13 : decode cX12_cellOf 13 = .ok (.iload_n 1, 1) := by decide +kernel
theorem dX12_cellOf_14 : decode cX12_cellOf 14 = .ok (.iaload, 1) := by decide +kernel
theorem dX12_cellOf_15 : decode cX12_cellOf 15 = .ok (.iconst 3, 1) := by decide +kernel
theorem dX12_cellOf_16 : decode cX12_cellOf 16 = .ok (.if_icmp .ne 20, 3) := by decide +kernel
theorem dX12_cellOf_19 : decode cX12_cellOf 19 = .ok (.iload_n 2, 1) := by decide +kernel
theorem dX12_cellOf_20 : decode cX12_cellOf 20 = .ok (.aload_n 0, 1) := by decide +kernel
theorem dX12_cellOf_21 : decode cX12_cellOf 21 = .ok (.getfield 81, 3) := by decide +kernel
theorem dX12_cellOf_24 : decode cX12_cellOf 24 = .ok (.if_icmp .ge 12, 3) := by decide +kernel
theorem dX12_cellOf_27 : decode cX12_cellOf 27 = .ok (.aload_n 0, 1) := by decide +kernel
theorem dX12_cellOf_28 : decode cX12_cellOf 28 = .ok (.getfield 40, 3) := by decide +kernel
theorem dX12_cellOf_31 : decode cX12_cellOf 31 = .ok (.iload_n 2, 1) := by decide +kernel
theorem dX12_cellOf_32 : decode cX12_cellOf 32 = .ok (.iaload, 1) := by decide +kernel
theorem dX12_cellOf_33 : decode cX12_cellOf 33 = .ok (.goto 9, 3) := by decide +kernel
theorem dX12_cellOf_36 : decode cX12_cellOf 36 = .ok (.aload_n 0, 1) := by decide +kernel
theorem dX12_cellOf_37 : decode cX12_cellOf 37 = .ok (.getfield 19, 3) := by decide +kernel
theorem dX12_cellOf_40 : decode cX12_cellOf 40 = .ok (.iload_n 1, 1) := by decide +kernel
theorem dX12_cellOf_41 : decode cX12_cellOf 41 = .ok (.iaload, 1) := by decide +kernel
theorem dX12_cellOf_42 : decode cX12_cellOf 42 = .ok (.ireturn, 1) := by decide +kernel
set_option maxRecDepth 20000 in
theorem ggX12_findLight_X12_shutsWalls : GoodIn wsX12_findLight wsX12_shutsWalls := goodIn_r _ [7, 8, 2, 22, 23, 24, 25, 26, 27, 28, 29, 30, 31, 32, 33, 34, 35, 36, 37, 38, 39, 40, 41, 42, 43, 44, 45, 46, 47, 48, 49, 50, 51, 52, 53, 54] (by decide +kernel) (by decide +kernel)
set_option maxRecDepth 20000 in
theorem gX12_findLight_X12_shutsWalls : GoodIn wsX12_findLight (wsV RX12 198 RX12 yX12_shutsWalls wsX12_shutsWalls) := goodIn_app (goodIn_of _ (by decide +kernel)) ggX12_findLight_X12_shutsWalls
set_option maxRecDepth 20000 in
theorem ggX12_findLight_X12_findFar : GoodIn wsX12_findLight wsX12_findFar := goodIn_r _ [12, 1, 13, 14, 15, 16, 17, 6, 18, 8, 19, 20, 21, 22, 23, 24, 25, 26, 27, 28, 29, 30, 31, 32, 33, 34, 35, 36, 37, 38, 39, 40, 41, 42, 43, 44, 45, 46, 47, 48, 49, 50, 51, 52, 53, 54] (by decide +kernel) (by decide +kernel)
set_option maxRecDepth 20000 in
theorem gX12_findLight_X12_findFar : GoodIn wsX12_findLight (wsV RX12 201 RX12 yX12_findFar wsX12_findFar) := goodIn_app (goodIn_of _ (by decide +kernel)) ggX12_findLight_X12_findFar
theorem dX12_findLight_0 : decode cX12_findLight 0 = .ok (.aload_n 0, 1) := by decide +kernel
theorem dX12_findLight_1 : decode cX12_findLight 1 = .ok (.invokevirtual 198, 3) := by decide +kernel
theorem dX12_findLight_4 : decode cX12_findLight 4 = .ok (.aload_n 0, 1) := by decide +kernel
theorem dX12_findLight_5 : decode cX12_findLight 5 = .ok (.iload_n 1, 1) := by decide +kernel
theorem dX12_findLight_6 : decode cX12_findLight 6 = .ok (.invokevirtual 201, 3) := by decide +kernel
theorem dX12_findLight_9 : decode cX12_findLight 9 = .ok (.iconst 0, 1) := by decide +kernel
theorem dX12_findLight_10 : decode cX12_findLight 10 = .ok (.istore_n 3, 1) := by decide +kernel
theorem dX12_findLight_11 : decode cX12_findLight 11 = .ok (.iload_n 3, 1) := by decide +kernel
theorem dX12_findLight_12 : decode cX12_findLight 12 = .ok (.bipush 36, 2) := by decide +kernel
theorem dX12_findLight_14 : decode cX12_findLight 14 = .ok (.if_icmp .ge 60, 3) := by decide +kernel
theorem dX12_findLight_17 : decode cX12_findLight 17 = .ok (.aload_n 0, 1) := by decide +kernel
theorem dX12_findLight_18 : decode cX12_findLight 18 = .ok (.getfield 58, 3) := by decide +kernel
theorem dX12_findLight_21 : decode cX12_findLight 21 = .ok (.iload_n 3, 1) := by decide +kernel
theorem dX12_findLight_22 : decode cX12_findLight 22 = .ok (.aload_n 0, 1) := by decide +kernel
theorem dX12_findLight_23 : decode cX12_findLight 23 = .ok (.getfield 13, 3) := by decide +kernel
theorem dX12_findLight_26 : decode cX12_findLight 26 = .ok (.iload_n 1, 1) := by decide +kernel
theorem dX12_findLight_27 : decode cX12_findLight 27 = .ok (.iaload, 1) := by decide +kernel
theorem dX12_findLight_28 : decode cX12_findLight 28 = .ok (.iconst 1, 1) := by decide +kernel
theorem dX12_findLight_29 : decode cX12_findLight 29 = .ok (.if_icmp .ne 17, 3) := by decide +kernel
theorem dX12_findLight_32 : decode cX12_findLight 32 = .ok (.iload_n 3, 1) := by decide +kernel
theorem dX12_findLight_33 : decode cX12_findLight 33 = .ok (.iload_n 1, 1) := by decide +kernel
theorem dX12_findLight_34 : decode cX12_findLight 34 = .ok (.if_icmp .ne 7, 3) := by decide +kernel
theorem dX12_findLight_37 : decode cX12_findLight 37 = .ok (.iconst 0, 1) := by decide +kernel
theorem dX12_findLight_38 : decode cX12_findLight 38 = .ok (.goto 29, 3) := by decide +kernel
theorem dX12_findLight_41 : decode cX12_findLight 41 = .ok (.bipush (-9), 2) := by decide +kernel
theorem dX12_findLight_43 : decode cX12_findLight 43 = .ok (.goto 24, 3) := by decide +kernel
theorem dX12_findLight_46 : decode cX12_findLight 46 = .ok (.aload_n 0, 1) := by decide +kernel
theorem dX12_findLight_47 : decode cX12_findLight 47 = .ok (.getfield 58, 3) := by decide +kernel
theorem dX12_findLight_50 : decode cX12_findLight 50 = .ok (.iload_n 3, 1) := by decide +kernel
theorem dX12_findLight_51 : decode cX12_findLight 51 = .ok (.iaload, 1) := by decide +kernel
theorem dX12_findLight_52 : decode cX12_findLight 52 = .ok (.iload_n 2, 1) := by decide +kernel
theorem dX12_findLight_53 : decode cX12_findLight 53 = .ok (.if_icmp .le 8, 3) := by decide +kernel
theorem dX12_findLight_56 : decode cX12_findLight 56 = .ok (.bipush (-9), 2) := by decide +kernel
theorem dX12_findLight_58 : decode cX12_findLight 58 = .ok (.goto 9, 3) := by decide +kernel
theorem dX12_findLight_61 : decode cX12_findLight 61 = .ok (.aload_n 0, 1) := by decide +kernel
theorem dX12_findLight_62 : decode cX12_findLight 62 = .ok (.getfield 58, 3) := by decide +kernel
theorem dX12_findLight_65 : decode cX12_findLight 65 = .ok (.iload_n 3, 1) := by decide +kernel
theorem dX12_findLight_66 : decode cX12_findLight 66 = .ok (.iaload, 1) := by decide +kernel
theorem dX12_findLight_67 : decode cX12_findLight 67 = .ok (.iastore, 1) := by decide +kernel
theorem dX12_findLight_68 : decode cX12_findLight 68 = .ok (.iinc 3 1, 3) := by decide +kernel
theorem dX12_findLight_71 : decode cX12_findLight 71 = .ok (.goto (-60), 3) := by decide +kernel
theorem dX12_findLight_74 : decode cX12_findLight 74 = .ok (.return_, 1) := by decide +kernel
set_option maxRecDepth 20000 in
theorem ggX12_findLit_X12_cellOf : GoodIn wsX12_findLit wsX12_cellOf := goodIn_r _ [9, 10, 11, 12, 13, 37, 38, 39, 40, 41, 42, 43, 44, 45, 46, 47, 48, 49, 50, 51, 52, 53, 54, 55, 56, 57, 58, 59, 60, 61, 62, 63, 64, 65, 66, 67, 68, 69] (by decide +kernel) (by decide +kernel)
set_option maxRecDepth 20000 in
theorem gX12_findLit_X12_cellOf : GoodIn wsX12_findLit (wsV RX12 205 RX12 yX12_cellOf wsX12_cellOf) := goodIn_app (goodIn_of _ (by decide +kernel)) ggX12_findLit_X12_cellOf
set_option maxRecDepth 20000 in
theorem ggX12_findLit_X12_findLight : GoodIn wsX12_findLit wsX12_findLight := goodIn_r _ [17, 4, 18, 19, 20, 21, 8, 22, 23, 24, 25, 26, 27, 28, 29, 30, 31, 32, 33, 34, 35, 36, 37, 38, 39, 40, 41, 42, 43, 44, 45, 46, 47, 48, 49, 50, 51, 52, 53, 54, 55, 56, 57, 58, 59, 60, 61, 62, 63, 64, 65, 66, 67, 68, 69] (by decide +kernel) (by decide +kernel)
set_option maxRecDepth 20000 in
theorem gX12_findLit_X12_findLight : GoodIn wsX12_findLit (wsV RX12 208 RX12 yX12_findLight wsX12_findLight) := goodIn_app (goodIn_of _ (by decide +kernel)) ggX12_findLit_X12_findLight
theorem dX12_findLit_0 : decode cX12_findLit 0 = .ok (.iconst 0, 1) := by decide +kernel
theorem dX12_findLit_1 : decode cX12_findLit 1 = .ok (.istore_n 1, 1) := by decide +kernel
theorem dX12_findLit_2 : decode cX12_findLit 2 = .ok (.iload_n 1, 1) := by decide +kernel
theorem dX12_findLit_3 : decode cX12_findLit 3 = .ok (.bipush 36, 2) := by decide +kernel
theorem dX12_findLit_5 : decode cX12_findLit 5 = .ok (.if_icmp .ge 16, 3) := by decide +kernel
theorem dX12_findLit_8 : decode cX12_findLit 8 = .ok (.aload_n 0, 1) := by decide +kernel
theorem dX12_findLit_9 : decode cX12_findLit 9 = .ok (.getfield 67, 3) := by decide +kernel
theorem dX12_findLit_12 : decode cX12_findLit 12 = .ok (.iload_n 1, 1) := by decide +kernel
theorem dX12_findLit_13 : decode cX12_findLit 13 = .ok (.iconst 0, 1) := by decide +kernel
theorem dX12_findLit_14 : decode cX12_findLit 14 = .ok (.iastore, 1) := by decide +kernel
theorem dX12_findLit_15 : decode cX12_findLit 15 = .ok (.iinc 1 1, 3) := by decide +kernel
theorem dX12_findLit_18 : decode cX12_findLit 18 = .ok (.goto (-16), 3) := by decide +kernel
theorem dX12_findLit_21 : decode cX12_findLit 21 = .ok (.iconst 0, 1) := by decide +kernel
theorem dX12_findLit_22 : decode cX12_findLit 22 = .ok (.istore_n 1, 1) := by decide +kernel
theorem dX12_findLit_23 : decode cX12_findLit 23 = .ok (.iload_n 1, 1) := by decide +kernel
theorem dX12_findLit_24 : decode cX12_findLit 24 = .ok (.aload_n 0, 1) := by decide +kernel
theorem dX12_findLit_25 : decode cX12_findLit 25 = .ok (.getfield 76, 3) := by decide +kernel
theorem dX12_findLit_28 : decode cX12_findLit 28 = .ok (.if_icmp .ge 63, 3) := by decide +kernel
theorem dX12_findLit_31 : decode cX12_findLit 31 = .ok (.aload_n 0, 1) := by decide +kernel
theorem dX12_findLit_32 : decode cX12_findLit 32 = .ok (.aload_n 0, 1) := by decide +kernel
theorem dX12_findLit_33 : decode cX12_findLit 33 = .ok (.iload_n 1, 1) := by decide +kernel
theorem dX12_findLit_34 : decode cX12_findLit 34 = .ok (.invokevirtual 205, 3) := by decide +kernel
theorem dX12_findLit_37 : decode cX12_findLit 37 = .ok (.aload_n 0, 1) := by decide +kernel
theorem dX12_findLit_38 : decode cX12_findLit 38 = .ok (.getfield 22, 3) := by decide +kernel
theorem dX12_findLit_41 : decode cX12_findLit 41 = .ok (.iload_n 1, 1) := by decide +kernel
theorem dX12_findLit_42 : decode cX12_findLit 42 = .ok (.iaload, 1) := by decide +kernel
theorem dX12_findLit_43 : decode cX12_findLit 43 = .ok (.invokevirtual 208, 3) := by decide +kernel
theorem dX12_findLit_46 : decode cX12_findLit 46 = .ok (.iconst 0, 1) := by decide +kernel
theorem dX12_findLit_47 : decode cX12_findLit 47 = .ok (.istore_n 2, 1) := by decide +kernel
theorem dX12_findLit_48 : decode cX12_findLit 48 = .ok (.iload_n 2, 1) := by decide +kernel
theorem dX12_findLit_49 : decode cX12_findLit 49 = .ok (.bipush 36, 2) := by decide +kernel
theorem dX12_findLit_51 : decode cX12_findLit 51 = .ok (.if_icmp .ge 34, 3) := by decide +kernel
theorem dX12_findLit_54 : decode cX12_findLit 54 = .ok (.aload_n 0, 1) := by decide +kernel
theorem dX12_findLit_55 : decode cX12_findLit 55 = .ok (.getfield 67, 3) := by decide +kernel
theorem dX12_findLit_58 : decode cX12_findLit 58 = .ok (.iload_n 2, 1) := by decide +kernel
theorem dX12_findLit_59 : decode cX12_findLit 59 = .ok (.dup2, 1) := by decide +kernel
theorem dX12_findLit_60 : decode cX12_findLit 60 = .ok (.iaload, 1) := by decide +kernel
theorem dX12_findLit_61 : decode cX12_findLit 61 = .ok (.aload_n 0, 1) := by decide +kernel
theorem dX12_findLit_62 : decode cX12_findLit 62 = .ok (.getfield 58, 3) := by decide +kernel
theorem dX12_findLit_65 : decode cX12_findLit 65 = .ok (.iload_n 2, 1) := by decide +kernel
theorem dX12_findLit_66 : decode cX12_findLit 66 = .ok (.iaload, 1) := by decide +kernel
theorem dX12_findLit_67 : decode cX12_findLit 67 = .ok (.ifCond .lt 9, 3) := by decide +kernel
theorem dX12_findLit_70 : decode cX12_findLit 70 = .ok (.iconst 1, 1) := by decide +kernel
theorem dX12_findLit_71 : decode cX12_findLit 71 = .ok (.iload_n 1, 1) := by decide +kernel
theorem dX12_findLit_72 : decode cX12_findLit 72 = .ok (.ishl, 1) := by decide +kernel
theorem dX12_findLit_73 : decode cX12_findLit 73 = .ok (.goto 4, 3) := by decide +kernel
theorem dX12_findLit_76 : decode cX12_findLit 76 = .ok (.iconst 0, 1) := by decide +kernel
theorem dX12_findLit_77 : decode cX12_findLit 77 = .ok (.ior, 1) := by decide +kernel
theorem dX12_findLit_78 : decode cX12_findLit 78 = .ok (.iastore, 1) := by decide +kernel
theorem dX12_findLit_79 : decode cX12_findLit 79 = .ok (.iinc 2 1, 3) := by decide +kernel
theorem dX12_findLit_82 : decode cX12_findLit 82 = .ok (.goto (-34), 3) := by decide +kernel
theorem dX12_findLit_85 : decode cX12_findLit 85 = .ok (.iinc 1 1, 3) := by decide +kernel
theorem dX12_findLit_88 : decode cX12_findLit 88 = .ok (.goto (-65), 3) := by decide +kernel
theorem dX12_findLit_91 : decode cX12_findLit 91 = .ok (.return_, 1) := by decide +kernel
theorem dX12_litBits_0 : decode cX12_litBits 0 = .ok (.iconst 0, 1) := by decide +kernel
theorem dX12_litBits_1 : decode cX12_litBits 1 = .ok (.istore_n 1, 1) := by decide +kernel
theorem dX12_litBits_2 : decode cX12_litBits 2 = .ok (.iconst 0, 1) := by decide +kernel
theorem dX12_litBits_3 : decode cX12_litBits 3 = .ok (.istore_n 2, 1) := by decide +kernel
theorem dX12_litBits_4 : decode cX12_litBits 4 = .ok (.iload_n 2, 1) := by decide +kernel
theorem dX12_litBits_5 : decode cX12_litBits 5 = .ok (.aload_n 0, 1) := by decide +kernel
theorem dX12_litBits_6 : decode cX12_litBits 6 = .ok (.getfield 76, 3) := by decide +kernel
theorem dX12_litBits_9 : decode cX12_litBits 9 = .ok (.if_icmp .ge 20, 3) := by decide +kernel
theorem dX12_litBits_12 : decode cX12_litBits 12 = .ok (.iload_n 1, 1) := by decide +kernel
theorem dX12_litBits_13 : decode cX12_litBits 13 = .ok (.aload_n 0, 1) := by decide +kernel
theorem dX12_litBits_14 : decode cX12_litBits 14 = .ok (.getfield 25, 3) := by decide +kernel
theorem dX12_litBits_17 : decode cX12_litBits 17 = .ok (.iload_n 2, 1) := by decide +kernel
theorem dX12_litBits_18 : decode cX12_litBits 18 = .ok (.iaload, 1) := by decide +kernel
theorem dX12_litBits_19 : decode cX12_litBits 19 = .ok (.iload_n 2, 1) := by decide +kernel
theorem dX12_litBits_20 : decode cX12_litBits 20 = .ok (.ishl, 1) := by decide +kernel
theorem dX12_litBits_21 : decode cX12_litBits 21 = .ok (.ior, 1) := by decide +kernel
theorem dX12_litBits_22 : decode cX12_litBits 22 = .ok (.istore_n 1, 1) := by decide +kernel
theorem dX12_litBits_23 : decode cX12_litBits 23 = .ok (.iinc 2 1, 3) := by decide +kernel
theorem dX12_litBits_26 : decode cX12_litBits 26 = .ok (.goto (-22), 3) := by decide +kernel
theorem dX12_litBits_29 : decode cX12_litBits 29 = .ok (.iload_n 1, 1) := by decide +kernel
theorem dX12_litBits_30 : decode cX12_litBits 30 = .ok (.ireturn, 1) := by decide +kernel
theorem dX12_keepsOf_0 : decode cX12_keepsOf 0 = .ok (.iload_n 0, 1) := by decide +kernel
theorem dX12_keepsOf_1 : decode cX12_keepsOf 1 = .ok (.iconst 2, 1) := by decide +kernel
theorem dX12_keepsOf_2 : decode cX12_keepsOf 2 = .ok (.if_icmp .ne 7, 3) := by decide +kernel
theorem dX12_keepsOf_5 : decode cX12_keepsOf 5 = .ok (.iconst 0, 1) := by decide +kernel
theorem dX12_keepsOf_6 : decode cX12_keepsOf 6 = .ok (.goto 14, 3) := by decide +kernel
theorem dX12_keepsOf_9 : decode cX12_keepsOf 9 = .ok (.iload_n 0, 1) := by decide +kernel
theorem dX12_keepsOf_10 : decode cX12_keepsOf 10 = .ok (.iconst 4, 1) := by decide +kernel
theorem dX12_keepsOf_11 : decode cX12_keepsOf 11 = .ok (.if_icmp .ne 7, 3) := by decide +kernel
theorem dX12_keepsOf_14 : decode cX12_keepsOf 14 = .ok (.iconst 3, 1) := by decide +kernel
theorem dX12_keepsOf_15 : decode cX12_keepsOf 15 = .ok (.goto 5, 3) := by decide +kernel
theorem dX12_keepsOf_18 : decode cX12_keepsOf 18 = .ok (.bipush 9, 2) := by decide +kernel
theorem dX12_keepsOf_20 : decode cX12_keepsOf 20 = .ok (.ireturn, 1) := by decide +kernel
theorem dX12_isNameless_0 : decode cX12_isNameless 0 = .ok (.iload_n 0, 1) := by decide +kernel
theorem dX12_isNameless_1 : decode cX12_isNameless 1 = .ok (.iconst 1, 1) := by decide +kernel
theorem dX12_isNameless_2 : decode cX12_isNameless 2 = .ok (.if_icmp .eq 8, 3) := by decide +kernel
theorem dX12_isNameless_5 : decode cX12_isNameless 5 = .ok (.iload_n 0, 1) := by decide +kernel
theorem dX12_isNameless_6 : decode cX12_isNameless 6 = .ok (.iconst 4, 1) := by decide +kernel
theorem dX12_isNameless_7 : decode cX12_isNameless 7 = .ok (.if_icmp .ne 7, 3) := by decide +kernel
theorem dX12_isNameless_10 : decode cX12_isNameless 10 = .ok (.iconst 1, 1) := by decide +kernel
theorem dX12_isNameless_11 : decode cX12_isNameless 11 = .ok (.goto 4, 3) := by decide +kernel
theorem dX12_isNameless_14 : decode cX12_isNameless 14 = .ok (.iconst 0, 1) := by decide +kernel
theorem dX12_isNameless_15 : decode cX12_isNameless 15 = .ok (.ireturn, 1) := by decide +kernel
theorem dX12_takesOut_0 : decode cX12_takesOut 0 = .ok (.aload_n 0, 1) := by decide +kernel
theorem dX12_takesOut_1 : decode cX12_takesOut 1 = .ok (.getfield 28, 3) := by decide +kernel
theorem dX12_takesOut_4 : decode cX12_takesOut 4 = .ok (.iload_n 1, 1) := by decide +kernel
theorem dX12_takesOut_5 : decode cX12_takesOut 5 = .ok (.dup2, 1) := by decide +kernel
theorem dX12_takesOut_6 : decode cX12_takesOut 6 = .ok (.iaload, 1) := by decide +kernel
theorem dX12_takesOut_7 : decode cX12_takesOut 7 = .ok (.iconst 1, 1) := by decide +kernel
theorem dX12_takesOut_8 : decode cX12_takesOut 8 = .ok (.isub, 1) := by decide +kernel
theorem dX12_takesOut_9 : decode cX12_takesOut 9 = .ok (.iastore, 1) := by decide +kernel
theorem dX12_takesOut_10 : decode cX12_takesOut 10 = .ok (.bipush 9, 2) := by decide +kernel
theorem dX12_takesOut_12 : decode cX12_takesOut 12 = .ok (.iload_n 1, 1) := by decide +kernel
theorem dX12_takesOut_13 : decode cX12_takesOut 13 = .ok (.imul, 1) := by decide +kernel
theorem dX12_takesOut_14 : decode cX12_takesOut 14 = .ok (.iload_n 2, 1) := by decide +kernel
theorem dX12_takesOut_15 : decode cX12_takesOut 15 = .ok (.iadd, 1) := by decide +kernel
theorem dX12_takesOut_16 : decode cX12_takesOut 16 = .ok (.istore_n 3, 1) := by decide +kernel
theorem dX12_takesOut_17 : decode cX12_takesOut 17 = .ok (.iload_n 3, 1) := by decide +kernel
theorem dX12_takesOut_18 : decode cX12_takesOut 18 = .ok (.bipush 9, 2) := by decide +kernel
theorem dX12_takesOut_20 : decode cX12_takesOut 20 = .ok (.iload_n 1, 1) := by decide +kernel
theorem dX12_takesOut_21 : decode cX12_takesOut 21 = .ok (.imul, 1) := by decide +kernel
theorem dX12_takesOut_22 : decode cX12_takesOut 22 = .ok (.aload_n 0, 1) := by decide +kernel
theorem dX12_takesOut_23 : decode cX12_takesOut 23 = .ok (.getfield 28, 3) := by decide +kernel
theorem dX12_takesOut_26 : decode cX12_takesOut 26 = .ok (.iload_n 1, 1) := by decide +kernel
theorem dX12_takesOut_27 : decode cX12_takesOut 27 = .ok (.iaload, 1) := by decide +kernel
theorem dX12_takesOut_28 : decode cX12_takesOut 28 = .ok (.iadd, 1) := by decide +kernel
theorem dX12_takesOut_29 : decode cX12_takesOut 29 = .ok (.if_icmp .ge 51, 3) := by decide +kernel
theorem dX12_takesOut_32 : decode cX12_takesOut 32 = .ok (.aload_n 0, 1) := by decide +kernel
theorem dX12_takesOut_33 : decode cX12_takesOut 33 = .ok (.getfield 31, 3) := by decide +kernel
theorem dX12_takesOut_36 : decode cX12_takesOut 36 = .ok (.iload_n 3, 1) := by decide +kernel
theorem dX12_takesOut_37 : decode cX12_takesOut 37 = .ok (.aload_n 0, 1) := by decide +kernel
theorem dX12_takesOut_38 : decode cX12_takesOut 38 = .ok (.getfield 31, 3) := by decide +kernel
theorem dX12_takesOut_41 : decode cX12_takesOut 41 = .ok (.iload_n 3, 1) := by decide +kernel
theorem dX12_takesOut_42 : decode cX12_takesOut 42 = .ok (.iconst 1, 1) := by decide +kernel
theorem dX12_takesOut_43 : decode cX12_takesOut 43 = .ok (.iadd, 1) := by decide +kernel
theorem dX12_takesOut_44 : decode cX12_takesOut 44 = .ok (.iaload, 1) := by decide +kernel
theorem dX12_takesOut_45 : decode cX12_takesOut 45 = .ok (.iastore, 1) := by decide +kernel
theorem dX12_takesOut_46 : decode cX12_takesOut 46 = .ok (.aload_n 0, 1) := by decide +kernel
theorem dX12_takesOut_47 : decode cX12_takesOut 47 = .ok (.getfield 34, 3) := by decide +kernel
theorem dX12_takesOut_50 : decode cX12_takesOut 50 = .ok (.iload_n 3, 1) := by decide +kernel
theorem dX12_takesOut_51 : decode cX12_takesOut 51 = .ok (.aload_n 0, 1) := by decide +kernel
theorem dX12_takesOut_52 : decode cX12_takesOut 52 = .ok (.getfield 34, 3) := by decide +kernel
theorem dX12_takesOut_55 : decode cX12_takesOut 55 = .ok (.iload_n 3, 1) := by decide +kernel
theorem dX12_takesOut_56 : decode cX12_takesOut 56 = .ok (.iconst 1, 1) := by decide +kernel
theorem dX12_takesOut_57 : decode cX12_takesOut 57 = .ok (.iadd, 1) := by decide +kernel
theorem dX12_takesOut_58 : decode cX12_takesOut 58 = .ok (.iaload, 1) := by decide +kernel
theorem dX12_takesOut_59 : decode cX12_takesOut 59 = .ok (.iastore, 1) := by decide +kernel
theorem dX12_takesOut_60 : decode cX12_takesOut 60 = .ok (.aload_n 0, 1) := by decide +kernel
theorem dX12_takesOut_61 : decode cX12_takesOut 61 = .ok (.getfield 37, 3) := by decide +kernel
theorem dX12_takesOut_64 : decode cX12_takesOut 64 = .ok (.iload_n 3, 1) := by decide +kernel
theorem dX12_takesOut_65 : decode cX12_takesOut 65 = .ok (.aload_n 0, 1) := by decide +kernel
theorem dX12_takesOut_66 : decode cX12_takesOut 66 = .ok (.getfield 37, 3) := by decide +kernel
theorem dX12_takesOut_69 : decode cX12_takesOut 69 = .ok (.iload_n 3, 1) := by decide +kernel
theorem dX12_takesOut_70 : decode cX12_takesOut 70 = .ok (.iconst 1, 1) := by decide +kernel
theorem dX12_takesOut_71 : decode cX12_takesOut 71 = .ok (.iadd, 1) := by decide +kernel
theorem dX12_takesOut_72 : decode cX12_takesOut 72 = .ok (.iaload, 1) := by decide +kernel
theorem dX12_takesOut_73 : decode cX12_takesOut 73 = .ok (.iastore, 1) := by decide +kernel
theorem dX12_takesOut_74 : decode cX12_takesOut 74 = .ok (.iinc 3 1, 3) := by decide +kernel
theorem dX12_takesOut_77 : decode cX12_takesOut 77 = .ok (.goto (-60), 3) := by decide +kernel
theorem dX12_takesOut_80 : decode cX12_takesOut 80 = .ok (.return_, 1) := by decide +kernel
set_option maxRecDepth 20000 in
theorem ggX12_keepsScene_X12_keepsOf : GoodIn wsX12_keepsScene wsX12_keepsOf := goodIn_r _ [10] (by decide +kernel) (by decide +kernel)
set_option maxRecDepth 20000 in
theorem gX12_keepsScene_X12_keepsOf : GoodIn wsX12_keepsScene (va_wsS RX12 211 yX12_keepsOf wsX12_keepsOf) := goodIn_app (goodIn_of _ (by decide +kernel)) ggX12_keepsScene_X12_keepsOf
set_option maxRecDepth 20000 in
theorem ggX12_keepsScene_X12_takesOut : GoodIn wsX12_keepsScene wsX12_takesOut := goodIn_r _ [14, 2, 4, 3, 5, 18, 19, 20, 21, 22, 23, 24, 25, 26, 27, 28, 29, 30, 31, 32, 33, 34, 35, 36, 37, 38, 39, 40, 41, 42, 43, 44, 45, 46, 47, 48, 49, 50] (by decide +kernel) (by decide +kernel)
set_option maxRecDepth 20000 in
theorem gX12_keepsScene_X12_takesOut : GoodIn wsX12_keepsScene (wsV RX12 214 RX12 yX12_takesOut wsX12_takesOut) := goodIn_app (goodIn_of _ (by decide +kernel)) ggX12_keepsScene_X12_takesOut
set_option maxRecDepth 20000 in
theorem ggX12_keepsScene_X12_isNameless : GoodIn wsX12_keepsScene wsX12_isNameless := goodIn_r _ [17] (by decide +kernel) (by decide +kernel)
set_option maxRecDepth 20000 in
theorem gX12_keepsScene_X12_isNameless : GoodIn wsX12_keepsScene (va_wsS RX12 217 yX12_isNameless wsX12_isNameless) := goodIn_app (goodIn_of _ (by decide +kernel)) ggX12_keepsScene_X12_isNameless
theorem dX12_keepsScene_0 : decode cX12_keepsScene 0 = .ok (.aload_n 0, 1) := by decide +kernel
theorem dX12_keepsScene_1 : decode cX12_keepsScene 1 = .ok (.getfield 16, 3) := by decide +kernel
theorem dX12_keepsScene_4 : decode cX12_keepsScene 4 = .ok (.iload_n 1, 1) := by decide +kernel
theorem dX12_keepsScene_5 : decode cX12_keepsScene 5 = .ok (.iaload, 1) := by decide +kernel
theorem dX12_keepsScene_6 : decode cX12_keepsScene 6 = .ok (.invokestatic 211, 3) := by decide +kernel
theorem dX12_keepsScene_9 : decode cX12_keepsScene 9 = .ok (.istore 4, 2) := by decide +kernel
theorem dX12_keepsScene_11 : decode cX12_keepsScene 11 = .ok (.iload 4, 2) := by decide +kernel
theorem dX12_keepsScene_13 : decode cX12_keepsScene 13 = .ok (.ifCond .ne 4, 3) := by decide +kernel
theorem dX12_keepsScene_16 : decode cX12_keepsScene 16 = .ok (.return_, 1) := by decide +kernel
theorem dX12_keepsScene_17 : decode cX12_keepsScene 17 = .ok (.iconst 0, 1) := by decide +kernel
theorem dX12_keepsScene_18 : decode cX12_keepsScene 18 = .ok (.istore 5, 2) := by decide +kernel
theorem dX12_keepsScene_20 : decode cX12_keepsScene 20 = .ok (.iload 5, 2) := by decide +kernel
theorem dX12_keepsScene_22 : decode cX12_keepsScene 22 = .ok (.aload_n 0, 1) := by decide +kernel
theorem dX12_keepsScene_23 : decode cX12_keepsScene 23 = .ok (.getfield 28, 3) := by decide +kernel
theorem dX12_keepsScene_26 : decode cX12_keepsScene 26 = .ok (.iload_n 1, 1) := by decide +kernel
theorem dX12_keepsScene_27 : decode cX12_keepsScene 27 = .ok (.iaload, 1) := by decide +kernel
theorem dX12_keepsScene_28 : decode cX12_keepsScene 28 = .ok (.if_icmp .ge 48, 3) := by decide +kernel
theorem dX12_keepsScene_31 : decode cX12_keepsScene 31 = .ok (.aload_n 0, 1) := by decide +kernel
theorem dX12_keepsScene_32 : decode cX12_keepsScene 32 = .ok (.getfield 16, 3) := by decide +kernel
theorem dX12_keepsScene_35 : decode cX12_keepsScene 35 = .ok (.iload_n 1, 1) := by decide +kernel
theorem dX12_keepsScene_36 : decode cX12_keepsScene 36 = .ok (.iaload, 1) := by decide +kernel
theorem dX12_keepsScene_37 : decode cX12_keepsScene 37 = .ok (.iconst 5, 1) := by decide +kernel
theorem dX12_keepsScene_38 : decode cX12_keepsScene 38 = .ok (.if_icmp .lt 38, 3) := by decide +kernel
theorem dX12_keepsScene_41 : decode cX12_keepsScene 41 = .ok (.aload_n 0, 1) := by decide +kernel
theorem dX12_keepsScene_42 : decode cX12_keepsScene 42 = .ok (.getfield 34, 3) := by decide +kernel
theorem dX12_keepsScene_45 : decode cX12_keepsScene 45 = .ok (.bipush 9, 2) := by decide +kernel
theorem dX12_keepsScene_47 : decode cX12_keepsScene 47 = .ok (.iload_n 1, 1) := by decide +kernel
theorem dX12_keepsScene_48 : decode cX12_keepsScene 48 = .ok (.imul, 1) := by decide +kernel
theorem dX12_keepsScene_49 : decode cX12_keepsScene 49 = .ok (.iload 5, 2) := by decide +kernel
theorem dX12_keepsScene_51 : decode cX12_keepsScene 51 = .ok (.iadd, 1) := by decide +kernel
theorem dX12_keepsScene_52 : decode cX12_keepsScene 52 = .ok (.iaload, 1) := by decide +kernel
theorem dX12_keepsScene_53 : decode cX12_keepsScene 53 = .ok (.iload_n 3, 1) := by decide +kernel
theorem dX12_keepsScene_54 : decode cX12_keepsScene 54 = .ok (.if_icmp .eq 6, 3) := by decide +kernel
theorem dX12_keepsScene_57 : decode cX12_keepsScene 57 = .ok (.goto 13, 3) := by decide +kernel
theorem dX12_keepsScene_60 : decode cX12_keepsScene 60 = .ok (.aload_n 0, 1) := by decide +kernel
theorem dX12_keepsScene_61 : decode cX12_keepsScene 61 = .ok (.iload_n 1, 1) := by decide +kernel
theorem dX12_keepsScene_62 : decode cX12_keepsScene 62 = .ok (.iload 5, 2) := by decide +kernel
theorem dX12_keepsScene_64 : decode cX12_keepsScene 64 = .ok (.invokevirtual 214, 3) := by decide +kernel
theorem dX12_keepsScene_67 : decode cX12_keepsScene 67 = .ok (.goto 9, 3) := by decide +kernel
theorem dX12_keepsScene_70 : decode cX12_keepsScene 70 = .ok (.iinc 5 1, 3) := by decide +kernel
theorem dX12_keepsScene_73 : decode cX12_keepsScene 73 = .ok (.goto (-53), 3) := by decide +kernel
theorem dX12_keepsScene_76 : decode cX12_keepsScene 76 = .ok (.aload_n 0, 1) := by decide +kernel
theorem dX12_keepsScene_77 : decode cX12_keepsScene 77 = .ok (.getfield 28, 3) := by decide +kernel
theorem dX12_keepsScene_80 : decode cX12_keepsScene 80 = .ok (.iload_n 1, 1) := by decide +kernel
theorem dX12_keepsScene_81 : decode cX12_keepsScene 81 = .ok (.iaload, 1) := by decide +kernel
theorem dX12_keepsScene_82 : decode cX12_keepsScene 82 = .ok (.iload 4, 2) := by decide +kernel
theorem dX12_keepsScene_84 : decode cX12_keepsScene 84 = .ok (.if_icmp .ne 9, 3) := by decide +kernel
theorem dX12_keepsScene_87 : decode cX12_keepsScene 87 = .ok (.aload_n 0, 1) := by decide +kernel
theorem dX12_keepsScene_88 : decode cX12_keepsScene 88 = .ok (.iload_n 1, 1) := by decide +kernel
theorem dX12_keepsScene_89 : decode cX12_keepsScene 89 = .ok (.iconst 0, 1) := by decide +kernel
theorem dX12_keepsScene_90 : decode cX12_keepsScene 90 = .ok (.invokevirtual 214, 3) := by decide +kernel
theorem dX12_keepsScene_93 : decode cX12_keepsScene 93 = .ok (.bipush 9, 2) := by decide +kernel
theorem dX12_keepsScene_95 : decode cX12_keepsScene 95 = .ok (.iload_n 1, 1) := by decide +kernel
theorem dX12_keepsScene_96 : decode cX12_keepsScene 96 = .ok (.imul, 1) := by decide +kernel
theorem dX12_keepsScene_97 : decode cX12_keepsScene 97 = .ok (.aload_n 0, 1) := by decide +kernel
theorem dX12_keepsScene_98 : decode cX12_keepsScene 98 = .ok (.getfield 28, 3) := by decide +kernel
theorem dX12_keepsScene_101 : decode cX12_keepsScene 101 = .ok (.iload_n 1, 1) := by decide +kernel
theorem dX12_keepsScene_102 : decode cX12_keepsScene 102 = .ok (.iaload, 1) := by decide +kernel
theorem dX12_keepsScene_103 : decode cX12_keepsScene 103 = .ok (.iadd, 1) := by decide +kernel
theorem dX12_keepsScene_104 : decode cX12_keepsScene 104 = .ok (.istore 5, 2) := by decide +kernel
theorem dX12_keepsScene_106 : decode cX12_keepsScene 106 = .ok (.aload_n 0, 1) := by decide +kernel
theorem dX12_keepsScene_107 : decode cX12_keepsScene 107 = .ok (.getfield 31, 3) := by decide +kernel
theorem dX12_keepsScene_110 : decode cX12_keepsScene 110 = .ok (.iload 5, 2) := by decide +kernel
theorem dX12_keepsScene_112 : decode cX12_keepsScene 112 = .ok (.aload_n 0, 1) := by decide +kernel
theorem dX12_keepsScene_113 : decode cX12_keepsScene 113 = .ok (.getfield 16, 3) := by decide +kernel
theorem dX12_keepsScene_116 : decode cX12_keepsScene 116 = .ok (.iload_n 1, 1) := by decide +kernel
theorem dX12_keepsScene_117 : decode cX12_keepsScene 117 = .ok (.iaload, 1) := by decide +kernel
theorem dX12_keepsScene_118 : decode cX12_keepsScene 118 = .ok (.invokestatic 217, 3) := by decide +kernel
theorem dX12_keepsScene_121 : decode cX12_keepsScene 121 = .ok (.ifCond .eq 8, 3) := by decide +kernel
theorem dX12_keepsScene_124 : decode cX12_keepsScene 124 = .ok (.bipush 9, 2) := by decide +kernel
theorem dX12_keepsScene_126 : decode cX12_keepsScene 126 = .ok (.goto 4, 3) := by decide +kernel
theorem dX12_keepsScene_129 : decode cX12_keepsScene 129 = .ok (.iload_n 2, 1) := by decide +kernel
theorem dX12_keepsScene_130 : decode cX12_keepsScene 130 = .ok (.iastore, 1) := by decide +kernel
theorem dX12_keepsScene_131 : decode cX12_keepsScene 131 = .ok (.aload_n 0, 1) := by decide +kernel
theorem dX12_keepsScene_132 : decode cX12_keepsScene 132 = .ok (.getfield 34, 3) := by decide +kernel
theorem dX12_keepsScene_135 : decode cX12_keepsScene 135 = .ok (.iload 5, 2) := by decide +kernel
theorem dX12_keepsScene_137 : decode cX12_keepsScene 137 = .ok (.iload_n 3, 1) := by decide +kernel
theorem dX12_keepsScene_138 : decode cX12_keepsScene 138 = .ok (.iastore, 1) := by decide +kernel
theorem dX12_keepsScene_139 : decode cX12_keepsScene 139 = .ok (.aload_n 0, 1) := by decide +kernel
theorem dX12_keepsScene_140 : decode cX12_keepsScene 140 = .ok (.getfield 37, 3) := by decide +kernel
theorem dX12_keepsScene_143 : decode cX12_keepsScene 143 = .ok (.iload 5, 2) := by decide +kernel
theorem dX12_keepsScene_145 : decode cX12_keepsScene 145 = .ok (.aload_n 0, 1) := by decide +kernel
theorem dX12_keepsScene_146 : decode cX12_keepsScene 146 = .ok (.getfield 139, 3) := by decide +kernel
theorem dX12_keepsScene_149 : decode cX12_keepsScene 149 = .ok (.iastore, 1) := by decide +kernel
theorem dX12_keepsScene_150 : decode cX12_keepsScene 150 = .ok (.aload_n 0, 1) := by decide +kernel
theorem dX12_keepsScene_151 : decode cX12_keepsScene 151 = .ok (.getfield 28, 3) := by decide +kernel
theorem dX12_keepsScene_154 : decode cX12_keepsScene 154 = .ok (.iload_n 1, 1) := by decide +kernel
theorem dX12_keepsScene_155 : decode cX12_keepsScene 155 = .ok (.dup2, 1) := by decide +kernel
theorem dX12_keepsScene_156 : decode cX12_keepsScene 156 = .ok (.iaload, 1) := by decide +kernel
theorem dX12_keepsScene_157 : decode cX12_keepsScene 157 = .ok (.iconst 1, 1) := by decide +kernel
theorem dX12_keepsScene_158 : decode cX12_keepsScene 158 = .ok (.iadd, 1) := by decide +kernel
theorem dX12_keepsScene_159 : decode cX12_keepsScene 159 = .ok (.iastore, 1) := by decide +kernel
theorem dX12_keepsScene_160 : decode cX12_keepsScene 160 = .ok (.return_, 1) := by decide +kernel
set_option maxRecDepth 20000 in
theorem ggX12_stepsTo_X12_findLit : GoodIn wsX12_stepsTo wsX12_findLit := goodIn_r _ [10, 5, 3, 11, 12, 13, 14, 15, 9, 16, 17, 18, 19, 1, 20, 21, 22, 23, 24, 25, 26, 27, 28, 29, 30, 31, 32, 33, 34, 35, 36, 37, 38, 39, 40, 41, 42, 64, 65, 66, 67, 68, 69, 70, 71, 72, 73, 74, 75, 76, 77, 78, 79, 80, 81, 82, 83, 84, 85, 86, 87, 88, 89, 90, 91, 92, 93, 94, 95, 96] (by decide +kernel) (by decide +kernel)
set_option maxRecDepth 20000 in
theorem gX12_stepsTo_X12_findLit : GoodIn wsX12_stepsTo (wsV RX12 220 RX12 yX12_findLit wsX12_findLit) := goodIn_app (goodIn_of _ (by decide +kernel)) ggX12_stepsTo_X12_findLit
set_option maxRecDepth 20000 in
theorem ggX12_stepsTo_X12_has : GoodIn wsX12_stepsTo wsX12_has := goodIn_r _ [45] (by decide +kernel) (by decide +kernel)
set_option maxRecDepth 20000 in
theorem gX12_stepsTo_X12_has : GoodIn wsX12_stepsTo (va_wsS RX12 223 yX12_has wsX12_has) := goodIn_app (goodIn_of _ (by decide +kernel)) ggX12_stepsTo_X12_has
set_option maxRecDepth 20000 in
theorem ggX12_stepsTo_X12_keepsScene : GoodIn wsX12_stepsTo wsX12_keepsScene := goodIn_r _ [49, 18, 50, 51, 52, 53, 2, 54, 55, 9, 56, 57, 58, 59, 60, 61, 62, 63, 64, 65, 66, 67, 68, 69, 70, 71, 72, 73, 74, 75, 76, 77, 78, 79, 80, 81, 82, 83, 84, 85, 86, 87, 88, 89, 90, 91, 92, 93, 94, 95, 96] (by decide +kernel) (by decide +kernel)
set_option maxRecDepth 20000 in
theorem gX12_stepsTo_X12_keepsScene : GoodIn wsX12_stepsTo (wsV RX12 226 RX12 yX12_keepsScene wsX12_keepsScene) := goodIn_app (goodIn_of _ (by decide +kernel)) ggX12_stepsTo_X12_keepsScene
theorem dX12_stepsTo_0 : decode cX12_stepsTo 0 = .ok (.aload_n 0, 1) := by decide +kernel
theorem dX12_stepsTo_1 : decode cX12_stepsTo 1 = .ok (.getfield 40, 3) := by decide +kernel
theorem dX12_stepsTo_4 : decode cX12_stepsTo 4 = .ok (.iload_n 1, 1) := by decide +kernel
theorem dX12_stepsTo_5 : decode cX12_stepsTo 5 = .ok (.iload_n 2, 1) := by decide +kernel
theorem dX12_stepsTo_6 : decode cX12_stepsTo 6 = .ok (.iastore, 1) := by decide +kernel
theorem dX12_stepsTo_7 : decode cX12_stepsTo 7 = .ok (.aload_n 0, 1) := by decide +kernel
theorem dX12_stepsTo_8 : decode cX12_stepsTo 8 = .ok (.dup, 1) := by decide +kernel
theorem dX12_stepsTo_9 : decode cX12_stepsTo 9 = .ok (.getfield 139, 3) := by decide +kernel
theorem dX12_stepsTo_12 : decode cX12_stepsTo 12 = .ok (.iconst 1, 1) := by decide +kernel
theorem dX12_stepsTo_13 : decode cX12_stepsTo 13 = .ok (.iadd, 1) := by decide +kernel
theorem dX12_stepsTo_14 : decode cX12_stepsTo 14 = .ok (.putfield 139, 3) := by decide +kernel
theorem dX12_stepsTo_17 : decode cX12_stepsTo 17 = .ok (.aload_n 0, 1) := by decide +kernel
theorem dX12_stepsTo_18 : decode cX12_stepsTo 18 = .ok (.invokevirtual 220, 3) := by decide +kernel
theorem dX12_stepsTo_21 : decode cX12_stepsTo 21 = .ok (.iconst 0, 1) := by decide +kernel
theorem dX12_stepsTo_22 : decode cX12_stepsTo 22 = .ok (.istore_n 3, 1) := by decide +kernel
theorem dX12_stepsTo_23 : decode cX12_stepsTo 23 = .ok (.iload_n 3, 1) := by decide +kernel
theorem dX12_stepsTo_24 : decode cX12_stepsTo 24 = .ok (.aload_n 0, 1) := by decide +kernel
theorem dX12_stepsTo_25 : decode cX12_stepsTo 25 = .ok (.getfield 76, 3) := by decide +kernel
theorem dX12_stepsTo_28 : decode cX12_stepsTo 28 = .ok (.if_icmp .ge 39, 3) := by decide +kernel
theorem dX12_stepsTo_31 : decode cX12_stepsTo 31 = .ok (.aload_n 0, 1) := by decide +kernel
theorem dX12_stepsTo_32 : decode cX12_stepsTo 32 = .ok (.getfield 25, 3) := by decide +kernel
theorem dX12_stepsTo_35 : decode cX12_stepsTo 35 = .ok (.iload_n 3, 1) := by decide +kernel
theorem dX12_stepsTo_36 : decode cX12_stepsTo 36 = .ok (.iaload, 1) := by decide +kernel
theorem dX12_stepsTo_37 : decode cX12_stepsTo 37 = .ok (.iconst 1, 1) := by decide +kernel
theorem dX12_stepsTo_38 : decode cX12_stepsTo 38 = .ok (.if_icmp .ne 23, 3) := by decide +kernel
theorem dX12_stepsTo_41 : decode cX12_stepsTo 41 = .ok (.aload_n 0, 1) := by decide +kernel
theorem dX12_stepsTo_42 : decode cX12_stepsTo 42 = .ok (.getfield 67, 3) := by decide +kernel
theorem dX12_stepsTo_45 : decode cX12_stepsTo 45 = .ok (.iload_n 2, 1) := by decide +kernel
theorem dX12_stepsTo_46 : decode cX12_stepsTo 46 = .ok (.iaload, 1) := by decide +kernel
theorem dX12_stepsTo_47 : decode cX12_stepsTo 47 = .ok (.iload_n 3, 1) := by decide +kernel
theorem dX12_stepsTo_48 : decode cX12_stepsTo 48 = .ok (.invokestatic 223, 3) := by decide +kernel
theorem dX12_stepsTo_51 : decode cX12_stepsTo 51 = .ok (.ifCond .eq 10, 3) := by decide +kernel
theorem dX12_stepsTo_54 : decode cX12_stepsTo 54 = .ok (.aload_n 0, 1) := by decide +kernel
theorem dX12_stepsTo_55 : decode cX12_stepsTo 55 = .ok (.iload_n 3, 1) := by decide +kernel
theorem dX12_stepsTo_56 : decode cX12_stepsTo 56 = .ok (.iload_n 1, 1) := by decide +kernel
theorem dX12_stepsTo_57 : decode cX12_stepsTo 57 = .ok (.iload_n 2, 1) := by decide +kernel
theorem dX12_stepsTo_58 : decode cX12_stepsTo 58 = .ok (.invokevirtual 226, 3) := by decide +kernel
theorem dX12_stepsTo_61 : decode cX12_stepsTo 61 = .ok (.iinc 3 1, 3) := by decide +kernel
theorem dX12_stepsTo_64 : decode cX12_stepsTo 64 = .ok (.goto (-41), 3) := by decide +kernel
theorem dX12_stepsTo_67 : decode cX12_stepsTo 67 = .ok (.return_, 1) := by decide +kernel
set_option maxRecDepth 20000 in
theorem ggX12_goesTo_X12_shutsWalls : GoodIn wsX12_goesTo wsX12_shutsWalls := goodIn_r _ [7, 8, 9, 68, 69, 70, 71, 72, 73, 74, 75, 76, 77, 78, 79, 80, 81, 82, 83, 84, 85, 86, 87, 88, 89, 90, 91, 92, 93, 94, 95, 96, 97, 98, 99, 100] (by decide +kernel) (by decide +kernel)
set_option maxRecDepth 20000 in
theorem gX12_goesTo_X12_shutsWalls : GoodIn wsX12_goesTo (wsV RX12 198 RX12 yX12_shutsWalls wsX12_shutsWalls) := goodIn_app (goodIn_of _ (by decide +kernel)) ggX12_goesTo_X12_shutsWalls
set_option maxRecDepth 20000 in
theorem ggX12_goesTo_X12_findFar : GoodIn wsX12_goesTo wsX12_findFar := goodIn_r _ [13, 2, 14, 15, 16, 17, 18, 6, 19, 8, 20, 21, 22, 68, 69, 70, 71, 72, 73, 74, 75, 76, 77, 78, 79, 80, 81, 82, 83, 84, 85, 86, 87, 88, 89, 90, 91, 92, 93, 94, 95, 96, 97, 98, 99, 100] (by decide +kernel) (by decide +kernel)
set_option maxRecDepth 20000 in
theorem gX12_goesTo_X12_findFar : GoodIn wsX12_goesTo (wsV RX12 201 RX12 yX12_findFar wsX12_findFar) := goodIn_app (goodIn_of _ (by decide +kernel)) ggX12_goesTo_X12_findFar
set_option maxRecDepth 20000 in
theorem ggX12_goesTo_X12_beside : GoodIn wsX12_goesTo wsX12_beside := goodIn_r _ [22] (by decide +kernel) (by decide +kernel)
set_option maxRecDepth 20000 in
theorem gX12_goesTo_X12_beside : GoodIn wsX12_goesTo (va_wsS RX12 195 yX12_beside wsX12_beside) := goodIn_app (goodIn_of _ (by decide +kernel)) ggX12_goesTo_X12_beside
set_option maxRecDepth 20000 in
theorem ggX12_goesTo_X12_stepsTo : GoodIn wsX12_goesTo wsX12_stepsTo := goodIn_r _ [26, 1, 27, 28, 29, 30, 31, 32, 33, 6, 34, 35, 2, 36, 37, 38, 39, 40, 41, 42, 43, 44, 45, 46, 9, 3, 4, 5, 7, 8, 10, 11, 12, 13, 14, 15, 16, 17, 18, 19, 20, 21, 22, 47, 48, 49, 50, 51, 52, 53, 54, 55, 56, 57, 58, 59, 60, 61, 62, 63, 64, 65, 66, 67, 68, 69, 70, 71, 72, 73, 74, 75, 76, 77, 78, 79, 80, 81, 82, 83, 84, 85, 86, 87, 88, 89, 90, 91, 92, 93, 94, 95, 96, 97, 98, 99, 100] (by decide +kernel) (by decide +kernel)
set_option maxRecDepth 20000 in
theorem gX12_goesTo_X12_stepsTo : GoodIn wsX12_goesTo (wsV RX12 230 RX12 yX12_stepsTo wsX12_stepsTo) := goodIn_app (goodIn_of _ (by decide +kernel)) ggX12_goesTo_X12_stepsTo
theorem dX12_goesTo_0 : decode cX12_goesTo 0 = .ok (.iconst 0, 1) := by decide +kernel
theorem dX12_goesTo_1 : decode cX12_goesTo 1 = .ok (.istore_n 3, 1) := by decide +kernel
theorem dX12_goesTo_2 : decode cX12_goesTo 2 = .ok (.aload_n 0, 1) := by decide +kernel
theorem dX12_goesTo_3 : decode cX12_goesTo 3 = .ok (.getfield 40, 3) := by decide +kernel
theorem dX12_goesTo_6 : decode cX12_goesTo 6 = .ok (.iload_n 1, 1) := by decide +kernel
theorem dX12_goesTo_7 : decode cX12_goesTo 7 = .ok (.iaload, 1) := by decide +kernel
theorem dX12_goesTo_8 : decode cX12_goesTo 8 = .ok (.iload_n 2, 1) := by decide +kernel
theorem dX12_goesTo_9 : decode cX12_goesTo 9 = .ok (.if_icmp .eq 101, 3) := by decide +kernel
theorem dX12_goesTo_12 : decode cX12_goesTo 12 = .ok (.aload_n 0, 1) := by decide +kernel
theorem dX12_goesTo_13 : decode cX12_goesTo 13 = .ok (.invokevirtual 198, 3) := by decide +kernel
theorem dX12_goesTo_16 : decode cX12_goesTo 16 = .ok (.aload_n 0, 1) := by decide +kernel
theorem dX12_goesTo_17 : decode cX12_goesTo 17 = .ok (.iload_n 2, 1) := by decide +kernel
theorem dX12_goesTo_18 : decode cX12_goesTo 18 = .ok (.invokevirtual 201, 3) := by decide +kernel
theorem dX12_goesTo_21 : decode cX12_goesTo 21 = .ok (.bipush (-9), 2) := by decide +kernel
theorem dX12_goesTo_23 : decode cX12_goesTo 23 = .ok (.istore 4, 2) := by decide +kernel
theorem dX12_goesTo_25 : decode cX12_goesTo 25 = .ok (.iconst 0, 1) := by decide +kernel
theorem dX12_goesTo_26 : decode cX12_goesTo 26 = .ok (.istore 5, 2) := by decide +kernel
theorem dX12_goesTo_28 : decode cX12_goesTo 28 = .ok (.iload 5, 2) := by decide +kernel
theorem dX12_goesTo_30 : decode cX12_goesTo 30 = .ok (.iconst 4, 1) := by decide +kernel
theorem dX12_goesTo_31 : decode cX12_goesTo 31 = .ok (.if_icmp .ge 66, 3) := by decide +kernel
theorem dX12_goesTo_34 : decode cX12_goesTo 34 = .ok (.aload_n 0, 1) := by decide +kernel
theorem dX12_goesTo_35 : decode cX12_goesTo 35 = .ok (.getfield 40, 3) := by decide +kernel
theorem dX12_goesTo_38 : decode cX12_goesTo 38 = .ok (.iload_n 1, 1) := by decide +kernel
theorem dX12_goesTo_39 : decode cX12_goesTo 39 = .ok (.iaload, 1) := by decide +kernel
theorem dX12_goesTo_40 : decode cX12_goesTo 40 = .ok (.iload 5, 2) := by decide +kernel
theorem dX12_goesTo_42 : decode cX12_goesTo 42 = .ok (.invokestatic 195, 3) := by decide +kernel
theorem dX12_goesTo_45 : decode cX12_goesTo 45 = .ok (.istore 6, 2) := by decide +kernel
theorem dX12_goesTo_47 : decode cX12_goesTo 47 = .ok (.iload 6, 2) := by decide +kernel
theorem dX12_goesTo_49 : decode cX12_goesTo 49 = .ok (.ifCond .lt 42, 3) := by decide +kernel
theorem dX12_goesTo_52 : decode cX12_goesTo 52 = .ok (.aload_n 0, 1) := by decide +kernel
theorem dX12_goesTo_53 : decode cX12_goesTo 53 = .ok (.getfield 58, 3) := by decide +kernel
theorem dX12_goesTo_56 : decode cX12_goesTo 56 = .ok (.iload 6, 2) := by decide +kernel
theorem dX12_goesTo_58 : decode cX12_goesTo 58 = .ok (.iaload, 1) := by decide +kernel
theorem dX12_goesTo_59 : decode cX12_goesTo 59 = .ok (.aload_n 0, 1) := by decide +kernel
theorem dX12_goesTo_60 : decode cX12_goesTo 60 = .ok (.getfield 58, 3) := by decide +kernel
theorem dX12_goesTo_63 : decode cX12_goesTo 63 = .ok (.aload_n 0, 1) := by decide +kernel
theorem dX12_goesTo_64 : decode cX12_goesTo 64 = .ok (.getfield 40, 3) := by decide +kernel
theorem dX12_goesTo_67 : decode cX12_goesTo 67 = .ok (.iload_n 1, 1) := by decide +kernel
theorem dX12_goesTo_68 : decode cX12_goesTo 68 = .ok (.iaload, 1) := by decide +kernel
theorem dX12_goesTo_69 : decode cX12_goesTo 69 = .ok (.iaload, 1) := by decide +kernel
theorem dX12_goesTo_70 : decode cX12_goesTo 70 = .ok (.iconst 1, 1) := by decide +kernel
theorem dX12_goesTo_71 : decode cX12_goesTo 71 = .ok (.isub, 1) := by decide +kernel
theorem dX12_goesTo_72 : decode cX12_goesTo 72 = .ok (.if_icmp .ne 19, 3) := by decide +kernel
theorem dX12_goesTo_75 : decode cX12_goesTo 75 = .ok (.iload 4, 2) := by decide +kernel
theorem dX12_goesTo_77 : decode cX12_goesTo 77 = .ok (.ifCond .lt 10, 3) := by decide +kernel
theorem dX12_goesTo_80 : decode cX12_goesTo 80 = .ok (.iload 6, 2) := by decide +kernel
theorem dX12_goesTo_82 : decode cX12_goesTo 82 = .ok (.iload 4, 2) := by decide +kernel
theorem dX12_goesTo_84 : decode cX12_goesTo 84 = .ok (.if_icmp .ge 7, 3) := by decide +kernel
theorem dX12_goesTo_87 : decode cX12_goesTo 87 = .ok (.iload 6, 2) := by decide +kernel
theorem dX12_goesTo_89 : decode cX12_goesTo 89 = .ok (.istore 4, 2) := by decide +kernel
theorem dX12_goesTo_91 : decode cX12_goesTo 91 = .ok (.iinc 5 1, 3) := by decide +kernel
theorem dX12_goesTo_94 : decode cX12_goesTo 94 = .ok (.goto (-66), 3) := by decide +kernel
theorem dX12_goesTo_97 : decode cX12_goesTo 97 = .ok (.aload_n 0, 1) := by decide +kernel
theorem dX12_goesTo_98 : decode cX12_goesTo 98 = .ok (.iload_n 1, 1) := by decide +kernel
theorem dX12_goesTo_99 : decode cX12_goesTo 99 = .ok (.iload 4, 2) := by decide +kernel
theorem dX12_goesTo_101 : decode cX12_goesTo 101 = .ok (.invokevirtual 230, 3) := by decide +kernel
theorem dX12_goesTo_104 : decode cX12_goesTo 104 = .ok (.iinc 3 1, 3) := by decide +kernel
theorem dX12_goesTo_107 : decode cX12_goesTo 107 = .ok (.goto (-105), 3) := by decide +kernel
theorem dX12_goesTo_110 : decode cX12_goesTo 110 = .ok (.iload_n 3, 1) := by decide +kernel
theorem dX12_goesTo_111 : decode cX12_goesTo 111 = .ok (.ireturn, 1) := by decide +kernel
set_option maxRecDepth 20000 in
theorem ggX12_lamp_X12_isLamp : GoodIn wsX12_lamp wsX12_isLamp := goodIn_r _ [9, 10, 56, 57, 58, 59, 60, 61, 62, 63, 64, 65, 66, 67, 68, 69, 70, 71, 72, 73, 74, 75, 76, 77, 78, 79, 80, 81, 82, 83, 84, 85, 86, 87, 88] (by decide +kernel) (by decide +kernel)
set_option maxRecDepth 20000 in
theorem gX12_lamp_X12_isLamp : GoodIn wsX12_lamp (wsV RX12 157 RX12 yX12_isLamp wsX12_isLamp) := goodIn_app (goodIn_of _ (by decide +kernel)) ggX12_lamp_X12_isLamp
set_option maxRecDepth 20000 in
theorem ggX12_lamp_X12_no : GoodIn wsX12_lamp wsX12_no := goodIn_r _ [14, 15, 56, 57, 58, 59, 60, 61, 62, 63, 64, 65, 66, 67, 68, 69, 70, 71, 72, 73, 74, 75, 76, 77, 78, 79, 80, 81, 82, 83, 84, 85, 86, 87, 88] (by decide +kernel) (by decide +kernel)
set_option maxRecDepth 20000 in
theorem gX12_lamp_X12_no : GoodIn wsX12_lamp (wsV RX12 91 RX12 yX12_no wsX12_no) := goodIn_app (goodIn_of _ (by decide +kernel)) ggX12_lamp_X12_no
set_option maxRecDepth 20000 in
theorem ggX12_lamp_X12_cellOf : GoodIn wsX12_lamp wsX12_cellOf := goodIn_r _ [19, 20, 1, 21, 22, 56, 57, 58, 59, 60, 61, 62, 63, 64, 65, 66, 67, 68, 69, 70, 71, 72, 73, 74, 75, 76, 77, 78, 79, 80, 81, 82, 83, 84, 85, 86, 87, 88] (by decide +kernel) (by decide +kernel)
set_option maxRecDepth 20000 in
theorem gX12_lamp_X12_cellOf : GoodIn wsX12_lamp (wsV RX12 205 RX12 yX12_cellOf wsX12_cellOf) := goodIn_app (goodIn_of _ (by decide +kernel)) ggX12_lamp_X12_cellOf
set_option maxRecDepth 20000 in
theorem ggX12_lamp_X12_cellsLitBy : GoodIn wsX12_lamp wsX12_cellsLitBy := goodIn_r _ [26, 27, 28, 29, 30, 8, 31, 10, 2, 32, 16, 17, 18, 19, 20, 1, 21, 22, 33, 34, 35, 36, 37, 38, 39, 40, 41, 42, 43, 44, 45, 46, 47, 48, 49, 50, 51, 52, 53, 54, 55, 56, 57, 58, 59, 60, 61, 62, 63, 64, 65, 66, 67, 68, 69, 70, 71, 72, 73, 74, 75, 76, 77, 78, 79, 80, 81, 82, 83, 84, 85, 86, 87, 88] (by decide +kernel) (by decide +kernel)
set_option maxRecDepth 20000 in
theorem gX12_lamp_X12_cellsLitBy : GoodIn wsX12_lamp (wsV RX12 233 RX12 yX12_cellsLitBy wsX12_cellsLitBy) := goodIn_app (goodIn_of _ (by decide +kernel)) ggX12_lamp_X12_cellsLitBy
theorem dX12_lamp_0 : decode cX12_lamp 0 = .ok (.aload_n 0, 1) := by decide +kernel
theorem dX12_lamp_1 : decode cX12_lamp 1 = .ok (.iload_n 1, 1) := by decide +kernel
theorem dX12_lamp_2 : decode cX12_lamp 2 = .ok (.invokevirtual 157, 3) := by decide +kernel
theorem dX12_lamp_5 : decode cX12_lamp 5 = .ok (.ifCond .ne 9, 3) := by decide +kernel
theorem dX12_lamp_8 : decode cX12_lamp 8 = .ok (.aload_n 0, 1) := by decide +kernel
theorem dX12_lamp_9 : decode cX12_lamp 9 = .ok (.iconst (-1), 1) := by decide +kernel
theorem dX12_lamp_10 : decode cX12_lamp 10 = .ok (.invokevirtual 91, 3) := by decide +kernel
theorem dX12_lamp_13 : decode cX12_lamp 13 = .ok (.ireturn, 1) := by decide +kernel
theorem dX12_lamp_14 : decode cX12_lamp 14 = .ok (.iload_n 2, 1) := by decide +kernel
theorem dX12_lamp_15 : decode cX12_lamp 15 = .ok (.tableswitch 79 0 5 #[37, 44, 50, 57, 64, 71], 37) := by decide +kernel
theorem dX12_lamp_52 : decode cX12_lamp 52 = .ok (.aload_n 0, 1) := by decide +kernel
theorem dX12_lamp_53 : decode cX12_lamp 53 = .ok (.getfield 16, 3) := by decide +kernel
theorem dX12_lamp_56 : decode cX12_lamp 56 = .ok (.iload_n 1, 1) := by decide +kernel
theorem dX12_lamp_57 : decode cX12_lamp 57 = .ok (.iaload, 1) := by decide +kernel
theorem dX12_lamp_58 : decode cX12_lamp 58 = .ok (.ireturn, 1) := by decide +kernel
theorem dX12_lamp_59 : decode cX12_lamp 59 = .ok (.aload_n 0, 1) := by decide +kernel
theorem dX12_lamp_60 : decode cX12_lamp 60 = .ok (.iload_n 1, 1) := by decide +kernel
theorem dX12_lamp_61 : decode cX12_lamp 61 = .ok (.invokevirtual 205, 3) := by decide +kernel
theorem dX12_lamp_64 : decode cX12_lamp 64 = .ok (.ireturn, 1) := by decide +kernel
theorem dX12_lamp_65 : decode cX12_lamp 65 = .ok (.aload_n 0, 1) := by decide +kernel
theorem dX12_lamp_66 : decode cX12_lamp 66 = .ok (.getfield 22, 3) := by decide +kernel
theorem dX12_lamp_69 : decode cX12_lamp 69 = .ok (.iload_n 1, 1) := by decide +kernel
theorem dX12_lamp_70 : decode cX12_lamp 70 = .ok (.iaload, 1) := by decide +kernel
theorem dX12_lamp_71 : decode cX12_lamp 71 = .ok (.ireturn, 1) := by decide +kernel
theorem dX12_lamp_72 : decode cX12_lamp 72 = .ok (.aload_n 0, 1) := by decide +kernel
theorem dX12_lamp_73 : decode cX12_lamp 73 = .ok (.getfield 25, 3) := by decide +kernel
theorem dX12_lamp_76 : decode cX12_lamp 76 = .ok (.iload_n 1, 1) := by decide +kernel
theorem dX12_lamp_77 : decode cX12_lamp 77 = .ok (.iaload, 1) := by decide +kernel
theorem dX12_lamp_78 : decode cX12_lamp 78 = .ok (.ireturn, 1) := by decide +kernel
theorem dX12_lamp_79 : decode cX12_lamp 79 = .ok (.aload_n 0, 1) := by decide +kernel
theorem dX12_lamp_80 : decode cX12_lamp 80 = .ok (.getfield 28, 3) := by decide +kernel
theorem dX12_lamp_83 : decode cX12_lamp 83 = .ok (.iload_n 1, 1) := by decide +kernel
theorem dX12_lamp_84 : decode cX12_lamp 84 = .ok (.iaload, 1) := by decide +kernel
theorem dX12_lamp_85 : decode cX12_lamp 85 = .ok (.ireturn, 1) := by decide +kernel
theorem dX12_lamp_86 : decode cX12_lamp 86 = .ok (.aload_n 0, 1) := by decide +kernel
theorem dX12_lamp_87 : decode cX12_lamp 87 = .ok (.iconst 1, 1) := by decide +kernel
theorem dX12_lamp_88 : decode cX12_lamp 88 = .ok (.iload_n 1, 1) := by decide +kernel
theorem dX12_lamp_89 : decode cX12_lamp 89 = .ok (.ishl, 1) := by decide +kernel
theorem dX12_lamp_90 : decode cX12_lamp 90 = .ok (.invokevirtual 233, 3) := by decide +kernel
theorem dX12_lamp_93 : decode cX12_lamp 93 = .ok (.ireturn, 1) := by decide +kernel
theorem dX12_lamp_94 : decode cX12_lamp 94 = .ok (.aload_n 0, 1) := by decide +kernel
theorem dX12_lamp_95 : decode cX12_lamp 95 = .ok (.bipush (-2), 2) := by decide +kernel
theorem dX12_lamp_97 : decode cX12_lamp 97 = .ok (.invokevirtual 91, 3) := by decide +kernel
theorem dX12_lamp_100 : decode cX12_lamp 100 = .ok (.ireturn, 1) := by decide +kernel
set_option maxRecDepth 20000 in
theorem ggX12_cellsLitBy_X12_findLit : GoodIn wsX12_cellsLitBy wsX12_findLit := goodIn_r _ [6, 1, 7, 8, 9, 10, 11, 12, 5, 13, 14, 15, 16, 17, 18, 19, 20, 21, 22, 23, 24, 25, 26, 27, 28, 29, 30, 31, 32, 33, 34, 35, 36, 37, 38, 39, 40, 41, 42, 43, 44, 45, 46, 47, 48, 49, 50, 51, 52, 53, 54, 55, 56, 57, 58, 59, 60, 61, 62, 63, 64, 65, 66, 67, 68, 69, 70, 71, 72, 73] (by decide +kernel) (by decide +kernel)
set_option maxRecDepth 20000 in
theorem gX12_cellsLitBy_X12_findLit : GoodIn wsX12_cellsLitBy (wsV RX12 220 RX12 yX12_findLit wsX12_findLit) := goodIn_app (goodIn_of _ (by decide +kernel)) ggX12_cellsLitBy_X12_findLit
theorem dX12_cellsLitBy_0 : decode cX12_cellsLitBy 0 = .ok (.aload_n 0, 1) := by decide +kernel
theorem dX12_cellsLitBy_1 : decode cX12_cellsLitBy 1 = .ok (.invokevirtual 220, 3) := by decide +kernel
theorem dX12_cellsLitBy_4 : decode cX12_cellsLitBy 4 = .ok (.iconst 0, 1) := by decide +kernel
theorem dX12_cellsLitBy_5 : decode cX12_cellsLitBy 5 = .ok (.istore_n 2, 1) := by decide +kernel
theorem dX12_cellsLitBy_6 : decode cX12_cellsLitBy 6 = .ok (.iconst 0, 1) := by decide +kernel
theorem dX12_cellsLitBy_7 : decode cX12_cellsLitBy 7 = .ok (.istore_n 3, 1) := by decide +kernel
theorem dX12_cellsLitBy_8 : decode cX12_cellsLitBy 8 = .ok (.iload_n 3, 1) := by decide +kernel
theorem dX12_cellsLitBy_9 : decode cX12_cellsLitBy 9 = .ok (.bipush 36, 2) := by decide +kernel
theorem dX12_cellsLitBy_11 : decode cX12_cellsLitBy 11 = .ok (.if_icmp .ge 28, 3) := by decide +kernel
theorem dX12_cellsLitBy_14 : decode cX12_cellsLitBy 14 = .ok (.iload_n 2, 1) := by decide +kernel
theorem dX12_cellsLitBy_15 : decode cX12_cellsLitBy 15 = .ok (.aload_n 0, 1) := by decide +kernel
theorem dX12_cellsLitBy_16 : decode cX12_cellsLitBy 16 = .ok (.getfield 67, 3) := by decide +kernel
theorem dX12_cellsLitBy_19 : decode cX12_cellsLitBy 19 = .ok (.iload_n 3, 1) := by decide +kernel
theorem dX12_cellsLitBy_20 : decode cX12_cellsLitBy 20 = .ok (.iaload, 1) := by decide +kernel
theorem dX12_cellsLitBy_21 : decode cX12_cellsLitBy 21 = .ok (.iload_n 1, 1) := by decide +kernel
theorem dX12_cellsLitBy_22 : decode cX12_cellsLitBy 22 = .ok (.iand, 1) := by decide +kernel
theorem dX12_cellsLitBy_23 : decode cX12_cellsLitBy 23 = .ok (.ifCond .eq 7, 3) := by decide +kernel
theorem dX12_cellsLitBy_26 : decode cX12_cellsLitBy 26 = .ok (.iconst 1, 1) := by decide +kernel
theorem dX12_cellsLitBy_27 : decode cX12_cellsLitBy 27 = .ok (.goto 4, 3) := by decide +kernel
theorem dX12_cellsLitBy_30 : decode cX12_cellsLitBy 30 = .ok (.iconst 0, 1) := by decide +kernel
theorem dX12_cellsLitBy_31 : decode cX12_cellsLitBy 31 = .ok (.iadd, 1) := by decide +kernel
theorem dX12_cellsLitBy_32 : decode cX12_cellsLitBy 32 = .ok (.istore_n 2, 1) := by decide +kernel
theorem dX12_cellsLitBy_33 : decode cX12_cellsLitBy 33 = .ok (.iinc 3 1, 3) := by decide +kernel
theorem dX12_cellsLitBy_36 : decode cX12_cellsLitBy 36 = .ok (.goto (-28), 3) := by decide +kernel
theorem dX12_cellsLitBy_39 : decode cX12_cellsLitBy 39 = .ok (.iload_n 2, 1) := by decide +kernel
theorem dX12_cellsLitBy_40 : decode cX12_cellsLitBy 40 = .ok (.ireturn, 1) := by decide +kernel
set_option maxRecDepth 20000 in
theorem ggX12_wall_X12_notWall : GoodIn wsX12_wall wsX12_notWall := goodIn_r _ [6, 1, 7, 8, 5, 9, 10, 11, 12, 13, 14, 15, 16, 17, 18, 19, 25, 26, 27, 28, 29, 30, 31, 32, 33, 34, 35, 36, 37, 38, 39, 40, 41, 42, 43, 44, 45, 46, 47, 48, 49, 50, 51, 52, 53, 54, 55, 56, 57] (by decide +kernel) (by decide +kernel)
set_option maxRecDepth 20000 in
theorem gX12_wall_X12_notWall : GoodIn wsX12_wall (wsV RX12 145 RX12 yX12_notWall wsX12_notWall) := goodIn_app (goodIn_of _ (by decide +kernel)) ggX12_wall_X12_notWall
set_option maxRecDepth 20000 in
theorem ggX12_wall_X12_no : GoodIn wsX12_wall wsX12_no := goodIn_r _ [23, 24, 25, 26, 27, 28, 29, 30, 31, 32, 33, 34, 35, 36, 37, 38, 39, 40, 41, 42, 43, 44, 45, 46, 47, 48, 49, 50, 51, 52, 53, 54, 55, 56, 57] (by decide +kernel) (by decide +kernel)
set_option maxRecDepth 20000 in
theorem gX12_wall_X12_no : GoodIn wsX12_wall (wsV RX12 91 RX12 yX12_no wsX12_no) := goodIn_app (goodIn_of _ (by decide +kernel)) ggX12_wall_X12_no
theorem dX12_wall_0 : decode cX12_wall 0 = .ok (.aload_n 0, 1) := by decide +kernel
theorem dX12_wall_1 : decode cX12_wall 1 = .ok (.iload_n 1, 1) := by decide +kernel
theorem dX12_wall_2 : decode cX12_wall 2 = .ok (.invokevirtual 145, 3) := by decide +kernel
theorem dX12_wall_5 : decode cX12_wall 5 = .ok (.istore_n 2, 1) := by decide +kernel
theorem dX12_wall_6 : decode cX12_wall 6 = .ok (.iload_n 2, 1) := by decide +kernel
theorem dX12_wall_7 : decode cX12_wall 7 = .ok (.ifCond .eq 9, 3) := by decide +kernel
theorem dX12_wall_10 : decode cX12_wall 10 = .ok (.aload_n 0, 1) := by decide +kernel
theorem dX12_wall_11 : decode cX12_wall 11 = .ok (.iload_n 2, 1) := by decide +kernel
theorem dX12_wall_12 : decode cX12_wall 12 = .ok (.invokevirtual 91, 3) := by decide +kernel
theorem dX12_wall_15 : decode cX12_wall 15 = .ok (.ireturn, 1) := by decide +kernel
theorem dX12_wall_16 : decode cX12_wall 16 = .ok (.aload_n 0, 1) := by decide +kernel
theorem dX12_wall_17 : decode cX12_wall 17 = .ok (.getfield 13, 3) := by decide +kernel
theorem dX12_wall_20 : decode cX12_wall 20 = .ok (.iload_n 1, 1) := by decide +kernel
theorem dX12_wall_21 : decode cX12_wall 21 = .ok (.iconst 1, 1) := by decide +kernel
theorem dX12_wall_22 : decode cX12_wall 22 = .ok (.aload_n 0, 1) := by decide +kernel
theorem dX12_wall_23 : decode cX12_wall 23 = .ok (.getfield 13, 3) := by decide +kernel
theorem dX12_wall_26 : decode cX12_wall 26 = .ok (.iload_n 1, 1) := by decide +kernel
theorem dX12_wall_27 : decode cX12_wall 27 = .ok (.iaload, 1) := by decide +kernel
theorem dX12_wall_28 : decode cX12_wall 28 = .ok (.isub, 1) := by decide +kernel
theorem dX12_wall_29 : decode cX12_wall 29 = .ok (.iastore, 1) := by decide +kernel
theorem dX12_wall_30 : decode cX12_wall 30 = .ok (.aload_n 0, 1) := by decide +kernel
theorem dX12_wall_31 : decode cX12_wall 31 = .ok (.getfield 13, 3) := by decide +kernel
theorem dX12_wall_34 : decode cX12_wall 34 = .ok (.iload_n 1, 1) := by decide +kernel
theorem dX12_wall_35 : decode cX12_wall 35 = .ok (.iaload, 1) := by decide +kernel
theorem dX12_wall_36 : decode cX12_wall 36 = .ok (.ireturn, 1) := by decide +kernel
set_option maxRecDepth 20000 in
theorem ggX12_person_X12_notPerson : GoodIn wsX12_person wsX12_notPerson := goodIn_r _ [7, 8, 2, 9, 10, 6, 11, 17, 18, 19, 20, 21, 22, 23, 24, 25, 26, 27, 28, 29, 30, 31, 32, 33, 34, 35, 36, 37, 38, 39, 40, 41, 42, 43, 44, 45, 46, 47, 48, 49] (by decide +kernel) (by decide +kernel)
set_option maxRecDepth 20000 in
theorem gX12_person_X12_notPerson : GoodIn wsX12_person (wsV RX12 148 RX12 yX12_notPerson wsX12_notPerson) := goodIn_app (goodIn_of _ (by decide +kernel)) ggX12_person_X12_notPerson
set_option maxRecDepth 20000 in
theorem ggX12_person_X12_no : GoodIn wsX12_person wsX12_no := goodIn_r _ [15, 16, 17, 18, 19, 20, 21, 22, 23, 24, 25, 26, 27, 28, 29, 30, 31, 32, 33, 34, 35, 36, 37, 38, 39, 40, 41, 42, 43, 44, 45, 46, 47, 48, 49] (by decide +kernel) (by decide +kernel)
set_option maxRecDepth 20000 in
theorem gX12_person_X12_no : GoodIn wsX12_person (wsV RX12 91 RX12 yX12_no wsX12_no) := goodIn_app (goodIn_of _ (by decide +kernel)) ggX12_person_X12_no
theorem dX12_person_0 : decode cX12_person 0 = .ok (.aload_n 0, 1) := by decide +kernel
theorem dX12_person_1 : decode cX12_person 1 = .ok (.iload_n 1, 1) := by decide +kernel
theorem dX12_person_2 : decode cX12_person 2 = .ok (.invokevirtual 148, 3) := by decide +kernel
theorem dX12_person_5 : decode cX12_person 5 = .ok (.istore_n 2, 1) := by decide +kernel
theorem dX12_person_6 : decode cX12_person 6 = .ok (.iload_n 2, 1) := by decide +kernel
theorem dX12_person_7 : decode cX12_person 7 = .ok (.ifCond .eq 9, 3) := by decide +kernel
theorem dX12_person_10 : decode cX12_person 10 = .ok (.aload_n 0, 1) := by decide +kernel
theorem dX12_person_11 : decode cX12_person 11 = .ok (.iload_n 2, 1) := by decide +kernel
theorem dX12_person_12 : decode cX12_person 12 = .ok (.invokevirtual 91, 3) := by decide +kernel
theorem dX12_person_15 : decode cX12_person 15 = .ok (.ireturn, 1) := by decide +kernel
theorem dX12_person_16 : decode cX12_person 16 = .ok (.aload_n 0, 1) := by decide +kernel
theorem dX12_person_17 : decode cX12_person 17 = .ok (.getfield 40, 3) := by decide +kernel
theorem dX12_person_20 : decode cX12_person 20 = .ok (.aload_n 0, 1) := by decide +kernel
theorem dX12_person_21 : decode cX12_person 21 = .ok (.getfield 81, 3) := by decide +kernel
theorem dX12_person_24 : decode cX12_person 24 = .ok (.iload_n 1, 1) := by decide +kernel
theorem dX12_person_25 : decode cX12_person 25 = .ok (.iastore, 1) := by decide +kernel
theorem dX12_person_26 : decode cX12_person 26 = .ok (.aload_n 0, 1) := by decide +kernel
theorem dX12_person_27 : decode cX12_person 27 = .ok (.dup, 1) := by decide +kernel
theorem dX12_person_28 : decode cX12_person 28 = .ok (.getfield 81, 3) := by decide +kernel
theorem dX12_person_31 : decode cX12_person 31 = .ok (.iconst 1, 1) := by decide +kernel
theorem dX12_person_32 : decode cX12_person 32 = .ok (.iadd, 1) := by decide +kernel
theorem dX12_person_33 : decode cX12_person 33 = .ok (.putfield 81, 3) := by decide +kernel
theorem dX12_person_36 : decode cX12_person 36 = .ok (.aload_n 0, 1) := by decide +kernel
theorem dX12_person_37 : decode cX12_person 37 = .ok (.getfield 81, 3) := by decide +kernel
theorem dX12_person_40 : decode cX12_person 40 = .ok (.iconst 1, 1) := by decide +kernel
theorem dX12_person_41 : decode cX12_person 41 = .ok (.isub, 1) := by decide +kernel
theorem dX12_person_42 : decode cX12_person 42 = .ok (.ireturn, 1) := by decide +kernel
set_option maxRecDepth 20000 in
theorem ggX12_where_X12_isPerson : GoodIn wsX12_where wsX12_isPerson := goodIn_r _ [6, 7, 13, 14, 15, 16, 17, 18, 19, 20, 21, 22, 23, 24, 25, 26, 27, 28, 29, 30, 31, 32, 33, 34, 35, 36, 37, 38, 39, 40, 41, 42, 43, 44, 45] (by decide +kernel) (by decide +kernel)
set_option maxRecDepth 20000 in
theorem gX12_where_X12_isPerson : GoodIn wsX12_where (wsV RX12 132 RX12 yX12_isPerson wsX12_isPerson) := goodIn_app (goodIn_of _ (by decide +kernel)) ggX12_where_X12_isPerson
set_option maxRecDepth 20000 in
theorem ggX12_where_X12_no : GoodIn wsX12_where wsX12_no := goodIn_r _ [11, 12, 13, 14, 15, 16, 17, 18, 19, 20, 21, 22, 23, 24, 25, 26, 27, 28, 29, 30, 31, 32, 33, 34, 35, 36, 37, 38, 39, 40, 41, 42, 43, 44, 45] (by decide +kernel) (by decide +kernel)
set_option maxRecDepth 20000 in
theorem gX12_where_X12_no : GoodIn wsX12_where (wsV RX12 91 RX12 yX12_no wsX12_no) := goodIn_app (goodIn_of _ (by decide +kernel)) ggX12_where_X12_no
theorem dX12_where_0 : decode cX12_where 0 = .ok (.aload_n 0, 1) := by decide +kernel
theorem dX12_where_1 : decode cX12_where 1 = .ok (.iload_n 1, 1) := by decide +kernel
theorem dX12_where_2 : decode cX12_where 2 = .ok (.invokevirtual 132, 3) := by decide +kernel
theorem dX12_where_5 : decode cX12_where 5 = .ok (.ifCond .eq 12, 3) := by decide +kernel
theorem dX12_where_8 : decode cX12_where 8 = .ok (.aload_n 0, 1) := by decide +kernel
theorem dX12_where_9 : decode cX12_where 9 = .ok (.getfield 40, 3) := by decide +kernel
theorem dX12_where_12 : decode cX12_where 12 = .ok (.iload_n 1, 1) := by decide +kernel
theorem dX12_where_13 : decode cX12_where 13 = .ok (.iaload, 1) := by decide +kernel
theorem dX12_where_14 : decode cX12_where 14 = .ok (.goto 8, 3) := by decide +kernel
theorem dX12_where_17 : decode cX12_where 17 = .ok (.aload_n 0, 1) := by decide +kernel
theorem dX12_where_18 : decode cX12_where 18 = .ok (.iconst (-1), 1) := by decide +kernel
theorem dX12_where_19 : decode cX12_where 19 = .ok (.invokevirtual 91, 3) := by decide +kernel
theorem dX12_where_22 : decode cX12_where 22 = .ok (.ireturn, 1) := by decide +kernel
set_option maxRecDepth 20000 in
theorem ggX12_go_X12_notGo : GoodIn wsX12_go wsX12_notGo := goodIn_r _ [5, 6, 7, 8, 9, 10, 4, 11, 12, 13, 14, 15, 16, 17, 18, 19, 20, 21, 22, 23, 24, 25, 26, 27, 28, 29, 30, 31, 32, 33, 34, 35, 36, 37, 38, 39, 92, 93, 94, 95, 96, 97, 98, 99, 100, 101, 102, 103, 104, 105, 106, 107, 108, 109, 110, 111, 112, 113, 114, 115, 116, 117, 118, 119, 120, 121, 122, 123, 124] (by decide +kernel) (by decide +kernel)
set_option maxRecDepth 20000 in
theorem gX12_go_X12_notGo : GoodIn wsX12_go (wsV RX12 151 RX12 yX12_notGo wsX12_notGo) := goodIn_app (goodIn_of _ (by decide +kernel)) ggX12_go_X12_notGo
set_option maxRecDepth 20000 in
theorem ggX12_go_X12_no : GoodIn wsX12_go wsX12_no := goodIn_r _ [43, 44, 92, 93, 94, 95, 96, 97, 98, 99, 100, 101, 102, 103, 104, 105, 106, 107, 108, 109, 110, 111, 112, 113, 114, 115, 116, 117, 118, 119, 120, 121, 122, 123, 124] (by decide +kernel) (by decide +kernel)
set_option maxRecDepth 20000 in
theorem gX12_go_X12_no : GoodIn wsX12_go (wsV RX12 91 RX12 yX12_no wsX12_no) := goodIn_app (goodIn_of _ (by decide +kernel)) ggX12_go_X12_no
set_option maxRecDepth 20000 in
theorem ggX12_go_X12_goesTo : GoodIn wsX12_go wsX12_goesTo := goodIn_r _ [48, 6, 20, 21, 22, 23, 4, 24, 25, 26, 27, 28, 29, 30, 31, 32, 33, 34, 35, 36, 37, 38, 39, 49, 50, 51, 52, 7, 53, 54, 55, 56, 57, 58, 59, 60, 61, 62, 63, 64, 65, 66, 12, 67, 68, 69, 70, 71, 72, 73, 74, 75, 76, 77, 78, 79, 80, 81, 82, 83, 84, 85, 86, 87, 88, 89, 90, 91, 92, 93, 94, 95, 96, 97, 98, 99, 100, 101, 102, 103, 104, 105, 106, 107, 108, 109, 110, 111, 112, 113, 114, 115, 116, 117, 118, 119, 120, 121, 122, 123, 124] (by decide +kernel) (by decide +kernel)
set_option maxRecDepth 20000 in
theorem gX12_go_X12_goesTo : GoodIn wsX12_go (wsV RX12 154 RX12 yX12_goesTo wsX12_goesTo) := goodIn_app (goodIn_of _ (by decide +kernel)) ggX12_go_X12_goesTo
theorem dX12_go_0 : decode cX12_go 0 = .ok (.aload_n 0, 1) := by decide +kernel
theorem dX12_go_1 : decode cX12_go 1 = .ok (.iload_n 1, 1) := by decide +kernel
theorem dX12_go_2 : decode cX12_go 2 = .ok (.iload_n 2, 1) := by decide +kernel
theorem dX12_go_3 : decode cX12_go 3 = .ok (.invokevirtual 151, 3) := by decide +kernel
theorem dX12_go_6 : decode cX12_go 6 = .ok (.istore_n 3, 1) := by decide +kernel
theorem dX12_go_7 : decode cX12_go 7 = .ok (.iload_n 3, 1) := by decide +kernel
theorem dX12_go_8 : decode cX12_go 8 = .ok (.ifCond .eq 11, 3) := by decide +kernel
theorem dX12_go_11 : decode cX12_go 11 = .ok (.aload_n 0, 1) := by decide +kernel
theorem dX12_go_12 : decode cX12_go 12 = .ok (.iload_n 3, 1) := by decide +kernel
theorem dX12_go_13 : decode cX12_go 13 = .ok (.invokevirtual 91, 3) := by decide +kernel
theorem dX12_go_16 : decode cX12_go 16 = .ok (.goto 9, 3) := by decide +kernel
theorem dX12_go_19 : decode cX12_go 19 = .ok (.aload_n 0, 1) := by decide +kernel
theorem dX12_go_20 : decode cX12_go 20 = .ok (.iload_n 1, 1) := by decide +kernel
theorem dX12_go_21 : decode cX12_go 21 = .ok (.iload_n 2, 1) := by decide +kernel
theorem dX12_go_22 : decode cX12_go 22 = .ok (.invokevirtual 154, 3) := by decide +kernel
theorem dX12_go_25 : decode cX12_go 25 = .ok (.ireturn, 1) := by decide +kernel
set_option maxRecDepth 20000 in
theorem ggX12_light_X12_isLamp : GoodIn wsX12_light wsX12_isLamp := goodIn_r _ [6, 7, 16, 17, 18, 19, 20, 21, 22, 23, 24, 25, 26, 27, 28, 29, 30, 31, 32, 33, 34, 35, 36, 37, 38, 39, 40, 41, 42, 43, 44, 45, 46, 47, 48] (by decide +kernel) (by decide +kernel)
set_option maxRecDepth 20000 in
theorem gX12_light_X12_isLamp : GoodIn wsX12_light (wsV RX12 157 RX12 yX12_isLamp wsX12_isLamp) := goodIn_app (goodIn_of _ (by decide +kernel)) ggX12_light_X12_isLamp
set_option maxRecDepth 20000 in
theorem ggX12_light_X12_isIn : GoodIn wsX12_light wsX12_isIn := goodIn_r _ [10] (by decide +kernel) (by decide +kernel)
set_option maxRecDepth 20000 in
theorem gX12_light_X12_isIn : GoodIn wsX12_light (va_wsS RX12 102 yX12_isIn wsX12_isIn) := goodIn_app (goodIn_of _ (by decide +kernel)) ggX12_light_X12_isIn
set_option maxRecDepth 20000 in
theorem ggX12_light_X12_no : GoodIn wsX12_light wsX12_no := goodIn_r _ [14, 15, 16, 17, 18, 19, 20, 21, 22, 23, 24, 25, 26, 27, 28, 29, 30, 31, 32, 33, 34, 35, 36, 37, 38, 39, 40, 41, 42, 43, 44, 45, 46, 47, 48] (by decide +kernel) (by decide +kernel)
set_option maxRecDepth 20000 in
theorem gX12_light_X12_no : GoodIn wsX12_light (wsV RX12 91 RX12 yX12_no wsX12_no) := goodIn_app (goodIn_of _ (by decide +kernel)) ggX12_light_X12_no
theorem dX12_light_0 : decode cX12_light 0 = .ok (.aload_n 0, 1) := by decide +kernel
theorem dX12_light_1 : decode cX12_light 1 = .ok (.iload_n 1, 1) := by decide +kernel
theorem dX12_light_2 : decode cX12_light 2 = .ok (.invokevirtual 157, 3) := by decide +kernel
theorem dX12_light_5 : decode cX12_light 5 = .ok (.ifCond .ne 7, 3) := by decide +kernel
theorem dX12_light_8 : decode cX12_light 8 = .ok (.iconst (-1), 1) := by decide +kernel
theorem dX12_light_9 : decode cX12_light 9 = .ok (.goto 18, 3) := by decide +kernel
theorem dX12_light_12 : decode cX12_light 12 = .ok (.iload_n 2, 1) := by decide +kernel
theorem dX12_light_13 : decode cX12_light 13 = .ok (.iconst 0, 1) := by decide +kernel
theorem dX12_light_14 : decode cX12_light 14 = .ok (.iconst 1, 1) := by decide +kernel
theorem dX12_light_15 : decode cX12_light 15 = .ok (.invokestatic 102, 3) := by decide +kernel
theorem dX12_light_18 : decode cX12_light 18 = .ok (.ifCond .ne 8, 3) := by decide +kernel
theorem dX12_light_21 : decode cX12_light 21 = .ok (.bipush (-2), 2) := by decide +kernel
theorem dX12_light_23 : decode cX12_light 23 = .ok (.goto 4, 3) := by decide +kernel
theorem dX12_light_26 : decode cX12_light 26 = .ok (.iconst 0, 1) := by decide +kernel
theorem dX12_light_27 : decode cX12_light 27 = .ok (.istore_n 3, 1) := by decide +kernel
theorem dX12_light_28 : decode cX12_light 28 = .ok (.iload_n 3, 1) := by decide +kernel
theorem dX12_light_29 : decode cX12_light 29 = .ok (.ifCond .eq 9, 3) := by decide +kernel
theorem dX12_light_32 : decode cX12_light 32 = .ok (.aload_n 0, 1) := by decide +kernel
theorem dX12_light_33 : decode cX12_light 33 = .ok (.iload_n 3, 1) := by decide +kernel
theorem dX12_light_34 : decode cX12_light 34 = .ok (.invokevirtual 91, 3) := by decide +kernel
theorem dX12_light_37 : decode cX12_light 37 = .ok (.ireturn, 1) := by decide +kernel
theorem dX12_light_38 : decode cX12_light 38 = .ok (.aload_n 0, 1) := by decide +kernel
theorem dX12_light_39 : decode cX12_light 39 = .ok (.getfield 25, 3) := by decide +kernel
theorem dX12_light_42 : decode cX12_light 42 = .ok (.iload_n 1, 1) := by decide +kernel
theorem dX12_light_43 : decode cX12_light 43 = .ok (.iaload, 1) := by decide +kernel
theorem dX12_light_44 : decode cX12_light 44 = .ok (.istore 4, 2) := by decide +kernel
theorem dX12_light_46 : decode cX12_light 46 = .ok (.aload_n 0, 1) := by decide +kernel
theorem dX12_light_47 : decode cX12_light 47 = .ok (.getfield 25, 3) := by decide +kernel
theorem dX12_light_50 : decode cX12_light 50 = .ok (.iload_n 1, 1) := by decide +kernel
theorem dX12_light_51 : decode cX12_light 51 = .ok (.iload_n 2, 1) := by decide +kernel
theorem dX12_light_52 : decode cX12_light 52 = .ok (.iastore, 1) := by decide +kernel
theorem dX12_light_53 : decode cX12_light 53 = .ok (.iload 4, 2) := by decide +kernel
theorem dX12_light_55 : decode cX12_light 55 = .ok (.ireturn, 1) := by decide +kernel
set_option maxRecDepth 20000 in
theorem ggX12_steps_X12_isCell : GoodIn wsX12_steps wsX12_isCell := goodIn_r _ [4] (by decide +kernel) (by decide +kernel)
set_option maxRecDepth 20000 in
theorem gX12_steps_X12_isCell : GoodIn wsX12_steps (va_wsS RX12 123 yX12_isCell wsX12_isCell) := goodIn_app (goodIn_of _ (by decide +kernel)) ggX12_steps_X12_isCell
set_option maxRecDepth 20000 in
theorem ggX12_steps_X12_stepsOf : GoodIn wsX12_steps wsX12_stepsOf := goodIn_r _ [8, 9, 10, 11, 12, 3, 13, 14, 15, 16, 17, 18, 19, 20, 21, 22, 23, 24, 25, 26, 27, 28, 34, 35, 36, 37, 38, 39, 40, 41, 42, 43, 44, 45, 46, 47, 48, 49, 50, 51, 52, 53, 54, 55, 56, 57, 58, 59, 60, 61, 62, 63, 64, 65, 66] (by decide +kernel) (by decide +kernel)
set_option maxRecDepth 20000 in
theorem gX12_steps_X12_stepsOf : GoodIn wsX12_steps (wsV RX12 135 RX12 yX12_stepsOf wsX12_stepsOf) := goodIn_app (goodIn_of _ (by decide +kernel)) ggX12_steps_X12_stepsOf
set_option maxRecDepth 20000 in
theorem ggX12_steps_X12_no : GoodIn wsX12_steps wsX12_no := goodIn_r _ [32, 33, 34, 35, 36, 37, 38, 39, 40, 41, 42, 43, 44, 45, 46, 47, 48, 49, 50, 51, 52, 53, 54, 55, 56, 57, 58, 59, 60, 61, 62, 63, 64, 65, 66] (by decide +kernel) (by decide +kernel)
set_option maxRecDepth 20000 in
theorem gX12_steps_X12_no : GoodIn wsX12_steps (wsV RX12 91 RX12 yX12_no wsX12_no) := goodIn_app (goodIn_of _ (by decide +kernel)) ggX12_steps_X12_no
theorem dX12_steps_0 : decode cX12_steps 0 = .ok (.iload_n 1, 1) := by decide +kernel
theorem dX12_steps_1 : decode cX12_steps 1 = .ok (.invokestatic 123, 3) := by decide +kernel
theorem dX12_steps_4 : decode cX12_steps 4 = .ok (.ifCond .eq 19, 3) := by decide +kernel
theorem dX12_steps_7 : decode cX12_steps 7 = .ok (.iload_n 2, 1) := by decide +kernel
theorem dX12_steps_8 : decode cX12_steps 8 = .ok (.invokestatic 123, 3) := by decide +kernel
theorem dX12_steps_11 : decode cX12_steps 11 = .ok (.ifCond .eq 12, 3) := by decide +kernel
theorem dX12_steps_14 : decode cX12_steps 14 = .ok (.aload_n 0, 1) := by decide +kernel
theorem dX12_steps_15 : decode cX12_steps 15 = .ok (.iload_n 1, 1) := by decide +kernel
theorem dX12_steps_16 : decode cX12_steps 16 = .ok (.iload_n 2, 1) := by decide +kernel
theorem dX12_steps_17 : decode cX12_steps 17 = .ok (.invokevirtual 135, 3) := by decide +kernel
theorem dX12_steps_20 : decode cX12_steps 20 = .ok (.goto 8, 3) := by decide +kernel
theorem dX12_steps_23 : decode cX12_steps 23 = .ok (.aload_n 0, 1) := by decide +kernel
theorem dX12_steps_24 : decode cX12_steps 24 = .ok (.iconst (-1), 1) := by decide +kernel
theorem dX12_steps_25 : decode cX12_steps 25 = .ok (.invokevirtual 91, 3) := by decide +kernel
theorem dX12_steps_28 : decode cX12_steps 28 = .ok (.ireturn, 1) := by decide +kernel
set_option maxRecDepth 20000 in
theorem ggX12_lights_X12_isLamp : GoodIn wsX12_lights wsX12_isLamp := goodIn_r _ [6, 7, 53, 54, 55, 56, 57, 58, 59, 60, 61, 62, 63, 64, 65, 66, 67, 68, 69, 70, 71, 72, 73, 74, 75, 76, 77, 78, 79, 80, 81, 82, 83, 84, 85] (by decide +kernel) (by decide +kernel)
set_option maxRecDepth 20000 in
theorem gX12_lights_X12_isLamp : GoodIn wsX12_lights (wsV RX12 157 RX12 yX12_isLamp wsX12_isLamp) := goodIn_app (goodIn_of _ (by decide +kernel)) ggX12_lights_X12_isLamp
set_option maxRecDepth 20000 in
theorem ggX12_lights_X12_isCell : GoodIn wsX12_lights wsX12_isCell := goodIn_r _ [10] (by decide +kernel) (by decide +kernel)
set_option maxRecDepth 20000 in
theorem gX12_lights_X12_isCell : GoodIn wsX12_lights (va_wsS RX12 123 yX12_isCell wsX12_isCell) := goodIn_app (goodIn_of _ (by decide +kernel)) ggX12_lights_X12_isCell
set_option maxRecDepth 20000 in
theorem ggX12_lights_X12_no : GoodIn wsX12_lights wsX12_no := goodIn_r _ [14, 15, 53, 54, 55, 56, 57, 58, 59, 60, 61, 62, 63, 64, 65, 66, 67, 68, 69, 70, 71, 72, 73, 74, 75, 76, 77, 78, 79, 80, 81, 82, 83, 84, 85] (by decide +kernel) (by decide +kernel)
set_option maxRecDepth 20000 in
theorem gX12_lights_X12_no : GoodIn wsX12_lights (wsV RX12 91 RX12 yX12_no wsX12_no) := goodIn_app (goodIn_of _ (by decide +kernel)) ggX12_lights_X12_no
set_option maxRecDepth 20000 in
theorem ggX12_lights_X12_findLit : GoodIn wsX12_lights wsX12_findLit := goodIn_r _ [19, 1, 7, 20, 21, 22, 23, 24, 5, 25, 26, 27, 28, 29, 30, 31, 32, 33, 34, 35, 36, 37, 38, 39, 40, 41, 42, 43, 44, 45, 46, 47, 48, 49, 50, 51, 52, 53, 54, 55, 56, 57, 58, 59, 60, 61, 62, 63, 64, 65, 66, 67, 68, 69, 70, 71, 72, 73, 74, 75, 76, 77, 78, 79, 80, 81, 82, 83, 84, 85] (by decide +kernel) (by decide +kernel)
set_option maxRecDepth 20000 in
theorem gX12_lights_X12_findLit : GoodIn wsX12_lights (wsV RX12 220 RX12 yX12_findLit wsX12_findLit) := goodIn_app (goodIn_of _ (by decide +kernel)) ggX12_lights_X12_findLit
theorem dX12_lights_0 : decode cX12_lights 0 = .ok (.aload_n 0, 1) := by decide +kernel
theorem dX12_lights_1 : decode cX12_lights 1 = .ok (.iload_n 1, 1) := by decide +kernel
theorem dX12_lights_2 : decode cX12_lights 2 = .ok (.invokevirtual 157, 3) := by decide +kernel
theorem dX12_lights_5 : decode cX12_lights 5 = .ok (.ifCond .eq 10, 3) := by decide +kernel
theorem dX12_lights_8 : decode cX12_lights 8 = .ok (.iload_n 2, 1) := by decide +kernel
theorem dX12_lights_9 : decode cX12_lights 9 = .ok (.invokestatic 123, 3) := by decide +kernel
theorem dX12_lights_12 : decode cX12_lights 12 = .ok (.ifCond .ne 9, 3) := by decide +kernel
theorem dX12_lights_15 : decode cX12_lights 15 = .ok (.aload_n 0, 1) := by decide +kernel
theorem dX12_lights_16 : decode cX12_lights 16 = .ok (.iconst (-1), 1) := by decide +kernel
theorem dX12_lights_17 : decode cX12_lights 17 = .ok (.invokevirtual 91, 3) := by decide +kernel
theorem dX12_lights_20 : decode cX12_lights 20 = .ok (.ireturn, 1) := by decide +kernel
theorem dX12_lights_21 : decode cX12_lights 21 = .ok (.aload_n 0, 1) := by decide +kernel
theorem dX12_lights_22 : decode cX12_lights 22 = .ok (.invokevirtual 220, 3) := by decide +kernel
theorem dX12_lights_25 : decode cX12_lights 25 = .ok (.aload_n 0, 1) := by decide +kernel
theorem dX12_lights_26 : decode cX12_lights 26 = .ok (.getfield 67, 3) := by decide +kernel
theorem dX12_lights_29 : decode cX12_lights 29 = .ok (.iload_n 2, 1) := by decide +kernel
theorem dX12_lights_30 : decode cX12_lights 30 = .ok (.iaload, 1) := by decide +kernel
theorem dX12_lights_31 : decode cX12_lights 31 = .ok (.iload_n 1, 1) := by decide +kernel
theorem dX12_lights_32 : decode cX12_lights 32 = .ok (.ishr, 1) := by decide +kernel
theorem dX12_lights_33 : decode cX12_lights 33 = .ok (.iconst 1, 1) := by decide +kernel
theorem dX12_lights_34 : decode cX12_lights 34 = .ok (.iand, 1) := by decide +kernel
theorem dX12_lights_35 : decode cX12_lights 35 = .ok (.ireturn, 1) := by decide +kernel
set_option maxRecDepth 20000 in
theorem ggX12_shown_X12_isLamp : GoodIn wsX12_shown wsX12_isLamp := goodIn_r _ [10, 11, 20, 21, 22, 23, 24, 25, 26, 27, 28, 29, 30, 31, 32, 33, 34, 35, 36, 37, 38, 39, 40, 41, 42, 43, 44, 45, 46, 47, 48, 49, 50, 51, 52] (by decide +kernel) (by decide +kernel)
set_option maxRecDepth 20000 in
theorem gX12_shown_X12_isLamp : GoodIn wsX12_shown (wsV RX12 157 RX12 yX12_isLamp wsX12_isLamp) := goodIn_app (goodIn_of _ (by decide +kernel)) ggX12_shown_X12_isLamp
set_option maxRecDepth 20000 in
theorem ggX12_shown_X12_isIn : GoodIn wsX12_shown wsX12_isIn := goodIn_r _ [14] (by decide +kernel) (by decide +kernel)
set_option maxRecDepth 20000 in
theorem gX12_shown_X12_isIn : GoodIn wsX12_shown (va_wsS RX12 102 yX12_isIn wsX12_isIn) := goodIn_app (goodIn_of _ (by decide +kernel)) ggX12_shown_X12_isIn
set_option maxRecDepth 20000 in
theorem ggX12_shown_X12_no : GoodIn wsX12_shown wsX12_no := goodIn_r _ [18, 19, 20, 21, 22, 23, 24, 25, 26, 27, 28, 29, 30, 31, 32, 33, 34, 35, 36, 37, 38, 39, 40, 41, 42, 43, 44, 45, 46, 47, 48, 49, 50, 51, 52] (by decide +kernel) (by decide +kernel)
set_option maxRecDepth 20000 in
theorem gX12_shown_X12_no : GoodIn wsX12_shown (wsV RX12 91 RX12 yX12_no wsX12_no) := goodIn_app (goodIn_of _ (by decide +kernel)) ggX12_shown_X12_no
theorem dX12_shown_0 : decode cX12_shown 0 = .ok (.aload_n 0, 1) := by decide +kernel
theorem dX12_shown_1 : decode cX12_shown 1 = .ok (.iload_n 1, 1) := by decide +kernel
theorem dX12_shown_2 : decode cX12_shown 2 = .ok (.invokevirtual 157, 3) := by decide +kernel
theorem dX12_shown_5 : decode cX12_shown 5 = .ok (.ifCond .eq 17, 3) := by decide +kernel
theorem dX12_shown_8 : decode cX12_shown 8 = .ok (.iload_n 2, 1) := by decide +kernel
theorem dX12_shown_9 : decode cX12_shown 9 = .ok (.ifCond .lt 13, 3) := by decide +kernel
theorem dX12_shown_12 : decode cX12_shown 12 = .ok (.iload_n 2, 1) := by decide +kernel
theorem dX12_shown_13 : decode cX12_shown 13 = .ok (.aload_n 0, 1) := by decide +kernel
theorem dX12_shown_14 : decode cX12_shown 14 = .ok (.getfield 28, 3) := by decide +kernel
theorem dX12_shown_17 : decode cX12_shown 17 = .ok (.iload_n 1, 1) := by decide +kernel
theorem dX12_shown_18 : decode cX12_shown 18 = .ok (.iaload, 1) := by decide +kernel
theorem dX12_shown_19 : decode cX12_shown 19 = .ok (.if_icmp .lt 7, 3) := by decide +kernel
theorem dX12_shown_22 : decode cX12_shown 22 = .ok (.iconst (-1), 1) := by decide +kernel
theorem dX12_shown_23 : decode cX12_shown 23 = .ok (.goto 18, 3) := by decide +kernel
theorem dX12_shown_26 : decode cX12_shown 26 = .ok (.iload_n 3, 1) := by decide +kernel
theorem dX12_shown_27 : decode cX12_shown 27 = .ok (.iconst 0, 1) := by decide +kernel
theorem dX12_shown_28 : decode cX12_shown 28 = .ok (.iconst 2, 1) := by decide +kernel
theorem dX12_shown_29 : decode cX12_shown 29 = .ok (.invokestatic 102, 3) := by decide +kernel
theorem dX12_shown_32 : decode cX12_shown 32 = .ok (.ifCond .ne 8, 3) := by decide +kernel
theorem dX12_shown_35 : decode cX12_shown 35 = .ok (.bipush (-2), 2) := by decide +kernel
theorem dX12_shown_37 : decode cX12_shown 37 = .ok (.goto 4, 3) := by decide +kernel
theorem dX12_shown_40 : decode cX12_shown 40 = .ok (.iconst 0, 1) := by decide +kernel
theorem dX12_shown_41 : decode cX12_shown 41 = .ok (.istore 4, 2) := by decide +kernel
theorem dX12_shown_43 : decode cX12_shown 43 = .ok (.iload 4, 2) := by decide +kernel
theorem dX12_shown_45 : decode cX12_shown 45 = .ok (.ifCond .eq 10, 3) := by decide +kernel
theorem dX12_shown_48 : decode cX12_shown 48 = .ok (.aload_n 0, 1) := by decide +kernel
theorem dX12_shown_49 : decode cX12_shown 49 = .ok (.iload 4, 2) := by decide +kernel
theorem dX12_shown_51 : decode cX12_shown 51 = .ok (.invokevirtual 91, 3) := by decide +kernel
theorem dX12_shown_54 : decode cX12_shown 54 = .ok (.ireturn, 1) := by decide +kernel
theorem dX12_shown_55 : decode cX12_shown 55 = .ok (.bipush 9, 2) := by decide +kernel
theorem dX12_shown_57 : decode cX12_shown 57 = .ok (.iload_n 1, 1) := by decide +kernel
theorem dX12_shown_58 : decode cX12_shown 58 = .ok (.imul, 1) := by decide +kernel
theorem dX12_shown_59 : decode cX12_shown 59 = .ok (.aload_n 0, 1) := by decide +kernel
theorem dX12_shown_60 : decode cX12_shown 60 = .ok (.getfield 16, 3) := by decide +kernel
theorem dX12_shown_63 : decode cX12_shown 63 = .ok (.iload_n 1, 1) := by decide +kernel
theorem dX12_shown_64 : decode cX12_shown 64 = .ok (.iaload, 1) := by decide +kernel
theorem dX12_shown_65 : decode cX12_shown 65 = .ok (.bipush 6, 2) := by decide +kernel
theorem dX12_shown_67 : decode cX12_shown 67 = .ok (.if_icmp .ne 7, 3) := by decide +kernel
theorem dX12_shown_70 : decode cX12_shown 70 = .ok (.iload_n 2, 1) := by decide +kernel
theorem dX12_shown_71 : decode cX12_shown 71 = .ok (.goto 13, 3) := by decide +kernel
theorem dX12_shown_74 : decode cX12_shown 74 = .ok (.aload_n 0, 1) := by decide +kernel
theorem dX12_shown_75 : decode cX12_shown 75 = .ok (.getfield 28, 3) := by decide +kernel
theorem dX12_shown_78 : decode cX12_shown 78 = .ok (.iload_n 1, 1) := by decide +kernel
theorem dX12_shown_79 : decode cX12_shown 79 = .ok (.iaload, 1) := by decide +kernel
theorem dX12_shown_80 : decode cX12_shown 80 = .ok (.iconst 1, 1) := by decide +kernel
theorem dX12_shown_81 : decode cX12_shown 81 = .ok (.isub, 1) := by decide +kernel
theorem dX12_shown_82 : decode cX12_shown 82 = .ok (.iload_n 2, 1) := by decide +kernel
theorem dX12_shown_83 : decode cX12_shown 83 = .ok (.isub, 1) := by decide +kernel
theorem dX12_shown_84 : decode cX12_shown 84 = .ok (.iadd, 1) := by decide +kernel
theorem dX12_shown_85 : decode cX12_shown 85 = .ok (.istore 5, 2) := by decide +kernel
theorem dX12_shown_87 : decode cX12_shown 87 = .ok (.iload_n 3, 1) := by decide +kernel
theorem dX12_shown_88 : decode cX12_shown 88 = .ok (.ifCond .ne 13, 3) := by decide +kernel
theorem dX12_shown_91 : decode cX12_shown 91 = .ok (.aload_n 0, 1) := by decide +kernel
theorem dX12_shown_92 : decode cX12_shown 92 = .ok (.getfield 31, 3) := by decide +kernel
theorem dX12_shown_95 : decode cX12_shown 95 = .ok (.iload 5, 2) := by decide +kernel
theorem dX12_shown_97 : decode cX12_shown 97 = .ok (.iaload, 1) := by decide +kernel
theorem dX12_shown_98 : decode cX12_shown 98 = .ok (.goto 25, 3) := by decide +kernel
theorem dX12_shown_101 : decode cX12_shown 101 = .ok (.iload_n 3, 1) := by decide +kernel
theorem dX12_shown_102 : decode cX12_shown 102 = .ok (.iconst 1, 1) := by decide +kernel
theorem dX12_shown_103 : decode cX12_shown 103 = .ok (.if_icmp .ne 13, 3) := by decide +kernel
theorem dX12_shown_106 : decode cX12_shown 106 = .ok (.aload_n 0, 1) := by decide +kernel
theorem dX12_shown_107 : decode cX12_shown 107 = .ok (.getfield 34, 3) := by decide +kernel
theorem dX12_shown_110 : decode cX12_shown 110 = .ok (.iload 5, 2) := by decide +kernel
theorem dX12_shown_112 : decode cX12_shown 112 = .ok (.iaload, 1) := by decide +kernel
theorem dX12_shown_113 : decode cX12_shown 113 = .ok (.goto 10, 3) := by decide +kernel
theorem dX12_shown_116 : decode cX12_shown 116 = .ok (.aload_n 0, 1) := by decide +kernel
theorem dX12_shown_117 : decode cX12_shown 117 = .ok (.getfield 37, 3) := by decide +kernel
theorem dX12_shown_120 : decode cX12_shown 120 = .ok (.iload 5, 2) := by decide +kernel
theorem dX12_shown_122 : decode cX12_shown 122 = .ok (.iaload, 1) := by decide +kernel
theorem dX12_shown_123 : decode cX12_shown 123 = .ok (.ireturn, 1) := by decide +kernel
set_option maxRecDepth 20000 in
theorem ggX12_seen_X12_isLamp : GoodIn wsX12_seen wsX12_isLamp := goodIn_r _ [7, 8, 14, 15, 16, 17, 18, 19, 20, 21, 22, 23, 24, 25, 26, 27, 28, 29, 30, 31, 32, 33, 34, 35, 36, 37, 38, 39, 40, 41, 42, 43, 44, 45, 46] (by decide +kernel) (by decide +kernel)
set_option maxRecDepth 20000 in
theorem gX12_seen_X12_isLamp : GoodIn wsX12_seen (wsV RX12 157 RX12 yX12_isLamp wsX12_isLamp) := goodIn_app (goodIn_of _ (by decide +kernel)) ggX12_seen_X12_isLamp
set_option maxRecDepth 20000 in
theorem ggX12_seen_X12_no : GoodIn wsX12_seen wsX12_no := goodIn_r _ [12, 13, 14, 15, 16, 17, 18, 19, 20, 21, 22, 23, 24, 25, 26, 27, 28, 29, 30, 31, 32, 33, 34, 35, 36, 37, 38, 39, 40, 41, 42, 43, 44, 45, 46] (by decide +kernel) (by decide +kernel)
set_option maxRecDepth 20000 in
theorem gX12_seen_X12_no : GoodIn wsX12_seen (wsV RX12 91 RX12 yX12_no wsX12_no) := goodIn_app (goodIn_of _ (by decide +kernel)) ggX12_seen_X12_no
theorem dX12_seen_0 : decode cX12_seen 0 = .ok (.aload_n 0, 1) := by decide +kernel
theorem dX12_seen_1 : decode cX12_seen 1 = .ok (.iload_n 1, 1) := by decide +kernel
theorem dX12_seen_2 : decode cX12_seen 2 = .ok (.invokevirtual 157, 3) := by decide +kernel
theorem dX12_seen_5 : decode cX12_seen 5 = .ok (.ifCond .ne 9, 3) := by decide +kernel
theorem dX12_seen_8 : decode cX12_seen 8 = .ok (.aload_n 0, 1) := by decide +kernel
theorem dX12_seen_9 : decode cX12_seen 9 = .ok (.iconst (-1), 1) := by decide +kernel
theorem dX12_seen_10 : decode cX12_seen 10 = .ok (.invokevirtual 91, 3) := by decide +kernel
theorem dX12_seen_13 : decode cX12_seen 13 = .ok (.ireturn, 1) := by decide +kernel
theorem dX12_seen_14 : decode cX12_seen 14 = .ok (.iconst 0, 1) := by decide +kernel
theorem dX12_seen_15 : decode cX12_seen 15 = .ok (.istore_n 2, 1) := by decide +kernel
theorem dX12_seen_16 : decode cX12_seen 16 = .ok (.bipush 9, 2) := by decide +kernel
theorem dX12_seen_18 : decode cX12_seen 18 = .ok (.iload_n 1, 1) := by decide +kernel
theorem dX12_seen_19 : decode cX12_seen 19 = .ok (.imul, 1) := by decide +kernel
theorem dX12_seen_20 : decode cX12_seen 20 = .ok (.istore_n 3, 1) := by decide +kernel
theorem dX12_seen_21 : decode cX12_seen 21 = .ok (.iload_n 3, 1) := by decide +kernel
theorem dX12_seen_22 : decode cX12_seen 22 = .ok (.bipush 9, 2) := by decide +kernel
theorem dX12_seen_24 : decode cX12_seen 24 = .ok (.iload_n 1, 1) := by decide +kernel
theorem dX12_seen_25 : decode cX12_seen 25 = .ok (.imul, 1) := by decide +kernel
theorem dX12_seen_26 : decode cX12_seen 26 = .ok (.aload_n 0, 1) := by decide +kernel
theorem dX12_seen_27 : decode cX12_seen 27 = .ok (.getfield 28, 3) := by decide +kernel
theorem dX12_seen_30 : decode cX12_seen 30 = .ok (.iload_n 1, 1) := by decide +kernel
theorem dX12_seen_31 : decode cX12_seen 31 = .ok (.iaload, 1) := by decide +kernel
theorem dX12_seen_32 : decode cX12_seen 32 = .ok (.iadd, 1) := by decide +kernel
theorem dX12_seen_33 : decode cX12_seen 33 = .ok (.if_icmp .ge 35, 3) := by decide +kernel
theorem dX12_seen_36 : decode cX12_seen 36 = .ok (.iload_n 2, 1) := by decide +kernel
theorem dX12_seen_37 : decode cX12_seen 37 = .ok (.aload_n 0, 1) := by decide +kernel
theorem dX12_seen_38 : decode cX12_seen 38 = .ok (.getfield 31, 3) := by decide +kernel
theorem dX12_seen_41 : decode cX12_seen 41 = .ok (.iload_n 3, 1) := by decide +kernel
theorem dX12_seen_42 : decode cX12_seen 42 = .ok (.iaload, 1) := by decide +kernel
theorem dX12_seen_43 : decode cX12_seen 43 = .ok (.bipush 9, 2) := by decide +kernel
theorem dX12_seen_45 : decode cX12_seen 45 = .ok (.if_icmp .ne 7, 3) := by decide +kernel
theorem dX12_seen_48 : decode cX12_seen 48 = .ok (.iconst 0, 1) := by decide +kernel
theorem dX12_seen_49 : decode cX12_seen 49 = .ok (.goto 11, 3) := by decide +kernel
theorem dX12_seen_52 : decode cX12_seen 52 = .ok (.iconst 1, 1) := by decide +kernel
theorem dX12_seen_53 : decode cX12_seen 53 = .ok (.aload_n 0, 1) := by decide +kernel
theorem dX12_seen_54 : decode cX12_seen 54 = .ok (.getfield 31, 3) := by decide +kernel
theorem dX12_seen_57 : decode cX12_seen 57 = .ok (.iload_n 3, 1) := by decide +kernel
theorem dX12_seen_58 : decode cX12_seen 58 = .ok (.iaload, 1) := by decide +kernel
theorem dX12_seen_59 : decode cX12_seen 59 = .ok (.ishl, 1) := by decide +kernel
theorem dX12_seen_60 : decode cX12_seen 60 = .ok (.ior, 1) := by decide +kernel
theorem dX12_seen_61 : decode cX12_seen 61 = .ok (.istore_n 2, 1) := by decide +kernel
theorem dX12_seen_62 : decode cX12_seen 62 = .ok (.iinc 3 1, 3) := by decide +kernel
theorem dX12_seen_65 : decode cX12_seen 65 = .ok (.goto (-44), 3) := by decide +kernel
theorem dX12_seen_68 : decode cX12_seen 68 = .ok (.iload_n 2, 1) := by decide +kernel
theorem dX12_seen_69 : decode cX12_seen 69 = .ok (.ireturn, 1) := by decide +kernel
theorem dX12_sceneAt_0 : decode cX12_sceneAt 0 = .ok (.iconst 0, 1) := by decide +kernel
theorem dX12_sceneAt_1 : decode cX12_sceneAt 1 = .ok (.istore_n 3, 1) := by decide +kernel
theorem dX12_sceneAt_2 : decode cX12_sceneAt 2 = .ok (.iload_n 3, 1) := by decide +kernel
theorem dX12_sceneAt_3 : decode cX12_sceneAt 3 = .ok (.aload_n 0, 1) := by decide +kernel
theorem dX12_sceneAt_4 : decode cX12_sceneAt 4 = .ok (.getfield 28, 3) := by decide +kernel
theorem dX12_sceneAt_7 : decode cX12_sceneAt 7 = .ok (.iload_n 1, 1) := by decide +kernel
theorem dX12_sceneAt_8 : decode cX12_sceneAt 8 = .ok (.iaload, 1) := by decide +kernel
theorem dX12_sceneAt_9 : decode cX12_sceneAt 9 = .ok (.if_icmp .ge 26, 3) := by decide +kernel
theorem dX12_sceneAt_12 : decode cX12_sceneAt 12 = .ok (.aload_n 0, 1) := by decide +kernel
theorem dX12_sceneAt_13 : decode cX12_sceneAt 13 = .ok (.getfield 37, 3) := by decide +kernel
theorem dX12_sceneAt_16 : decode cX12_sceneAt 16 = .ok (.bipush 9, 2) := by decide +kernel
theorem dX12_sceneAt_18 : decode cX12_sceneAt 18 = .ok (.iload_n 1, 1) := by decide +kernel
theorem dX12_sceneAt_19 : decode cX12_sceneAt 19 = .ok (.imul, 1) := by decide +kernel
theorem dX12_sceneAt_20 : decode cX12_sceneAt 20 = .ok (.iload_n 3, 1) := by decide +kernel
theorem dX12_sceneAt_21 : decode cX12_sceneAt 21 = .ok (.iadd, 1) := by decide +kernel
theorem dX12_sceneAt_22 : decode cX12_sceneAt 22 = .ok (.iaload, 1) := by decide +kernel
theorem dX12_sceneAt_23 : decode cX12_sceneAt 23 = .ok (.iload_n 2, 1) := by decide +kernel
theorem dX12_sceneAt_24 : decode cX12_sceneAt 24 = .ok (.if_icmp .ne 5, 3) := by decide +kernel
theorem dX12_sceneAt_27 : decode cX12_sceneAt 27 = .ok (.iload_n 3, 1) := by decide +kernel
theorem dX12_sceneAt_28 : decode cX12_sceneAt 28 = .ok (.ireturn, 1) := by decide +kernel
theorem dX12_sceneAt_29 : decode cX12_sceneAt 29 = .ok (.iinc 3 1, 3) := by decide +kernel
theorem dX12_sceneAt_32 : decode cX12_sceneAt 32 = .ok (.goto (-30), 3) := by decide +kernel
theorem dX12_sceneAt_35 : decode cX12_sceneAt 35 = .ok (.bipush (-9), 2) := by decide +kernel
theorem dX12_sceneAt_37 : decode cX12_sceneAt 37 = .ok (.ireturn, 1) := by decide +kernel
set_option maxRecDepth 20000 in
theorem ggX12_by_X12_isPerson : GoodIn wsX12_by wsX12_isPerson := goodIn_r _ [7, 8, 23, 24, 25, 26, 27, 28, 29, 30, 31, 32, 33, 34, 35, 36, 37, 38, 39, 40, 41, 42, 43, 44, 45, 46, 47, 48, 49, 50, 51, 52, 53, 54, 55] (by decide +kernel) (by decide +kernel)
set_option maxRecDepth 20000 in
theorem gX12_by_X12_isPerson : GoodIn wsX12_by (wsV RX12 132 RX12 yX12_isPerson wsX12_isPerson) := goodIn_app (goodIn_of _ (by decide +kernel)) ggX12_by_X12_isPerson
set_option maxRecDepth 20000 in
theorem ggX12_by_X12_bound : GoodIn wsX12_by wsX12_bound := goodIn_r _ [11] (by decide +kernel) (by decide +kernel)
set_option maxRecDepth 20000 in
theorem gX12_by_X12_bound : GoodIn wsX12_by (va_wsS RX12 84 yX12_bound wsX12_bound) := goodIn_app (goodIn_of _ (by decide +kernel)) ggX12_by_X12_bound
set_option maxRecDepth 20000 in
theorem ggX12_by_X12_no : GoodIn wsX12_by wsX12_no := goodIn_r _ [15, 16, 23, 24, 25, 26, 27, 28, 29, 30, 31, 32, 33, 34, 35, 36, 37, 38, 39, 40, 41, 42, 43, 44, 45, 46, 47, 48, 49, 50, 51, 52, 53, 54, 55] (by decide +kernel) (by decide +kernel)
set_option maxRecDepth 20000 in
theorem gX12_by_X12_no : GoodIn wsX12_by (wsV RX12 91 RX12 yX12_no wsX12_no) := goodIn_app (goodIn_of _ (by decide +kernel)) ggX12_by_X12_no
set_option maxRecDepth 20000 in
theorem ggX12_by_X12_sceneAt : GoodIn wsX12_by wsX12_sceneAt := goodIn_r _ [20, 21, 22, 23, 24, 25, 26, 27, 28, 29, 30, 31, 32, 33, 34, 35, 36, 37, 38, 39, 40, 41, 42, 43, 44, 45, 46, 47, 48, 49, 50, 51, 52, 53, 54, 55] (by decide +kernel) (by decide +kernel)
set_option maxRecDepth 20000 in
theorem gX12_by_X12_sceneAt : GoodIn wsX12_by (wsV RX12 236 RX12 yX12_sceneAt wsX12_sceneAt) := goodIn_app (goodIn_of _ (by decide +kernel)) ggX12_by_X12_sceneAt
theorem dX12_by_0 : decode cX12_by 0 = .ok (.aload_n 0, 1) := by decide +kernel
theorem dX12_by_1 : decode cX12_by 1 = .ok (.iload_n 1, 1) := by decide +kernel
theorem dX12_by_2 : decode cX12_by 2 = .ok (.invokevirtual 132, 3) := by decide +kernel
theorem dX12_by_5 : decode cX12_by 5 = .ok (.ifCond .ne 7, 3) := by decide +kernel
theorem dX12_by_8 : decode cX12_by 8 = .ok (.iconst (-1), 1) := by decide +kernel
theorem dX12_by_9 : decode cX12_by 9 = .ok (.goto 11, 3) := by decide +kernel
theorem dX12_by_12 : decode cX12_by 12 = .ok (.iload_n 2, 1) := by decide +kernel
theorem dX12_by_13 : decode cX12_by 13 = .ok (.iconst 0, 1) := by decide +kernel
theorem dX12_by_14 : decode cX12_by 14 = .ok (.sipush 9999, 3) := by decide +kernel
theorem dX12_by_17 : decode cX12_by 17 = .ok (.invokestatic 84, 3) := by decide +kernel
theorem dX12_by_20 : decode cX12_by 20 = .ok (.istore_n 3, 1) := by decide +kernel
theorem dX12_by_21 : decode cX12_by 21 = .ok (.iload_n 3, 1) := by decide +kernel
theorem dX12_by_22 : decode cX12_by 22 = .ok (.ifCond .eq 9, 3) := by decide +kernel
theorem dX12_by_25 : decode cX12_by 25 = .ok (.aload_n 0, 1) := by decide +kernel
theorem dX12_by_26 : decode cX12_by 26 = .ok (.iload_n 3, 1) := by decide +kernel
theorem dX12_by_27 : decode cX12_by 27 = .ok (.invokevirtual 91, 3) := by decide +kernel
theorem dX12_by_30 : decode cX12_by 30 = .ok (.ireturn, 1) := by decide +kernel
theorem dX12_by_31 : decode cX12_by 31 = .ok (.iconst 0, 1) := by decide +kernel
theorem dX12_by_32 : decode cX12_by 32 = .ok (.istore 4, 2) := by decide +kernel
theorem dX12_by_34 : decode cX12_by 34 = .ok (.iconst 0, 1) := by decide +kernel
theorem dX12_by_35 : decode cX12_by 35 = .ok (.istore 5, 2) := by decide +kernel
theorem dX12_by_37 : decode cX12_by 37 = .ok (.iload 5, 2) := by decide +kernel
theorem dX12_by_39 : decode cX12_by 39 = .ok (.aload_n 0, 1) := by decide +kernel
theorem dX12_by_40 : decode cX12_by 40 = .ok (.getfield 76, 3) := by decide +kernel
theorem dX12_by_43 : decode cX12_by 43 = .ok (.if_icmp .ge 54, 3) := by decide +kernel
theorem dX12_by_46 : decode cX12_by 46 = .ok (.iload 4, 2) := by decide +kernel
theorem dX12_by_48 : decode cX12_by 48 = .ok (.aload_n 0, 1) := by decide +kernel
theorem dX12_by_49 : decode cX12_by 49 = .ok (.iload 5, 2) := by decide +kernel
theorem dX12_by_51 : decode cX12_by 51 = .ok (.iload_n 2, 1) := by decide +kernel
theorem dX12_by_52 : decode cX12_by 52 = .ok (.invokevirtual 236, 3) := by decide +kernel
theorem dX12_by_55 : decode cX12_by 55 = .ok (.ifCond .lt 32, 3) := by decide +kernel
theorem dX12_by_58 : decode cX12_by 58 = .ok (.aload_n 0, 1) := by decide +kernel
theorem dX12_by_59 : decode cX12_by 59 = .ok (.getfield 31, 3) := by decide +kernel
theorem dX12_by_62 : decode cX12_by 62 = .ok (.bipush 9, 2) := by decide +kernel
theorem dX12_by_64 : decode cX12_by 64 = .ok (.iload 5, 2) := by decide +kernel
theorem dX12_by_66 : decode cX12_by 66 = .ok (.imul, 1) := by decide +kernel
theorem dX12_by_67 : decode cX12_by 67 = .ok (.aload_n 0, 1) := by decide +kernel
theorem dX12_by_68 : decode cX12_by 68 = .ok (.iload 5, 2) := by decide +kernel
theorem dX12_by_70 : decode cX12_by 70 = .ok (.iload_n 2, 1) := by decide +kernel
theorem dX12_by_71 : decode cX12_by 71 = .ok (.invokevirtual 236, 3) := by decide +kernel
theorem dX12_by_74 : decode cX12_by 74 = .ok (.iadd, 1) := by decide +kernel
theorem dX12_by_75 : decode cX12_by 75 = .ok (.iaload, 1) := by decide +kernel
theorem dX12_by_76 : decode cX12_by 76 = .ok (.iload_n 1, 1) := by decide +kernel
theorem dX12_by_77 : decode cX12_by 77 = .ok (.if_icmp .ne 10, 3) := by decide +kernel
theorem dX12_by_80 : decode cX12_by 80 = .ok (.iconst 1, 1) := by decide +kernel
theorem dX12_by_81 : decode cX12_by 81 = .ok (.iload 5, 2) := by decide +kernel
theorem dX12_by_83 : decode cX12_by 83 = .ok (.ishl, 1) := by decide +kernel
theorem dX12_by_84 : decode cX12_by 84 = .ok (.goto 4, 3) := by decide +kernel
theorem dX12_by_87 : decode cX12_by 87 = .ok (.iconst 0, 1) := by decide +kernel
theorem dX12_by_88 : decode cX12_by 88 = .ok (.ior, 1) := by decide +kernel
theorem dX12_by_89 : decode cX12_by 89 = .ok (.istore 4, 2) := by decide +kernel
theorem dX12_by_91 : decode cX12_by 91 = .ok (.iinc 5 1, 3) := by decide +kernel
theorem dX12_by_94 : decode cX12_by 94 = .ok (.goto (-57), 3) := by decide +kernel
theorem dX12_by_97 : decode cX12_by 97 = .ok (.iload 4, 2) := by decide +kernel
theorem dX12_by_99 : decode cX12_by 99 = .ok (.ireturn, 1) := by decide +kernel
set_option maxRecDepth 20000 in
theorem ggX12_unlit_X12_isCell : GoodIn wsX12_unlit wsX12_isCell := goodIn_r _ [8] (by decide +kernel) (by decide +kernel)
set_option maxRecDepth 20000 in
theorem gX12_unlit_X12_isCell : GoodIn wsX12_unlit (va_wsS RX12 123 yX12_isCell wsX12_isCell) := goodIn_app (goodIn_of _ (by decide +kernel)) ggX12_unlit_X12_isCell
set_option maxRecDepth 20000 in
theorem ggX12_unlit_X12_bound : GoodIn wsX12_unlit wsX12_bound := goodIn_r _ [11] (by decide +kernel) (by decide +kernel)
set_option maxRecDepth 20000 in
theorem gX12_unlit_X12_bound : GoodIn wsX12_unlit (va_wsS RX12 84 yX12_bound wsX12_bound) := goodIn_app (goodIn_of _ (by decide +kernel)) ggX12_unlit_X12_bound
set_option maxRecDepth 20000 in
theorem ggX12_unlit_X12_no : GoodIn wsX12_unlit wsX12_no := goodIn_r _ [15, 16, 57, 58, 59, 60, 61, 62, 63, 64, 65, 66, 67, 68, 69, 70, 71, 72, 73, 74, 75, 76, 77, 78, 79, 80, 81, 82, 83, 84, 85, 86, 87, 88, 89] (by decide +kernel) (by decide +kernel)
set_option maxRecDepth 20000 in
theorem gX12_unlit_X12_no : GoodIn wsX12_unlit (wsV RX12 91 RX12 yX12_no wsX12_no) := goodIn_app (goodIn_of _ (by decide +kernel)) ggX12_unlit_X12_no
set_option maxRecDepth 20000 in
theorem ggX12_unlit_X12_findLit : GoodIn wsX12_unlit wsX12_findLit := goodIn_r _ [20, 3, 21, 22, 4, 23, 24, 25, 7, 26, 27, 28, 29, 30, 31, 32, 33, 34, 2, 35, 36, 37, 38, 1, 39, 40, 41, 42, 43, 44, 45, 46, 47, 48, 49, 50, 51, 57, 58, 59, 60, 61, 62, 63, 64, 65, 66, 67, 68, 69, 70, 71, 72, 73, 74, 75, 76, 77, 78, 79, 80, 81, 82, 83, 84, 85, 86, 87, 88, 89] (by decide +kernel) (by decide +kernel)
set_option maxRecDepth 20000 in
theorem gX12_unlit_X12_findLit : GoodIn wsX12_unlit (wsV RX12 220 RX12 yX12_findLit wsX12_findLit) := goodIn_app (goodIn_of _ (by decide +kernel)) ggX12_unlit_X12_findLit
set_option maxRecDepth 20000 in
theorem ggX12_unlit_X12_litBits : GoodIn wsX12_unlit wsX12_litBits := goodIn_r _ [55, 21, 56, 57, 58, 59, 60, 61, 62, 63, 64, 65, 66, 67, 68, 69, 70, 71, 72, 73, 74, 75, 76, 77, 78, 79, 80, 81, 82, 83, 84, 85, 86, 87, 88, 89] (by decide +kernel) (by decide +kernel)
set_option maxRecDepth 20000 in
theorem gX12_unlit_X12_litBits : GoodIn wsX12_unlit (wsV RX12 239 RX12 yX12_litBits wsX12_litBits) := goodIn_app (goodIn_of _ (by decide +kernel)) ggX12_unlit_X12_litBits
set_option maxRecDepth 20000 in
theorem ggX12_unlit_X12_findFar : GoodIn wsX12_unlit wsX12_findFar := goodIn_r _ [42, 4, 43, 44, 45, 46, 47, 7, 48, 1, 49, 50, 51, 57, 58, 59, 60, 61, 62, 63, 64, 65, 66, 67, 68, 69, 70, 71, 72, 73, 74, 75, 76, 77, 78, 79, 80, 81, 82, 83, 84, 85, 86, 87, 88, 89] (by decide +kernel) (by decide +kernel)
set_option maxRecDepth 20000 in
theorem gX12_unlit_X12_findFar : GoodIn wsX12_unlit (wsV RX12 201 RX12 yX12_findFar wsX12_findFar) := goodIn_app (goodIn_of _ (by decide +kernel)) ggX12_unlit_X12_findFar
theorem dX12_unlit_0 : decode cX12_unlit 0 = .ok (.iload_n 1, 1) := by decide +kernel
theorem dX12_unlit_1 : decode cX12_unlit 1 = .ok (.invokestatic 123, 3) := by decide +kernel
theorem dX12_unlit_4 : decode cX12_unlit 4 = .ok (.ifCond .eq 10, 3) := by decide +kernel
theorem dX12_unlit_7 : decode cX12_unlit 7 = .ok (.iload_n 2, 1) := by decide +kernel
theorem dX12_unlit_8 : decode cX12_unlit 8 = .ok (.invokestatic 123, 3) := by decide +kernel
theorem dX12_unlit_11 : decode cX12_unlit 11 = .ok (.ifCond .ne 7, 3) := by decide +kernel
theorem dX12_unlit_14 : decode cX12_unlit 14 = .ok (.iconst (-1), 1) := by decide +kernel
theorem dX12_unlit_15 : decode cX12_unlit 15 = .ok (.goto 10, 3) := by decide +kernel
theorem dX12_unlit_18 : decode cX12_unlit 18 = .ok (.iload_n 3, 1) := by decide +kernel
theorem dX12_unlit_19 : decode cX12_unlit 19 = .ok (.iconst 0, 1) := by decide +kernel
theorem dX12_unlit_20 : decode cX12_unlit 20 = .ok (.bipush 63, 2) := by decide +kernel
theorem dX12_unlit_22 : decode cX12_unlit 22 = .ok (.invokestatic 84, 3) := by decide +kernel
theorem dX12_unlit_25 : decode cX12_unlit 25 = .ok (.istore 4, 2) := by decide +kernel
theorem dX12_unlit_27 : decode cX12_unlit 27 = .ok (.iload 4, 2) := by decide +kernel
theorem dX12_unlit_29 : decode cX12_unlit 29 = .ok (.ifCond .eq 10, 3) := by decide +kernel
theorem dX12_unlit_32 : decode cX12_unlit 32 = .ok (.aload_n 0, 1) := by decide +kernel
theorem dX12_unlit_33 : decode cX12_unlit 33 = .ok (.iload 4, 2) := by decide +kernel
theorem dX12_unlit_35 : decode cX12_unlit 35 = .ok (.invokevirtual 91, 3) := by decide +kernel
theorem dX12_unlit_38 : decode cX12_unlit 38 = .ok (.ireturn, 1) := by decide +kernel
theorem dX12_unlit_39 : decode cX12_unlit 39 = .ok (.aload_n 0, 1) := by decide +kernel
theorem dX12_unlit_40 : decode cX12_unlit 40 = .ok (.invokevirtual 220, 3) := by decide +kernel
theorem dX12_unlit_43 : decode cX12_unlit 43 = .ok (.iconst 0, 1) := by decide +kernel
theorem dX12_unlit_44 : decode cX12_unlit 44 = .ok (.istore 5, 2) := by decide +kernel
theorem dX12_unlit_46 : decode cX12_unlit 46 = .ok (.iload 5, 2) := by decide +kernel
theorem dX12_unlit_48 : decode cX12_unlit 48 = .ok (.bipush 36, 2) := by decide +kernel
theorem dX12_unlit_50 : decode cX12_unlit 50 = .ok (.if_icmp .ge 51, 3) := by decide +kernel
theorem dX12_unlit_53 : decode cX12_unlit 53 = .ok (.aload_n 0, 1) := by decide +kernel
theorem dX12_unlit_54 : decode cX12_unlit 54 = .ok (.getfield 61, 3) := by decide +kernel
theorem dX12_unlit_57 : decode cX12_unlit 57 = .ok (.iload 5, 2) := by decide +kernel
theorem dX12_unlit_59 : decode cX12_unlit 59 = .ok (.aload_n 0, 1) := by decide +kernel
theorem dX12_unlit_60 : decode cX12_unlit 60 = .ok (.getfield 13, 3) := by decide +kernel
theorem dX12_unlit_63 : decode cX12_unlit 63 = .ok (.iload 5, 2) := by decide +kernel
theorem dX12_unlit_65 : decode cX12_unlit 65 = .ok (.iaload, 1) := by decide +kernel
theorem dX12_unlit_66 : decode cX12_unlit 66 = .ok (.iconst 1, 1) := by decide +kernel
theorem dX12_unlit_67 : decode cX12_unlit 67 = .ok (.if_icmp .eq 22, 3) := by decide +kernel
theorem dX12_unlit_70 : decode cX12_unlit 70 = .ok (.aload_n 0, 1) := by decide +kernel
theorem dX12_unlit_71 : decode cX12_unlit 71 = .ok (.getfield 67, 3) := by decide +kernel
theorem dX12_unlit_74 : decode cX12_unlit 74 = .ok (.iload 5, 2) := by decide +kernel
theorem dX12_unlit_76 : decode cX12_unlit 76 = .ok (.iaload, 1) := by decide +kernel
theorem dX12_unlit_77 : decode cX12_unlit 77 = .ok (.aload_n 0, 1) := by decide +kernel
theorem dX12_unlit_78 : decode cX12_unlit 78 = .ok (.invokevirtual 239, 3) := by decide +kernel
theorem dX12_unlit_81 : decode cX12_unlit 81 = .ok (.iand, 1) := by decide +kernel
theorem dX12_unlit_82 : decode cX12_unlit 82 = .ok (.iload_n 3, 1) := by decide +kernel
theorem dX12_unlit_83 : decode cX12_unlit 83 = .ok (.iconst (-1), 1) := by decide +kernel
theorem dX12_unlit_84 : decode cX12_unlit 84 = .ok (.ixor, 1) := by decide +kernel
theorem dX12_unlit_85 : decode cX12_unlit 85 = .ok (.iand, 1) := by decide +kernel
theorem dX12_unlit_86 : decode cX12_unlit 86 = .ok (.ifCond .eq 7, 3) := by decide +kernel
theorem dX12_unlit_89 : decode cX12_unlit 89 = .ok (.iconst 1, 1) := by decide +kernel
theorem dX12_unlit_90 : decode cX12_unlit 90 = .ok (.goto 4, 3) := by decide +kernel
theorem dX12_unlit_93 : decode cX12_unlit 93 = .ok (.iconst 0, 1) := by decide +kernel
theorem dX12_unlit_94 : decode cX12_unlit 94 = .ok (.iastore, 1) := by decide +kernel
theorem dX12_unlit_95 : decode cX12_unlit 95 = .ok (.iinc 5 1, 3) := by decide +kernel
theorem dX12_unlit_98 : decode cX12_unlit 98 = .ok (.goto (-52), 3) := by decide +kernel
theorem dX12_unlit_101 : decode cX12_unlit 101 = .ok (.aload_n 0, 1) := by decide +kernel
theorem dX12_unlit_102 : decode cX12_unlit 102 = .ok (.iload_n 1, 1) := by decide +kernel
theorem dX12_unlit_103 : decode cX12_unlit 103 = .ok (.invokevirtual 201, 3) := by decide +kernel
theorem dX12_unlit_106 : decode cX12_unlit 106 = .ok (.aload_n 0, 1) := by decide +kernel
theorem dX12_unlit_107 : decode cX12_unlit 107 = .ok (.getfield 58, 3) := by decide +kernel
theorem dX12_unlit_110 : decode cX12_unlit 110 = .ok (.iload_n 2, 1) := by decide +kernel
theorem dX12_unlit_111 : decode cX12_unlit 111 = .ok (.iaload, 1) := by decide +kernel
theorem dX12_unlit_112 : decode cX12_unlit 112 = .ok (.ireturn, 1) := by decide +kernel
set_option maxRecDepth 20000 in
theorem ggX12_forget_X12_isLamp : GoodIn wsX12_forget wsX12_isLamp := goodIn_r _ [7, 8, 25, 26, 27, 28, 29, 30, 31, 32, 33, 34, 35, 36, 37, 38, 39, 40, 41, 42, 43, 44, 45, 46, 47, 48, 49, 50, 51, 52, 53, 54, 55, 56, 57] (by decide +kernel) (by decide +kernel)
set_option maxRecDepth 20000 in
theorem gX12_forget_X12_isLamp : GoodIn wsX12_forget (wsV RX12 157 RX12 yX12_isLamp wsX12_isLamp) := goodIn_app (goodIn_of _ (by decide +kernel)) ggX12_forget_X12_isLamp
set_option maxRecDepth 20000 in
theorem ggX12_forget_X12_bound : GoodIn wsX12_forget wsX12_bound := goodIn_r _ [11] (by decide +kernel) (by decide +kernel)
set_option maxRecDepth 20000 in
theorem gX12_forget_X12_bound : GoodIn wsX12_forget (va_wsS RX12 84 yX12_bound wsX12_bound) := goodIn_app (goodIn_of _ (by decide +kernel)) ggX12_forget_X12_bound
set_option maxRecDepth 20000 in
theorem ggX12_forget_X12_no : GoodIn wsX12_forget wsX12_no := goodIn_r _ [15, 16, 25, 26, 27, 28, 29, 30, 31, 32, 33, 34, 35, 36, 37, 38, 39, 40, 41, 42, 43, 44, 45, 46, 47, 48, 49, 50, 51, 52, 53, 54, 55, 56, 57] (by decide +kernel) (by decide +kernel)
set_option maxRecDepth 20000 in
theorem gX12_forget_X12_no : GoodIn wsX12_forget (wsV RX12 91 RX12 yX12_no wsX12_no) := goodIn_app (goodIn_of _ (by decide +kernel)) ggX12_forget_X12_no
set_option maxRecDepth 20000 in
theorem ggX12_forget_X12_sceneAt : GoodIn wsX12_forget wsX12_sceneAt := goodIn_r _ [20, 2, 21, 25, 26, 27, 28, 29, 30, 31, 32, 33, 34, 35, 36, 37, 38, 39, 40, 41, 42, 43, 44, 45, 46, 47, 48, 49, 50, 51, 52, 53, 54, 55, 56, 57] (by decide +kernel) (by decide +kernel)
set_option maxRecDepth 20000 in
theorem gX12_forget_X12_sceneAt : GoodIn wsX12_forget (wsV RX12 236 RX12 yX12_sceneAt wsX12_sceneAt) := goodIn_app (goodIn_of _ (by decide +kernel)) ggX12_forget_X12_sceneAt
set_option maxRecDepth 20000 in
theorem ggX12_forget_X12_keepsOf : GoodIn wsX12_forget wsX12_keepsOf := goodIn_r _ [24] (by decide +kernel) (by decide +kernel)
set_option maxRecDepth 20000 in
theorem gX12_forget_X12_keepsOf : GoodIn wsX12_forget (va_wsS RX12 211 yX12_keepsOf wsX12_keepsOf) := goodIn_app (goodIn_of _ (by decide +kernel)) ggX12_forget_X12_keepsOf
theorem dX12_forget_0 : decode cX12_forget 0 = .ok (.aload_n 0, 1) := by decide +kernel
theorem dX12_forget_1 : decode cX12_forget 1 = .ok (.iload_n 1, 1) := by decide +kernel
theorem dX12_forget_2 : decode cX12_forget 2 = .ok (.invokevirtual 157, 3) := by decide +kernel
theorem dX12_forget_5 : decode cX12_forget 5 = .ok (.ifCond .ne 7, 3) := by decide +kernel
theorem dX12_forget_8 : decode cX12_forget 8 = .ok (.iconst (-1), 1) := by decide +kernel
theorem dX12_forget_9 : decode cX12_forget 9 = .ok (.goto 11, 3) := by decide +kernel
theorem dX12_forget_12 : decode cX12_forget 12 = .ok (.iload_n 2, 1) := by decide +kernel
theorem dX12_forget_13 : decode cX12_forget 13 = .ok (.iconst 0, 1) := by decide +kernel
theorem dX12_forget_14 : decode cX12_forget 14 = .ok (.sipush 9999, 3) := by decide +kernel
theorem dX12_forget_17 : decode cX12_forget 17 = .ok (.invokestatic 84, 3) := by decide +kernel
theorem dX12_forget_20 : decode cX12_forget 20 = .ok (.istore_n 3, 1) := by decide +kernel
theorem dX12_forget_21 : decode cX12_forget 21 = .ok (.iload_n 3, 1) := by decide +kernel
theorem dX12_forget_22 : decode cX12_forget 22 = .ok (.ifCond .eq 9, 3) := by decide +kernel
theorem dX12_forget_25 : decode cX12_forget 25 = .ok (.aload_n 0, 1) := by decide +kernel
theorem dX12_forget_26 : decode cX12_forget 26 = .ok (.iload_n 3, 1) := by decide +kernel
theorem dX12_forget_27 : decode cX12_forget 27 = .ok (.invokevirtual 91, 3) := by decide +kernel
theorem dX12_forget_30 : decode cX12_forget 30 = .ok (.ireturn, 1) := by decide +kernel
theorem dX12_forget_31 : decode cX12_forget 31 = .ok (.aload_n 0, 1) := by decide +kernel
theorem dX12_forget_32 : decode cX12_forget 32 = .ok (.iload_n 1, 1) := by decide +kernel
theorem dX12_forget_33 : decode cX12_forget 33 = .ok (.iload_n 2, 1) := by decide +kernel
theorem dX12_forget_34 : decode cX12_forget 34 = .ok (.invokevirtual 236, 3) := by decide +kernel
theorem dX12_forget_37 : decode cX12_forget 37 = .ok (.istore 4, 2) := by decide +kernel
theorem dX12_forget_39 : decode cX12_forget 39 = .ok (.iload 4, 2) := by decide +kernel
theorem dX12_forget_41 : decode cX12_forget 41 = .ok (.ifCond .ge 8, 3) := by decide +kernel
theorem dX12_forget_44 : decode cX12_forget 44 = .ok (.bipush (-9), 2) := by decide +kernel
theorem dX12_forget_46 : decode cX12_forget 46 = .ok (.goto 24, 3) := by decide +kernel
theorem dX12_forget_49 : decode cX12_forget 49 = .ok (.aload_n 0, 1) := by decide +kernel
theorem dX12_forget_50 : decode cX12_forget 50 = .ok (.getfield 16, 3) := by decide +kernel
theorem dX12_forget_53 : decode cX12_forget 53 = .ok (.iload_n 1, 1) := by decide +kernel
theorem dX12_forget_54 : decode cX12_forget 54 = .ok (.iaload, 1) := by decide +kernel
theorem dX12_forget_55 : decode cX12_forget 55 = .ok (.invokestatic 211, 3) := by decide +kernel
theorem dX12_forget_58 : decode cX12_forget 58 = .ok (.aload_n 0, 1) := by decide +kernel
theorem dX12_forget_59 : decode cX12_forget 59 = .ok (.getfield 28, 3) := by decide +kernel
theorem dX12_forget_62 : decode cX12_forget 62 = .ok (.iload_n 1, 1) := by decide +kernel
theorem dX12_forget_63 : decode cX12_forget 63 = .ok (.iaload, 1) := by decide +kernel
theorem dX12_forget_64 : decode cX12_forget 64 = .ok (.isub, 1) := by decide +kernel
theorem dX12_forget_65 : decode cX12_forget 65 = .ok (.iload 4, 2) := by decide +kernel
theorem dX12_forget_67 : decode cX12_forget 67 = .ok (.iadd, 1) := by decide +kernel
theorem dX12_forget_68 : decode cX12_forget 68 = .ok (.iconst 1, 1) := by decide +kernel
theorem dX12_forget_69 : decode cX12_forget 69 = .ok (.iadd, 1) := by decide +kernel
theorem dX12_forget_70 : decode cX12_forget 70 = .ok (.ireturn, 1) := by decide +kernel
theorem dX12_shownTo_0 : decode cX12_shownTo 0 = .ok (.aload_n 0, 1) := by decide +kernel
theorem dX12_shownTo_1 : decode cX12_shownTo 1 = .ok (.getfield 67, 3) := by decide +kernel
theorem dX12_shownTo_4 : decode cX12_shownTo 4 = .ok (.aload_n 0, 1) := by decide +kernel
theorem dX12_shownTo_5 : decode cX12_shownTo 5 = .ok (.getfield 40, 3) := by decide +kernel
theorem dX12_shownTo_8 : decode cX12_shownTo 8 = .ok (.iload_n 1, 1) := by decide +kernel
theorem dX12_shownTo_9 : decode cX12_shownTo 9 = .ok (.iaload, 1) := by decide +kernel
theorem dX12_shownTo_10 : decode cX12_shownTo 10 = .ok (.iaload, 1) := by decide +kernel
theorem dX12_shownTo_11 : decode cX12_shownTo 11 = .ok (.ireturn, 1) := by decide +kernel
set_option maxRecDepth 20000 in
theorem ggX12_knows_X12_isPerson : GoodIn wsX12_knows wsX12_isPerson := goodIn_r _ [9, 4, 71, 72, 73, 74, 75, 76, 77, 78, 79, 80, 81, 82, 83, 84, 85, 86, 87, 88, 89, 90, 91, 92, 93, 94, 95, 96, 97, 98, 99, 100, 101, 102, 103] (by decide +kernel) (by decide +kernel)
set_option maxRecDepth 20000 in
theorem gX12_knows_X12_isPerson : GoodIn wsX12_knows (wsV RX12 132 RX12 yX12_isPerson wsX12_isPerson) := goodIn_app (goodIn_of _ (by decide +kernel)) ggX12_knows_X12_isPerson
set_option maxRecDepth 20000 in
theorem ggX12_knows_X12_isCell : GoodIn wsX12_knows wsX12_isCell := goodIn_r _ [12] (by decide +kernel) (by decide +kernel)
set_option maxRecDepth 20000 in
theorem gX12_knows_X12_isCell : GoodIn wsX12_knows (va_wsS RX12 123 yX12_isCell wsX12_isCell) := goodIn_app (goodIn_of _ (by decide +kernel)) ggX12_knows_X12_isCell
set_option maxRecDepth 20000 in
theorem ggX12_knows_X12_bound : GoodIn wsX12_knows wsX12_bound := goodIn_r _ [15] (by decide +kernel) (by decide +kernel)
set_option maxRecDepth 20000 in
theorem gX12_knows_X12_bound : GoodIn wsX12_knows (va_wsS RX12 84 yX12_bound wsX12_bound) := goodIn_app (goodIn_of _ (by decide +kernel)) ggX12_knows_X12_bound
set_option maxRecDepth 20000 in
theorem ggX12_knows_X12_no : GoodIn wsX12_knows wsX12_no := goodIn_r _ [19, 20, 71, 72, 73, 74, 75, 76, 77, 78, 79, 80, 81, 82, 83, 84, 85, 86, 87, 88, 89, 90, 91, 92, 93, 94, 95, 96, 97, 98, 99, 100, 101, 102, 103] (by decide +kernel) (by decide +kernel)
set_option maxRecDepth 20000 in
theorem gX12_knows_X12_no : GoodIn wsX12_knows (wsV RX12 91 RX12 yX12_no wsX12_no) := goodIn_app (goodIn_of _ (by decide +kernel)) ggX12_knows_X12_no
set_option maxRecDepth 20000 in
theorem ggX12_knows_X12_findLit : GoodIn wsX12_knows wsX12_findLit := goodIn_r _ [24, 25, 1, 26, 27, 28, 29, 30, 8, 31, 32, 33, 4, 34, 35, 36, 37, 38, 39, 40, 41, 42, 43, 44, 45, 46, 47, 48, 49, 50, 51, 52, 53, 54, 55, 56, 57, 71, 72, 73, 74, 75, 76, 77, 78, 79, 80, 81, 82, 83, 84, 85, 86, 87, 88, 89, 90, 91, 92, 93, 94, 95, 96, 97, 98, 99, 100, 101, 102, 103] (by decide +kernel) (by decide +kernel)
set_option maxRecDepth 20000 in
theorem gX12_knows_X12_findLit : GoodIn wsX12_knows (wsV RX12 220 RX12 yX12_findLit wsX12_findLit) := goodIn_app (goodIn_of _ (by decide +kernel)) ggX12_knows_X12_findLit
set_option maxRecDepth 20000 in
theorem ggX12_knows_X12_sceneAt : GoodIn wsX12_knows wsX12_sceneAt := goodIn_r _ [61, 62, 63, 71, 72, 73, 74, 75, 76, 77, 78, 79, 80, 81, 82, 83, 84, 85, 86, 87, 88, 89, 90, 91, 92, 93, 94, 95, 96, 97, 98, 99, 100, 101, 102, 103] (by decide +kernel) (by decide +kernel)
set_option maxRecDepth 20000 in
theorem gX12_knows_X12_sceneAt : GoodIn wsX12_knows (wsV RX12 236 RX12 yX12_sceneAt wsX12_sceneAt) := goodIn_app (goodIn_of _ (by decide +kernel)) ggX12_knows_X12_sceneAt
set_option maxRecDepth 20000 in
theorem ggX12_knows_X12_shownTo : GoodIn wsX12_knows wsX12_shownTo := goodIn_r _ [67, 25, 34, 71, 72, 73, 74, 75, 76, 77, 78, 79, 80, 81, 82, 83, 84, 85, 86, 87, 88, 89, 90, 91, 92, 93, 94, 95, 96, 97, 98, 99, 100, 101, 102, 103] (by decide +kernel) (by decide +kernel)
set_option maxRecDepth 20000 in
theorem gX12_knows_X12_shownTo : GoodIn wsX12_knows (wsV RX12 242 RX12 yX12_shownTo wsX12_shownTo) := goodIn_app (goodIn_of _ (by decide +kernel)) ggX12_knows_X12_shownTo
set_option maxRecDepth 20000 in
theorem ggX12_knows_X12_has : GoodIn wsX12_knows wsX12_has := goodIn_r _ [70] (by decide +kernel) (by decide +kernel)
set_option maxRecDepth 20000 in
theorem gX12_knows_X12_has : GoodIn wsX12_knows (va_wsS RX12 223 yX12_has wsX12_has) := goodIn_app (goodIn_of _ (by decide +kernel)) ggX12_knows_X12_has
theorem dX12_knows_0 : decode cX12_knows 0 = .ok (.aload_n 0, 1) := by decide +kernel
theorem dX12_knows_1 : decode cX12_knows 1 = .ok (.iload_n 1, 1) := by decide +kernel
theorem dX12_knows_2 : decode cX12_knows 2 = .ok (.invokevirtual 132, 3) := by decide +kernel
theorem dX12_knows_5 : decode cX12_knows 5 = .ok (.ifCond .eq 10, 3) := by decide +kernel
theorem dX12_knows_8 : decode cX12_knows 8 = .ok (.iload_n 2, 1) := by decide +kernel
theorem dX12_knows_9 : decode cX12_knows 9 = .ok (.invokestatic 123, 3) := by decide +kernel
theorem dX12_knows_12 : decode cX12_knows 12 = .ok (.ifCond .ne 7, 3) := by decide +kernel
theorem dX12_knows_15 : decode cX12_knows 15 = .ok (.iconst (-1), 1) := by decide +kernel
theorem dX12_knows_16 : decode cX12_knows 16 = .ok (.goto 11, 3) := by decide +kernel
theorem dX12_knows_19 : decode cX12_knows 19 = .ok (.iload_n 3, 1) := by decide +kernel
theorem dX12_knows_20 : decode cX12_knows 20 = .ok (.iconst 0, 1) := by decide +kernel
theorem dX12_knows_21 : decode cX12_knows 21 = .ok (.sipush 9999, 3) := by decide +kernel
theorem dX12_knows_24 : decode cX12_knows 24 = .ok (.invokestatic 84, 3) := by decide +kernel
theorem dX12_knows_27 : decode cX12_knows 27 = .ok (.istore 4, 2) := by decide +kernel
theorem dX12_knows_29 : decode cX12_knows 29 = .ok (.iload 4, 2) := by decide +kernel
theorem dX12_knows_31 : decode cX12_knows 31 = .ok (.ifCond .eq 10, 3) := by decide +kernel
theorem dX12_knows_34 : decode cX12_knows 34 = .ok (.aload_n 0, 1) := by decide +kernel
theorem dX12_knows_35 : decode cX12_knows 35 = .ok (.iload 4, 2) := by decide +kernel
theorem dX12_knows_37 : decode cX12_knows 37 = .ok (.invokevirtual 91, 3) := by decide +kernel
theorem dX12_knows_40 : decode cX12_knows 40 = .ok (.ireturn, 1) := by decide +kernel
theorem dX12_knows_41 : decode cX12_knows 41 = .ok (.aload_n 0, 1) := by decide +kernel
theorem dX12_knows_42 : decode cX12_knows 42 = .ok (.invokevirtual 220, 3) := by decide +kernel
theorem dX12_knows_45 : decode cX12_knows 45 = .ok (.iconst 0, 1) := by decide +kernel
theorem dX12_knows_46 : decode cX12_knows 46 = .ok (.istore 5, 2) := by decide +kernel
theorem dX12_knows_48 : decode cX12_knows 48 = .ok (.iconst 0, 1) := by decide +kernel
theorem dX12_knows_49 : decode cX12_knows 49 = .ok (.istore 6, 2) := by decide +kernel
theorem dX12_knows_51 : decode cX12_knows 51 = .ok (.iload 6, 2) := by decide +kernel
theorem dX12_knows_53 : decode cX12_knows 53 = .ok (.aload_n 0, 1) := by decide +kernel
theorem dX12_knows_54 : decode cX12_knows 54 = .ok (.getfield 76, 3) := by decide +kernel
theorem dX12_knows_57 : decode cX12_knows 57 = .ok (.if_icmp .ge 103, 3) := by decide +kernel
theorem dX12_knows_60 : decode cX12_knows 60 = .ok (.aload_n 0, 1) := by decide +kernel
theorem dX12_knows_61 : decode cX12_knows 61 = .ok (.iload 6, 2) := by decide +kernel
theorem dX12_knows_63 : decode cX12_knows 63 = .ok (.iload_n 3, 1) := by decide +kernel
theorem dX12_knows_64 : decode cX12_knows 64 = .ok (.invokevirtual 236, 3) := by decide +kernel
theorem dX12_knows_67 : decode cX12_knows 67 = .ok (.istore 7, 2) := by decide +kernel
theorem dX12_knows_69 : decode cX12_knows 69 = .ok (.bipush 9, 2) := by decide +kernel
theorem dX12_knows_71 : decode cX12_knows 71 = .ok (.iload 6, 2) := by decide +kernel
theorem dX12_knows_73 : decode cX12_knows 73 = .ok (.imul, 1) := by decide +kernel
theorem dX12_knows_74 : decode cX12_knows 74 = .ok (.iload 7, 2) := by decide +kernel
theorem dX12_knows_76 : decode cX12_knows 76 = .ok (.iadd, 1) := by decide +kernel
theorem dX12_knows_77 : decode cX12_knows 77 = .ok (.istore 8, 2) := by decide +kernel
theorem dX12_knows_79 : decode cX12_knows 79 = .ok (.iload 7, 2) := by decide +kernel
theorem dX12_knows_81 : decode cX12_knows 81 = .ok (.ifCond .lt 73, 3) := by decide +kernel
theorem dX12_knows_84 : decode cX12_knows 84 = .ok (.aload_n 0, 1) := by decide +kernel
theorem dX12_knows_85 : decode cX12_knows 85 = .ok (.getfield 31, 3) := by decide +kernel
theorem dX12_knows_88 : decode cX12_knows 88 = .ok (.iload 8, 2) := by decide +kernel
theorem dX12_knows_90 : decode cX12_knows 90 = .ok (.iaload, 1) := by decide +kernel
theorem dX12_knows_91 : decode cX12_knows 91 = .ok (.iload_n 1, 1) := by decide +kernel
theorem dX12_knows_92 : decode cX12_knows 92 = .ok (.if_icmp .ne 62, 3) := by decide +kernel
theorem dX12_knows_95 : decode cX12_knows 95 = .ok (.aload_n 0, 1) := by decide +kernel
theorem dX12_knows_96 : decode cX12_knows 96 = .ok (.getfield 34, 3) := by decide +kernel
theorem dX12_knows_99 : decode cX12_knows 99 = .ok (.iload 8, 2) := by decide +kernel
theorem dX12_knows_101 : decode cX12_knows 101 = .ok (.iaload, 1) := by decide +kernel
theorem dX12_knows_102 : decode cX12_knows 102 = .ok (.iload_n 2, 1) := by decide +kernel
theorem dX12_knows_103 : decode cX12_knows 103 = .ok (.if_icmp .eq 6, 3) := by decide +kernel
theorem dX12_knows_106 : decode cX12_knows 106 = .ok (.goto 48, 3) := by decide +kernel
theorem dX12_knows_109 : decode cX12_knows 109 = .ok (.iconst 0, 1) := by decide +kernel
theorem dX12_knows_110 : decode cX12_knows 110 = .ok (.istore 9, 2) := by decide +kernel
theorem dX12_knows_112 : decode cX12_knows 112 = .ok (.iload 9, 2) := by decide +kernel
theorem dX12_knows_114 : decode cX12_knows 114 = .ok (.aload_n 0, 1) := by decide +kernel
theorem dX12_knows_115 : decode cX12_knows 115 = .ok (.getfield 81, 3) := by decide +kernel
theorem dX12_knows_118 : decode cX12_knows 118 = .ok (.if_icmp .ge 36, 3) := by decide +kernel
theorem dX12_knows_121 : decode cX12_knows 121 = .ok (.iload 5, 2) := by decide +kernel
theorem dX12_knows_123 : decode cX12_knows 123 = .ok (.aload_n 0, 1) := by decide +kernel
theorem dX12_knows_124 : decode cX12_knows 124 = .ok (.iload 9, 2) := by decide +kernel
theorem dX12_knows_126 : decode cX12_knows 126 = .ok (.invokevirtual 242, 3) := by decide +kernel
theorem dX12_knows_129 : decode cX12_knows 129 = .ok (.iload 6, 2) := by decide +kernel
theorem dX12_knows_131 : decode cX12_knows 131 = .ok (.invokestatic 223, 3) := by decide +kernel
theorem dX12_knows_134 : decode cX12_knows 134 = .ok (.ifCond .eq 10, 3) := by decide +kernel
theorem dX12_knows_137 : decode cX12_knows 137 = .ok (.iconst 1, 1) := by decide +kernel
theorem dX12_knows_138 : decode cX12_knows 138 = .ok (.iload 9, 2) := by decide +kernel
theorem dX12_knows_140 : decode cX12_knows 140 = .ok (.ishl, 1) := by decide +kernel
theorem dX12_knows_141 : decode cX12_knows 141 = .ok (.goto 4, 3) := by decide +kernel
theorem dX12_knows_144 : decode cX12_knows 144 = .ok (.iconst 0, 1) := by decide +kernel
theorem dX12_knows_145 : decode cX12_knows 145 = .ok (.ior, 1) := by decide +kernel
theorem dX12_knows_146 : decode cX12_knows 146 = .ok (.istore 5, 2) := by decide +kernel
theorem dX12_knows_148 : decode cX12_knows 148 = .ok (.iinc 9 1, 3) := by decide +kernel
theorem dX12_knows_151 : decode cX12_knows 151 = .ok (.goto (-39), 3) := by decide +kernel
theorem dX12_knows_154 : decode cX12_knows 154 = .ok (.iinc 6 1, 3) := by decide +kernel
theorem dX12_knows_157 : decode cX12_knows 157 = .ok (.goto (-106), 3) := by decide +kernel
theorem dX12_knows_160 : decode cX12_knows 160 = .ok (.iload 5, 2) := by decide +kernel
theorem dX12_knows_162 : decode cX12_knows 162 = .ok (.ireturn, 1) := by decide +kernel
set_option maxRecDepth 20000 in
theorem ggX12_isTold_X12_has : GoodIn wsX12_isTold wsX12_has := goodIn_r _ [9] (by decide +kernel) (by decide +kernel)
set_option maxRecDepth 20000 in
theorem gX12_isTold_X12_has : GoodIn wsX12_isTold (va_wsS RX12 223 yX12_has wsX12_has) := goodIn_app (goodIn_of _ (by decide +kernel)) ggX12_isTold_X12_has
theorem dX12_isTold_0 : decode cX12_isTold 0 = .ok (.iconst 0, 1) := by decide +kernel
theorem dX12_isTold_1 : decode cX12_isTold 1 = .ok (.istore_n 3, 1) := by decide +kernel
theorem dX12_isTold_2 : decode cX12_isTold 2 = .ok (.iload_n 3, 1) := by decide +kernel
theorem dX12_isTold_3 : decode cX12_isTold 3 = .ok (.iload_n 1, 1) := by decide +kernel
theorem dX12_isTold_4 : decode cX12_isTold 4 = .ok (.if_icmp .ge 94, 3) := by decide +kernel
theorem dX12_isTold_7 : decode cX12_isTold 7 = .ok (.iload_n 3, 1) := by decide +kernel
theorem dX12_isTold_8 : decode cX12_isTold 8 = .ok (.bipush 9, 2) := by decide +kernel
theorem dX12_isTold_10 : decode cX12_isTold 10 = .ok (.idiv, 1) := by decide +kernel
theorem dX12_isTold_11 : decode cX12_isTold 11 = .ok (.istore 4, 2) := by decide +kernel
theorem dX12_isTold_13 : decode cX12_isTold 13 = .ok (.iload 4, 2) := by decide +kernel
theorem dX12_isTold_15 : decode cX12_isTold 15 = .ok (.aload_n 0, 1) := by decide +kernel
theorem dX12_isTold_16 : decode cX12_isTold 16 = .ok (.getfield 76, 3) := by decide +kernel
theorem dX12_isTold_19 : decode cX12_isTold 19 = .ok (.if_icmp .ge 73, 3) := by decide +kernel
theorem dX12_isTold_22 : decode cX12_isTold 22 = .ok (.iload_n 3, 1) := by decide +kernel
theorem dX12_isTold_23 : decode cX12_isTold 23 = .ok (.bipush 9, 2) := by decide +kernel
theorem dX12_isTold_25 : decode cX12_isTold 25 = .ok (.irem, 1) := by decide +kernel
theorem dX12_isTold_26 : decode cX12_isTold 26 = .ok (.aload_n 0, 1) := by decide +kernel
theorem dX12_isTold_27 : decode cX12_isTold 27 = .ok (.getfield 28, 3) := by decide +kernel
theorem dX12_isTold_30 : decode cX12_isTold 30 = .ok (.iload 4, 2) := by decide +kernel
theorem dX12_isTold_32 : decode cX12_isTold 32 = .ok (.iaload, 1) := by decide +kernel
theorem dX12_isTold_33 : decode cX12_isTold 33 = .ok (.if_icmp .ge 59, 3) := by decide +kernel
theorem dX12_isTold_36 : decode cX12_isTold 36 = .ok (.iload_n 2, 1) := by decide +kernel
theorem dX12_isTold_37 : decode cX12_isTold 37 = .ok (.iload 4, 2) := by decide +kernel
theorem dX12_isTold_39 : decode cX12_isTold 39 = .ok (.invokestatic 223, 3) := by decide +kernel
theorem dX12_isTold_42 : decode cX12_isTold 42 = .ok (.ifCond .eq 50, 3) := by decide +kernel
theorem dX12_isTold_45 : decode cX12_isTold 45 = .ok (.aload_n 0, 1) := by decide +kernel
theorem dX12_isTold_46 : decode cX12_isTold 46 = .ok (.getfield 31, 3) := by decide +kernel
theorem dX12_isTold_49 : decode cX12_isTold 49 = .ok (.iload_n 3, 1) := by decide +kernel
theorem dX12_isTold_50 : decode cX12_isTold 50 = .ok (.iaload, 1) := by decide +kernel
theorem dX12_isTold_51 : decode cX12_isTold 51 = .ok (.aload_n 0, 1) := by decide +kernel
theorem dX12_isTold_52 : decode cX12_isTold 52 = .ok (.getfield 31, 3) := by decide +kernel
theorem dX12_isTold_55 : decode cX12_isTold 55 = .ok (.iload_n 1, 1) := by decide +kernel
theorem dX12_isTold_56 : decode cX12_isTold 56 = .ok (.iaload, 1) := by decide +kernel
theorem dX12_isTold_57 : decode cX12_isTold 57 = .ok (.if_icmp .ne 35, 3) := by decide +kernel
theorem dX12_isTold_60 : decode cX12_isTold 60 = .ok (.aload_n 0, 1) := by decide +kernel
theorem dX12_isTold_61 : decode cX12_isTold 61 = .ok (.getfield 34, 3) := by decide +kernel
theorem dX12_isTold_64 : decode cX12_isTold 64 = .ok (.iload_n 3, 1) := by decide +kernel
theorem dX12_isTold_65 : decode cX12_isTold 65 = .ok (.iaload, 1) := by decide +kernel
theorem dX12_isTold_66 : decode cX12_isTold 66 = .ok (.aload_n 0, 1) := by decide +kernel
theorem dX12_isTold_67 : decode cX12_isTold 67 = .ok (.getfield 34, 3) := by decide +kernel
theorem dX12_isTold_70 : decode cX12_isTold 70 = .ok (.iload_n 1, 1) := by decide +kernel
theorem dX12_isTold_71 : decode cX12_isTold 71 = .ok (.iaload, 1) := by decide +kernel
theorem dX12_isTold_72 : decode cX12_isTold 72 = .ok (.if_icmp .ne 20, 3) := by decide +kernel
theorem dX12_isTold_75 : decode cX12_isTold 75 = .ok (.aload_n 0, 1) := by decide +kernel
theorem dX12_isTold_76 : decode cX12_isTold 76 = .ok (.getfield 37, 3) := by decide +kernel
theorem dX12_isTold_79 : decode cX12_isTold 79 = .ok (.iload_n 3, 1) := by decide +kernel
theorem dX12_isTold_80 : decode cX12_isTold 80 = .ok (.iaload, 1) := by decide +kernel
theorem dX12_isTold_81 : decode cX12_isTold 81 = .ok (.aload_n 0, 1) := by decide +kernel
theorem dX12_isTold_82 : decode cX12_isTold 82 = .ok (.getfield 37, 3) := by decide +kernel
theorem dX12_isTold_85 : decode cX12_isTold 85 = .ok (.iload_n 1, 1) := by decide +kernel
theorem dX12_isTold_86 : decode cX12_isTold 86 = .ok (.iaload, 1) := by decide +kernel
theorem dX12_isTold_87 : decode cX12_isTold 87 = .ok (.if_icmp .ne 5, 3) := by decide +kernel
theorem dX12_isTold_90 : decode cX12_isTold 90 = .ok (.iconst 1, 1) := by decide +kernel
theorem dX12_isTold_91 : decode cX12_isTold 91 = .ok (.ireturn, 1) := by decide +kernel
theorem dX12_isTold_92 : decode cX12_isTold 92 = .ok (.iinc 3 1, 3) := by decide +kernel
theorem dX12_isTold_95 : decode cX12_isTold 95 = .ok (.goto (-93), 3) := by decide +kernel
theorem dX12_isTold_98 : decode cX12_isTold 98 = .ok (.iconst 0, 1) := by decide +kernel
theorem dX12_isTold_99 : decode cX12_isTold 99 = .ok (.ireturn, 1) := by decide +kernel
set_option maxRecDepth 20000 in
theorem ggX12_unlikeOf_X12_has : GoodIn wsX12_unlikeOf wsX12_has := goodIn_r _ [6] (by decide +kernel) (by decide +kernel)
set_option maxRecDepth 20000 in
theorem gX12_unlikeOf_X12_has : GoodIn wsX12_unlikeOf (va_wsS RX12 223 yX12_has wsX12_has) := goodIn_app (goodIn_of _ (by decide +kernel)) ggX12_unlikeOf_X12_has
set_option maxRecDepth 20000 in
theorem ggX12_unlikeOf_X12_isTold : GoodIn wsX12_unlikeOf wsX12_isTold := goodIn_r _ [10, 1, 2, 11, 12, 13, 3, 4, 5, 6, 14, 15, 16, 17, 18, 19, 20, 21, 22, 23, 24, 25, 26, 27, 28, 29, 30, 31, 32, 33, 34, 35, 36, 37, 38, 39, 40, 41, 42, 43, 44, 45, 46] (by decide +kernel) (by decide +kernel)
set_option maxRecDepth 20000 in
theorem gX12_unlikeOf_X12_isTold : GoodIn wsX12_unlikeOf (wsV RX12 245 RX12 yX12_isTold wsX12_isTold) := goodIn_app (goodIn_of _ (by decide +kernel)) ggX12_unlikeOf_X12_isTold
theorem dX12_unlikeOf_0 : decode cX12_unlikeOf 0 = .ok (.iconst 0, 1) := by decide +kernel
theorem dX12_unlikeOf_1 : decode cX12_unlikeOf 1 = .ok (.istore_n 2, 1) := by decide +kernel
theorem dX12_unlikeOf_2 : decode cX12_unlikeOf 2 = .ok (.iconst 0, 1) := by decide +kernel
theorem dX12_unlikeOf_3 : decode cX12_unlikeOf 3 = .ok (.istore_n 3, 1) := by decide +kernel
theorem dX12_unlikeOf_4 : decode cX12_unlikeOf 4 = .ok (.iload_n 3, 1) := by decide +kernel
theorem dX12_unlikeOf_5 : decode cX12_unlikeOf 5 = .ok (.aload_n 0, 1) := by decide +kernel
theorem dX12_unlikeOf_6 : decode cX12_unlikeOf 6 = .ok (.getfield 76, 3) := by decide +kernel
theorem dX12_unlikeOf_9 : decode cX12_unlikeOf 9 = .ok (.if_icmp .ge 63, 3) := by decide +kernel
theorem dX12_unlikeOf_12 : decode cX12_unlikeOf 12 = .ok (.bipush 9, 2) := by decide +kernel
theorem dX12_unlikeOf_14 : decode cX12_unlikeOf 14 = .ok (.iload_n 3, 1) := by decide +kernel
theorem dX12_unlikeOf_15 : decode cX12_unlikeOf 15 = .ok (.imul, 1) := by decide +kernel
theorem dX12_unlikeOf_16 : decode cX12_unlikeOf 16 = .ok (.istore 4, 2) := by decide +kernel
theorem dX12_unlikeOf_18 : decode cX12_unlikeOf 18 = .ok (.iload 4, 2) := by decide +kernel
theorem dX12_unlikeOf_20 : decode cX12_unlikeOf 20 = .ok (.bipush 9, 2) := by decide +kernel
theorem dX12_unlikeOf_22 : decode cX12_unlikeOf 22 = .ok (.iload_n 3, 1) := by decide +kernel
theorem dX12_unlikeOf_23 : decode cX12_unlikeOf 23 = .ok (.imul, 1) := by decide +kernel
theorem dX12_unlikeOf_24 : decode cX12_unlikeOf 24 = .ok (.aload_n 0, 1) := by decide +kernel
theorem dX12_unlikeOf_25 : decode cX12_unlikeOf 25 = .ok (.getfield 28, 3) := by decide +kernel
theorem dX12_unlikeOf_28 : decode cX12_unlikeOf 28 = .ok (.iload_n 3, 1) := by decide +kernel
theorem dX12_unlikeOf_29 : decode cX12_unlikeOf 29 = .ok (.iaload, 1) := by decide +kernel
theorem dX12_unlikeOf_30 : decode cX12_unlikeOf 30 = .ok (.iadd, 1) := by decide +kernel
theorem dX12_unlikeOf_31 : decode cX12_unlikeOf 31 = .ok (.if_icmp .ge 35, 3) := by decide +kernel
theorem dX12_unlikeOf_34 : decode cX12_unlikeOf 34 = .ok (.iload_n 1, 1) := by decide +kernel
theorem dX12_unlikeOf_35 : decode cX12_unlikeOf 35 = .ok (.iload_n 3, 1) := by decide +kernel
theorem dX12_unlikeOf_36 : decode cX12_unlikeOf 36 = .ok (.invokestatic 223, 3) := by decide +kernel
theorem dX12_unlikeOf_39 : decode cX12_unlikeOf 39 = .ok (.ifCond .eq 27, 3) := by decide +kernel
theorem dX12_unlikeOf_42 : decode cX12_unlikeOf 42 = .ok (.iload_n 2, 1) := by decide +kernel
theorem dX12_unlikeOf_43 : decode cX12_unlikeOf 43 = .ok (.aload_n 0, 1) := by decide +kernel
theorem dX12_unlikeOf_44 : decode cX12_unlikeOf 44 = .ok (.iload 4, 2) := by decide +kernel
theorem dX12_unlikeOf_46 : decode cX12_unlikeOf 46 = .ok (.iload_n 1, 1) := by decide +kernel
theorem dX12_unlikeOf_47 : decode cX12_unlikeOf 47 = .ok (.invokevirtual 245, 3) := by decide +kernel
theorem dX12_unlikeOf_50 : decode cX12_unlikeOf 50 = .ok (.ifCond .eq 7, 3) := by decide +kernel
theorem dX12_unlikeOf_53 : decode cX12_unlikeOf 53 = .ok (.iconst 0, 1) := by decide +kernel
theorem dX12_unlikeOf_54 : decode cX12_unlikeOf 54 = .ok (.goto 4, 3) := by decide +kernel
theorem dX12_unlikeOf_57 : decode cX12_unlikeOf 57 = .ok (.iconst 1, 1) := by decide +kernel
theorem dX12_unlikeOf_58 : decode cX12_unlikeOf 58 = .ok (.iadd, 1) := by decide +kernel
theorem dX12_unlikeOf_59 : decode cX12_unlikeOf 59 = .ok (.istore_n 2, 1) := by decide +kernel
theorem dX12_unlikeOf_60 : decode cX12_unlikeOf 60 = .ok (.iinc 4 1, 3) := by decide +kernel
theorem dX12_unlikeOf_63 : decode cX12_unlikeOf 63 = .ok (.goto (-45), 3) := by decide +kernel
theorem dX12_unlikeOf_66 : decode cX12_unlikeOf 66 = .ok (.iinc 3 1, 3) := by decide +kernel
theorem dX12_unlikeOf_69 : decode cX12_unlikeOf 69 = .ok (.goto (-65), 3) := by decide +kernel
theorem dX12_unlikeOf_72 : decode cX12_unlikeOf 72 = .ok (.iload_n 2, 1) := by decide +kernel
theorem dX12_unlikeOf_73 : decode cX12_unlikeOf 73 = .ok (.ireturn, 1) := by decide +kernel
set_option maxRecDepth 20000 in
theorem ggX12_known_X12_isPerson : GoodIn wsX12_known wsX12_isPerson := goodIn_r _ [5, 6, 69, 70, 71, 72, 73, 74, 75, 76, 77, 78, 79, 80, 81, 82, 83, 84, 85, 86, 87, 88, 89, 90, 91, 92, 93, 94, 95, 96, 97, 98, 99, 100, 101] (by decide +kernel) (by decide +kernel)
set_option maxRecDepth 20000 in
theorem gX12_known_X12_isPerson : GoodIn wsX12_known (wsV RX12 132 RX12 yX12_isPerson wsX12_isPerson) := goodIn_app (goodIn_of _ (by decide +kernel)) ggX12_known_X12_isPerson
set_option maxRecDepth 20000 in
theorem ggX12_known_X12_no : GoodIn wsX12_known wsX12_no := goodIn_r _ [10, 11, 69, 70, 71, 72, 73, 74, 75, 76, 77, 78, 79, 80, 81, 82, 83, 84, 85, 86, 87, 88, 89, 90, 91, 92, 93, 94, 95, 96, 97, 98, 99, 100, 101] (by decide +kernel) (by decide +kernel)
set_option maxRecDepth 20000 in
theorem gX12_known_X12_no : GoodIn wsX12_known (wsV RX12 91 RX12 yX12_no wsX12_no) := goodIn_app (goodIn_of _ (by decide +kernel)) ggX12_known_X12_no
set_option maxRecDepth 20000 in
theorem ggX12_known_X12_findLit : GoodIn wsX12_known wsX12_findLit := goodIn_r _ [15, 16, 17, 18, 19, 20, 21, 22, 4, 23, 24, 25, 6, 26, 27, 28, 29, 30, 31, 32, 33, 34, 35, 36, 37, 38, 39, 40, 41, 42, 43, 44, 45, 46, 47, 48, 49, 69, 70, 71, 72, 73, 74, 75, 76, 77, 78, 79, 80, 81, 82, 83, 84, 85, 86, 87, 88, 89, 90, 91, 92, 93, 94, 95, 96, 97, 98, 99, 100, 101] (by decide +kernel) (by decide +kernel)
set_option maxRecDepth 20000 in
theorem gX12_known_X12_findLit : GoodIn wsX12_known (wsV RX12 220 RX12 yX12_findLit wsX12_findLit) := goodIn_app (goodIn_of _ (by decide +kernel)) ggX12_known_X12_findLit
set_option maxRecDepth 20000 in
theorem ggX12_known_X12_shownTo : GoodIn wsX12_known wsX12_shownTo := goodIn_r _ [53, 16, 26, 69, 70, 71, 72, 73, 74, 75, 76, 77, 78, 79, 80, 81, 82, 83, 84, 85, 86, 87, 88, 89, 90, 91, 92, 93, 94, 95, 96, 97, 98, 99, 100, 101] (by decide +kernel) (by decide +kernel)
set_option maxRecDepth 20000 in
theorem gX12_known_X12_shownTo : GoodIn wsX12_known (wsV RX12 242 RX12 yX12_shownTo wsX12_shownTo) := goodIn_app (goodIn_of _ (by decide +kernel)) ggX12_known_X12_shownTo
set_option maxRecDepth 20000 in
theorem ggX12_known_X12_unlikeOf : GoodIn wsX12_known wsX12_unlikeOf := goodIn_r _ [57, 17, 58, 59, 60, 4, 61, 62, 63, 64, 65, 66, 67, 68, 69, 70, 71, 72, 73, 74, 75, 76, 77, 78, 79, 80, 81, 82, 83, 84, 85, 86, 87, 88, 89, 90, 91, 92, 93, 94, 95, 96, 97, 98, 99, 100, 101] (by decide +kernel) (by decide +kernel)
set_option maxRecDepth 20000 in
theorem gX12_known_X12_unlikeOf : GoodIn wsX12_known (wsV RX12 248 RX12 yX12_unlikeOf wsX12_unlikeOf) := goodIn_app (goodIn_of _ (by decide +kernel)) ggX12_known_X12_unlikeOf
theorem dX12_known_0 : decode cX12_known 0 = .ok (.aload_n 0, 1) := by decide +kernel
theorem dX12_known_1 : decode cX12_known 1 = .ok (.iload_n 1, 1) := by decide +kernel
theorem dX12_known_2 : decode cX12_known 2 = .ok (.invokevirtual 132, 3) := by decide +kernel
theorem dX12_known_5 : decode cX12_known 5 = .ok (.ifCond .ne 9, 3) := by decide +kernel
theorem dX12_known_8 : decode cX12_known 8 = .ok (.aload_n 0, 1) := by decide +kernel
theorem dX12_known_9 : decode cX12_known 9 = .ok (.iconst (-1), 1) := by decide +kernel
theorem dX12_known_10 : decode cX12_known 10 = .ok (.invokevirtual 91, 3) := by decide +kernel
theorem dX12_known_13 : decode cX12_known 13 = .ok (.ireturn, 1) := by decide +kernel
theorem dX12_known_14 : decode cX12_known 14 = .ok (.aload_n 0, 1) := by decide +kernel
theorem dX12_known_15 : decode cX12_known 15 = .ok (.invokevirtual 220, 3) := by decide +kernel
theorem dX12_known_18 : decode cX12_known 18 = .ok (.aload_n 0, 1) := by decide +kernel
theorem dX12_known_19 : decode cX12_known 19 = .ok (.aload_n 0, 1) := by decide +kernel
theorem dX12_known_20 : decode cX12_known 20 = .ok (.iload_n 1, 1) := by decide +kernel
theorem dX12_known_21 : decode cX12_known 21 = .ok (.invokevirtual 242, 3) := by decide +kernel
theorem dX12_known_24 : decode cX12_known 24 = .ok (.invokevirtual 248, 3) := by decide +kernel
theorem dX12_known_27 : decode cX12_known 27 = .ok (.ireturn, 1) := by decide +kernel
set_option maxRecDepth 20000 in
theorem ggX12_allKnow_X12_findLit : GoodIn wsX12_allKnow wsX12_findLit := goodIn_r _ [6, 7, 8, 9, 10, 11, 12, 13, 5, 14, 15, 16, 1, 17, 18, 19, 20, 21, 22, 23, 24, 25, 26, 27, 28, 29, 30, 31, 32, 33, 34, 35, 36, 37, 38, 39, 40, 60, 61, 62, 63, 64, 65, 66, 67, 68, 69, 70, 71, 72, 73, 74, 75, 76, 77, 78, 79, 80, 81, 82, 83, 84, 85, 86, 87, 88, 89, 90, 91, 92] (by decide +kernel) (by decide +kernel)
set_option maxRecDepth 20000 in
theorem gX12_allKnow_X12_findLit : GoodIn wsX12_allKnow (wsV RX12 220 RX12 yX12_findLit wsX12_findLit) := goodIn_app (goodIn_of _ (by decide +kernel)) ggX12_allKnow_X12_findLit
set_option maxRecDepth 20000 in
theorem ggX12_allKnow_X12_shownTo : GoodIn wsX12_allKnow wsX12_shownTo := goodIn_r _ [44, 7, 17, 60, 61, 62, 63, 64, 65, 66, 67, 68, 69, 70, 71, 72, 73, 74, 75, 76, 77, 78, 79, 80, 81, 82, 83, 84, 85, 86, 87, 88, 89, 90, 91, 92] (by decide +kernel) (by decide +kernel)
set_option maxRecDepth 20000 in
theorem gX12_allKnow_X12_shownTo : GoodIn wsX12_allKnow (wsV RX12 242 RX12 yX12_shownTo wsX12_shownTo) := goodIn_app (goodIn_of _ (by decide +kernel)) ggX12_allKnow_X12_shownTo
set_option maxRecDepth 20000 in
theorem ggX12_allKnow_X12_unlikeOf : GoodIn wsX12_allKnow wsX12_unlikeOf := goodIn_r _ [48, 8, 49, 50, 51, 5, 52, 53, 54, 55, 56, 57, 58, 59, 60, 61, 62, 63, 64, 65, 66, 67, 68, 69, 70, 71, 72, 73, 74, 75, 76, 77, 78, 79, 80, 81, 82, 83, 84, 85, 86, 87, 88, 89, 90, 91, 92] (by decide +kernel) (by decide +kernel)
set_option maxRecDepth 20000 in
theorem gX12_allKnow_X12_unlikeOf : GoodIn wsX12_allKnow (wsV RX12 248 RX12 yX12_unlikeOf wsX12_unlikeOf) := goodIn_app (goodIn_of _ (by decide +kernel)) ggX12_allKnow_X12_unlikeOf
theorem dX12_allKnow_0 : decode cX12_allKnow 0 = .ok (.aload_n 0, 1) := by decide +kernel
theorem dX12_allKnow_1 : decode cX12_allKnow 1 = .ok (.invokevirtual 220, 3) := by decide +kernel
theorem dX12_allKnow_4 : decode cX12_allKnow 4 = .ok (.iconst 0, 1) := by decide +kernel
theorem dX12_allKnow_5 : decode cX12_allKnow 5 = .ok (.istore_n 1, 1) := by decide +kernel
theorem dX12_allKnow_6 : decode cX12_allKnow 6 = .ok (.iconst 0, 1) := by decide +kernel
theorem dX12_allKnow_7 : decode cX12_allKnow 7 = .ok (.istore_n 2, 1) := by decide +kernel
theorem dX12_allKnow_8 : decode cX12_allKnow 8 = .ok (.iload_n 2, 1) := by decide +kernel
theorem dX12_allKnow_9 : decode cX12_allKnow 9 = .ok (.aload_n 0, 1) := by decide +kernel
theorem dX12_allKnow_10 : decode cX12_allKnow 10 = .ok (.getfield 81, 3) := by decide +kernel
theorem dX12_allKnow_13 : decode cX12_allKnow 13 = .ok (.if_icmp .ge 17, 3) := by decide +kernel
theorem dX12_allKnow_16 : decode cX12_allKnow 16 = .ok (.iload_n 1, 1) := by decide +kernel
theorem dX12_allKnow_17 : decode cX12_allKnow 17 = .ok (.aload_n 0, 1) := by decide +kernel
theorem dX12_allKnow_18 : decode cX12_allKnow 18 = .ok (.iload_n 2, 1) := by decide +kernel
theorem dX12_allKnow_19 : decode cX12_allKnow 19 = .ok (.invokevirtual 242, 3) := by decide +kernel
theorem dX12_allKnow_22 : decode cX12_allKnow 22 = .ok (.ior, 1) := by decide +kernel
theorem dX12_allKnow_23 : decode cX12_allKnow 23 = .ok (.istore_n 1, 1) := by decide +kernel
theorem dX12_allKnow_24 : decode cX12_allKnow 24 = .ok (.iinc 2 1, 3) := by decide +kernel
theorem dX12_allKnow_27 : decode cX12_allKnow 27 = .ok (.goto (-19), 3) := by decide +kernel
theorem dX12_allKnow_30 : decode cX12_allKnow 30 = .ok (.aload_n 0, 1) := by decide +kernel
theorem dX12_allKnow_31 : decode cX12_allKnow 31 = .ok (.iload_n 1, 1) := by decide +kernel
theorem dX12_allKnow_32 : decode cX12_allKnow 32 = .ok (.invokevirtual 248, 3) := by decide +kernel
theorem dX12_allKnow_35 : decode cX12_allKnow 35 = .ok (.ireturn, 1) := by decide +kernel
set_option maxRecDepth 20000 in
theorem ggX12_barsBy_X12_stepsOf : GoodIn wsX12_barsBy wsX12_stepsOf := goodIn_r _ [9, 3, 10, 11, 12, 8, 13, 14, 15, 16, 17, 18, 19, 20, 21, 22, 23, 24, 25, 26, 27, 28, 29, 30, 31, 32, 33, 34, 35, 36, 37, 38, 39, 40, 41, 42, 43, 44, 45, 46, 47, 48, 49, 50, 51, 52, 53, 54, 55, 56, 57, 58, 59, 60, 61] (by decide +kernel) (by decide +kernel)
set_option maxRecDepth 20000 in
theorem gX12_barsBy_X12_stepsOf : GoodIn wsX12_barsBy (wsV RX12 135 RX12 yX12_stepsOf wsX12_stepsOf) := goodIn_app (goodIn_of _ (by decide +kernel)) ggX12_barsBy_X12_stepsOf
theorem dX12_barsBy_0 : decode cX12_barsBy 0 = .ok (.aload_n 0, 1) := by decide +kernel
theorem dX12_barsBy_1 : decode cX12_barsBy 1 = .ok (.aload_n 0, 1) := by decide +kernel
theorem dX12_barsBy_2 : decode cX12_barsBy 2 = .ok (.getfield 34, 3) := by decide +kernel
theorem dX12_barsBy_5 : decode cX12_barsBy 5 = .ok (.iload_n 1, 1) := by decide +kernel
theorem dX12_barsBy_6 : decode cX12_barsBy 6 = .ok (.iaload, 1) := by decide +kernel
theorem dX12_barsBy_7 : decode cX12_barsBy 7 = .ok (.iconst 0, 1) := by decide +kernel
theorem dX12_barsBy_8 : decode cX12_barsBy 8 = .ok (.invokevirtual 135, 3) := by decide +kernel
theorem dX12_barsBy_11 : decode cX12_barsBy 11 = .ok (.pop, 1) := by decide +kernel
theorem dX12_barsBy_12 : decode cX12_barsBy 12 = .ok (.iload_n 2, 1) := by decide +kernel
theorem dX12_barsBy_13 : decode cX12_barsBy 13 = .ok (.aload_n 0, 1) := by decide +kernel
theorem dX12_barsBy_14 : decode cX12_barsBy 14 = .ok (.getfield 37, 3) := by decide +kernel
theorem dX12_barsBy_17 : decode cX12_barsBy 17 = .ok (.iload_n 1, 1) := by decide +kernel
theorem dX12_barsBy_18 : decode cX12_barsBy 18 = .ok (.iaload, 1) := by decide +kernel
theorem dX12_barsBy_19 : decode cX12_barsBy 19 = .ok (.if_icmp .ge 14, 3) := by decide +kernel
theorem dX12_barsBy_22 : decode cX12_barsBy 22 = .ok (.aload_n 0, 1) := by decide +kernel
theorem dX12_barsBy_23 : decode cX12_barsBy 23 = .ok (.getfield 37, 3) := by decide +kernel
theorem dX12_barsBy_26 : decode cX12_barsBy 26 = .ok (.iload_n 1, 1) := by decide +kernel
theorem dX12_barsBy_27 : decode cX12_barsBy 27 = .ok (.iaload, 1) := by decide +kernel
theorem dX12_barsBy_28 : decode cX12_barsBy 28 = .ok (.iload_n 2, 1) := by decide +kernel
theorem dX12_barsBy_29 : decode cX12_barsBy 29 = .ok (.isub, 1) := by decide +kernel
theorem dX12_barsBy_30 : decode cX12_barsBy 30 = .ok (.goto 11, 3) := by decide +kernel
theorem dX12_barsBy_33 : decode cX12_barsBy 33 = .ok (.iload_n 2, 1) := by decide +kernel
theorem dX12_barsBy_34 : decode cX12_barsBy 34 = .ok (.aload_n 0, 1) := by decide +kernel
theorem dX12_barsBy_35 : decode cX12_barsBy 35 = .ok (.getfield 37, 3) := by decide +kernel
theorem dX12_barsBy_38 : decode cX12_barsBy 38 = .ok (.iload_n 1, 1) := by decide +kernel
theorem dX12_barsBy_39 : decode cX12_barsBy 39 = .ok (.iaload, 1) := by decide +kernel
theorem dX12_barsBy_40 : decode cX12_barsBy 40 = .ok (.isub, 1) := by decide +kernel
theorem dX12_barsBy_41 : decode cX12_barsBy 41 = .ok (.istore_n 3, 1) := by decide +kernel
theorem dX12_barsBy_42 : decode cX12_barsBy 42 = .ok (.iconst 0, 1) := by decide +kernel
theorem dX12_barsBy_43 : decode cX12_barsBy 43 = .ok (.istore 4, 2) := by decide +kernel
theorem dX12_barsBy_45 : decode cX12_barsBy 45 = .ok (.iload 4, 2) := by decide +kernel
theorem dX12_barsBy_47 : decode cX12_barsBy 47 = .ok (.bipush 36, 2) := by decide +kernel
theorem dX12_barsBy_49 : decode cX12_barsBy 49 = .ok (.if_icmp .ge 38, 3) := by decide +kernel
theorem dX12_barsBy_52 : decode cX12_barsBy 52 = .ok (.aload_n 0, 1) := by decide +kernel
theorem dX12_barsBy_53 : decode cX12_barsBy 53 = .ok (.getfield 58, 3) := by decide +kernel
theorem dX12_barsBy_56 : decode cX12_barsBy 56 = .ok (.iload 4, 2) := by decide +kernel
theorem dX12_barsBy_58 : decode cX12_barsBy 58 = .ok (.iaload, 1) := by decide +kernel
theorem dX12_barsBy_59 : decode cX12_barsBy 59 = .ok (.ifCond .lt 14, 3) := by decide +kernel
theorem dX12_barsBy_62 : decode cX12_barsBy 62 = .ok (.aload_n 0, 1) := by decide +kernel
theorem dX12_barsBy_63 : decode cX12_barsBy 63 = .ok (.getfield 58, 3) := by decide +kernel
theorem dX12_barsBy_66 : decode cX12_barsBy 66 = .ok (.iload 4, 2) := by decide +kernel
theorem dX12_barsBy_68 : decode cX12_barsBy 68 = .ok (.iaload, 1) := by decide +kernel
theorem dX12_barsBy_69 : decode cX12_barsBy 69 = .ok (.iload_n 3, 1) := by decide +kernel
theorem dX12_barsBy_70 : decode cX12_barsBy 70 = .ok (.if_icmp .le 11, 3) := by decide +kernel
theorem dX12_barsBy_73 : decode cX12_barsBy 73 = .ok (.aload_n 0, 1) := by decide +kernel
theorem dX12_barsBy_74 : decode cX12_barsBy 74 = .ok (.getfield 70, 3) := by decide +kernel
theorem dX12_barsBy_77 : decode cX12_barsBy 77 = .ok (.iload 4, 2) := by decide +kernel
theorem dX12_barsBy_79 : decode cX12_barsBy 79 = .ok (.iconst 0, 1) := by decide +kernel
theorem dX12_barsBy_80 : decode cX12_barsBy 80 = .ok (.iastore, 1) := by decide +kernel
theorem dX12_barsBy_81 : decode cX12_barsBy 81 = .ok (.iinc 4 1, 3) := by decide +kernel
theorem dX12_barsBy_84 : decode cX12_barsBy 84 = .ok (.goto (-39), 3) := by decide +kernel
theorem dX12_barsBy_87 : decode cX12_barsBy 87 = .ok (.return_, 1) := by decide +kernel
set_option maxRecDepth 20000 in
theorem ggX12_findWhere_X12_seersOf : GoodIn wsX12_findWhere wsX12_seersOf := goodIn_r _ [13, 1, 8, 14, 15, 16, 12, 17, 4, 18, 66, 67, 68, 69, 70, 71, 72, 73, 74, 75, 76, 77, 78, 79, 80, 81, 82, 83, 84, 85, 86, 87, 88, 89, 90, 91, 92, 93, 94, 95, 96, 97, 98] (by decide +kernel) (by decide +kernel)
set_option maxRecDepth 20000 in
theorem gX12_findWhere_X12_seersOf : GoodIn wsX12_findWhere (wsV RX12 251 RX12 yX12_seersOf wsX12_seersOf) := goodIn_app (goodIn_of _ (by decide +kernel)) ggX12_findWhere_X12_seersOf
set_option maxRecDepth 20000 in
theorem ggX12_findWhere_X12_findLit : GoodIn wsX12_findWhere wsX12_findLit := goodIn_r _ [22, 7, 1, 23, 24, 25, 26, 27, 12, 28, 29, 2, 30, 31, 32, 33, 34, 35, 6, 36, 37, 38, 39, 40, 41, 42, 43, 44, 45, 46, 47, 48, 49, 50, 51, 52, 53, 66, 67, 68, 69, 70, 71, 72, 73, 74, 75, 76, 77, 78, 79, 80, 81, 82, 83, 84, 85, 86, 87, 88, 89, 90, 91, 92, 93, 94, 95, 96, 97, 98] (by decide +kernel) (by decide +kernel)
set_option maxRecDepth 20000 in
theorem gX12_findWhere_X12_findLit : GoodIn wsX12_findWhere (wsV RX12 220 RX12 yX12_findLit wsX12_findLit) := goodIn_app (goodIn_of _ (by decide +kernel)) ggX12_findWhere_X12_findLit
set_option maxRecDepth 20000 in
theorem ggX12_findWhere_X12_has : GoodIn wsX12_findWhere wsX12_has := goodIn_r _ [56] (by decide +kernel) (by decide +kernel)
set_option maxRecDepth 20000 in
theorem gX12_findWhere_X12_has : GoodIn wsX12_findWhere (va_wsS RX12 223 yX12_has wsX12_has) := goodIn_app (goodIn_of _ (by decide +kernel)) ggX12_findWhere_X12_has
set_option maxRecDepth 20000 in
theorem ggX12_findWhere_X12_barsBy : GoodIn wsX12_findWhere wsX12_barsBy := goodIn_r _ [60, 61, 18, 24, 5, 62, 63, 64, 12, 65, 36, 37, 38, 39, 40, 6, 41, 42, 43, 44, 45, 46, 47, 48, 49, 50, 51, 52, 53, 66, 67, 68, 69, 70, 71, 72, 73, 74, 75, 76, 77, 78, 79, 80, 81, 82, 83, 84, 85, 86, 87, 88, 89, 90, 91, 92, 93, 94, 95, 96, 97, 98] (by decide +kernel) (by decide +kernel)
set_option maxRecDepth 20000 in
theorem gX12_findWhere_X12_barsBy : GoodIn wsX12_findWhere (wsV RX12 254 RX12 yX12_barsBy wsX12_barsBy) := goodIn_app (goodIn_of _ (by decide +kernel)) ggX12_findWhere_X12_barsBy
theorem dX12_findWhere_0 : decode cX12_findWhere 0 = .ok (.aload_n 0, 1) := by decide +kernel
theorem dX12_findWhere_1 : decode cX12_findWhere 1 = .ok (.iload_n 1, 1) := by decide +kernel
theorem dX12_findWhere_2 : decode cX12_findWhere 2 = .ok (.iload_n 2, 1) := by decide +kernel
theorem dX12_findWhere_3 : decode cX12_findWhere 3 = .ok (.invokevirtual 251, 3) := by decide +kernel
theorem dX12_findWhere_6 : decode cX12_findWhere 6 = .ok (.istore_n 3, 1) := by decide +kernel
theorem dX12_findWhere_7 : decode cX12_findWhere 7 = .ok (.aload_n 0, 1) := by decide +kernel
theorem dX12_findWhere_8 : decode cX12_findWhere 8 = .ok (.invokevirtual 220, 3) := by decide +kernel
theorem dX12_findWhere_11 : decode cX12_findWhere 11 = .ok (.iconst 0, 1) := by decide +kernel
theorem dX12_findWhere_12 : decode cX12_findWhere 12 = .ok (.istore 4, 2) := by decide +kernel
theorem dX12_findWhere_14 : decode cX12_findWhere 14 = .ok (.iload 4, 2) := by decide +kernel
theorem dX12_findWhere_16 : decode cX12_findWhere 16 = .ok (.bipush 36, 2) := by decide +kernel
theorem dX12_findWhere_18 : decode cX12_findWhere 18 = .ok (.if_icmp .ge 121, 3) := by decide +kernel
theorem dX12_findWhere_21 : decode cX12_findWhere 21 = .ok (.iconst 0, 1) := by decide +kernel
theorem dX12_findWhere_22 : decode cX12_findWhere 22 = .ok (.istore 5, 2) := by decide +kernel
theorem dX12_findWhere_24 : decode cX12_findWhere 24 = .ok (.iconst 0, 1) := by decide +kernel
theorem dX12_findWhere_25 : decode cX12_findWhere 25 = .ok (.istore 6, 2) := by decide +kernel
theorem dX12_findWhere_27 : decode cX12_findWhere 27 = .ok (.iload 6, 2) := by decide +kernel
theorem dX12_findWhere_29 : decode cX12_findWhere 29 = .ok (.aload_n 0, 1) := by decide +kernel
theorem dX12_findWhere_30 : decode cX12_findWhere 30 = .ok (.getfield 76, 3) := by decide +kernel
theorem dX12_findWhere_33 : decode cX12_findWhere 33 = .ok (.if_icmp .ge 64, 3) := by decide +kernel
theorem dX12_findWhere_36 : decode cX12_findWhere 36 = .ok (.iload 5, 2) := by decide +kernel
theorem dX12_findWhere_38 : decode cX12_findWhere 38 = .ok (.aload_n 0, 1) := by decide +kernel
theorem dX12_findWhere_39 : decode cX12_findWhere 39 = .ok (.getfield 16, 3) := by decide +kernel
theorem dX12_findWhere_42 : decode cX12_findWhere 42 = .ok (.iload 6, 2) := by decide +kernel
theorem dX12_findWhere_44 : decode cX12_findWhere 44 = .ok (.iaload, 1) := by decide +kernel
theorem dX12_findWhere_45 : decode cX12_findWhere 45 = .ok (.ifCond .ne 42, 3) := by decide +kernel
theorem dX12_findWhere_48 : decode cX12_findWhere 48 = .ok (.aload_n 0, 1) := by decide +kernel
theorem dX12_findWhere_49 : decode cX12_findWhere 49 = .ok (.getfield 25, 3) := by decide +kernel
theorem dX12_findWhere_52 : decode cX12_findWhere 52 = .ok (.iload 6, 2) := by decide +kernel
theorem dX12_findWhere_54 : decode cX12_findWhere 54 = .ok (.iaload, 1) := by decide +kernel
theorem dX12_findWhere_55 : decode cX12_findWhere 55 = .ok (.iconst 1, 1) := by decide +kernel
theorem dX12_findWhere_56 : decode cX12_findWhere 56 = .ok (.if_icmp .ne 31, 3) := by decide +kernel
theorem dX12_findWhere_59 : decode cX12_findWhere 59 = .ok (.aload_n 0, 1) := by decide +kernel
theorem dX12_findWhere_60 : decode cX12_findWhere 60 = .ok (.getfield 28, 3) := by decide +kernel
theorem dX12_findWhere_63 : decode cX12_findWhere 63 = .ok (.iload 6, 2) := by decide +kernel
theorem dX12_findWhere_65 : decode cX12_findWhere 65 = .ok (.iaload, 1) := by decide +kernel
theorem dX12_findWhere_66 : decode cX12_findWhere 66 = .ok (.bipush 9, 2) := by decide +kernel
theorem dX12_findWhere_68 : decode cX12_findWhere 68 = .ok (.if_icmp .ge 19, 3) := by decide +kernel
theorem dX12_findWhere_71 : decode cX12_findWhere 71 = .ok (.iload_n 3, 1) := by decide +kernel
theorem dX12_findWhere_72 : decode cX12_findWhere 72 = .ok (.iload 6, 2) := by decide +kernel
theorem dX12_findWhere_74 : decode cX12_findWhere 74 = .ok (.invokestatic 223, 3) := by decide +kernel
theorem dX12_findWhere_77 : decode cX12_findWhere 77 = .ok (.ifCond .ne 10, 3) := by decide +kernel
theorem dX12_findWhere_80 : decode cX12_findWhere 80 = .ok (.iconst 1, 1) := by decide +kernel
theorem dX12_findWhere_81 : decode cX12_findWhere 81 = .ok (.iload 6, 2) := by decide +kernel
theorem dX12_findWhere_83 : decode cX12_findWhere 83 = .ok (.ishl, 1) := by decide +kernel
theorem dX12_findWhere_84 : decode cX12_findWhere 84 = .ok (.goto 4, 3) := by decide +kernel
theorem dX12_findWhere_87 : decode cX12_findWhere 87 = .ok (.iconst 0, 1) := by decide +kernel
theorem dX12_findWhere_88 : decode cX12_findWhere 88 = .ok (.ior, 1) := by decide +kernel
theorem dX12_findWhere_89 : decode cX12_findWhere 89 = .ok (.istore 5, 2) := by decide +kernel
theorem dX12_findWhere_91 : decode cX12_findWhere 91 = .ok (.iinc 6 1, 3) := by decide +kernel
theorem dX12_findWhere_94 : decode cX12_findWhere 94 = .ok (.goto (-67), 3) := by decide +kernel
theorem dX12_findWhere_97 : decode cX12_findWhere 97 = .ok (.aload_n 0, 1) := by decide +kernel
theorem dX12_findWhere_98 : decode cX12_findWhere 98 = .ok (.getfield 70, 3) := by decide +kernel
theorem dX12_findWhere_101 : decode cX12_findWhere 101 = .ok (.iload 4, 2) := by decide +kernel
theorem dX12_findWhere_103 : decode cX12_findWhere 103 = .ok (.aload_n 0, 1) := by decide +kernel
theorem dX12_findWhere_104 : decode cX12_findWhere 104 = .ok (.getfield 13, 3) := by decide +kernel
theorem dX12_findWhere_107 : decode cX12_findWhere 107 = .ok (.iload 4, 2) := by decide +kernel
theorem dX12_findWhere_109 : decode cX12_findWhere 109 = .ok (.iaload, 1) := by decide +kernel
theorem dX12_findWhere_110 : decode cX12_findWhere 110 = .ok (.iconst 1, 1) := by decide +kernel
theorem dX12_findWhere_111 : decode cX12_findWhere 111 = .ok (.if_icmp .eq 16, 3) := by decide +kernel
theorem dX12_findWhere_114 : decode cX12_findWhere 114 = .ok (.aload_n 0, 1) := by decide +kernel
theorem dX12_findWhere_115 : decode cX12_findWhere 115 = .ok (.getfield 67, 3) := by decide +kernel
theorem dX12_findWhere_118 : decode cX12_findWhere 118 = .ok (.iload 4, 2) := by decide +kernel
theorem dX12_findWhere_120 : decode cX12_findWhere 120 = .ok (.iaload, 1) := by decide +kernel
theorem dX12_findWhere_121 : decode cX12_findWhere 121 = .ok (.iload 5, 2) := by decide +kernel
theorem dX12_findWhere_123 : decode cX12_findWhere 123 = .ok (.iand, 1) := by decide +kernel
theorem dX12_findWhere_124 : decode cX12_findWhere 124 = .ok (.ifCond .eq 7, 3) := by decide +kernel
theorem dX12_findWhere_127 : decode cX12_findWhere 127 = .ok (.iconst 0, 1) := by decide +kernel
theorem dX12_findWhere_128 : decode cX12_findWhere 128 = .ok (.goto 4, 3) := by decide +kernel
theorem dX12_findWhere_131 : decode cX12_findWhere 131 = .ok (.iconst 1, 1) := by decide +kernel
theorem dX12_findWhere_132 : decode cX12_findWhere 132 = .ok (.iastore, 1) := by decide +kernel
theorem dX12_findWhere_133 : decode cX12_findWhere 133 = .ok (.iinc 4 1, 3) := by decide +kernel
theorem dX12_findWhere_136 : decode cX12_findWhere 136 = .ok (.goto (-122), 3) := by decide +kernel
theorem dX12_findWhere_139 : decode cX12_findWhere 139 = .ok (.iconst 0, 1) := by decide +kernel
theorem dX12_findWhere_140 : decode cX12_findWhere 140 = .ok (.istore 4, 2) := by decide +kernel
theorem dX12_findWhere_142 : decode cX12_findWhere 142 = .ok (.iload 4, 2) := by decide +kernel
theorem dX12_findWhere_144 : decode cX12_findWhere 144 = .ok (.aload_n 0, 1) := by decide +kernel
theorem dX12_findWhere_145 : decode cX12_findWhere 145 = .ok (.getfield 76, 3) := by decide +kernel
theorem dX12_findWhere_148 : decode cX12_findWhere 148 = .ok (.if_icmp .ge 58, 3) := by decide +kernel
theorem dX12_findWhere_151 : decode cX12_findWhere 151 = .ok (.bipush 9, 2) := by decide +kernel
theorem dX12_findWhere_153 : decode cX12_findWhere 153 = .ok (.iload 4, 2) := by decide +kernel
theorem dX12_findWhere_155 : decode cX12_findWhere 155 = .ok (.imul, 1) := by decide +kernel
theorem dX12_findWhere_156 : decode cX12_findWhere 156 = .ok (.istore 5, 2) := by decide +kernel
theorem dX12_findWhere_158 : decode cX12_findWhere 158 = .ok (.iload 5, 2) := by decide +kernel
theorem dX12_findWhere_160 : decode cX12_findWhere 160 = .ok (.bipush 9, 2) := by decide +kernel
theorem dX12_findWhere_162 : decode cX12_findWhere 162 = .ok (.iload 4, 2) := by decide +kernel
theorem dX12_findWhere_164 : decode cX12_findWhere 164 = .ok (.imul, 1) := by decide +kernel
theorem dX12_findWhere_165 : decode cX12_findWhere 165 = .ok (.aload_n 0, 1) := by decide +kernel
theorem dX12_findWhere_166 : decode cX12_findWhere 166 = .ok (.getfield 28, 3) := by decide +kernel
theorem dX12_findWhere_169 : decode cX12_findWhere 169 = .ok (.iload 4, 2) := by decide +kernel
theorem dX12_findWhere_171 : decode cX12_findWhere 171 = .ok (.iaload, 1) := by decide +kernel
theorem dX12_findWhere_172 : decode cX12_findWhere 172 = .ok (.iadd, 1) := by decide +kernel
theorem dX12_findWhere_173 : decode cX12_findWhere 173 = .ok (.if_icmp .ge 27, 3) := by decide +kernel
theorem dX12_findWhere_176 : decode cX12_findWhere 176 = .ok (.aload_n 0, 1) := by decide +kernel
theorem dX12_findWhere_177 : decode cX12_findWhere 177 = .ok (.getfield 31, 3) := by decide +kernel
theorem dX12_findWhere_180 : decode cX12_findWhere 180 = .ok (.iload 5, 2) := by decide +kernel
theorem dX12_findWhere_182 : decode cX12_findWhere 182 = .ok (.iaload, 1) := by decide +kernel
theorem dX12_findWhere_183 : decode cX12_findWhere 183 = .ok (.iload_n 1, 1) := by decide +kernel
theorem dX12_findWhere_184 : decode cX12_findWhere 184 = .ok (.if_icmp .ne 10, 3) := by decide +kernel
theorem dX12_findWhere_187 : decode cX12_findWhere 187 = .ok (.aload_n 0, 1) := by decide +kernel
theorem dX12_findWhere_188 : decode cX12_findWhere 188 = .ok (.iload 5, 2) := by decide +kernel
theorem dX12_findWhere_190 : decode cX12_findWhere 190 = .ok (.iload_n 2, 1) := by decide +kernel
theorem dX12_findWhere_191 : decode cX12_findWhere 191 = .ok (.invokevirtual 254, 3) := by decide +kernel
theorem dX12_findWhere_194 : decode cX12_findWhere 194 = .ok (.iinc 5 1, 3) := by decide +kernel
theorem dX12_findWhere_197 : decode cX12_findWhere 197 = .ok (.goto (-39), 3) := by decide +kernel
theorem dX12_findWhere_200 : decode cX12_findWhere 200 = .ok (.iinc 4 1, 3) := by decide +kernel
theorem dX12_findWhere_203 : decode cX12_findWhere 203 = .ok (.goto (-61), 3) := by decide +kernel
theorem dX12_findWhere_206 : decode cX12_findWhere 206 = .ok (.return_, 1) := by decide +kernel
set_option maxRecDepth 20000 in
theorem ggX12_seersOf_X12_sceneAt : GoodIn wsX12_seersOf wsX12_sceneAt := goodIn_r _ [7, 8, 9, 10, 11, 12, 13, 14, 15, 16, 17, 18, 19, 20, 21, 22, 23, 24, 25, 26, 27, 28, 29, 30, 31, 32, 33, 34, 35, 36, 37, 38, 39, 40, 41, 42] (by decide +kernel) (by decide +kernel)
set_option maxRecDepth 20000 in
theorem gX12_seersOf_X12_sceneAt : GoodIn wsX12_seersOf (wsV RX12 236 RX12 yX12_sceneAt wsX12_sceneAt) := goodIn_app (goodIn_of _ (by decide +kernel)) ggX12_seersOf_X12_sceneAt
theorem dX12_seersOf_0 : decode cX12_seersOf 0 = .ok (.iconst 0, 1) := by decide +kernel
theorem dX12_seersOf_1 : decode cX12_seersOf 1 = .ok (.istore_n 3, 1) := by decide +kernel
theorem dX12_seersOf_2 : decode cX12_seersOf 2 = .ok (.iconst 0, 1) := by decide +kernel
theorem dX12_seersOf_3 : decode cX12_seersOf 3 = .ok (.istore 4, 2) := by decide +kernel
theorem dX12_seersOf_5 : decode cX12_seersOf 5 = .ok (.iload 4, 2) := by decide +kernel
theorem dX12_seersOf_7 : decode cX12_seersOf 7 = .ok (.aload_n 0, 1) := by decide +kernel
theorem dX12_seersOf_8 : decode cX12_seersOf 8 = .ok (.getfield 76, 3) := by decide +kernel
theorem dX12_seersOf_11 : decode cX12_seersOf 11 = .ok (.if_icmp .ge 52, 3) := by decide +kernel
theorem dX12_seersOf_14 : decode cX12_seersOf 14 = .ok (.iload_n 3, 1) := by decide +kernel
theorem dX12_seersOf_15 : decode cX12_seersOf 15 = .ok (.aload_n 0, 1) := by decide +kernel
theorem dX12_seersOf_16 : decode cX12_seersOf 16 = .ok (.iload 4, 2) := by decide +kernel
theorem dX12_seersOf_18 : decode cX12_seersOf 18 = .ok (.iload_n 2, 1) := by decide +kernel
theorem dX12_seersOf_19 : decode cX12_seersOf 19 = .ok (.invokevirtual 236, 3) := by decide +kernel
theorem dX12_seersOf_22 : decode cX12_seersOf 22 = .ok (.ifCond .lt 32, 3) := by decide +kernel
theorem dX12_seersOf_25 : decode cX12_seersOf 25 = .ok (.aload_n 0, 1) := by decide +kernel
theorem dX12_seersOf_26 : decode cX12_seersOf 26 = .ok (.getfield 31, 3) := by decide +kernel
theorem dX12_seersOf_29 : decode cX12_seersOf 29 = .ok (.bipush 9, 2) := by decide +kernel
theorem dX12_seersOf_31 : decode cX12_seersOf 31 = .ok (.iload 4, 2) := by decide +kernel
theorem dX12_seersOf_33 : decode cX12_seersOf 33 = .ok (.imul, 1) := by decide +kernel
theorem dX12_seersOf_34 : decode cX12_seersOf 34 = .ok (.aload_n 0, 1) := by decide +kernel
theorem dX12_seersOf_35 : decode cX12_seersOf 35 = .ok (.iload 4, 2) := by decide +kernel
theorem dX12_seersOf_37 : decode cX12_seersOf 37 = .ok (.iload_n 2, 1) := by decide +kernel
theorem dX12_seersOf_38 : decode cX12_seersOf 38 = .ok (.invokevirtual 236, 3) := by decide +kernel
theorem dX12_seersOf_41 : decode cX12_seersOf 41 = .ok (.iadd, 1) := by decide +kernel
theorem dX12_seersOf_42 : decode cX12_seersOf 42 = .ok (.iaload, 1) := by decide +kernel
theorem dX12_seersOf_43 : decode cX12_seersOf 43 = .ok (.iload_n 1, 1) := by decide +kernel
theorem dX12_seersOf_44 : decode cX12_seersOf 44 = .ok (.if_icmp .ne 10, 3) := by decide +kernel
theorem dX12_seersOf_47 : decode cX12_seersOf 47 = .ok (.iconst 1, 1) := by decide +kernel
theorem dX12_seersOf_48 : decode cX12_seersOf 48 = .ok (.iload 4, 2) := by decide +kernel
theorem dX12_seersOf_50 : decode cX12_seersOf 50 = .ok (.ishl, 1) := by decide +kernel
theorem dX12_seersOf_51 : decode cX12_seersOf 51 = .ok (.goto 4, 3) := by decide +kernel
theorem dX12_seersOf_54 : decode cX12_seersOf 54 = .ok (.iconst 0, 1) := by decide +kernel
theorem dX12_seersOf_55 : decode cX12_seersOf 55 = .ok (.ior, 1) := by decide +kernel
theorem dX12_seersOf_56 : decode cX12_seersOf 56 = .ok (.istore_n 3, 1) := by decide +kernel
theorem dX12_seersOf_57 : decode cX12_seersOf 57 = .ok (.iinc 4 1, 3) := by decide +kernel
theorem dX12_seersOf_60 : decode cX12_seersOf 60 = .ok (.goto (-55), 3) := by decide +kernel
theorem dX12_seersOf_63 : decode cX12_seersOf 63 = .ok (.iload_n 3, 1) := by decide +kernel
theorem dX12_seersOf_64 : decode cX12_seersOf 64 = .ok (.ireturn, 1) := by decide +kernel
set_option maxRecDepth 20000 in
theorem ggX12_notWhere_X12_isPerson : GoodIn wsX12_notWhere wsX12_isPerson := goodIn_r _ [5, 6, 7, 8, 9, 10, 11, 12, 13, 14, 15, 16, 17, 18, 19, 20, 21, 22, 23, 24, 25, 26, 27, 28, 29, 30, 31, 32, 33, 34, 35, 36, 37, 38, 39] (by decide +kernel) (by decide +kernel)
set_option maxRecDepth 20000 in
theorem gX12_notWhere_X12_isPerson : GoodIn wsX12_notWhere (wsV RX12 132 RX12 yX12_isPerson wsX12_isPerson) := goodIn_app (goodIn_of _ (by decide +kernel)) ggX12_notWhere_X12_isPerson
theorem dX12_notWhere_0 : decode cX12_notWhere 0 = .ok (.aload_n 0, 1) := by decide +kernel
theorem dX12_notWhere_1 : decode cX12_notWhere 1 = .ok (.iload_n 1, 1) := by decide +kernel
theorem dX12_notWhere_2 : decode cX12_notWhere 2 = .ok (.invokevirtual 132, 3) := by decide +kernel
theorem dX12_notWhere_5 : decode cX12_notWhere 5 = .ok (.ifCond .ne 5, 3) := by decide +kernel
theorem dX12_notWhere_8 : decode cX12_notWhere 8 = .ok (.iconst (-1), 1) := by decide +kernel
theorem dX12_notWhere_9 : decode cX12_notWhere 9 = .ok (.ireturn, 1) := by decide +kernel
theorem dX12_notWhere_10 : decode cX12_notWhere 10 = .ok (.iload_n 2, 1) := by decide +kernel
theorem dX12_notWhere_11 : decode cX12_notWhere 11 = .ok (.ifCond .lt 8, 3) := by decide +kernel
theorem dX12_notWhere_14 : decode cX12_notWhere 14 = .ok (.iload_n 3, 1) := by decide +kernel
theorem dX12_notWhere_15 : decode cX12_notWhere 15 = .ok (.iconst (-1), 1) := by decide +kernel
theorem dX12_notWhere_16 : decode cX12_notWhere 16 = .ok (.if_icmp .ge 6, 3) := by decide +kernel
theorem dX12_notWhere_19 : decode cX12_notWhere 19 = .ok (.bipush (-4), 2) := by decide +kernel
theorem dX12_notWhere_21 : decode cX12_notWhere 21 = .ok (.ireturn, 1) := by decide +kernel
theorem dX12_notWhere_22 : decode cX12_notWhere 22 = .ok (.iload_n 2, 1) := by decide +kernel
theorem dX12_notWhere_23 : decode cX12_notWhere 23 = .ok (.sipush 9999, 3) := by decide +kernel
theorem dX12_notWhere_26 : decode cX12_notWhere 26 = .ok (.if_icmp .le 8, 3) := by decide +kernel
theorem dX12_notWhere_29 : decode cX12_notWhere 29 = .ok (.bipush (-6), 2) := by decide +kernel
theorem dX12_notWhere_31 : decode cX12_notWhere 31 = .ok (.goto 4, 3) := by decide +kernel
theorem dX12_notWhere_34 : decode cX12_notWhere 34 = .ok (.iconst 0, 1) := by decide +kernel
theorem dX12_notWhere_35 : decode cX12_notWhere 35 = .ok (.ireturn, 1) := by decide +kernel
set_option maxRecDepth 20000 in
theorem ggX12_whereAt_X12_notWhere : GoodIn wsX12_whereAt wsX12_notWhere := goodIn_r _ [6, 7, 8, 9, 5, 10, 11, 83, 84, 85, 86, 87, 88, 89, 90, 91, 92, 93, 94, 95, 96, 97, 98, 99, 100, 101, 102, 103, 104, 105, 106, 107, 108, 109, 110, 111, 112, 113, 114, 115] (by decide +kernel) (by decide +kernel)
set_option maxRecDepth 20000 in
theorem gX12_whereAt_X12_notWhere : GoodIn wsX12_whereAt (wsV RX12 257 RX12 yX12_notWhere wsX12_notWhere) := goodIn_app (goodIn_of _ (by decide +kernel)) ggX12_whereAt_X12_notWhere
set_option maxRecDepth 20000 in
theorem ggX12_whereAt_X12_no : GoodIn wsX12_whereAt wsX12_no := goodIn_r _ [15, 16, 83, 84, 85, 86, 87, 88, 89, 90, 91, 92, 93, 94, 95, 96, 97, 98, 99, 100, 101, 102, 103, 104, 105, 106, 107, 108, 109, 110, 111, 112, 113, 114, 115] (by decide +kernel) (by decide +kernel)
set_option maxRecDepth 20000 in
theorem gX12_whereAt_X12_no : GoodIn wsX12_whereAt (wsV RX12 91 RX12 yX12_no wsX12_no) := goodIn_app (goodIn_of _ (by decide +kernel)) ggX12_whereAt_X12_no
set_option maxRecDepth 20000 in
theorem ggX12_whereAt_X12_findWhere : GoodIn wsX12_whereAt wsX12_findWhere := goodIn_r _ [20, 21, 22, 23, 24, 1, 25, 26, 27, 28, 29, 30, 5, 31, 32, 33, 34, 35, 36, 37, 38, 39, 40, 41, 42, 43, 44, 45, 46, 47, 11, 48, 49, 50, 51, 52, 53, 54, 55, 56, 57, 58, 59, 60, 61, 62, 63, 64, 65, 66, 67, 68, 69, 70, 71, 72, 73, 74, 75, 76, 77, 78, 79, 80, 81, 82, 83, 84, 85, 86, 87, 88, 89, 90, 91, 92, 93, 94, 95, 96, 97, 98, 99, 100, 101, 102, 103, 104, 105, 106, 107, 108, 109, 110, 111, 112, 113, 114, 115] (by decide +kernel) (by decide +kernel)
set_option maxRecDepth 20000 in
theorem gX12_whereAt_X12_findWhere : GoodIn wsX12_whereAt (wsV RX12 260 RX12 yX12_findWhere wsX12_findWhere) := goodIn_app (goodIn_of _ (by decide +kernel)) ggX12_whereAt_X12_findWhere
theorem dX12_whereAt_0 : decode cX12_whereAt 0 = .ok (.aload_n 0, 1) := by decide +kernel
theorem dX12_whereAt_1 : decode cX12_whereAt 1 = .ok (.iload_n 1, 1) := by decide +kernel
theorem dX12_whereAt_2 : decode cX12_whereAt 2 = .ok (.iload_n 2, 1) := by decide +kernel
theorem dX12_whereAt_3 : decode cX12_whereAt 3 = .ok (.iload_n 3, 1) := by decide +kernel
theorem dX12_whereAt_4 : decode cX12_whereAt 4 = .ok (.invokevirtual 257, 3) := by decide +kernel
theorem dX12_whereAt_7 : decode cX12_whereAt 7 = .ok (.istore 4, 2) := by decide +kernel
theorem dX12_whereAt_9 : decode cX12_whereAt 9 = .ok (.iload 4, 2) := by decide +kernel
theorem dX12_whereAt_11 : decode cX12_whereAt 11 = .ok (.ifCond .eq 10, 3) := by decide +kernel
theorem dX12_whereAt_14 : decode cX12_whereAt 14 = .ok (.aload_n 0, 1) := by decide +kernel
theorem dX12_whereAt_15 : decode cX12_whereAt 15 = .ok (.iload 4, 2) := by decide +kernel
theorem dX12_whereAt_17 : decode cX12_whereAt 17 = .ok (.invokevirtual 91, 3) := by decide +kernel
theorem dX12_whereAt_20 : decode cX12_whereAt 20 = .ok (.ireturn, 1) := by decide +kernel
theorem dX12_whereAt_21 : decode cX12_whereAt 21 = .ok (.aload_n 0, 1) := by decide +kernel
theorem dX12_whereAt_22 : decode cX12_whereAt 22 = .ok (.iload_n 1, 1) := by decide +kernel
theorem dX12_whereAt_23 : decode cX12_whereAt 23 = .ok (.iload_n 2, 1) := by decide +kernel
theorem dX12_whereAt_24 : decode cX12_whereAt 24 = .ok (.invokevirtual 260, 3) := by decide +kernel
theorem dX12_whereAt_27 : decode cX12_whereAt 27 = .ok (.iconst 0, 1) := by decide +kernel
theorem dX12_whereAt_28 : decode cX12_whereAt 28 = .ok (.istore 5, 2) := by decide +kernel
theorem dX12_whereAt_30 : decode cX12_whereAt 30 = .ok (.iconst 0, 1) := by decide +kernel
theorem dX12_whereAt_31 : decode cX12_whereAt 31 = .ok (.istore 6, 2) := by decide +kernel
theorem dX12_whereAt_33 : decode cX12_whereAt 33 = .ok (.iload 6, 2) := by decide +kernel
theorem dX12_whereAt_35 : decode cX12_whereAt 35 = .ok (.bipush 36, 2) := by decide +kernel
theorem dX12_whereAt_37 : decode cX12_whereAt 37 = .ok (.if_icmp .ge 34, 3) := by decide +kernel
theorem dX12_whereAt_40 : decode cX12_whereAt 40 = .ok (.aload_n 0, 1) := by decide +kernel
theorem dX12_whereAt_41 : decode cX12_whereAt 41 = .ok (.getfield 70, 3) := by decide +kernel
theorem dX12_whereAt_44 : decode cX12_whereAt 44 = .ok (.iload 6, 2) := by decide +kernel
theorem dX12_whereAt_46 : decode cX12_whereAt 46 = .ok (.iaload, 1) := by decide +kernel
theorem dX12_whereAt_47 : decode cX12_whereAt 47 = .ok (.ifCond .ne 6, 3) := by decide +kernel
theorem dX12_whereAt_50 : decode cX12_whereAt 50 = .ok (.goto 15, 3) := by decide +kernel
theorem dX12_whereAt_53 : decode cX12_whereAt 53 = .ok (.iload 5, 2) := by decide +kernel
theorem dX12_whereAt_55 : decode cX12_whereAt 55 = .ok (.iload_n 3, 1) := by decide +kernel
theorem dX12_whereAt_56 : decode cX12_whereAt 56 = .ok (.if_icmp .ne 6, 3) := by decide +kernel
theorem dX12_whereAt_59 : decode cX12_whereAt 59 = .ok (.iload 6, 2) := by decide +kernel
theorem dX12_whereAt_61 : decode cX12_whereAt 61 = .ok (.ireturn, 1) := by decide +kernel
theorem dX12_whereAt_62 : decode cX12_whereAt 62 = .ok (.iinc 5 1, 3) := by decide +kernel
theorem dX12_whereAt_65 : decode cX12_whereAt 65 = .ok (.iinc 6 1, 3) := by decide +kernel
theorem dX12_whereAt_68 : decode cX12_whereAt 68 = .ok (.goto (-35), 3) := by decide +kernel
theorem dX12_whereAt_71 : decode cX12_whereAt 71 = .ok (.iload_n 3, 1) := by decide +kernel
theorem dX12_whereAt_72 : decode cX12_whereAt 72 = .ok (.ifCond .ge 8, 3) := by decide +kernel
theorem dX12_whereAt_75 : decode cX12_whereAt 75 = .ok (.iload 5, 2) := by decide +kernel
theorem dX12_whereAt_77 : decode cX12_whereAt 77 = .ok (.goto 5, 3) := by decide +kernel
theorem dX12_whereAt_80 : decode cX12_whereAt 80 = .ok (.bipush (-9), 2) := by decide +kernel
theorem dX12_whereAt_82 : decode cX12_whereAt 82 = .ok (.ireturn, 1) := by decide +kernel
set_option maxRecDepth 20000 in
theorem ggX12_next_X12_notWhere : GoodIn wsX12_next wsX12_notWhere := goodIn_r _ [8, 9, 10, 11, 7, 12, 13, 83, 84, 85, 86, 87, 88, 89, 90, 91, 92, 93, 94, 95, 96, 97, 98, 99, 100, 101, 102, 103, 104, 105, 106, 107, 108, 109, 110, 111, 112, 113, 114, 115] (by decide +kernel) (by decide +kernel)
set_option maxRecDepth 20000 in
theorem gX12_next_X12_notWhere : GoodIn wsX12_next (wsV RX12 257 RX12 yX12_notWhere wsX12_notWhere) := goodIn_app (goodIn_of _ (by decide +kernel)) ggX12_next_X12_notWhere
set_option maxRecDepth 20000 in
theorem ggX12_next_X12_no : GoodIn wsX12_next wsX12_no := goodIn_r _ [17, 18, 83, 84, 85, 86, 87, 88, 89, 90, 91, 92, 93, 94, 95, 96, 97, 98, 99, 100, 101, 102, 103, 104, 105, 106, 107, 108, 109, 110, 111, 112, 113, 114, 115] (by decide +kernel) (by decide +kernel)
set_option maxRecDepth 20000 in
theorem gX12_next_X12_no : GoodIn wsX12_next (wsV RX12 91 RX12 yX12_no wsX12_no) := goodIn_app (goodIn_of _ (by decide +kernel)) ggX12_next_X12_no
set_option maxRecDepth 20000 in
theorem ggX12_next_X12_findWhere : GoodIn wsX12_next wsX12_findWhere := goodIn_r _ [22, 2, 23, 24, 25, 1, 26, 3, 27, 28, 29, 30, 7, 31, 32, 33, 34, 35, 36, 37, 38, 39, 40, 41, 42, 43, 44, 45, 46, 47, 13, 48, 49, 50, 51, 52, 53, 54, 55, 56, 57, 58, 59, 60, 61, 62, 63, 64, 65, 66, 67, 68, 69, 70, 71, 72, 73, 74, 75, 76, 77, 78, 79, 80, 81, 82, 83, 84, 85, 86, 87, 88, 89, 90, 91, 92, 93, 94, 95, 96, 97, 98, 99, 100, 101, 102, 103, 104, 105, 106, 107, 108, 109, 110, 111, 112, 113, 114, 115] (by decide +kernel) (by decide +kernel)
set_option maxRecDepth 20000 in
theorem gX12_next_X12_findWhere : GoodIn wsX12_next (wsV RX12 260 RX12 yX12_findWhere wsX12_findWhere) := goodIn_app (goodIn_of _ (by decide +kernel)) ggX12_next_X12_findWhere
set_option maxRecDepth 20000 in
theorem ggX12_next_X12_findLit : GoodIn wsX12_next wsX12_findLit := goodIn_r _ [40, 3, 2, 41, 42, 43, 44, 45, 7, 46, 47, 23, 13, 48, 49, 50, 51, 52, 26, 53, 54, 55, 56, 57, 58, 59, 60, 61, 62, 63, 64, 65, 66, 67, 68, 69, 70, 83, 84, 85, 86, 87, 88, 89, 90, 91, 92, 93, 94, 95, 96, 97, 98, 99, 100, 101, 102, 103, 104, 105, 106, 107, 108, 109, 110, 111, 112, 113, 114, 115] (by decide +kernel) (by decide +kernel)
set_option maxRecDepth 20000 in
theorem gX12_next_X12_findLit : GoodIn wsX12_next (wsV RX12 220 RX12 yX12_findLit wsX12_findLit) := goodIn_app (goodIn_of _ (by decide +kernel)) ggX12_next_X12_findLit
set_option maxRecDepth 20000 in
theorem ggX12_next_X12_has : GoodIn wsX12_next wsX12_has := goodIn_r _ [73] (by decide +kernel) (by decide +kernel)
set_option maxRecDepth 20000 in
theorem gX12_next_X12_has : GoodIn wsX12_next (va_wsS RX12 223 yX12_has wsX12_has) := goodIn_app (goodIn_of _ (by decide +kernel)) ggX12_next_X12_has
theorem dX12_next_0 : decode cX12_next 0 = .ok (.aload_n 0, 1) := by decide +kernel
theorem dX12_next_1 : decode cX12_next 1 = .ok (.iload_n 1, 1) := by decide +kernel
theorem dX12_next_2 : decode cX12_next 2 = .ok (.iload_n 2, 1) := by decide +kernel
theorem dX12_next_3 : decode cX12_next 3 = .ok (.iconst 0, 1) := by decide +kernel
theorem dX12_next_4 : decode cX12_next 4 = .ok (.invokevirtual 257, 3) := by decide +kernel
theorem dX12_next_7 : decode cX12_next 7 = .ok (.istore_n 3, 1) := by decide +kernel
theorem dX12_next_8 : decode cX12_next 8 = .ok (.iload_n 3, 1) := by decide +kernel
theorem dX12_next_9 : decode cX12_next 9 = .ok (.ifCond .eq 9, 3) := by decide +kernel
theorem dX12_next_12 : decode cX12_next 12 = .ok (.aload_n 0, 1) := by decide +kernel
theorem dX12_next_13 : decode cX12_next 13 = .ok (.iload_n 3, 1) := by decide +kernel
theorem dX12_next_14 : decode cX12_next 14 = .ok (.invokevirtual 91, 3) := by decide +kernel
theorem dX12_next_17 : decode cX12_next 17 = .ok (.ireturn, 1) := by decide +kernel
theorem dX12_next_18 : decode cX12_next 18 = .ok (.aload_n 0, 1) := by decide +kernel
theorem dX12_next_19 : decode cX12_next 19 = .ok (.iload_n 1, 1) := by decide +kernel
theorem dX12_next_20 : decode cX12_next 20 = .ok (.iload_n 2, 1) := by decide +kernel
theorem dX12_next_21 : decode cX12_next 21 = .ok (.invokevirtual 260, 3) := by decide +kernel
theorem dX12_next_24 : decode cX12_next 24 = .ok (.aload_n 0, 1) := by decide +kernel
theorem dX12_next_25 : decode cX12_next 25 = .ok (.invokevirtual 220, 3) := by decide +kernel
theorem dX12_next_28 : decode cX12_next 28 = .ok (.iconst 0, 1) := by decide +kernel
theorem dX12_next_29 : decode cX12_next 29 = .ok (.istore 4, 2) := by decide +kernel
theorem dX12_next_31 : decode cX12_next 31 = .ok (.iconst 0, 1) := by decide +kernel
theorem dX12_next_32 : decode cX12_next 32 = .ok (.istore 5, 2) := by decide +kernel
theorem dX12_next_34 : decode cX12_next 34 = .ok (.iload 5, 2) := by decide +kernel
theorem dX12_next_36 : decode cX12_next 36 = .ok (.bipush 36, 2) := by decide +kernel
theorem dX12_next_38 : decode cX12_next 38 = .ok (.if_icmp .ge 21, 3) := by decide +kernel
theorem dX12_next_41 : decode cX12_next 41 = .ok (.iload 4, 2) := by decide +kernel
theorem dX12_next_43 : decode cX12_next 43 = .ok (.aload_n 0, 1) := by decide +kernel
theorem dX12_next_44 : decode cX12_next 44 = .ok (.getfield 70, 3) := by decide +kernel
theorem dX12_next_47 : decode cX12_next 47 = .ok (.iload 5, 2) := by decide +kernel
theorem dX12_next_49 : decode cX12_next 49 = .ok (.iaload, 1) := by decide +kernel
theorem dX12_next_50 : decode cX12_next 50 = .ok (.iadd, 1) := by decide +kernel
theorem dX12_next_51 : decode cX12_next 51 = .ok (.istore 4, 2) := by decide +kernel
theorem dX12_next_53 : decode cX12_next 53 = .ok (.iinc 5 1, 3) := by decide +kernel
theorem dX12_next_56 : decode cX12_next 56 = .ok (.goto (-22), 3) := by decide +kernel
theorem dX12_next_59 : decode cX12_next 59 = .ok (.bipush (-9), 2) := by decide +kernel
theorem dX12_next_61 : decode cX12_next 61 = .ok (.istore 5, 2) := by decide +kernel
theorem dX12_next_63 : decode cX12_next 63 = .ok (.iconst (-1), 1) := by decide +kernel
theorem dX12_next_64 : decode cX12_next 64 = .ok (.istore 6, 2) := by decide +kernel
theorem dX12_next_66 : decode cX12_next 66 = .ok (.iconst 0, 1) := by decide +kernel
theorem dX12_next_67 : decode cX12_next 67 = .ok (.istore 7, 2) := by decide +kernel
theorem dX12_next_69 : decode cX12_next 69 = .ok (.iload 7, 2) := by decide +kernel
theorem dX12_next_71 : decode cX12_next 71 = .ok (.aload_n 0, 1) := by decide +kernel
theorem dX12_next_72 : decode cX12_next 72 = .ok (.getfield 76, 3) := by decide +kernel
theorem dX12_next_75 : decode cX12_next 75 = .ok (.if_icmp .ge 109, 3) := by decide +kernel
theorem dX12_next_78 : decode cX12_next 78 = .ok (.iload 4, 2) := by decide +kernel
theorem dX12_next_80 : decode cX12_next 80 = .ok (.ifCond .le 104, 3) := by decide +kernel
theorem dX12_next_83 : decode cX12_next 83 = .ok (.iconst 0, 1) := by decide +kernel
theorem dX12_next_84 : decode cX12_next 84 = .ok (.istore 8, 2) := by decide +kernel
theorem dX12_next_86 : decode cX12_next 86 = .ok (.iconst 0, 1) := by decide +kernel
theorem dX12_next_87 : decode cX12_next 87 = .ok (.istore 9, 2) := by decide +kernel
theorem dX12_next_89 : decode cX12_next 89 = .ok (.iload 9, 2) := by decide +kernel
theorem dX12_next_91 : decode cX12_next 91 = .ok (.bipush 36, 2) := by decide +kernel
theorem dX12_next_93 : decode cX12_next 93 = .ok (.if_icmp .ge 45, 3) := by decide +kernel
theorem dX12_next_96 : decode cX12_next 96 = .ok (.iload 8, 2) := by decide +kernel
theorem dX12_next_98 : decode cX12_next 98 = .ok (.aload_n 0, 1) := by decide +kernel
theorem dX12_next_99 : decode cX12_next 99 = .ok (.getfield 70, 3) := by decide +kernel
theorem dX12_next_102 : decode cX12_next 102 = .ok (.iload 9, 2) := by decide +kernel
theorem dX12_next_104 : decode cX12_next 104 = .ok (.iaload, 1) := by decide +kernel
theorem dX12_next_105 : decode cX12_next 105 = .ok (.iconst 1, 1) := by decide +kernel
theorem dX12_next_106 : decode cX12_next 106 = .ok (.if_icmp .ne 22, 3) := by decide +kernel
theorem dX12_next_109 : decode cX12_next 109 = .ok (.aload_n 0, 1) := by decide +kernel
theorem dX12_next_110 : decode cX12_next 110 = .ok (.getfield 67, 3) := by decide +kernel
theorem dX12_next_113 : decode cX12_next 113 = .ok (.iload 9, 2) := by decide +kernel
theorem dX12_next_115 : decode cX12_next 115 = .ok (.iaload, 1) := by decide +kernel
theorem dX12_next_116 : decode cX12_next 116 = .ok (.iload 7, 2) := by decide +kernel
theorem dX12_next_118 : decode cX12_next 118 = .ok (.invokestatic 223, 3) := by decide +kernel
theorem dX12_next_121 : decode cX12_next 121 = .ok (.ifCond .eq 7, 3) := by decide +kernel
theorem dX12_next_124 : decode cX12_next 124 = .ok (.iconst 1, 1) := by decide +kernel
theorem dX12_next_125 : decode cX12_next 125 = .ok (.goto 4, 3) := by decide +kernel
theorem dX12_next_128 : decode cX12_next 128 = .ok (.iconst 0, 1) := by decide +kernel
theorem dX12_next_129 : decode cX12_next 129 = .ok (.iadd, 1) := by decide +kernel
theorem dX12_next_130 : decode cX12_next 130 = .ok (.istore 8, 2) := by decide +kernel
theorem dX12_next_132 : decode cX12_next 132 = .ok (.iinc 9 1, 3) := by decide +kernel
theorem dX12_next_135 : decode cX12_next 135 = .ok (.goto (-46), 3) := by decide +kernel
theorem dX12_next_138 : decode cX12_next 138 = .ok (.iload 8, 2) := by decide +kernel
theorem dX12_next_140 : decode cX12_next 140 = .ok (.iload 4, 2) := by decide +kernel
theorem dX12_next_142 : decode cX12_next 142 = .ok (.iload 8, 2) := by decide +kernel
theorem dX12_next_144 : decode cX12_next 144 = .ok (.isub, 1) := by decide +kernel
theorem dX12_next_145 : decode cX12_next 145 = .ok (.if_icmp .ge 8, 3) := by decide +kernel
theorem dX12_next_148 : decode cX12_next 148 = .ok (.iload 8, 2) := by decide +kernel
theorem dX12_next_150 : decode cX12_next 150 = .ok (.goto 8, 3) := by decide +kernel
theorem dX12_next_153 : decode cX12_next 153 = .ok (.iload 4, 2) := by decide +kernel
theorem dX12_next_155 : decode cX12_next 155 = .ok (.iload 8, 2) := by decide +kernel
theorem dX12_next_157 : decode cX12_next 157 = .ok (.isub, 1) := by decide +kernel
theorem dX12_next_158 : decode cX12_next 158 = .ok (.istore 8, 2) := by decide +kernel
theorem dX12_next_160 : decode cX12_next 160 = .ok (.iload 8, 2) := by decide +kernel
theorem dX12_next_162 : decode cX12_next 162 = .ok (.iload 6, 2) := by decide +kernel
theorem dX12_next_164 : decode cX12_next 164 = .ok (.if_icmp .gt 6, 3) := by decide +kernel
theorem dX12_next_167 : decode cX12_next 167 = .ok (.goto 11, 3) := by decide +kernel
theorem dX12_next_170 : decode cX12_next 170 = .ok (.iload 7, 2) := by decide +kernel
theorem dX12_next_172 : decode cX12_next 172 = .ok (.istore 5, 2) := by decide +kernel
theorem dX12_next_174 : decode cX12_next 174 = .ok (.iload 8, 2) := by decide +kernel
theorem dX12_next_176 : decode cX12_next 176 = .ok (.istore 6, 2) := by decide +kernel
theorem dX12_next_178 : decode cX12_next 178 = .ok (.iinc 7 1, 3) := by decide +kernel
theorem dX12_next_181 : decode cX12_next 181 = .ok (.goto (-112), 3) := by decide +kernel
theorem dX12_next_184 : decode cX12_next 184 = .ok (.iload 5, 2) := by decide +kernel
theorem dX12_next_186 : decode cX12_next 186 = .ok (.ireturn, 1) := by decide +kernel
theorem dX12_lightsAll_0 : decode cX12_lightsAll 0 = .ok (.iconst 0, 1) := by decide +kernel
theorem dX12_lightsAll_1 : decode cX12_lightsAll 1 = .ok (.istore_n 2, 1) := by decide +kernel
theorem dX12_lightsAll_2 : decode cX12_lightsAll 2 = .ok (.iload_n 2, 1) := by decide +kernel
theorem dX12_lightsAll_3 : decode cX12_lightsAll 3 = .ok (.aload_n 0, 1) := by decide +kernel
theorem dX12_lightsAll_4 : decode cX12_lightsAll 4 = .ok (.getfield 263, 3) := by decide +kernel
theorem dX12_lightsAll_7 : decode cX12_lightsAll 7 = .ok (.if_icmp .ge 27, 3) := by decide +kernel
theorem dX12_lightsAll_10 : decode cX12_lightsAll 10 = .ok (.aload_n 0, 1) := by decide +kernel
theorem dX12_lightsAll_11 : decode cX12_lightsAll 11 = .ok (.getfield 67, 3) := by decide +kernel
theorem dX12_lightsAll_14 : decode cX12_lightsAll 14 = .ok (.aload_n 0, 1) := by decide +kernel
theorem dX12_lightsAll_15 : decode cX12_lightsAll 15 = .ok (.getfield 73, 3) := by decide +kernel
theorem dX12_lightsAll_18 : decode cX12_lightsAll 18 = .ok (.iload_n 2, 1) := by decide +kernel
theorem dX12_lightsAll_19 : decode cX12_lightsAll 19 = .ok (.iaload, 1) := by decide +kernel
theorem dX12_lightsAll_20 : decode cX12_lightsAll 20 = .ok (.iaload, 1) := by decide +kernel
theorem dX12_lightsAll_21 : decode cX12_lightsAll 21 = .ok (.iload_n 1, 1) := by decide +kernel
theorem dX12_lightsAll_22 : decode cX12_lightsAll 22 = .ok (.iand, 1) := by decide +kernel
theorem dX12_lightsAll_23 : decode cX12_lightsAll 23 = .ok (.ifCond .ne 5, 3) := by decide +kernel
theorem dX12_lightsAll_26 : decode cX12_lightsAll 26 = .ok (.iconst 0, 1) := by decide +kernel
theorem dX12_lightsAll_27 : decode cX12_lightsAll 27 = .ok (.ireturn, 1) := by decide +kernel
theorem dX12_lightsAll_28 : decode cX12_lightsAll 28 = .ok (.iinc 2 1, 3) := by decide +kernel
theorem dX12_lightsAll_31 : decode cX12_lightsAll 31 = .ok (.goto (-29), 3) := by decide +kernel
theorem dX12_lightsAll_34 : decode cX12_lightsAll 34 = .ok (.iconst 1, 1) := by decide +kernel
theorem dX12_lightsAll_35 : decode cX12_lightsAll 35 = .ok (.ireturn, 1) := by decide +kernel
set_option maxRecDepth 20000 in
theorem ggX12_fewest_X12_isCell : GoodIn wsX12_fewest wsX12_isCell := goodIn_r _ [7] (by decide +kernel) (by decide +kernel)
set_option maxRecDepth 20000 in
theorem gX12_fewest_X12_isCell : GoodIn wsX12_fewest (va_wsS RX12 123 yX12_isCell wsX12_isCell) := goodIn_app (goodIn_of _ (by decide +kernel)) ggX12_fewest_X12_isCell
set_option maxRecDepth 20000 in
theorem ggX12_fewest_X12_no : GoodIn wsX12_fewest wsX12_no := goodIn_r _ [11, 12, 58, 59, 60, 61, 62, 63, 64, 65, 66, 67, 68, 69, 70, 71, 72, 73, 74, 75, 76, 77, 78, 79, 80, 81, 82, 83, 84, 85, 86, 87, 88, 89, 90] (by decide +kernel) (by decide +kernel)
set_option maxRecDepth 20000 in
theorem gX12_fewest_X12_no : GoodIn wsX12_fewest (wsV RX12 91 RX12 yX12_no wsX12_no) := goodIn_app (goodIn_of _ (by decide +kernel)) ggX12_fewest_X12_no
set_option maxRecDepth 20000 in
theorem ggX12_fewest_X12_findLit : GoodIn wsX12_fewest wsX12_findLit := goodIn_r _ [16, 17, 3, 18, 19, 20, 21, 22, 6, 23, 24, 25, 26, 27, 28, 29, 30, 31, 32, 33, 34, 35, 36, 37, 38, 39, 40, 41, 42, 43, 44, 45, 46, 47, 48, 49, 50, 58, 59, 60, 61, 62, 63, 64, 65, 66, 67, 68, 69, 70, 71, 72, 73, 74, 75, 76, 77, 78, 79, 80, 81, 82, 83, 84, 85, 86, 87, 88, 89, 90] (by decide +kernel) (by decide +kernel)
set_option maxRecDepth 20000 in
theorem gX12_fewest_X12_findLit : GoodIn wsX12_fewest (wsV RX12 220 RX12 yX12_findLit wsX12_findLit) := goodIn_app (goodIn_of _ (by decide +kernel)) ggX12_fewest_X12_findLit
set_option maxRecDepth 20000 in
theorem ggX12_fewest_X12_bits : GoodIn wsX12_fewest wsX12_bits := goodIn_r _ [53] (by decide +kernel) (by decide +kernel)
set_option maxRecDepth 20000 in
theorem gX12_fewest_X12_bits : GoodIn wsX12_fewest (va_wsS RX12 266 yX12_bits wsX12_bits) := goodIn_app (goodIn_of _ (by decide +kernel)) ggX12_fewest_X12_bits
set_option maxRecDepth 20000 in
theorem ggX12_fewest_X12_lightsAll : GoodIn wsX12_fewest wsX12_lightsAll := goodIn_r _ [57, 1, 17, 2, 58, 59, 60, 61, 62, 63, 64, 65, 66, 67, 68, 69, 70, 71, 72, 73, 74, 75, 76, 77, 78, 79, 80, 81, 82, 83, 84, 85, 86, 87, 88, 89, 90] (by decide +kernel) (by decide +kernel)
set_option maxRecDepth 20000 in
theorem gX12_fewest_X12_lightsAll : GoodIn wsX12_fewest (wsV RX12 269 RX12 yX12_lightsAll wsX12_lightsAll) := goodIn_app (goodIn_of _ (by decide +kernel)) ggX12_fewest_X12_lightsAll
theorem dX12_fewest_0 : decode cX12_fewest 0 = .ok (.iconst 0, 1) := by decide +kernel
theorem dX12_fewest_1 : decode cX12_fewest 1 = .ok (.istore_n 1, 1) := by decide +kernel
theorem dX12_fewest_2 : decode cX12_fewest 2 = .ok (.iload_n 1, 1) := by decide +kernel
theorem dX12_fewest_3 : decode cX12_fewest 3 = .ok (.aload_n 0, 1) := by decide +kernel
theorem dX12_fewest_4 : decode cX12_fewest 4 = .ok (.getfield 263, 3) := by decide +kernel
theorem dX12_fewest_7 : decode cX12_fewest 7 = .ok (.if_icmp .ge 28, 3) := by decide +kernel
theorem dX12_fewest_10 : decode cX12_fewest 10 = .ok (.aload_n 0, 1) := by decide +kernel
theorem dX12_fewest_11 : decode cX12_fewest 11 = .ok (.getfield 73, 3) := by decide +kernel
theorem dX12_fewest_14 : decode cX12_fewest 14 = .ok (.iload_n 1, 1) := by decide +kernel
theorem dX12_fewest_15 : decode cX12_fewest 15 = .ok (.iaload, 1) := by decide +kernel
theorem dX12_fewest_16 : decode cX12_fewest 16 = .ok (.invokestatic 123, 3) := by decide +kernel
theorem dX12_fewest_19 : decode cX12_fewest 19 = .ok (.ifCond .ne 10, 3) := by decide +kernel
theorem dX12_fewest_22 : decode cX12_fewest 22 = .ok (.aload_n 0, 1) := by decide +kernel
theorem dX12_fewest_23 : decode cX12_fewest 23 = .ok (.bipush (-3), 2) := by decide +kernel
theorem dX12_fewest_25 : decode cX12_fewest 25 = .ok (.invokevirtual 91, 3) := by decide +kernel
theorem dX12_fewest_28 : decode cX12_fewest 28 = .ok (.ireturn, 1) := by decide +kernel
theorem dX12_fewest_29 : decode cX12_fewest 29 = .ok (.iinc 1 1, 3) := by decide +kernel
theorem dX12_fewest_32 : decode cX12_fewest 32 = .ok (.goto (-30), 3) := by decide +kernel
theorem dX12_fewest_35 : decode cX12_fewest 35 = .ok (.aload_n 0, 1) := by decide +kernel
theorem dX12_fewest_36 : decode cX12_fewest 36 = .ok (.invokevirtual 220, 3) := by decide +kernel
theorem dX12_fewest_39 : decode cX12_fewest 39 = .ok (.bipush (-9), 2) := by decide +kernel
theorem dX12_fewest_41 : decode cX12_fewest 41 = .ok (.istore_n 1, 1) := by decide +kernel
theorem dX12_fewest_42 : decode cX12_fewest 42 = .ok (.iconst 0, 1) := by decide +kernel
theorem dX12_fewest_43 : decode cX12_fewest 43 = .ok (.istore_n 2, 1) := by decide +kernel
theorem dX12_fewest_44 : decode cX12_fewest 44 = .ok (.iload_n 2, 1) := by decide +kernel
theorem dX12_fewest_45 : decode cX12_fewest 45 = .ok (.iconst 1, 1) := by decide +kernel
theorem dX12_fewest_46 : decode cX12_fewest 46 = .ok (.aload_n 0, 1) := by decide +kernel
theorem dX12_fewest_47 : decode cX12_fewest 47 = .ok (.getfield 76, 3) := by decide +kernel
theorem dX12_fewest_50 : decode cX12_fewest 50 = .ok (.ishl, 1) := by decide +kernel
theorem dX12_fewest_51 : decode cX12_fewest 51 = .ok (.if_icmp .ge 34, 3) := by decide +kernel
theorem dX12_fewest_54 : decode cX12_fewest 54 = .ok (.iload_n 1, 1) := by decide +kernel
theorem dX12_fewest_55 : decode cX12_fewest 55 = .ok (.ifCond .lt 14, 3) := by decide +kernel
theorem dX12_fewest_58 : decode cX12_fewest 58 = .ok (.iload_n 2, 1) := by decide +kernel
theorem dX12_fewest_59 : decode cX12_fewest 59 = .ok (.invokestatic 266, 3) := by decide +kernel
theorem dX12_fewest_62 : decode cX12_fewest 62 = .ok (.iload_n 1, 1) := by decide +kernel
theorem dX12_fewest_63 : decode cX12_fewest 63 = .ok (.invokestatic 266, 3) := by decide +kernel
theorem dX12_fewest_66 : decode cX12_fewest 66 = .ok (.if_icmp .ge 13, 3) := by decide +kernel
theorem dX12_fewest_69 : decode cX12_fewest 69 = .ok (.aload_n 0, 1) := by decide +kernel
theorem dX12_fewest_70 : decode cX12_fewest 70 = .ok (.iload_n 2, 1) := by decide +kernel
theorem dX12_fewest_71 : decode cX12_fewest 71 = .ok (.invokevirtual 269, 3) := by decide +kernel
theorem dX12_fewest_74 : decode cX12_fewest 74 = .ok (.ifCond .eq 5, 3) := by decide +kernel
theorem dX12_fewest_77 : decode cX12_fewest 77 = .ok (.iload_n 2, 1) := by decide +kernel
theorem dX12_fewest_78 : decode cX12_fewest 78 = .ok (.istore_n 1, 1) := by decide +kernel
theorem dX12_fewest_79 : decode cX12_fewest 79 = .ok (.iinc 2 1, 3) := by decide +kernel
theorem dX12_fewest_82 : decode cX12_fewest 82 = .ok (.goto (-38), 3) := by decide +kernel
theorem dX12_fewest_85 : decode cX12_fewest 85 = .ok (.iload_n 1, 1) := by decide +kernel
theorem dX12_fewest_86 : decode cX12_fewest 86 = .ok (.ireturn, 1) := by decide +kernel
set_option maxRecDepth 20000 in
theorem ggX12_oneMore_X12_bound : GoodIn wsX12_oneMore wsX12_bound := goodIn_r _ [6] (by decide +kernel) (by decide +kernel)
set_option maxRecDepth 20000 in
theorem gX12_oneMore_X12_bound : GoodIn wsX12_oneMore (va_wsS RX12 84 yX12_bound wsX12_bound) := goodIn_app (goodIn_of _ (by decide +kernel)) ggX12_oneMore_X12_bound
set_option maxRecDepth 20000 in
theorem ggX12_oneMore_X12_isIn : GoodIn wsX12_oneMore wsX12_isIn := goodIn_r _ [9] (by decide +kernel) (by decide +kernel)
set_option maxRecDepth 20000 in
theorem gX12_oneMore_X12_isIn : GoodIn wsX12_oneMore (va_wsS RX12 102 yX12_isIn wsX12_isIn) := goodIn_app (goodIn_of _ (by decide +kernel)) ggX12_oneMore_X12_isIn
set_option maxRecDepth 20000 in
theorem ggX12_oneMore_X12_no : GoodIn wsX12_oneMore wsX12_no := goodIn_r _ [13, 14, 57, 58, 59, 60, 61, 62, 63, 64, 65, 66, 67, 68, 69, 70, 71, 72, 73, 74, 75, 76, 77, 78, 79, 80, 81, 82, 83, 84, 85, 86, 87, 88, 89] (by decide +kernel) (by decide +kernel)
set_option maxRecDepth 20000 in
theorem gX12_oneMore_X12_no : GoodIn wsX12_oneMore (wsV RX12 91 RX12 yX12_no wsX12_no) := goodIn_app (goodIn_of _ (by decide +kernel)) ggX12_oneMore_X12_no
set_option maxRecDepth 20000 in
theorem ggX12_oneMore_X12_findLit : GoodIn wsX12_oneMore wsX12_findLit := goodIn_r _ [18, 2, 19, 20, 1, 21, 22, 23, 5, 24, 25, 26, 27, 28, 29, 30, 31, 32, 33, 34, 35, 36, 37, 38, 39, 40, 41, 42, 43, 44, 45, 46, 47, 48, 49, 50, 51, 57, 58, 59, 60, 61, 62, 63, 64, 65, 66, 67, 68, 69, 70, 71, 72, 73, 74, 75, 76, 77, 78, 79, 80, 81, 82, 83, 84, 85, 86, 87, 88, 89] (by decide +kernel) (by decide +kernel)
set_option maxRecDepth 20000 in
theorem gX12_oneMore_X12_findLit : GoodIn wsX12_oneMore (wsV RX12 220 RX12 yX12_findLit wsX12_findLit) := goodIn_app (goodIn_of _ (by decide +kernel)) ggX12_oneMore_X12_findLit
set_option maxRecDepth 20000 in
theorem ggX12_oneMore_X12_findLight : GoodIn wsX12_oneMore wsX12_findLight := goodIn_r _ [32, 1, 33, 34, 35, 36, 5, 37, 38, 39, 40, 41, 42, 43, 44, 45, 46, 47, 48, 49, 50, 51, 57, 58, 59, 60, 61, 62, 63, 64, 65, 66, 67, 68, 69, 70, 71, 72, 73, 74, 75, 76, 77, 78, 79, 80, 81, 82, 83, 84, 85, 86, 87, 88, 89] (by decide +kernel) (by decide +kernel)
set_option maxRecDepth 20000 in
theorem gX12_oneMore_X12_findLight : GoodIn wsX12_oneMore (wsV RX12 208 RX12 yX12_findLight wsX12_findLight) := goodIn_app (goodIn_of _ (by decide +kernel)) ggX12_oneMore_X12_findLight
set_option maxRecDepth 20000 in
theorem ggX12_oneMore_X12_litBits : GoodIn wsX12_oneMore wsX12_litBits := goodIn_r _ [55, 19, 56, 57, 58, 59, 60, 61, 62, 63, 64, 65, 66, 67, 68, 69, 70, 71, 72, 73, 74, 75, 76, 77, 78, 79, 80, 81, 82, 83, 84, 85, 86, 87, 88, 89] (by decide +kernel) (by decide +kernel)
set_option maxRecDepth 20000 in
theorem gX12_oneMore_X12_litBits : GoodIn wsX12_oneMore (wsV RX12 239 RX12 yX12_litBits wsX12_litBits) := goodIn_app (goodIn_of _ (by decide +kernel)) ggX12_oneMore_X12_litBits
