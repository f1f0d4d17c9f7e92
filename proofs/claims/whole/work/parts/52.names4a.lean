theorem dX12_comes_160 : decode cX12_comes 160 = .ok (.invokevirtual 154, 3) := by decide +kernel
theorem dX12_comes_163 : decode cX12_comes 163 = .ok (.pop, 1) := by decide +kernel
theorem dX12_comes_164 : decode cX12_comes 164 = .ok (.iconst 1, 1) := by decide +kernel
theorem dX12_comes_165 : decode cX12_comes 165 = .ok (.ireturn, 1) := by decide +kernel
theorem dX12_comes_166 : decode cX12_comes 166 = .ok (.aload_n 0, 1) := by decide +kernel
theorem dX12_comes_167 : decode cX12_comes 167 = .ok (.iload_n 3, 1) := by decide +kernel
theorem dX12_comes_168 : decode cX12_comes 168 = .ok (.invokevirtual 157, 3) := by decide +kernel
theorem dX12_comes_171 : decode cX12_comes 171 = .ok (.ifCond .ne 5, 3) := by decide +kernel
theorem dX12_comes_174 : decode cX12_comes 174 = .ok (.iconst 0, 1) := by decide +kernel
theorem dX12_comes_175 : decode cX12_comes 175 = .ok (.ireturn, 1) := by decide +kernel
theorem dX12_comes_176 : decode cX12_comes 176 = .ok (.aload_n 0, 1) := by decide +kernel
theorem dX12_comes_177 : decode cX12_comes 177 = .ok (.getfield 25, 3) := by decide +kernel
theorem dX12_comes_180 : decode cX12_comes 180 = .ok (.iload_n 3, 1) := by decide +kernel
theorem dX12_comes_181 : decode cX12_comes 181 = .ok (.iconst 1, 1) := by decide +kernel
theorem dX12_comes_182 : decode cX12_comes 182 = .ok (.aload_n 0, 1) := by decide +kernel
theorem dX12_comes_183 : decode cX12_comes 183 = .ok (.getfield 25, 3) := by decide +kernel
theorem dX12_comes_186 : decode cX12_comes 186 = .ok (.iload_n 3, 1) := by decide +kernel
theorem dX12_comes_187 : decode cX12_comes 187 = .ok (.iaload, 1) := by decide +kernel
theorem dX12_comes_188 : decode cX12_comes 188 = .ok (.isub, 1) := by decide +kernel
theorem dX12_comes_189 : decode cX12_comes 189 = .ok (.iastore, 1) := by decide +kernel
theorem dX12_comes_190 : decode cX12_comes 190 = .ok (.iconst 1, 1) := by decide +kernel
theorem dX12_comes_191 : decode cX12_comes 191 = .ok (.ireturn, 1) := by decide +kernel
theorem dX12_comes_192 : decode cX12_comes 192 = .ok (.aload_n 0, 1) := by decide +kernel
theorem dX12_comes_193 : decode cX12_comes 193 = .ok (.iload_n 3, 1) := by decide +kernel
theorem dX12_comes_194 : decode cX12_comes 194 = .ok (.invokevirtual 157, 3) := by decide +kernel
theorem dX12_comes_197 : decode cX12_comes 197 = .ok (.ifCond .ne 5, 3) := by decide +kernel
theorem dX12_comes_200 : decode cX12_comes 200 = .ok (.iconst 0, 1) := by decide +kernel
theorem dX12_comes_201 : decode cX12_comes 201 = .ok (.ireturn, 1) := by decide +kernel
theorem dX12_comes_202 : decode cX12_comes 202 = .ok (.aload_n 0, 1) := by decide +kernel
theorem dX12_comes_203 : decode cX12_comes 203 = .ok (.getfield 25, 3) := by decide +kernel
theorem dX12_comes_206 : decode cX12_comes 206 = .ok (.iload_n 3, 1) := by decide +kernel
theorem dX12_comes_207 : decode cX12_comes 207 = .ok (.iconst 0, 1) := by decide +kernel
theorem dX12_comes_208 : decode cX12_comes 208 = .ok (.iastore, 1) := by decide +kernel
theorem dX12_comes_209 : decode cX12_comes 209 = .ok (.aload_n 0, 1) := by decide +kernel
theorem dX12_comes_210 : decode cX12_comes 210 = .ok (.getfield 28, 3) := by decide +kernel
theorem dX12_comes_213 : decode cX12_comes 213 = .ok (.iload_n 3, 1) := by decide +kernel
theorem dX12_comes_214 : decode cX12_comes 214 = .ok (.iconst 0, 1) := by decide +kernel
theorem dX12_comes_215 : decode cX12_comes 215 = .ok (.iastore, 1) := by decide +kernel
theorem dX12_comes_216 : decode cX12_comes 216 = .ok (.iconst 1, 1) := by decide +kernel
theorem dX12_comes_217 : decode cX12_comes 217 = .ok (.ireturn, 1) := by decide +kernel
set_option maxRecDepth 20000 in
theorem ggX12_town_X12_statement : GoodIn wsX12_town wsX12_statement := goodIn_r _ [9, 10, 2, 4, 1, 11, 12, 13, 8, 14, 3, 15, 16, 17, 18, 19, 20, 21, 22, 23, 24, 25, 26, 27, 28, 29, 30, 31, 32, 33, 34, 163, 164, 165, 166, 167, 168, 169, 170, 171, 172, 173, 174, 175, 176, 177, 178, 179, 180, 181, 182, 183, 184, 185, 186, 187, 188, 189, 190, 191, 192, 193, 194, 195] (by decide +kernel) (by decide +kernel)
set_option maxRecDepth 20000 in
theorem gX12_town_X12_statement : GoodIn wsX12_town (wsV RX12 160 RX12 yX12_statement wsX12_statement) := goodIn_app (goodIn_of _ (by decide +kernel)) ggX12_town_X12_statement
set_option maxRecDepth 20000 in
theorem ggX12_town_X12_passesAll : GoodIn wsX12_town wsX12_passesAll := goodIn_r _ [38, 39, 40, 41, 42, 43, 44, 45, 46, 47, 48, 49, 50, 51, 52, 53, 54, 55, 56, 8, 57, 58, 59, 60, 61, 62, 163, 164, 165, 166, 167, 168, 169, 170, 171, 172, 173, 174, 175, 176, 177, 178, 179, 180, 181, 182, 183, 184, 185, 186, 187, 188, 189, 190, 191, 192, 193, 194, 195] (by decide +kernel) (by decide +kernel)
set_option maxRecDepth 20000 in
theorem gX12_town_X12_passesAll : GoodIn wsX12_town (wsV RX12 164 RX12 yX12_passesAll wsX12_passesAll) := goodIn_app (goodIn_of _ (by decide +kernel)) ggX12_town_X12_passesAll
set_option maxRecDepth 20000 in
theorem ggX12_town_X12_comes : GoodIn wsX12_town wsX12_comes := goodIn_r _ [66, 24, 10, 41, 50, 52, 45, 46, 67, 68, 69, 8, 70, 51, 42, 43, 44, 71, 72, 73, 74, 75, 76, 77, 78, 79, 80, 81, 82, 83, 84, 85, 86, 87, 88, 89, 90, 91, 92, 93, 53, 94, 95, 96, 97, 98, 99, 100, 101, 102, 103, 104, 105, 106, 107, 108, 109, 110, 111, 112, 113, 114, 115, 116, 117, 118, 119, 120, 121, 122, 123, 124, 125, 126, 127, 128, 129, 130, 131, 132, 133, 134, 135, 136, 137, 138, 139, 140, 141, 142, 143, 144, 145, 146, 147, 148, 48, 47, 49, 149, 150, 151, 152, 153, 154, 155, 156, 157, 158, 159, 160, 161, 162, 163, 164, 165, 166, 167, 168, 169, 170, 171, 172, 173, 174, 175, 176, 177, 178, 179, 180, 181, 182, 183, 184, 185, 186, 187, 188, 189, 190, 191, 192, 193, 194, 195] (by decide +kernel) (by decide +kernel)
set_option maxRecDepth 20000 in
theorem gX12_town_X12_comes : GoodIn wsX12_town (wsV RX12 168 RX12 yX12_comes wsX12_comes) := goodIn_app (goodIn_of _ (by decide +kernel)) ggX12_town_X12_comes
theorem dX12_town_0 : decode cX12_town 0 = .ok (.aload_n 0, 1) := by decide +kernel
theorem dX12_town_1 : decode cX12_town 1 = .ok (.iconst 0, 1) := by decide +kernel
theorem dX12_town_2 : decode cX12_town 2 = .ok (.putfield 95, 3) := by decide +kernel
theorem dX12_town_5 : decode cX12_town 5 = .ok (.aload_n 0, 1) := by decide +kernel
theorem dX12_town_6 : decode cX12_town 6 = .ok (.iconst 0, 1) := by decide +kernel
theorem dX12_town_7 : decode cX12_town 7 = .ok (.putfield 117, 3) := by decide +kernel
theorem dX12_town_10 : decode cX12_town 10 = .ok (.iconst 1, 1) := by decide +kernel
theorem dX12_town_11 : decode cX12_town 11 = .ok (.istore_n 1, 1) := by decide +kernel
theorem dX12_town_12 : decode cX12_town 12 = .ok (.iload_n 1, 1) := by decide +kernel
theorem dX12_town_13 : decode cX12_town 13 = .ok (.ifCond .eq 47, 3) := by decide +kernel
theorem dX12_town_16 : decode cX12_town 16 = .ok (.aload_n 0, 1) := by decide +kernel
theorem dX12_town_17 : decode cX12_town 17 = .ok (.getfield 95, 3) := by decide +kernel
theorem dX12_town_20 : decode cX12_town 20 = .ok (.aload_n 0, 1) := by decide +kernel
theorem dX12_town_21 : decode cX12_town 21 = .ok (.getfield 88, 3) := by decide +kernel
theorem dX12_town_24 : decode cX12_town 24 = .ok (.if_icmp .lt 10, 3) := by decide +kernel
theorem dX12_town_27 : decode cX12_town 27 = .ok (.aload_n 0, 1) := by decide +kernel
theorem dX12_town_28 : decode cX12_town 28 = .ok (.getfield 117, 3) := by decide +kernel
theorem dX12_town_31 : decode cX12_town 31 = .ok (.ifCond .ne 29, 3) := by decide +kernel
theorem dX12_town_34 : decode cX12_town 34 = .ok (.aload_n 0, 1) := by decide +kernel
theorem dX12_town_35 : decode cX12_town 35 = .ok (.invokevirtual 160, 3) := by decide +kernel
theorem dX12_town_38 : decode cX12_town 38 = .ok (.istore_n 1, 1) := by decide +kernel
theorem dX12_town_39 : decode cX12_town 39 = .ok (.aload_n 0, 1) := by decide +kernel
theorem dX12_town_40 : decode cX12_town 40 = .ok (.dup, 1) := by decide +kernel
theorem dX12_town_41 : decode cX12_town 41 = .ok (.getfield 117, 3) := by decide +kernel
theorem dX12_town_44 : decode cX12_town 44 = .ok (.iload_n 1, 1) := by decide +kernel
theorem dX12_town_45 : decode cX12_town 45 = .ok (.ifCond .eq 7, 3) := by decide +kernel
theorem dX12_town_48 : decode cX12_town 48 = .ok (.iconst 1, 1) := by decide +kernel
theorem dX12_town_49 : decode cX12_town 49 = .ok (.goto 4, 3) := by decide +kernel
theorem dX12_town_52 : decode cX12_town 52 = .ok (.iconst 0, 1) := by decide +kernel
theorem dX12_town_53 : decode cX12_town 53 = .ok (.iadd, 1) := by decide +kernel
theorem dX12_town_54 : decode cX12_town 54 = .ok (.putfield 117, 3) := by decide +kernel
theorem dX12_town_57 : decode cX12_town 57 = .ok (.goto (-45), 3) := by decide +kernel
theorem dX12_town_60 : decode cX12_town 60 = .ok (.aload_n 0, 1) := by decide +kernel
theorem dX12_town_61 : decode cX12_town 61 = .ok (.iconst 0, 1) := by decide +kernel
theorem dX12_town_62 : decode cX12_town 62 = .ok (.putfield 88, 3) := by decide +kernel
theorem dX12_town_65 : decode cX12_town 65 = .ok (.iload_n 1, 1) := by decide +kernel
theorem dX12_town_66 : decode cX12_town 66 = .ok (.ifCond .ne 12, 3) := by decide +kernel
theorem dX12_town_69 : decode cX12_town 69 = .ok (.sipush (-1000), 3) := by decide +kernel
theorem dX12_town_72 : decode cX12_town 72 = .ok (.aload_n 0, 1) := by decide +kernel
theorem dX12_town_73 : decode cX12_town 73 = .ok (.getfield 95, 3) := by decide +kernel
theorem dX12_town_76 : decode cX12_town 76 = .ok (.isub, 1) := by decide +kernel
theorem dX12_town_77 : decode cX12_town 77 = .ok (.ireturn, 1) := by decide +kernel
theorem dX12_town_78 : decode cX12_town 78 = .ok (.aload_n 0, 1) := by decide +kernel
theorem dX12_town_79 : decode cX12_town 79 = .ok (.iconst 1, 1) := by decide +kernel
theorem dX12_town_80 : decode cX12_town 80 = .ok (.iconst 1, 1) := by decide +kernel
theorem dX12_town_81 : decode cX12_town 81 = .ok (.invokevirtual 164, 3) := by decide +kernel
theorem dX12_town_84 : decode cX12_town 84 = .ok (.iconst 0, 1) := by decide +kernel
theorem dX12_town_85 : decode cX12_town 85 = .ok (.istore_n 2, 1) := by decide +kernel
theorem dX12_town_86 : decode cX12_town 86 = .ok (.iload_n 2, 1) := by decide +kernel
theorem dX12_town_87 : decode cX12_town 87 = .ok (.aload_n 0, 1) := by decide +kernel
theorem dX12_town_88 : decode cX12_town 88 = .ok (.getfield 117, 3) := by decide +kernel
theorem dX12_town_91 : decode cX12_town 91 = .ok (.if_icmp .ge 37, 3) := by decide +kernel
theorem dX12_town_94 : decode cX12_town 94 = .ok (.aload_n 0, 1) := by decide +kernel
theorem dX12_town_95 : decode cX12_town 95 = .ok (.iload_n 2, 1) := by decide +kernel
theorem dX12_town_96 : decode cX12_town 96 = .ok (.invokevirtual 168, 3) := by decide +kernel
theorem dX12_town_99 : decode cX12_town 99 = .ok (.ifCond .eq 6, 3) := by decide +kernel
theorem dX12_town_102 : decode cX12_town 102 = .ok (.goto 20, 3) := by decide +kernel
theorem dX12_town_105 : decode cX12_town 105 = .ok (.aload_n 0, 1) := by decide +kernel
theorem dX12_town_106 : decode cX12_town 106 = .ok (.iconst 1, 1) := by decide +kernel
theorem dX12_town_107 : decode cX12_town 107 = .ok (.iconst 0, 1) := by decide +kernel
theorem dX12_town_108 : decode cX12_town 108 = .ok (.invokevirtual 164, 3) := by decide +kernel
theorem dX12_town_111 : decode cX12_town 111 = .ok (.sipush (-2000), 3) := by decide +kernel
theorem dX12_town_114 : decode cX12_town 114 = .ok (.aload_n 0, 1) := by decide +kernel
theorem dX12_town_115 : decode cX12_town 115 = .ok (.getfield 49, 3) := by decide +kernel
theorem dX12_town_118 : decode cX12_town 118 = .ok (.iload_n 2, 1) := by decide +kernel
theorem dX12_town_119 : decode cX12_town 119 = .ok (.iaload, 1) := by decide +kernel
theorem dX12_town_120 : decode cX12_town 120 = .ok (.isub, 1) := by decide +kernel
theorem dX12_town_121 : decode cX12_town 121 = .ok (.ireturn, 1) := by decide +kernel
theorem dX12_town_122 : decode cX12_town 122 = .ok (.iinc 2 1, 3) := by decide +kernel
theorem dX12_town_125 : decode cX12_town 125 = .ok (.goto (-39), 3) := by decide +kernel
theorem dX12_town_128 : decode cX12_town 128 = .ok (.aload_n 0, 1) := by decide +kernel
theorem dX12_town_129 : decode cX12_town 129 = .ok (.getfield 117, 3) := by decide +kernel
theorem dX12_town_132 : decode cX12_town 132 = .ok (.ireturn, 1) := by decide +kernel
theorem dX12_passes_0 : decode cX12_passes 0 = .ok (.iconst 0, 1) := by decide +kernel
theorem dX12_passes_1 : decode cX12_passes 1 = .ok (.istore_n 2, 1) := by decide +kernel
theorem dX12_passes_2 : decode cX12_passes 2 = .ok (.iload_n 2, 1) := by decide +kernel
theorem dX12_passes_3 : decode cX12_passes 3 = .ok (.aload_n 1, 1) := by decide +kernel
theorem dX12_passes_4 : decode cX12_passes 4 = .ok (.arraylength, 1) := by decide +kernel
theorem dX12_passes_5 : decode cX12_passes 5 = .ok (.if_icmp .ge 53, 3) := by decide +kernel
theorem dX12_passes_8 : decode cX12_passes 8 = .ok (.aload_n 0, 1) := by decide +kernel
theorem dX12_passes_9 : decode cX12_passes 9 = .ok (.getfield 171, 3) := by decide +kernel
theorem dX12_passes_12 : decode cX12_passes 12 = .ok (.ifCond .eq 18, 3) := by decide +kernel
theorem dX12_passes_15 : decode cX12_passes 15 = .ok (.aload_n 0, 1) := by decide +kernel
theorem dX12_passes_16 : decode cX12_passes 16 = .ok (.getfield 55, 3) := by decide +kernel
theorem dX12_passes_19 : decode cX12_passes 19 = .ok (.aload_n 0, 1) := by decide +kernel
theorem dX12_passes_20 : decode cX12_passes 20 = .ok (.getfield 175, 3) := by decide +kernel
theorem dX12_passes_23 : decode cX12_passes 23 = .ok (.aload_n 1, 1) := by decide +kernel
theorem dX12_passes_24 : decode cX12_passes 24 = .ok (.iload_n 2, 1) := by decide +kernel
theorem dX12_passes_25 : decode cX12_passes 25 = .ok (.iaload, 1) := by decide +kernel
theorem dX12_passes_26 : decode cX12_passes 26 = .ok (.iastore, 1) := by decide +kernel
theorem dX12_passes_27 : decode cX12_passes 27 = .ok (.goto 15, 3) := by decide +kernel
theorem dX12_passes_30 : decode cX12_passes 30 = .ok (.aload_n 1, 1) := by decide +kernel
theorem dX12_passes_31 : decode cX12_passes 31 = .ok (.iload_n 2, 1) := by decide +kernel
theorem dX12_passes_32 : decode cX12_passes 32 = .ok (.aload_n 0, 1) := by decide +kernel
theorem dX12_passes_33 : decode cX12_passes 33 = .ok (.getfield 55, 3) := by decide +kernel
theorem dX12_passes_36 : decode cX12_passes 36 = .ok (.aload_n 0, 1) := by decide +kernel
theorem dX12_passes_37 : decode cX12_passes 37 = .ok (.getfield 175, 3) := by decide +kernel
theorem dX12_passes_40 : decode cX12_passes 40 = .ok (.iaload, 1) := by decide +kernel
theorem dX12_passes_41 : decode cX12_passes 41 = .ok (.iastore, 1) := by decide +kernel
theorem dX12_passes_42 : decode cX12_passes 42 = .ok (.aload_n 0, 1) := by decide +kernel
theorem dX12_passes_43 : decode cX12_passes 43 = .ok (.dup, 1) := by decide +kernel
theorem dX12_passes_44 : decode cX12_passes 44 = .ok (.getfield 175, 3) := by decide +kernel
theorem dX12_passes_47 : decode cX12_passes 47 = .ok (.iconst 1, 1) := by decide +kernel
theorem dX12_passes_48 : decode cX12_passes 48 = .ok (.iadd, 1) := by decide +kernel
theorem dX12_passes_49 : decode cX12_passes 49 = .ok (.putfield 175, 3) := by decide +kernel
theorem dX12_passes_52 : decode cX12_passes 52 = .ok (.iinc 2 1, 3) := by decide +kernel
theorem dX12_passes_55 : decode cX12_passes 55 = .ok (.goto (-53), 3) := by decide +kernel
theorem dX12_passes_58 : decode cX12_passes 58 = .ok (.return_, 1) := by decide +kernel
theorem dX12_passOne_0 : decode cX12_passOne 0 = .ok (.aload_n 0, 1) := by decide +kernel
theorem dX12_passOne_1 : decode cX12_passOne 1 = .ok (.getfield 171, 3) := by decide +kernel
theorem dX12_passOne_4 : decode cX12_passOne 4 = .ok (.ifCond .eq 7, 3) := by decide +kernel
theorem dX12_passOne_7 : decode cX12_passOne 7 = .ok (.iload_n 1, 1) := by decide +kernel
theorem dX12_passOne_8 : decode cX12_passOne 8 = .ok (.goto 12, 3) := by decide +kernel
theorem dX12_passOne_11 : decode cX12_passOne 11 = .ok (.aload_n 0, 1) := by decide +kernel
theorem dX12_passOne_12 : decode cX12_passOne 12 = .ok (.getfield 55, 3) := by decide +kernel
theorem dX12_passOne_15 : decode cX12_passOne 15 = .ok (.aload_n 0, 1) := by decide +kernel
theorem dX12_passOne_16 : decode cX12_passOne 16 = .ok (.getfield 175, 3) := by decide +kernel
theorem dX12_passOne_19 : decode cX12_passOne 19 = .ok (.iaload, 1) := by decide +kernel
theorem dX12_passOne_20 : decode cX12_passOne 20 = .ok (.istore_n 2, 1) := by decide +kernel
theorem dX12_passOne_21 : decode cX12_passOne 21 = .ok (.aload_n 0, 1) := by decide +kernel
theorem dX12_passOne_22 : decode cX12_passOne 22 = .ok (.getfield 171, 3) := by decide +kernel
theorem dX12_passOne_25 : decode cX12_passOne 25 = .ok (.ifCond .eq 13, 3) := by decide +kernel
theorem dX12_passOne_28 : decode cX12_passOne 28 = .ok (.aload_n 0, 1) := by decide +kernel
theorem dX12_passOne_29 : decode cX12_passOne 29 = .ok (.getfield 55, 3) := by decide +kernel
theorem dX12_passOne_32 : decode cX12_passOne 32 = .ok (.aload_n 0, 1) := by decide +kernel
theorem dX12_passOne_33 : decode cX12_passOne 33 = .ok (.getfield 175, 3) := by decide +kernel
theorem dX12_passOne_36 : decode cX12_passOne 36 = .ok (.iload_n 1, 1) := by decide +kernel
theorem dX12_passOne_37 : decode cX12_passOne 37 = .ok (.iastore, 1) := by decide +kernel
theorem dX12_passOne_38 : decode cX12_passOne 38 = .ok (.aload_n 0, 1) := by decide +kernel
theorem dX12_passOne_39 : decode cX12_passOne 39 = .ok (.dup, 1) := by decide +kernel
theorem dX12_passOne_40 : decode cX12_passOne 40 = .ok (.getfield 175, 3) := by decide +kernel
theorem dX12_passOne_43 : decode cX12_passOne 43 = .ok (.iconst 1, 1) := by decide +kernel
theorem dX12_passOne_44 : decode cX12_passOne 44 = .ok (.iadd, 1) := by decide +kernel
theorem dX12_passOne_45 : decode cX12_passOne 45 = .ok (.putfield 175, 3) := by decide +kernel
theorem dX12_passOne_48 : decode cX12_passOne 48 = .ok (.iload_n 2, 1) := by decide +kernel
theorem dX12_passOne_49 : decode cX12_passOne 49 = .ok (.ireturn, 1) := by decide +kernel
set_option maxRecDepth 20000 in
theorem ggX12_passesAll_X12_passes : GoodIn wsX12_passesAll wsX12_passes := goodIn_r _ [20, 2, 21, 1, 26, 27, 28, 29, 30, 31, 32, 33, 34, 35, 36, 37, 38, 39, 40, 41, 42, 43, 44, 45, 46, 47, 48, 49, 50, 51, 52, 53, 54, 55, 56, 57, 58] (by decide +kernel) (by decide +kernel)
set_option maxRecDepth 20000 in
theorem gX12_passesAll_X12_passes : GoodIn wsX12_passesAll (wsV RX12 178 RX12 yX12_passes wsX12_passes) := goodIn_app (goodIn_of _ (by decide +kernel)) ggX12_passesAll_X12_passes
set_option maxRecDepth 20000 in
theorem ggX12_passesAll_X12_passOne : GoodIn wsX12_passesAll wsX12_passOne := goodIn_r _ [25, 2, 21, 1, 26, 27, 28, 29, 30, 31, 32, 33, 34, 35, 36, 37, 38, 39, 40, 41, 42, 43, 44, 45, 46, 47, 48, 49, 50, 51, 52, 53, 54, 55, 56, 57, 58] (by decide +kernel) (by decide +kernel)
set_option maxRecDepth 20000 in
theorem gX12_passesAll_X12_passOne : GoodIn wsX12_passesAll (wsV RX12 182 RX12 yX12_passOne wsX12_passOne) := goodIn_app (goodIn_of _ (by decide +kernel)) ggX12_passesAll_X12_passOne
theorem dX12_passesAll_0 : decode cX12_passesAll 0 = .ok (.aload_n 0, 1) := by decide +kernel
theorem dX12_passesAll_1 : decode cX12_passesAll 1 = .ok (.sipush 300, 3) := by decide +kernel
theorem dX12_passesAll_4 : decode cX12_passesAll 4 = .ok (.iload_n 1, 1) := by decide +kernel
theorem dX12_passesAll_5 : decode cX12_passesAll 5 = .ok (.imul, 1) := by decide +kernel
theorem dX12_passesAll_6 : decode cX12_passesAll 6 = .ok (.putfield 175, 3) := by decide +kernel
theorem dX12_passesAll_9 : decode cX12_passesAll 9 = .ok (.aload_n 0, 1) := by decide +kernel
theorem dX12_passesAll_10 : decode cX12_passesAll 10 = .ok (.iload_n 2, 1) := by decide +kernel
theorem dX12_passesAll_11 : decode cX12_passesAll 11 = .ok (.putfield 171, 3) := by decide +kernel
theorem dX12_passesAll_14 : decode cX12_passesAll 14 = .ok (.aload_n 0, 1) := by decide +kernel
theorem dX12_passesAll_15 : decode cX12_passesAll 15 = .ok (.aload_n 0, 1) := by decide +kernel
theorem dX12_passesAll_16 : decode cX12_passesAll 16 = .ok (.getfield 13, 3) := by decide +kernel
theorem dX12_passesAll_19 : decode cX12_passesAll 19 = .ok (.invokevirtual 178, 3) := by decide +kernel
theorem dX12_passesAll_22 : decode cX12_passesAll 22 = .ok (.aload_n 0, 1) := by decide +kernel
theorem dX12_passesAll_23 : decode cX12_passesAll 23 = .ok (.aload_n 0, 1) := by decide +kernel
theorem dX12_passesAll_24 : decode cX12_passesAll 24 = .ok (.getfield 16, 3) := by decide +kernel
theorem dX12_passesAll_27 : decode cX12_passesAll 27 = .ok (.invokevirtual 178, 3) := by decide +kernel
theorem dX12_passesAll_30 : decode cX12_passesAll 30 = .ok (.aload_n 0, 1) := by decide +kernel
theorem dX12_passesAll_31 : decode cX12_passesAll 31 = .ok (.aload_n 0, 1) := by decide +kernel
theorem dX12_passesAll_32 : decode cX12_passesAll 32 = .ok (.getfield 19, 3) := by decide +kernel
theorem dX12_passesAll_35 : decode cX12_passesAll 35 = .ok (.invokevirtual 178, 3) := by decide +kernel
theorem dX12_passesAll_38 : decode cX12_passesAll 38 = .ok (.aload_n 0, 1) := by decide +kernel
theorem dX12_passesAll_39 : decode cX12_passesAll 39 = .ok (.aload_n 0, 1) := by decide +kernel
theorem dX12_passesAll_40 : decode cX12_passesAll 40 = .ok (.getfield 22, 3) := by decide +kernel
theorem dX12_passesAll_43 : decode cX12_passesAll 43 = .ok (.invokevirtual 178, 3) := by decide +kernel
theorem dX12_passesAll_46 : decode cX12_passesAll 46 = .ok (.aload_n 0, 1) := by decide +kernel
theorem dX12_passesAll_47 : decode cX12_passesAll 47 = .ok (.aload_n 0, 1) := by decide +kernel
theorem dX12_passesAll_48 : decode cX12_passesAll 48 = .ok (.getfield 25, 3) := by decide +kernel
theorem dX12_passesAll_51 : decode cX12_passesAll 51 = .ok (.invokevirtual 178, 3) := by decide +kernel
theorem dX12_passesAll_54 : decode cX12_passesAll 54 = .ok (.aload_n 0, 1) := by decide +kernel
theorem dX12_passesAll_55 : decode cX12_passesAll 55 = .ok (.aload_n 0, 1) := by decide +kernel
theorem dX12_passesAll_56 : decode cX12_passesAll 56 = .ok (.getfield 28, 3) := by decide +kernel
theorem dX12_passesAll_59 : decode cX12_passesAll 59 = .ok (.invokevirtual 178, 3) := by decide +kernel
theorem dX12_passesAll_62 : decode cX12_passesAll 62 = .ok (.aload_n 0, 1) := by decide +kernel
theorem dX12_passesAll_63 : decode cX12_passesAll 63 = .ok (.aload_n 0, 1) := by decide +kernel
theorem dX12_passesAll_64 : decode cX12_passesAll 64 = .ok (.getfield 31, 3) := by decide +kernel
theorem dX12_passesAll_67 : decode cX12_passesAll 67 = .ok (.invokevirtual 178, 3) := by decide +kernel
theorem dX12_passesAll_70 : decode cX12_passesAll 70 = .ok (.aload_n 0, 1) := by decide +kernel
theorem dX12_passesAll_71 : decode cX12_passesAll 71 = .ok (.aload_n 0, 1) := by decide +kernel
theorem dX12_passesAll_72 : decode cX12_passesAll 72 = .ok (.getfield 34, 3) := by decide +kernel
theorem dX12_passesAll_75 : decode cX12_passesAll 75 = .ok (.invokevirtual 178, 3) := by decide +kernel
theorem dX12_passesAll_78 : decode cX12_passesAll 78 = .ok (.aload_n 0, 1) := by decide +kernel
theorem dX12_passesAll_79 : decode cX12_passesAll 79 = .ok (.aload_n 0, 1) := by decide +kernel
theorem dX12_passesAll_80 : decode cX12_passesAll 80 = .ok (.getfield 37, 3) := by decide +kernel
theorem dX12_passesAll_83 : decode cX12_passesAll 83 = .ok (.invokevirtual 178, 3) := by decide +kernel
theorem dX12_passesAll_86 : decode cX12_passesAll 86 = .ok (.aload_n 0, 1) := by decide +kernel
theorem dX12_passesAll_87 : decode cX12_passesAll 87 = .ok (.aload_n 0, 1) := by decide +kernel
theorem dX12_passesAll_88 : decode cX12_passesAll 88 = .ok (.getfield 40, 3) := by decide +kernel
theorem dX12_passesAll_91 : decode cX12_passesAll 91 = .ok (.invokevirtual 178, 3) := by decide +kernel
theorem dX12_passesAll_94 : decode cX12_passesAll 94 = .ok (.aload_n 0, 1) := by decide +kernel
theorem dX12_passesAll_95 : decode cX12_passesAll 95 = .ok (.aload_n 0, 1) := by decide +kernel
theorem dX12_passesAll_96 : decode cX12_passesAll 96 = .ok (.aload_n 0, 1) := by decide +kernel
theorem dX12_passesAll_97 : decode cX12_passesAll 97 = .ok (.getfield 76, 3) := by decide +kernel
theorem dX12_passesAll_100 : decode cX12_passesAll 100 = .ok (.invokevirtual 182, 3) := by decide +kernel
theorem dX12_passesAll_103 : decode cX12_passesAll 103 = .ok (.putfield 76, 3) := by decide +kernel
theorem dX12_passesAll_106 : decode cX12_passesAll 106 = .ok (.aload_n 0, 1) := by decide +kernel
theorem dX12_passesAll_107 : decode cX12_passesAll 107 = .ok (.aload_n 0, 1) := by decide +kernel
theorem dX12_passesAll_108 : decode cX12_passesAll 108 = .ok (.aload_n 0, 1) := by decide +kernel
theorem dX12_passesAll_109 : decode cX12_passesAll 109 = .ok (.getfield 81, 3) := by decide +kernel
theorem dX12_passesAll_112 : decode cX12_passesAll 112 = .ok (.invokevirtual 182, 3) := by decide +kernel
theorem dX12_passesAll_115 : decode cX12_passesAll 115 = .ok (.putfield 81, 3) := by decide +kernel
theorem dX12_passesAll_118 : decode cX12_passesAll 118 = .ok (.aload_n 0, 1) := by decide +kernel
theorem dX12_passesAll_119 : decode cX12_passesAll 119 = .ok (.aload_n 0, 1) := by decide +kernel
theorem dX12_passesAll_120 : decode cX12_passesAll 120 = .ok (.aload_n 0, 1) := by decide +kernel
theorem dX12_passesAll_121 : decode cX12_passesAll 121 = .ok (.getfield 139, 3) := by decide +kernel
theorem dX12_passesAll_124 : decode cX12_passesAll 124 = .ok (.invokevirtual 182, 3) := by decide +kernel
theorem dX12_passesAll_127 : decode cX12_passesAll 127 = .ok (.putfield 139, 3) := by decide +kernel
theorem dX12_passesAll_130 : decode cX12_passesAll 130 = .ok (.return_, 1) := by decide +kernel
set_option maxRecDepth 20000 in
theorem ggX12_image_X12_passesAll : GoodIn wsX12_image wsX12_passesAll := goodIn_r _ [7, 8, 9, 10, 11, 12, 13, 14, 15, 16, 17, 18, 19, 20, 21, 2, 22, 23, 24, 6, 25, 26, 27, 28, 29, 30, 31, 32, 33, 34, 35, 36, 37, 38, 39, 40, 41, 42, 43, 44, 45, 46, 47, 48, 49, 50, 51, 52, 53, 54, 55, 56, 57, 58, 59, 60, 61, 62, 63] (by decide +kernel) (by decide +kernel)
set_option maxRecDepth 20000 in
theorem gX12_image_X12_passesAll : GoodIn wsX12_image (wsV RX12 164 RX12 yX12_passesAll wsX12_passesAll) := goodIn_app (goodIn_of _ (by decide +kernel)) ggX12_image_X12_passesAll
theorem dX12_image_0 : decode cX12_image 0 = .ok (.aload_n 0, 1) := by decide +kernel
theorem dX12_image_1 : decode cX12_image 1 = .ok (.iconst 1, 1) := by decide +kernel
theorem dX12_image_2 : decode cX12_image 2 = .ok (.putfield 185, 3) := by decide +kernel
theorem dX12_image_5 : decode cX12_image 5 = .ok (.aload_n 0, 1) := by decide +kernel
theorem dX12_image_6 : decode cX12_image 6 = .ok (.iconst 0, 1) := by decide +kernel
theorem dX12_image_7 : decode cX12_image 7 = .ok (.iconst 1, 1) := by decide +kernel
theorem dX12_image_8 : decode cX12_image 8 = .ok (.invokevirtual 164, 3) := by decide +kernel
theorem dX12_image_11 : decode cX12_image 11 = .ok (.aload_n 0, 1) := by decide +kernel
theorem dX12_image_12 : decode cX12_image 12 = .ok (.getfield 139, 3) := by decide +kernel
theorem dX12_image_15 : decode cX12_image 15 = .ok (.ireturn, 1) := by decide +kernel
set_option maxRecDepth 20000 in
theorem ggX12_on_X12_no : GoodIn wsX12_on wsX12_no := goodIn_r _ [7, 8, 36, 37, 38, 39, 40, 41, 42, 43, 44, 45, 46, 47, 48, 49, 50, 51, 52, 53, 54, 55, 56, 57, 58, 59, 60, 61, 62, 63, 64, 65, 66, 67, 68] (by decide +kernel) (by decide +kernel)
set_option maxRecDepth 20000 in
theorem gX12_on_X12_no : GoodIn wsX12_on (wsV RX12 91 RX12 yX12_no wsX12_no) := goodIn_app (goodIn_of _ (by decide +kernel)) ggX12_on_X12_no
set_option maxRecDepth 20000 in
theorem ggX12_on_X12_passesAll : GoodIn wsX12_on wsX12_passesAll := goodIn_r _ [12, 13, 14, 15, 16, 17, 18, 19, 20, 21, 22, 23, 24, 25, 26, 2, 27, 28, 29, 6, 30, 31, 32, 33, 34, 35, 36, 37, 38, 39, 40, 41, 42, 43, 44, 45, 46, 47, 48, 49, 50, 51, 52, 53, 54, 55, 56, 57, 58, 59, 60, 61, 62, 63, 64, 65, 66, 67, 68] (by decide +kernel) (by decide +kernel)
set_option maxRecDepth 20000 in
theorem gX12_on_X12_passesAll : GoodIn wsX12_on (wsV RX12 164 RX12 yX12_passesAll wsX12_passesAll) := goodIn_app (goodIn_of _ (by decide +kernel)) ggX12_on_X12_passesAll
theorem dX12_on_0 : decode cX12_on 0 = .ok (.aload_n 0, 1) := by decide +kernel
theorem dX12_on_1 : decode cX12_on 1 = .ok (.getfield 185, 3) := by decide +kernel
theorem dX12_on_4 : decode cX12_on 4 = .ok (.ifCond .ne 10, 3) := by decide +kernel
theorem dX12_on_7 : decode cX12_on 7 = .ok (.aload_n 0, 1) := by decide +kernel
theorem dX12_on_8 : decode cX12_on 8 = .ok (.bipush (-3), 2) := by decide +kernel
theorem dX12_on_10 : decode cX12_on 10 = .ok (.invokevirtual 91, 3) := by decide +kernel
theorem dX12_on_13 : decode cX12_on 13 = .ok (.ireturn, 1) := by decide +kernel
theorem dX12_on_14 : decode cX12_on 14 = .ok (.aload_n 0, 1) := by decide +kernel
theorem dX12_on_15 : decode cX12_on 15 = .ok (.iconst 0, 1) := by decide +kernel
theorem dX12_on_16 : decode cX12_on 16 = .ok (.iconst 0, 1) := by decide +kernel
theorem dX12_on_17 : decode cX12_on 17 = .ok (.invokevirtual 164, 3) := by decide +kernel
theorem dX12_on_20 : decode cX12_on 20 = .ok (.aload_n 0, 1) := by decide +kernel
theorem dX12_on_21 : decode cX12_on 21 = .ok (.getfield 139, 3) := by decide +kernel
theorem dX12_on_24 : decode cX12_on 24 = .ok (.ireturn, 1) := by decide +kernel
theorem dX12_beside_0 : decode cX12_beside 0 = .ok (.iload_n 1, 1) := by decide +kernel
theorem dX12_beside_1 : decode cX12_beside 1 = .ok (.tableswitch 76 0 2 #[27, 43, 59], 27) := by decide +kernel
theorem dX12_beside_28 : decode cX12_beside 28 = .ok (.iload_n 0, 1) := by decide +kernel
theorem dX12_beside_29 : decode cX12_beside 29 = .ok (.bipush 6, 2) := by decide +kernel
theorem dX12_beside_31 : decode cX12_beside 31 = .ok (.if_icmp .lt 10, 3) := by decide +kernel
theorem dX12_beside_34 : decode cX12_beside 34 = .ok (.iload_n 0, 1) := by decide +kernel
theorem dX12_beside_35 : decode cX12_beside 35 = .ok (.bipush 6, 2) := by decide +kernel
theorem dX12_beside_37 : decode cX12_beside 37 = .ok (.isub, 1) := by decide +kernel
theorem dX12_beside_38 : decode cX12_beside 38 = .ok (.goto 5, 3) := by decide +kernel
theorem dX12_beside_41 : decode cX12_beside 41 = .ok (.bipush (-9), 2) := by decide +kernel
theorem dX12_beside_43 : decode cX12_beside 43 = .ok (.ireturn, 1) := by decide +kernel
theorem dX12_beside_44 : decode cX12_beside 44 = .ok (.iload_n 0, 1) := by decide +kernel
theorem dX12_beside_45 : decode cX12_beside 45 = .ok (.bipush 6, 2) := by decide +kernel
theorem dX12_beside_47 : decode cX12_beside 47 = .ok (.irem, 1) := by decide +kernel
theorem dX12_beside_48 : decode cX12_beside 48 = .ok (.ifCond .le 9, 3) := by decide +kernel
theorem dX12_beside_51 : decode cX12_beside 51 = .ok (.iload_n 0, 1) := by decide +kernel
theorem dX12_beside_52 : decode cX12_beside 52 = .ok (.iconst 1, 1) := by decide +kernel
theorem dX12_beside_53 : decode cX12_beside 53 = .ok (.isub, 1) := by decide +kernel
theorem dX12_beside_54 : decode cX12_beside 54 = .ok (.goto 5, 3) := by decide +kernel
theorem dX12_beside_57 : decode cX12_beside 57 = .ok (.bipush (-9), 2) := by decide +kernel
theorem dX12_beside_59 : decode cX12_beside 59 = .ok (.ireturn, 1) := by decide +kernel
theorem dX12_beside_60 : decode cX12_beside 60 = .ok (.iload_n 0, 1) := by decide +kernel
theorem dX12_beside_61 : decode cX12_beside 61 = .ok (.bipush 6, 2) := by decide +kernel
theorem dX12_beside_63 : decode cX12_beside 63 = .ok (.irem, 1) := by decide +kernel
theorem dX12_beside_64 : decode cX12_beside 64 = .ok (.iconst 5, 1) := by decide +kernel
theorem dX12_beside_65 : decode cX12_beside 65 = .ok (.if_icmp .ge 9, 3) := by decide +kernel
theorem dX12_beside_68 : decode cX12_beside 68 = .ok (.iload_n 0, 1) := by decide +kernel
theorem dX12_beside_69 : decode cX12_beside 69 = .ok (.iconst 1, 1) := by decide +kernel
theorem dX12_beside_70 : decode cX12_beside 70 = .ok (.iadd, 1) := by decide +kernel
theorem dX12_beside_71 : decode cX12_beside 71 = .ok (.goto 5, 3) := by decide +kernel
theorem dX12_beside_74 : decode cX12_beside 74 = .ok (.bipush (-9), 2) := by decide +kernel
theorem dX12_beside_76 : decode cX12_beside 76 = .ok (.ireturn, 1) := by decide +kernel
theorem dX12_beside_77 : decode cX12_beside 77 = .ok (.iload_n 0, 1) := by decide +kernel
theorem dX12_beside_78 : decode cX12_beside 78 = .ok (.bipush 6, 2) := by decide +kernel
theorem dX12_beside_80 : decode cX12_beside 80 = .ok (.iadd, 1) := by decide +kernel
theorem dX12_beside_81 : decode cX12_beside 81 = .ok (.bipush 36, 2) := by decide +kernel
theorem dX12_beside_83 : decode cX12_beside 83 = .ok (.if_icmp .ge 10, 3) := by decide +kernel
theorem dX12_beside_86 : decode cX12_beside 86 = .ok (.iload_n 0, 1) := by decide +kernel
theorem dX12_beside_87 : decode cX12_beside 87 = .ok (.bipush 6, 2) := by decide +kernel
theorem dX12_beside_89 : decode cX12_beside 89 = .ok (.iadd, 1) := by decide +kernel
theorem dX12_beside_90 : decode cX12_beside 90 = .ok (.goto 5, 3) := by decide +kernel
theorem dX12_beside_93 : decode cX12_beside 93 = .ok (.bipush (-9), 2) := by decide +kernel
theorem dX12_beside_95 : decode cX12_beside 95 = .ok (.ireturn, 1) := by decide +kernel
theorem dX12_reaches_0 : decode cX12_reaches 0 = .ok (.iload_n 1, 1) := by decide +kernel
theorem dX12_reaches_1 : decode cX12_reaches 1 = .ok (.ifCond .lt 22, 3) := by decide +kernel
theorem dX12_reaches_4 : decode cX12_reaches 4 = .ok (.aload_n 0, 1) := by decide +kernel
theorem dX12_reaches_5 : decode cX12_reaches 5 = .ok (.getfield 61, 3) := by decide +kernel
theorem dX12_reaches_8 : decode cX12_reaches 8 = .ok (.iload_n 1, 1) := by decide +kernel
theorem dX12_reaches_9 : decode cX12_reaches 9 = .ok (.iaload, 1) := by decide +kernel
theorem dX12_reaches_10 : decode cX12_reaches 10 = .ok (.iconst 1, 1) := by decide +kernel
theorem dX12_reaches_11 : decode cX12_reaches 11 = .ok (.if_icmp .eq 12, 3) := by decide +kernel
theorem dX12_reaches_14 : decode cX12_reaches 14 = .ok (.aload_n 0, 1) := by decide +kernel
theorem dX12_reaches_15 : decode cX12_reaches 15 = .ok (.getfield 58, 3) := by decide +kernel
theorem dX12_reaches_18 : decode cX12_reaches 18 = .ok (.iload_n 1, 1) := by decide +kernel
theorem dX12_reaches_19 : decode cX12_reaches 19 = .ok (.iaload, 1) := by decide +kernel
theorem dX12_reaches_20 : decode cX12_reaches 20 = .ok (.ifCond .lt 4, 3) := by decide +kernel
theorem dX12_reaches_23 : decode cX12_reaches 23 = .ok (.return_, 1) := by decide +kernel
theorem dX12_reaches_24 : decode cX12_reaches 24 = .ok (.aload_n 0, 1) := by decide +kernel
theorem dX12_reaches_25 : decode cX12_reaches 25 = .ok (.getfield 58, 3) := by decide +kernel
theorem dX12_reaches_28 : decode cX12_reaches 28 = .ok (.iload_n 1, 1) := by decide +kernel
theorem dX12_reaches_29 : decode cX12_reaches 29 = .ok (.iload_n 2, 1) := by decide +kernel
theorem dX12_reaches_30 : decode cX12_reaches 30 = .ok (.iastore, 1) := by decide +kernel
theorem dX12_reaches_31 : decode cX12_reaches 31 = .ok (.aload_n 0, 1) := by decide +kernel
theorem dX12_reaches_32 : decode cX12_reaches 32 = .ok (.getfield 64, 3) := by decide +kernel
theorem dX12_reaches_35 : decode cX12_reaches 35 = .ok (.aload_n 0, 1) := by decide +kernel
theorem dX12_reaches_36 : decode cX12_reaches 36 = .ok (.getfield 188, 3) := by decide +kernel
theorem dX12_reaches_39 : decode cX12_reaches 39 = .ok (.iload_n 1, 1) := by decide +kernel
theorem dX12_reaches_40 : decode cX12_reaches 40 = .ok (.iastore, 1) := by decide +kernel
theorem dX12_reaches_41 : decode cX12_reaches 41 = .ok (.aload_n 0, 1) := by decide +kernel
theorem dX12_reaches_42 : decode cX12_reaches 42 = .ok (.dup, 1) := by decide +kernel
theorem dX12_reaches_43 : decode cX12_reaches 43 = .ok (.getfield 188, 3) := by decide +kernel
theorem dX12_reaches_46 : decode cX12_reaches 46 = .ok (.iconst 1, 1) := by decide +kernel
theorem dX12_reaches_47 : decode cX12_reaches 47 = .ok (.iadd, 1) := by decide +kernel
theorem dX12_reaches_48 : decode cX12_reaches 48 = .ok (.putfield 188, 3) := by decide +kernel
theorem dX12_reaches_51 : decode cX12_reaches 51 = .ok (.return_, 1) := by decide +kernel
set_option maxRecDepth 20000 in
theorem ggX12_findFar_X12_reaches : GoodIn wsX12_findFar wsX12_reaches := goodIn_r _ [8, 9, 1, 3, 2, 13, 14, 15, 16, 17, 18, 19, 20, 21, 22, 23, 24, 25, 26, 27, 28, 29, 30, 31, 32, 33, 34, 35, 36, 37, 38, 39, 40, 41, 42, 43, 44, 45] (by decide +kernel) (by decide +kernel)
set_option maxRecDepth 20000 in
theorem gX12_findFar_X12_reaches : GoodIn wsX12_findFar (wsV RX12 191 RX12 yX12_reaches wsX12_reaches) := goodIn_app (goodIn_of _ (by decide +kernel)) ggX12_findFar_X12_reaches
set_option maxRecDepth 20000 in
theorem ggX12_findFar_X12_beside : GoodIn wsX12_findFar wsX12_beside := goodIn_r _ [12] (by decide +kernel) (by decide +kernel)
set_option maxRecDepth 20000 in
theorem gX12_findFar_X12_beside : GoodIn wsX12_findFar (va_wsS RX12 195 yX12_beside wsX12_beside) := goodIn_app (goodIn_of _ (by decide +kernel)) ggX12_findFar_X12_beside
theorem dX12_findFar_0 : decode cX12_findFar 0 = .ok (.iconst 0, 1) := by decide +kernel
theorem dX12_findFar_1 : decode cX12_findFar 1 = .ok (.istore_n 2, 1) := by decide +kernel
theorem dX12_findFar_2 : decode cX12_findFar 2 = .ok (.iload_n 2, 1) := by decide +kernel
theorem dX12_findFar_3 : decode cX12_findFar 3 = .ok (.bipush 36, 2) := by decide +kernel
theorem dX12_findFar_5 : decode cX12_findFar 5 = .ok (.if_icmp .ge 17, 3) := by decide +kernel
theorem dX12_findFar_8 : decode cX12_findFar 8 = .ok (.aload_n 0, 1) := by decide +kernel
theorem dX12_findFar_9 : decode cX12_findFar 9 = .ok (.getfield 58, 3) := by decide +kernel
theorem dX12_findFar_12 : decode cX12_findFar 12 = .ok (.iload_n 2, 1) := by decide +kernel
theorem dX12_findFar_13 : decode cX12_findFar 13 = .ok (.bipush (-9), 2) := by decide +kernel
theorem dX12_findFar_15 : decode cX12_findFar 15 = .ok (.iastore, 1) := by decide +kernel
theorem dX12_findFar_16 : decode cX12_findFar 16 = .ok (.iinc 2 1, 3) := by decide +kernel
theorem dX12_findFar_19 : decode cX12_findFar 19 = .ok (.goto (-17), 3) := by decide +kernel
theorem dX12_findFar_22 : decode cX12_findFar 22 = .ok (.aload_n 0, 1) := by decide +kernel
theorem dX12_findFar_23 : decode cX12_findFar 23 = .ok (.iconst 0, 1) := by decide +kernel
theorem dX12_findFar_24 : decode cX12_findFar 24 = .ok (.putfield 188, 3) := by decide +kernel
theorem dX12_findFar_27 : decode cX12_findFar 27 = .ok (.aload_n 0, 1) := by decide +kernel
theorem dX12_findFar_28 : decode cX12_findFar 28 = .ok (.iload_n 1, 1) := by decide +kernel
theorem dX12_findFar_29 : decode cX12_findFar 29 = .ok (.iconst 0, 1) := by decide +kernel
theorem dX12_findFar_30 : decode cX12_findFar 30 = .ok (.invokevirtual 191, 3) := by decide +kernel
theorem dX12_findFar_33 : decode cX12_findFar 33 = .ok (.iconst 0, 1) := by decide +kernel
theorem dX12_findFar_34 : decode cX12_findFar 34 = .ok (.istore_n 2, 1) := by decide +kernel
theorem dX12_findFar_35 : decode cX12_findFar 35 = .ok (.iload_n 2, 1) := by decide +kernel
theorem dX12_findFar_36 : decode cX12_findFar 36 = .ok (.aload_n 0, 1) := by decide +kernel
theorem dX12_findFar_37 : decode cX12_findFar 37 = .ok (.getfield 188, 3) := by decide +kernel
theorem dX12_findFar_40 : decode cX12_findFar 40 = .ok (.if_icmp .ge 49, 3) := by decide +kernel
theorem dX12_findFar_43 : decode cX12_findFar 43 = .ok (.iconst 0, 1) := by decide +kernel
theorem dX12_findFar_44 : decode cX12_findFar 44 = .ok (.istore_n 3, 1) := by decide +kernel
theorem dX12_findFar_45 : decode cX12_findFar 45 = .ok (.iload_n 3, 1) := by decide +kernel
theorem dX12_findFar_46 : decode cX12_findFar 46 = .ok (.iconst 4, 1) := by decide +kernel
theorem dX12_findFar_47 : decode cX12_findFar 47 = .ok (.if_icmp .ge 36, 3) := by decide +kernel
theorem dX12_findFar_50 : decode cX12_findFar 50 = .ok (.aload_n 0, 1) := by decide +kernel
theorem dX12_findFar_51 : decode cX12_findFar 51 = .ok (.aload_n 0, 1) := by decide +kernel
theorem dX12_findFar_52 : decode cX12_findFar 52 = .ok (.getfield 64, 3) := by decide +kernel
theorem dX12_findFar_55 : decode cX12_findFar 55 = .ok (.iload_n 2, 1) := by decide +kernel
theorem dX12_findFar_56 : decode cX12_findFar 56 = .ok (.iaload, 1) := by decide +kernel
theorem dX12_findFar_57 : decode cX12_findFar 57 = .ok (.iload_n 3, 1) := by decide +kernel
theorem dX12_findFar_58 : decode cX12_findFar 58 = .ok (.invokestatic 195, 3) := by decide +kernel
theorem dX12_findFar_61 : decode cX12_findFar 61 = .ok (.aload_n 0, 1) := by decide +kernel
theorem dX12_findFar_62 : decode cX12_findFar 62 = .ok (.getfield 58, 3) := by decide +kernel
theorem dX12_findFar_65 : decode cX12_findFar 65 = .ok (.aload_n 0, 1) := by decide +kernel
theorem dX12_findFar_66 : decode cX12_findFar 66 = .ok (.getfield 64, 3) := by decide +kernel
theorem dX12_findFar_69 : decode cX12_findFar 69 = .ok (.iload_n 2, 1) := by decide +kernel
theorem dX12_findFar_70 : decode cX12_findFar 70 = .ok (.iaload, 1) := by decide +kernel
theorem dX12_findFar_71 : decode cX12_findFar 71 = .ok (.iaload, 1) := by decide +kernel
theorem dX12_findFar_72 : decode cX12_findFar 72 = .ok (.iconst 1, 1) := by decide +kernel
theorem dX12_findFar_73 : decode cX12_findFar 73 = .ok (.iadd, 1) := by decide +kernel
theorem dX12_findFar_74 : decode cX12_findFar 74 = .ok (.invokevirtual 191, 3) := by decide +kernel
theorem dX12_findFar_77 : decode cX12_findFar 77 = .ok (.iinc 3 1, 3) := by decide +kernel
theorem dX12_findFar_80 : decode cX12_findFar 80 = .ok (.goto (-35), 3) := by decide +kernel
theorem dX12_findFar_83 : decode cX12_findFar 83 = .ok (.iinc 2 1, 3) := by decide +kernel
theorem dX12_findFar_86 : decode cX12_findFar 86 = .ok (.goto (-51), 3) := by decide +kernel
theorem dX12_findFar_89 : decode cX12_findFar 89 = .ok (.return_, 1) := by decide +kernel
theorem dX12_shutsWalls_0 : decode cX12_shutsWalls 0 = .ok (.iconst 0, 1) := by decide +kernel
theorem dX12_shutsWalls_1 : decode cX12_shutsWalls 1 = .ok (.istore_n 1, 1) := by decide +kernel
theorem dX12_shutsWalls_2 : decode cX12_shutsWalls 2 = .ok (.iload_n 1, 1) := by decide +kernel
theorem dX12_shutsWalls_3 : decode cX12_shutsWalls 3 = .ok (.bipush 36, 2) := by decide +kernel
theorem dX12_shutsWalls_5 : decode cX12_shutsWalls 5 = .ok (.if_icmp .ge 21, 3) := by decide +kernel
theorem dX12_shutsWalls_8 : decode cX12_shutsWalls 8 = .ok (.aload_n 0, 1) := by decide +kernel
theorem dX12_shutsWalls_9 : decode cX12_shutsWalls 9 = .ok (.getfield 61, 3) := by decide +kernel
theorem dX12_shutsWalls_12 : decode cX12_shutsWalls 12 = .ok (.iload_n 1, 1) := by decide +kernel
theorem dX12_shutsWalls_13 : decode cX12_shutsWalls 13 = .ok (.aload_n 0, 1) := by decide +kernel
theorem dX12_shutsWalls_14 : decode cX12_shutsWalls 14 = .ok (.getfield 13, 3) := by decide +kernel
theorem dX12_shutsWalls_17 : decode cX12_shutsWalls 17 = .ok (.iload_n 1, 1) := by decide +kernel
theorem dX12_shutsWalls_18 : decode cX12_shutsWalls 18 = .ok (.iaload, 1) := by decide +kernel
theorem dX12_shutsWalls_19 : decode cX12_shutsWalls 19 = .ok (.iastore, 1) := by decide +kernel
theorem dX12_shutsWalls_20 : decode cX12_shutsWalls 20 = .ok (.iinc 1 1, 3) := by decide +kernel
theorem dX12_shutsWalls_23 : decode cX12_shutsWalls 23 = .ok (.goto (-21), 3) := by decide +kernel
theorem dX12_shutsWalls_26 : decode cX12_shutsWalls 26 = .ok (.return_, 1) := by decide +kernel
set_option maxRecDepth 20000 in
theorem ggX12_stepsOf_X12_shutsWalls : GoodIn wsX12_stepsOf wsX12_shutsWalls := goodIn_r _ [6, 7, 8, 22, 23, 24, 25, 26, 27, 28, 29, 30, 31, 32, 33, 34, 35, 36, 37, 38, 39, 40, 41, 42, 43, 44, 45, 46, 47, 48, 49, 50, 51, 52, 53, 54] (by decide +kernel) (by decide +kernel)
set_option maxRecDepth 20000 in
theorem gX12_stepsOf_X12_shutsWalls : GoodIn wsX12_stepsOf (wsV RX12 198 RX12 yX12_shutsWalls wsX12_shutsWalls) := goodIn_app (goodIn_of _ (by decide +kernel)) ggX12_stepsOf_X12_shutsWalls
set_option maxRecDepth 20000 in
theorem ggX12_stepsOf_X12_findFar : GoodIn wsX12_stepsOf wsX12_findFar := goodIn_r _ [12, 1, 13, 14, 15, 16, 17, 5, 18, 7, 19, 20, 21, 22, 23, 24, 25, 26, 27, 28, 29, 30, 31, 32, 33, 34, 35, 36, 37, 38, 39, 40, 41, 42, 43, 44, 45, 46, 47, 48, 49, 50, 51, 52, 53, 54] (by decide +kernel) (by decide +kernel)
set_option maxRecDepth 20000 in
theorem gX12_stepsOf_X12_findFar : GoodIn wsX12_stepsOf (wsV RX12 201 RX12 yX12_findFar wsX12_findFar) := goodIn_app (goodIn_of _ (by decide +kernel)) ggX12_stepsOf_X12_findFar
theorem dX12_stepsOf_0 : decode cX12_stepsOf 0 = .ok (.aload_n 0, 1) := by decide +kernel
theorem dX12_stepsOf_1 : decode cX12_stepsOf 1 = .ok (.invokevirtual 198, 3) := by decide +kernel
theorem dX12_stepsOf_4 : decode cX12_stepsOf 4 = .ok (.aload_n 0, 1) := by decide +kernel
theorem dX12_stepsOf_5 : decode cX12_stepsOf 5 = .ok (.iload_n 1, 1) := by decide +kernel
theorem dX12_stepsOf_6 : decode cX12_stepsOf 6 = .ok (.invokevirtual 201, 3) := by decide +kernel
theorem dX12_stepsOf_9 : decode cX12_stepsOf 9 = .ok (.aload_n 0, 1) := by decide +kernel
theorem dX12_stepsOf_10 : decode cX12_stepsOf 10 = .ok (.getfield 58, 3) := by decide +kernel
theorem dX12_stepsOf_13 : decode cX12_stepsOf 13 = .ok (.iload_n 2, 1) := by decide +kernel
theorem dX12_stepsOf_14 : decode cX12_stepsOf 14 = .ok (.iaload, 1) := by decide +kernel
theorem dX12_stepsOf_15 : decode cX12_stepsOf 15 = .ok (.ireturn, 1) := by decide +kernel
theorem dX12_isSomebodyAt_0 : decode cX12_isSomebodyAt 0 = .ok (.iconst 0, 1) := by decide +kernel
theorem dX12_isSomebodyAt_1 : decode cX12_isSomebodyAt 1 = .ok (.istore_n 2, 1) := by decide +kernel
theorem dX12_isSomebodyAt_2 : decode cX12_isSomebodyAt 2 = .ok (.iload_n 2, 1) := by decide +kernel
theorem dX12_isSomebodyAt_3 : decode cX12_isSomebodyAt 3 = .ok (.aload_n 0, 1) := by decide +kernel
theorem dX12_isSomebodyAt_4 : decode cX12_isSomebodyAt 4 = .ok (.getfield 81, 3) := by decide +kernel
theorem dX12_isSomebodyAt_7 : decode cX12_isSomebodyAt 7 = .ok (.if_icmp .ge 21, 3) := by decide +kernel
theorem dX12_isSomebodyAt_10 : decode cX12_isSomebodyAt 10 = .ok (.aload_n 0, 1) := by decide +kernel
theorem dX12_isSomebodyAt_11 : decode cX12_isSomebodyAt 11 = .ok (.getfield 40, 3) := by decide +kernel
theorem dX12_isSomebodyAt_14 : decode cX12_isSomebodyAt 14 = .ok (.iload_n 2, 1) := by decide +kernel
theorem dX12_isSomebodyAt_15 : decode cX12_isSomebodyAt 15 = .ok (.iaload, 1) := by decide +kernel
theorem dX12_isSomebodyAt_16 : decode cX12_isSomebodyAt 16 = .ok (.iload_n 1, 1) := by decide +kernel
theorem dX12_isSomebodyAt_17 : decode cX12_isSomebodyAt 17 = .ok (.if_icmp .ne 5, 3) := by decide +kernel
theorem dX12_isSomebodyAt_20 : decode cX12_isSomebodyAt 20 = .ok (.iconst 1, 1) := by decide +kernel
theorem dX12_isSomebodyAt_21 : decode cX12_isSomebodyAt 21 = .ok (.ireturn, 1) := by decide +kernel
theorem dX12_isSomebodyAt_22 : decode cX12_isSomebodyAt 22 = .ok (.iinc 2 1, 3) := by decide +kernel
theorem dX12_isSomebodyAt_25 : decode cX12_isSomebodyAt 25 = .ok (.goto (-23), 3) := by decide +kernel
theorem dX12_isSomebodyAt_28 : decode cX12_isSomebodyAt 28 = .ok (.iconst 0, 1) := by decide +kernel
theorem dX12_isSomebodyAt_29 : decode cX12_isSomebodyAt 29 = .ok (.ireturn, 1) := by decide +kernel
theorem dX12_wallMany_0 : decode cX12_wallMany 0 = .ok (.iconst 0, 1) := by decide +kernel
theorem dX12_wallMany_1 : decode cX12_wallMany 1 = .ok (.istore_n 1, 1) := by decide +kernel
theorem dX12_wallMany_2 : decode cX12_wallMany 2 = .ok (.iconst 0, 1) := by decide +kernel
theorem dX12_wallMany_3 : decode cX12_wallMany 3 = .ok (.istore_n 2, 1) := by decide +kernel
theorem dX12_wallMany_4 : decode cX12_wallMany 4 = .ok (.iload_n 2, 1) := by decide +kernel
theorem dX12_wallMany_5 : decode cX12_wallMany 5 = .ok (.bipush 36, 2) := by decide +kernel
theorem dX12_wallMany_7 : decode cX12_wallMany 7 = .ok (.if_icmp .ge 18, 3) := by decide +kernel
theorem dX12_wallMany_10 : decode cX12_wallMany 10 = .ok (.iload_n 1, 1) := by decide +kernel
theorem dX12_wallMany_11 : decode cX12_wallMany 11 = .ok (.aload_n 0, 1) := by decide +kernel
theorem dX12_wallMany_12 : decode cX12_wallMany 12 = .ok (.getfield 13, 3) := by decide +kernel
theorem dX12_wallMany_15 : decode cX12_wallMany 15 = .ok (.iload_n 2, 1) := by decide +kernel
theorem dX12_wallMany_16 : decode cX12_wallMany 16 = .ok (.iaload, 1) := by decide +kernel
theorem dX12_wallMany_17 : decode cX12_wallMany 17 = .ok (.iadd, 1) := by decide +kernel
theorem dX12_wallMany_18 : decode cX12_wallMany 18 = .ok (.istore_n 1, 1) := by decide +kernel
theorem dX12_wallMany_19 : decode cX12_wallMany 19 = .ok (.iinc 2 1, 3) := by decide +kernel
theorem dX12_wallMany_22 : decode cX12_wallMany 22 = .ok (.goto (-18), 3) := by decide +kernel
theorem dX12_wallMany_25 : decode cX12_wallMany 25 = .ok (.iload_n 1, 1) := by decide +kernel
theorem dX12_wallMany_26 : decode cX12_wallMany 26 = .ok (.ireturn, 1) := by decide +kernel
theorem dX12_cellOf_0 : decode cX12_cellOf 0 = .ok (.aload_n 0, 1) := by decide +kernel
theorem dX12_cellOf_1 : decode cX12_cellOf 1 = .ok (.getfield 19, 3) := by decide +kernel
theorem dX12_cellOf_4 : decode cX12_cellOf 4 = .ok (.iload_n 1, 1) := by decide +kernel
theorem dX12_cellOf_5 : decode cX12_cellOf 5 = .ok (.iaload, 1) := by decide +kernel
theorem dX12_cellOf_6 : decode cX12_cellOf 6 = .ok (.iconst 4, 1) := by decide +kernel
theorem dX12_cellOf_7 : decode cX12_cellOf 7 = .ok (.irem, 1) := by decide +kernel
theorem dX12_cellOf_8 : decode cX12_cellOf 8 = .ok (.istore_n 2, 1) := by decide +kernel
theorem dX12_cellOf_9 : decode cX12_cellOf 9 = .ok (.aload_n 0, 1) := by decide +kernel
theorem dX12_cellOf_10 : decode cX12_cellOf 10 = .ok (.getfield 16, 3) := by decide +kernel
theorem dX12_cellOf_13 : decode cX12_cellOf 13 = .ok (.iload_n 1, 1) := by decide +kernel
theorem dX12_cellOf_14 : decode cX12_cellOf 14 = .ok (.iaload, 1) := by decide +kernel
theorem dX12_cellOf_15 : decode cX12_cellOf 15 = .ok (.iconst 3, 1) := by decide +kernel
theorem dX12_cellOf_16 : decode cX12_cellOf 16 = .ok (.if_icmp .ne 20, 3) := by decide +kernel
theorem dX12_cellOf_19 : decode cX12_cellOf 19 = .ok (.iload_n 2, 1) := by decide +kernel
theorem dX12_cellOf_20 : decode cX12_cellOf 20 = .ok (.aload_n 0, 1) := by decide +kernel
theorem dX12_cellOf_21 : decode cX12_cellOf 21 = .ok (.getfield 81, 3) := by decide +kernel
