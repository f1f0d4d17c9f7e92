set_option maxRecDepth 20000 in
theorem gX11_evenestLamp_X5_glow_u108X3 : GoodIn wsX11_evenestLamp (va_wsU RX11 108 RX3 "LampsThatRemember$Lamp" ⟨"LampsThatRemember$Lamp", "glow", "(LLampsThatRemember$Town;)J"⟩ yX5_glow wsX5_glow) := goodIn_app (goodIn_of _ (by decide +kernel)) ggX11_evenestLamp_X5_glow
set_option maxRecDepth 20000 in
theorem gX11_evenestLamp_X5_glow_u108X4 : GoodIn wsX11_evenestLamp (va_wsU RX11 108 RX4 "LampsThatRemember$Lamp" ⟨"LampsThatRemember$Lamp", "glow", "(LLampsThatRemember$Town;)J"⟩ yX5_glow wsX5_glow) := goodIn_app (goodIn_of _ (by decide +kernel)) ggX11_evenestLamp_X5_glow
set_option maxRecDepth 20000 in
theorem gX11_evenestLamp_X5_glow : GoodIn wsX11_evenestLamp (wsV RX11 108 RX5 yX5_glow wsX5_glow) := goodIn_app (goodIn_of _ (by decide +kernel)) ggX11_evenestLamp_X5_glow
set_option maxRecDepth 20000 in
theorem gX11_evenestLamp_X5_glow_u108X7 : GoodIn wsX11_evenestLamp (va_wsU RX11 108 RX7 "LampsThatRemember$Lamp" ⟨"LampsThatRemember$Lamp", "glow", "(LLampsThatRemember$Town;)J"⟩ yX5_glow wsX5_glow) := goodIn_app (goodIn_of _ (by decide +kernel)) ggX11_evenestLamp_X5_glow
set_option maxRecDepth 20000 in
theorem gX11_evenestLamp_X5_glow_u108X8 : GoodIn wsX11_evenestLamp (va_wsU RX11 108 RX8 "LampsThatRemember$Lamp" ⟨"LampsThatRemember$Lamp", "glow", "(LLampsThatRemember$Town;)J"⟩ yX5_glow wsX5_glow) := goodIn_app (goodIn_of _ (by decide +kernel)) ggX11_evenestLamp_X5_glow
set_option maxRecDepth 20000 in
theorem ggX11_evenestLamp_X2_howMany : GoodIn wsX11_evenestLamp wsX2_howMany := goodIn_r _ [75, 76, 77, 78, 79, 80, 81, 82, 83] (by decide +kernel) (by decide +kernel)
set_option maxRecDepth 20000 in
theorem gX11_evenestLamp_X2_howMany : GoodIn wsX11_evenestLamp (va_wsS RX11 112 yX2_howMany wsX2_howMany) := goodIn_app (goodIn_of _ (by decide +kernel)) ggX11_evenestLamp_X2_howMany
theorem dX11_evenestLamp_0 : decode cX11_evenestLamp 0 = .ok (.lload_n 1, 1) := by decide +kernel
theorem dX11_evenestLamp_1 : decode cX11_evenestLamp 1 = .ok (.lconst 0, 1) := by decide +kernel
theorem dX11_evenestLamp_2 : decode cX11_evenestLamp 2 = .ok (.lcmp, 1) := by decide +kernel
theorem dX11_evenestLamp_3 : decode cX11_evenestLamp 3 = .ok (.ifCond .ne 6, 3) := by decide +kernel
theorem dX11_evenestLamp_6 : decode cX11_evenestLamp 6 = .ok (.bipush (-9), 2) := by decide +kernel
theorem dX11_evenestLamp_8 : decode cX11_evenestLamp 8 = .ok (.ireturn, 1) := by decide +kernel
theorem dX11_evenestLamp_9 : decode cX11_evenestLamp 9 = .ok (.bipush (-9), 2) := by decide +kernel
theorem dX11_evenestLamp_11 : decode cX11_evenestLamp 11 = .ok (.istore_n 3, 1) := by decide +kernel
theorem dX11_evenestLamp_12 : decode cX11_evenestLamp 12 = .ok (.iconst (-1), 1) := by decide +kernel
theorem dX11_evenestLamp_13 : decode cX11_evenestLamp 13 = .ok (.istore 4, 2) := by decide +kernel
theorem dX11_evenestLamp_15 : decode cX11_evenestLamp 15 = .ok (.iconst 0, 1) := by decide +kernel
theorem dX11_evenestLamp_16 : decode cX11_evenestLamp 16 = .ok (.istore 5, 2) := by decide +kernel
theorem dX11_evenestLamp_18 : decode cX11_evenestLamp 18 = .ok (.iload 5, 2) := by decide +kernel
theorem dX11_evenestLamp_20 : decode cX11_evenestLamp 20 = .ok (.aload_n 0, 1) := by decide +kernel
theorem dX11_evenestLamp_21 : decode cX11_evenestLamp 21 = .ok (.getfield 30, 3) := by decide +kernel
theorem dX11_evenestLamp_24 : decode cX11_evenestLamp 24 = .ok (.getfield 179, 3) := by decide +kernel
theorem dX11_evenestLamp_27 : decode cX11_evenestLamp 27 = .ok (.if_icmp .ge 73, 3) := by decide +kernel
theorem dX11_evenestLamp_30 : decode cX11_evenestLamp 30 = .ok (.aload_n 0, 1) := by decide +kernel
theorem dX11_evenestLamp_31 : decode cX11_evenestLamp 31 = .ok (.getfield 30, 3) := by decide +kernel
theorem dX11_evenestLamp_34 : decode cX11_evenestLamp 34 = .ok (.iload 5, 2) := by decide +kernel
theorem dX11_evenestLamp_36 : decode cX11_evenestLamp 36 = .ok (.invokevirtual 71, 3) := by decide +kernel
theorem dX11_evenestLamp_39 : decode cX11_evenestLamp 39 = .ok (.astore 6, 2) := by decide +kernel
theorem dX11_evenestLamp_41 : decode cX11_evenestLamp 41 = .ok (.aload 6, 2) := by decide +kernel
theorem dX11_evenestLamp_43 : decode cX11_evenestLamp 43 = .ok (.ifnull 51, 3) := by decide +kernel
theorem dX11_evenestLamp_46 : decode cX11_evenestLamp 46 = .ok (.aload 6, 2) := by decide +kernel
theorem dX11_evenestLamp_48 : decode cX11_evenestLamp 48 = .ok (.aload_n 0, 1) := by decide +kernel
theorem dX11_evenestLamp_49 : decode cX11_evenestLamp 49 = .ok (.getfield 30, 3) := by decide +kernel
theorem dX11_evenestLamp_52 : decode cX11_evenestLamp 52 = .ok (.invokevirtual 108, 3) := by decide +kernel
theorem dX11_evenestLamp_55 : decode cX11_evenestLamp 55 = .ok (.lstore 7, 2) := by decide +kernel
theorem dX11_evenestLamp_57 : decode cX11_evenestLamp 57 = .ok (.lload_n 1, 1) := by decide +kernel
theorem dX11_evenestLamp_58 : decode cX11_evenestLamp 58 = .ok (.lload 7, 2) := by decide +kernel
theorem dX11_evenestLamp_60 : decode cX11_evenestLamp 60 = .ok (.land, 1) := by decide +kernel
theorem dX11_evenestLamp_61 : decode cX11_evenestLamp 61 = .ok (.invokestatic 112, 3) := by decide +kernel
theorem dX11_evenestLamp_64 : decode cX11_evenestLamp 64 = .ok (.lload_n 1, 1) := by decide +kernel
theorem dX11_evenestLamp_65 : decode cX11_evenestLamp 65 = .ok (.lload 7, 2) := by decide +kernel
theorem dX11_evenestLamp_67 : decode cX11_evenestLamp 67 = .ok (.ldc2_w 174, 3) := by decide +kernel
theorem dX11_evenestLamp_70 : decode cX11_evenestLamp 70 = .ok (.lxor, 1) := by decide +kernel
theorem dX11_evenestLamp_71 : decode cX11_evenestLamp 71 = .ok (.land, 1) := by decide +kernel
theorem dX11_evenestLamp_72 : decode cX11_evenestLamp 72 = .ok (.invokestatic 112, 3) := by decide +kernel
theorem dX11_evenestLamp_75 : decode cX11_evenestLamp 75 = .ok (.invokestatic 215, 3) := by decide +kernel
theorem dX11_evenestLamp_78 : decode cX11_evenestLamp 78 = .ok (.istore 9, 2) := by decide +kernel
theorem dX11_evenestLamp_80 : decode cX11_evenestLamp 80 = .ok (.iload 9, 2) := by decide +kernel
theorem dX11_evenestLamp_82 : decode cX11_evenestLamp 82 = .ok (.iload 4, 2) := by decide +kernel
theorem dX11_evenestLamp_84 : decode cX11_evenestLamp 84 = .ok (.if_icmp .le 10, 3) := by decide +kernel
theorem dX11_evenestLamp_87 : decode cX11_evenestLamp 87 = .ok (.iload 5, 2) := by decide +kernel
theorem dX11_evenestLamp_89 : decode cX11_evenestLamp 89 = .ok (.istore_n 3, 1) := by decide +kernel
theorem dX11_evenestLamp_90 : decode cX11_evenestLamp 90 = .ok (.iload 9, 2) := by decide +kernel
theorem dX11_evenestLamp_92 : decode cX11_evenestLamp 92 = .ok (.istore 4, 2) := by decide +kernel
theorem dX11_evenestLamp_94 : decode cX11_evenestLamp 94 = .ok (.iinc 5 1, 3) := by decide +kernel
theorem dX11_evenestLamp_97 : decode cX11_evenestLamp 97 = .ok (.goto (-79), 3) := by decide +kernel
theorem dX11_evenestLamp_100 : decode cX11_evenestLamp 100 = .ok (.iload_n 3, 1) := by decide +kernel
theorem dX11_evenestLamp_101 : decode cX11_evenestLamp 101 = .ok (.ireturn, 1) := by decide +kernel
set_option maxRecDepth 20000 in
theorem ggX11_fewest_X11_inRowAt : GoodIn wsX11_fewest wsX11_inRowAt := goodIn_r _ [9, 10, 96, 97, 98, 99, 100, 101, 102, 103] (by decide +kernel) (by decide +kernel)
set_option maxRecDepth 20000 in
theorem gX11_fewest_X11_inRowAt : GoodIn wsX11_fewest (wsV RX11 220 RX11 yX11_inRowAt wsX11_inRowAt) := goodIn_app (goodIn_of _ (by decide +kernel)) ggX11_fewest_X11_inRowAt
set_option maxRecDepth 20000 in
theorem ggX11_fewest_X2_isOne : GoodIn wsX11_fewest wsX2_isOne := goodIn_r _ [14] (by decide +kernel) (by decide +kernel)
set_option maxRecDepth 20000 in
theorem gX11_fewest_X2_isOne : GoodIn wsX11_fewest (va_wsS RX11 118 yX2_isOne wsX2_isOne) := goodIn_app (goodIn_of _ (by decide +kernel)) ggX11_fewest_X2_isOne
set_option maxRecDepth 20000 in
theorem ggX11_fewest_X11_refuse : GoodIn wsX11_fewest wsX11_refuse := goodIn_r _ [18, 19, 96, 97, 98, 99, 100, 101, 102, 103] (by decide +kernel) (by decide +kernel)
set_option maxRecDepth 20000 in
theorem gX11_fewest_X11_refuse : GoodIn wsX11_fewest (wsV RX11 36 RX11 yX11_refuse wsX11_refuse) := goodIn_app (goodIn_of _ (by decide +kernel)) ggX11_fewest_X11_refuse
set_option maxRecDepth 20000 in
theorem ggX11_fewest_X2_only : GoodIn wsX11_fewest wsX2_only := goodIn_r _ [22] (by decide +kernel) (by decide +kernel)
set_option maxRecDepth 20000 in
theorem gX11_fewest_X2_only : GoodIn wsX11_fewest (va_wsS RX11 195 yX2_only wsX2_only) := goodIn_app (goodIn_of _ (by decide +kernel)) ggX11_fewest_X2_only
set_option maxRecDepth 20000 in
theorem ggX11_fewest_J6_bitCount_0f7a4 : GoodIn wsX11_fewest wsJ6_bitCount_0f7a4 := goodIn_r _ [26, 27, 28, 29] (by decide +kernel) (by decide +kernel)
set_option maxRecDepth 20000 in
theorem gX11_fewest_J6_bitCount_0f7a4 : GoodIn wsX11_fewest (va_wsS RX11 223 yJ6_bitCount_0f7a4 wsJ6_bitCount_0f7a4) := goodIn_app (goodIn_of _ (by decide +kernel)) ggX11_fewest_J6_bitCount_0f7a4
set_option maxRecDepth 20000 in
theorem ggX11_fewest_X10_glowOf : GoodIn wsX11_fewest wsX10_glowOf := goodIn_r _ [34, 35, 36, 37, 38, 33, 39, 40, 41, 42, 43, 44, 45, 46, 47, 48, 49, 50, 51, 52, 53, 54, 55, 56, 57, 58, 59, 60, 61, 62, 63, 64, 65, 66, 67, 68, 69, 70, 71, 72, 73, 74, 75, 76, 77, 78, 79, 80, 81, 13, 82, 83, 21, 22, 84, 85, 86, 87, 88, 89, 90, 91, 92, 93, 94, 95, 104, 105, 106, 107, 108, 109, 110, 111, 112, 113, 114, 115, 116, 117, 118, 119, 120, 121, 122, 123, 124, 125, 126, 127, 128, 129, 130, 131, 132, 133, 134, 135, 136, 137, 138, 139, 140, 141, 142, 143, 144] (by decide +kernel) (by decide +kernel)
set_option maxRecDepth 20000 in
theorem gX11_fewest_X10_glowOf : GoodIn wsX11_fewest (wsV RX11 228 RX10 yX10_glowOf wsX10_glowOf) := goodIn_app (goodIn_of _ (by decide +kernel)) ggX11_fewest_X10_glowOf
theorem dX11_fewest_0 : decode cX11_fewest 0 = .ok (.lconst 0, 1) := by decide +kernel
theorem dX11_fewest_1 : decode cX11_fewest 1 = .ok (.lstore_n 1, 1) := by decide +kernel
theorem dX11_fewest_2 : decode cX11_fewest 2 = .ok (.iconst 0, 1) := by decide +kernel
theorem dX11_fewest_3 : decode cX11_fewest 3 = .ok (.istore_n 3, 1) := by decide +kernel
theorem dX11_fewest_4 : decode cX11_fewest 4 = .ok (.iload_n 3, 1) := by decide +kernel
theorem dX11_fewest_5 : decode cX11_fewest 5 = .ok (.aload_n 0, 1) := by decide +kernel
theorem dX11_fewest_6 : decode cX11_fewest 6 = .ok (.getfield 85, 3) := by decide +kernel
theorem dX11_fewest_9 : decode cX11_fewest 9 = .ok (.if_icmp .ge 38, 3) := by decide +kernel
theorem dX11_fewest_12 : decode cX11_fewest 12 = .ok (.aload_n 0, 1) := by decide +kernel
theorem dX11_fewest_13 : decode cX11_fewest 13 = .ok (.iload_n 3, 1) := by decide +kernel
theorem dX11_fewest_14 : decode cX11_fewest 14 = .ok (.invokevirtual 220, 3) := by decide +kernel
theorem dX11_fewest_17 : decode cX11_fewest 17 = .ok (.invokestatic 118, 3) := by decide +kernel
theorem dX11_fewest_20 : decode cX11_fewest 20 = .ok (.ifCond .ne 10, 3) := by decide +kernel
theorem dX11_fewest_23 : decode cX11_fewest 23 = .ok (.aload_n 0, 1) := by decide +kernel
theorem dX11_fewest_24 : decode cX11_fewest 24 = .ok (.bipush (-3), 2) := by decide +kernel
theorem dX11_fewest_26 : decode cX11_fewest 26 = .ok (.invokevirtual 36, 3) := by decide +kernel
theorem dX11_fewest_29 : decode cX11_fewest 29 = .ok (.ireturn, 1) := by decide +kernel
theorem dX11_fewest_30 : decode cX11_fewest 30 = .ok (.lload_n 1, 1) := by decide +kernel
theorem dX11_fewest_31 : decode cX11_fewest 31 = .ok (.aload_n 0, 1) := by decide +kernel
theorem dX11_fewest_32 : decode cX11_fewest 32 = .ok (.iload_n 3, 1) := by decide +kernel
theorem dX11_fewest_33 : decode cX11_fewest 33 = .ok (.invokevirtual 220, 3) := by decide +kernel
theorem dX11_fewest_36 : decode cX11_fewest 36 = .ok (.invokestatic 195, 3) := by decide +kernel
theorem dX11_fewest_39 : decode cX11_fewest 39 = .ok (.lor, 1) := by decide +kernel
theorem dX11_fewest_40 : decode cX11_fewest 40 = .ok (.lstore_n 1, 1) := by decide +kernel
theorem dX11_fewest_41 : decode cX11_fewest 41 = .ok (.iinc 3 1, 3) := by decide +kernel
theorem dX11_fewest_44 : decode cX11_fewest 44 = .ok (.goto (-40), 3) := by decide +kernel
theorem dX11_fewest_47 : decode cX11_fewest 47 = .ok (.bipush (-9), 2) := by decide +kernel
theorem dX11_fewest_49 : decode cX11_fewest 49 = .ok (.istore_n 3, 1) := by decide +kernel
theorem dX11_fewest_50 : decode cX11_fewest 50 = .ok (.iconst 0, 1) := by decide +kernel
theorem dX11_fewest_51 : decode cX11_fewest 51 = .ok (.istore 4, 2) := by decide +kernel
theorem dX11_fewest_53 : decode cX11_fewest 53 = .ok (.iload 4, 2) := by decide +kernel
theorem dX11_fewest_55 : decode cX11_fewest 55 = .ok (.iconst 1, 1) := by decide +kernel
theorem dX11_fewest_56 : decode cX11_fewest 56 = .ok (.aload_n 0, 1) := by decide +kernel
theorem dX11_fewest_57 : decode cX11_fewest 57 = .ok (.getfield 30, 3) := by decide +kernel
theorem dX11_fewest_60 : decode cX11_fewest 60 = .ok (.getfield 179, 3) := by decide +kernel
theorem dX11_fewest_63 : decode cX11_fewest 63 = .ok (.ishl, 1) := by decide +kernel
theorem dX11_fewest_64 : decode cX11_fewest 64 = .ok (.if_icmp .ge 60, 3) := by decide +kernel
theorem dX11_fewest_67 : decode cX11_fewest 67 = .ok (.iload_n 3, 1) := by decide +kernel
theorem dX11_fewest_68 : decode cX11_fewest 68 = .ok (.ifCond .lt 15, 3) := by decide +kernel
theorem dX11_fewest_71 : decode cX11_fewest 71 = .ok (.iload 4, 2) := by decide +kernel
theorem dX11_fewest_73 : decode cX11_fewest 73 = .ok (.invokestatic 223, 3) := by decide +kernel
theorem dX11_fewest_76 : decode cX11_fewest 76 = .ok (.iload_n 3, 1) := by decide +kernel
theorem dX11_fewest_77 : decode cX11_fewest 77 = .ok (.invokestatic 223, 3) := by decide +kernel
theorem dX11_fewest_80 : decode cX11_fewest 80 = .ok (.if_icmp .ge 7, 3) := by decide +kernel
theorem dX11_fewest_83 : decode cX11_fewest 83 = .ok (.iconst 1, 1) := by decide +kernel
theorem dX11_fewest_84 : decode cX11_fewest 84 = .ok (.goto 4, 3) := by decide +kernel
theorem dX11_fewest_87 : decode cX11_fewest 87 = .ok (.iconst 0, 1) := by decide +kernel
theorem dX11_fewest_88 : decode cX11_fewest 88 = .ok (.istore 5, 2) := by decide +kernel
theorem dX11_fewest_90 : decode cX11_fewest 90 = .ok (.iload 5, 2) := by decide +kernel
theorem dX11_fewest_92 : decode cX11_fewest 92 = .ok (.ifCond .eq 26, 3) := by decide +kernel
theorem dX11_fewest_95 : decode cX11_fewest 95 = .ok (.lload_n 1, 1) := by decide +kernel
theorem dX11_fewest_96 : decode cX11_fewest 96 = .ok (.aload_n 0, 1) := by decide +kernel
theorem dX11_fewest_97 : decode cX11_fewest 97 = .ok (.getfield 30, 3) := by decide +kernel
theorem dX11_fewest_100 : decode cX11_fewest 100 = .ok (.iload 4, 2) := by decide +kernel
theorem dX11_fewest_102 : decode cX11_fewest 102 = .ok (.invokevirtual 228, 3) := by decide +kernel
theorem dX11_fewest_105 : decode cX11_fewest 105 = .ok (.ldc2_w 174, 3) := by decide +kernel
theorem dX11_fewest_108 : decode cX11_fewest 108 = .ok (.lxor, 1) := by decide +kernel
theorem dX11_fewest_109 : decode cX11_fewest 109 = .ok (.land, 1) := by decide +kernel
theorem dX11_fewest_110 : decode cX11_fewest 110 = .ok (.lconst 0, 1) := by decide +kernel
theorem dX11_fewest_111 : decode cX11_fewest 111 = .ok (.lcmp, 1) := by decide +kernel
theorem dX11_fewest_112 : decode cX11_fewest 112 = .ok (.ifCond .ne 6, 3) := by decide +kernel
theorem dX11_fewest_115 : decode cX11_fewest 115 = .ok (.iload 4, 2) := by decide +kernel
theorem dX11_fewest_117 : decode cX11_fewest 117 = .ok (.istore_n 3, 1) := by decide +kernel
theorem dX11_fewest_118 : decode cX11_fewest 118 = .ok (.iinc 4 1, 3) := by decide +kernel
theorem dX11_fewest_121 : decode cX11_fewest 121 = .ok (.goto (-68), 3) := by decide +kernel
theorem dX11_fewest_124 : decode cX11_fewest 124 = .ok (.iload_n 3, 1) := by decide +kernel
theorem dX11_fewest_125 : decode cX11_fewest 125 = .ok (.ireturn, 1) := by decide +kernel
set_option maxRecDepth 20000 in
theorem ggX11_oneMore_X11_outside : GoodIn wsX11_oneMore wsX11_outside := goodIn_r _ [6] (by decide +kernel) (by decide +kernel)
set_option maxRecDepth 20000 in
theorem gX11_oneMore_X11_outside : GoodIn wsX11_oneMore (va_wsS RX11 143 yX11_outside wsX11_outside) := goodIn_app (goodIn_of _ (by decide +kernel)) ggX11_oneMore_X11_outside
set_option maxRecDepth 20000 in
theorem ggX11_oneMore_X11_refuse : GoodIn wsX11_oneMore wsX11_refuse := goodIn_r _ [10, 11, 103, 104, 105, 106, 107, 108, 109, 110] (by decide +kernel) (by decide +kernel)
set_option maxRecDepth 20000 in
theorem gX11_oneMore_X11_refuse : GoodIn wsX11_oneMore (wsV RX11 36 RX11 yX11_refuse wsX11_refuse) := goodIn_app (goodIn_of _ (by decide +kernel)) ggX11_oneMore_X11_refuse
set_option maxRecDepth 20000 in
theorem ggX11_oneMore_X10_litBut : GoodIn wsX11_oneMore wsX10_litBut := goodIn_r _ [16, 17, 18, 19, 15, 20, 21, 22, 23, 24, 25, 26, 27, 28, 29, 30, 31, 32, 33, 34, 35, 36, 37, 38, 39, 40, 41, 42, 43, 44, 45, 46, 47, 48, 49, 50, 51, 52, 53, 54, 55, 56, 57, 58, 59, 60, 61, 62, 63, 64, 65, 66, 67, 68, 69, 70, 71, 72, 73, 74, 75, 76, 77, 78, 79, 80, 81, 82, 83, 84, 85, 86, 87, 88, 89, 111, 112, 113, 114, 115, 116, 117, 118, 119, 120, 121, 122, 123, 124, 125, 126, 127, 128, 129, 130, 131, 132, 133, 134, 135, 136, 137, 138, 139, 140, 141, 142, 143, 144, 145, 146, 147, 148, 149, 150, 151] (by decide +kernel) (by decide +kernel)
set_option maxRecDepth 20000 in
theorem gX11_oneMore_X10_litBut : GoodIn wsX11_oneMore (wsV RX11 170 RX10 yX10_litBut wsX10_litBut) := goodIn_app (goodIn_of _ (by decide +kernel)) ggX11_oneMore_X10_litBut
set_option maxRecDepth 20000 in
theorem ggX11_oneMore_X10_free : GoodIn wsX11_oneMore wsX10_free := goodIn_r _ [67, 68, 69, 70, 111, 112, 113, 114, 115, 116] (by decide +kernel) (by decide +kernel)
set_option maxRecDepth 20000 in
theorem gX11_oneMore_X10_free : GoodIn wsX11_oneMore (wsV RX11 162 RX10 yX10_free wsX10_free) := goodIn_app (goodIn_of _ (by decide +kernel)) ggX11_oneMore_X10_free
set_option maxRecDepth 20000 in
theorem ggX11_oneMore_X2_within : GoodIn wsX11_oneMore wsX2_within := goodIn_r _ [74, 75, 76, 73, 77, 78, 79, 80, 81, 82] (by decide +kernel) (by decide +kernel)
set_option maxRecDepth 20000 in
theorem gX11_oneMore_X2_within : GoodIn wsX11_oneMore (va_wsS RX11 231 yX2_within wsX2_within) := goodIn_app (goodIn_of _ (by decide +kernel)) ggX11_oneMore_X2_within
set_option maxRecDepth 20000 in
theorem ggX11_oneMore_X2_howMany : GoodIn wsX11_oneMore wsX2_howMany := goodIn_r _ [94, 95, 96, 97, 98, 99, 100, 101, 102] (by decide +kernel) (by decide +kernel)
set_option maxRecDepth 20000 in
theorem gX11_oneMore_X2_howMany : GoodIn wsX11_oneMore (va_wsS RX11 112 yX2_howMany wsX2_howMany) := goodIn_app (goodIn_of _ (by decide +kernel)) ggX11_oneMore_X2_howMany
theorem dX11_oneMore_0 : decode cX11_oneMore 0 = .ok (.iload_n 1, 1) := by decide +kernel
theorem dX11_oneMore_1 : decode cX11_oneMore 1 = .ok (.iconst 0, 1) := by decide +kernel
theorem dX11_oneMore_2 : decode cX11_oneMore 2 = .ok (.iconst 5, 1) := by decide +kernel
theorem dX11_oneMore_3 : decode cX11_oneMore 3 = .ok (.invokestatic 143, 3) := by decide +kernel
theorem dX11_oneMore_6 : decode cX11_oneMore 6 = .ok (.istore_n 3, 1) := by decide +kernel
theorem dX11_oneMore_7 : decode cX11_oneMore 7 = .ok (.iload_n 3, 1) := by decide +kernel
theorem dX11_oneMore_8 : decode cX11_oneMore 8 = .ok (.ifCond .ge 9, 3) := by decide +kernel
theorem dX11_oneMore_11 : decode cX11_oneMore 11 = .ok (.aload_n 0, 1) := by decide +kernel
theorem dX11_oneMore_12 : decode cX11_oneMore 12 = .ok (.iload_n 3, 1) := by decide +kernel
theorem dX11_oneMore_13 : decode cX11_oneMore 13 = .ok (.invokevirtual 36, 3) := by decide +kernel
theorem dX11_oneMore_16 : decode cX11_oneMore 16 = .ok (.ireturn, 1) := by decide +kernel
theorem dX11_oneMore_17 : decode cX11_oneMore 17 = .ok (.iload_n 2, 1) := by decide +kernel
theorem dX11_oneMore_18 : decode cX11_oneMore 18 = .ok (.ifCond .eq 15, 3) := by decide +kernel
theorem dX11_oneMore_21 : decode cX11_oneMore 21 = .ok (.iload_n 2, 1) := by decide +kernel
theorem dX11_oneMore_22 : decode cX11_oneMore 22 = .ok (.iconst 1, 1) := by decide +kernel
theorem dX11_oneMore_23 : decode cX11_oneMore 23 = .ok (.if_icmp .eq 10, 3) := by decide +kernel
theorem dX11_oneMore_26 : decode cX11_oneMore 26 = .ok (.aload_n 0, 1) := by decide +kernel
theorem dX11_oneMore_27 : decode cX11_oneMore 27 = .ok (.bipush (-2), 2) := by decide +kernel
theorem dX11_oneMore_29 : decode cX11_oneMore 29 = .ok (.invokevirtual 36, 3) := by decide +kernel
theorem dX11_oneMore_32 : decode cX11_oneMore 32 = .ok (.ireturn, 1) := by decide +kernel
theorem dX11_oneMore_33 : decode cX11_oneMore 33 = .ok (.aload_n 0, 1) := by decide +kernel
theorem dX11_oneMore_34 : decode cX11_oneMore 34 = .ok (.getfield 30, 3) := by decide +kernel
theorem dX11_oneMore_37 : decode cX11_oneMore 37 = .ok (.iconst 0, 1) := by decide +kernel
theorem dX11_oneMore_38 : decode cX11_oneMore 38 = .ok (.invokevirtual 170, 3) := by decide +kernel
theorem dX11_oneMore_41 : decode cX11_oneMore 41 = .ok (.ldc2_w 174, 3) := by decide +kernel
theorem dX11_oneMore_44 : decode cX11_oneMore 44 = .ok (.lxor, 1) := by decide +kernel
theorem dX11_oneMore_45 : decode cX11_oneMore 45 = .ok (.lstore 4, 2) := by decide +kernel
theorem dX11_oneMore_47 : decode cX11_oneMore 47 = .ok (.iconst 0, 1) := by decide +kernel
theorem dX11_oneMore_48 : decode cX11_oneMore 48 = .ok (.istore 6, 2) := by decide +kernel
theorem dX11_oneMore_50 : decode cX11_oneMore 50 = .ok (.iconst (-1), 1) := by decide +kernel
theorem dX11_oneMore_51 : decode cX11_oneMore 51 = .ok (.istore 7, 2) := by decide +kernel
theorem dX11_oneMore_53 : decode cX11_oneMore 53 = .ok (.iconst 0, 1) := by decide +kernel
theorem dX11_oneMore_54 : decode cX11_oneMore 54 = .ok (.istore 8, 2) := by decide +kernel
theorem dX11_oneMore_56 : decode cX11_oneMore 56 = .ok (.iload 8, 2) := by decide +kernel
theorem dX11_oneMore_58 : decode cX11_oneMore 58 = .ok (.bipush 36, 2) := by decide +kernel
theorem dX11_oneMore_60 : decode cX11_oneMore 60 = .ok (.if_icmp .ge 45, 3) := by decide +kernel
theorem dX11_oneMore_63 : decode cX11_oneMore 63 = .ok (.iload 8, 2) := by decide +kernel
theorem dX11_oneMore_65 : decode cX11_oneMore 65 = .ok (.iload_n 1, 1) := by decide +kernel
theorem dX11_oneMore_66 : decode cX11_oneMore 66 = .ok (.aload_n 0, 1) := by decide +kernel
theorem dX11_oneMore_67 : decode cX11_oneMore 67 = .ok (.getfield 30, 3) := by decide +kernel
theorem dX11_oneMore_70 : decode cX11_oneMore 70 = .ok (.invokevirtual 162, 3) := by decide +kernel
theorem dX11_oneMore_73 : decode cX11_oneMore 73 = .ok (.invokestatic 231, 3) := by decide +kernel
theorem dX11_oneMore_76 : decode cX11_oneMore 76 = .ok (.lload 4, 2) := by decide +kernel
theorem dX11_oneMore_78 : decode cX11_oneMore 78 = .ok (.land, 1) := by decide +kernel
theorem dX11_oneMore_79 : decode cX11_oneMore 79 = .ok (.invokestatic 112, 3) := by decide +kernel
theorem dX11_oneMore_82 : decode cX11_oneMore 82 = .ok (.istore 9, 2) := by decide +kernel
theorem dX11_oneMore_84 : decode cX11_oneMore 84 = .ok (.iload 9, 2) := by decide +kernel
theorem dX11_oneMore_86 : decode cX11_oneMore 86 = .ok (.iload 7, 2) := by decide +kernel
theorem dX11_oneMore_88 : decode cX11_oneMore 88 = .ok (.if_icmp .le 11, 3) := by decide +kernel
theorem dX11_oneMore_91 : decode cX11_oneMore 91 = .ok (.iload 9, 2) := by decide +kernel
theorem dX11_oneMore_93 : decode cX11_oneMore 93 = .ok (.istore 7, 2) := by decide +kernel
theorem dX11_oneMore_95 : decode cX11_oneMore 95 = .ok (.iload 8, 2) := by decide +kernel
theorem dX11_oneMore_97 : decode cX11_oneMore 97 = .ok (.istore 6, 2) := by decide +kernel
theorem dX11_oneMore_99 : decode cX11_oneMore 99 = .ok (.iinc 8 1, 3) := by decide +kernel
theorem dX11_oneMore_102 : decode cX11_oneMore 102 = .ok (.goto (-46), 3) := by decide +kernel
theorem dX11_oneMore_105 : decode cX11_oneMore 105 = .ok (.iload_n 2, 1) := by decide +kernel
theorem dX11_oneMore_106 : decode cX11_oneMore 106 = .ok (.ifCond .ne 8, 3) := by decide +kernel
theorem dX11_oneMore_109 : decode cX11_oneMore 109 = .ok (.iload 7, 2) := by decide +kernel
theorem dX11_oneMore_111 : decode cX11_oneMore 111 = .ok (.goto 5, 3) := by decide +kernel
theorem dX11_oneMore_114 : decode cX11_oneMore 114 = .ok (.iload 6, 2) := by decide +kernel
theorem dX11_oneMore_116 : decode cX11_oneMore 116 = .ok (.ireturn, 1) := by decide +kernel
set_option maxRecDepth 20000 in
theorem ggX11_swap_X10_lampAt : GoodIn wsX11_swap wsX10_lampAt := goodIn_r _ [7, 8, 9, 111, 112, 113, 114, 115, 116] (by decide +kernel) (by decide +kernel)
set_option maxRecDepth 20000 in
theorem gX11_swap_X10_lampAt : GoodIn wsX11_swap (wsV RX11 71 RX10 yX10_lampAt wsX10_lampAt) := goodIn_app (goodIn_of _ (by decide +kernel)) ggX11_swap_X10_lampAt
set_option maxRecDepth 20000 in
theorem ggX11_swap_X11_refuse : GoodIn wsX11_swap wsX11_refuse := goodIn_r _ [14, 15, 103, 104, 105, 106, 107, 108, 109, 110] (by decide +kernel) (by decide +kernel)
set_option maxRecDepth 20000 in
theorem gX11_swap_X11_refuse : GoodIn wsX11_swap (wsV RX11 36 RX11 yX11_refuse wsX11_refuse) := goodIn_app (goodIn_of _ (by decide +kernel)) ggX11_swap_X11_refuse
set_option maxRecDepth 20000 in
theorem ggX11_swap_X10_litBut : GoodIn wsX11_swap wsX10_litBut := goodIn_r _ [19, 20, 21, 22, 6, 23, 8, 24, 25, 4, 5, 7, 9, 26, 27, 28, 29, 30, 31, 32, 33, 34, 35, 36, 37, 38, 39, 40, 41, 42, 43, 44, 45, 46, 47, 48, 49, 50, 51, 52, 53, 54, 55, 56, 57, 58, 59, 60, 61, 62, 63, 64, 65, 66, 67, 68, 69, 70, 71, 72, 73, 74, 75, 76, 77, 78, 79, 80, 81, 82, 83, 84, 85, 86, 87, 111, 112, 113, 114, 115, 116, 117, 118, 119, 120, 121, 122, 123, 124, 125, 126, 127, 128, 129, 130, 131, 132, 133, 134, 135, 136, 137, 138, 139, 140, 141, 142, 143, 144, 145, 146, 147, 148, 149, 150, 151] (by decide +kernel) (by decide +kernel)
set_option maxRecDepth 20000 in
theorem gX11_swap_X10_litBut : GoodIn wsX11_swap (wsV RX11 170 RX10 yX10_litBut wsX10_litBut) := goodIn_app (goodIn_of _ (by decide +kernel)) ggX11_swap_X10_litBut
set_option maxRecDepth 20000 in
theorem ggX11_swap_X2_howMany : GoodIn wsX11_swap wsX2_howMany := goodIn_r _ [90, 91, 92, 93, 94, 95, 96, 97, 98] (by decide +kernel) (by decide +kernel)
set_option maxRecDepth 20000 in
theorem gX11_swap_X2_howMany : GoodIn wsX11_swap (va_wsS RX11 112 yX2_howMany wsX2_howMany) := goodIn_app (goodIn_of _ (by decide +kernel)) ggX11_swap_X2_howMany
set_option maxRecDepth 20000 in
theorem ggX11_swap_X11_changeCells : GoodIn wsX11_swap wsX11_changeCells := goodIn_r _ [101, 102, 117, 118, 119, 120, 121, 122, 123, 124, 125, 126, 127, 128, 129, 130, 131, 132, 133, 134, 135, 136, 137, 138, 139, 140, 141, 142, 143, 144, 145, 146, 147, 148, 149, 150, 151] (by decide +kernel) (by decide +kernel)
set_option maxRecDepth 20000 in
theorem gX11_swap_X11_changeCells : GoodIn wsX11_swap (va_wsS RX11 236 yX11_changeCells wsX11_changeCells) := goodIn_app (goodIn_of _ (by decide +kernel)) ggX11_swap_X11_changeCells
theorem dX11_swap_0 : decode cX11_swap 0 = .ok (.aload_n 0, 1) := by decide +kernel
theorem dX11_swap_1 : decode cX11_swap 1 = .ok (.getfield 30, 3) := by decide +kernel
theorem dX11_swap_4 : decode cX11_swap 4 = .ok (.iload_n 1, 1) := by decide +kernel
theorem dX11_swap_5 : decode cX11_swap 5 = .ok (.invokevirtual 71, 3) := by decide +kernel
theorem dX11_swap_8 : decode cX11_swap 8 = .ok (.astore_n 3, 1) := by decide +kernel
theorem dX11_swap_9 : decode cX11_swap 9 = .ok (.aload_n 0, 1) := by decide +kernel
theorem dX11_swap_10 : decode cX11_swap 10 = .ok (.getfield 30, 3) := by decide +kernel
theorem dX11_swap_13 : decode cX11_swap 13 = .ok (.iload_n 2, 1) := by decide +kernel
theorem dX11_swap_14 : decode cX11_swap 14 = .ok (.invokevirtual 71, 3) := by decide +kernel
theorem dX11_swap_17 : decode cX11_swap 17 = .ok (.astore 4, 2) := by decide +kernel
theorem dX11_swap_19 : decode cX11_swap 19 = .ok (.aload_n 3, 1) := by decide +kernel
theorem dX11_swap_20 : decode cX11_swap 20 = .ok (.ifnull 8, 3) := by decide +kernel
theorem dX11_swap_23 : decode cX11_swap 23 = .ok (.aload 4, 2) := by decide +kernel
theorem dX11_swap_25 : decode cX11_swap 25 = .ok (.ifnonnull 12, 3) := by decide +kernel
theorem dX11_swap_28 : decode cX11_swap 28 = .ok (.ldc 235, 2) := by decide +kernel
theorem dX11_swap_30 : decode cX11_swap 30 = .ok (.aload_n 0, 1) := by decide +kernel
theorem dX11_swap_31 : decode cX11_swap 31 = .ok (.iconst (-1), 1) := by decide +kernel
theorem dX11_swap_32 : decode cX11_swap 32 = .ok (.invokevirtual 36, 3) := by decide +kernel
theorem dX11_swap_35 : decode cX11_swap 35 = .ok (.isub, 1) := by decide +kernel
theorem dX11_swap_36 : decode cX11_swap 36 = .ok (.ireturn, 1) := by decide +kernel
theorem dX11_swap_37 : decode cX11_swap 37 = .ok (.aload_n 0, 1) := by decide +kernel
theorem dX11_swap_38 : decode cX11_swap 38 = .ok (.getfield 30, 3) := by decide +kernel
theorem dX11_swap_41 : decode cX11_swap 41 = .ok (.iconst 0, 1) := by decide +kernel
theorem dX11_swap_42 : decode cX11_swap 42 = .ok (.invokevirtual 170, 3) := by decide +kernel
theorem dX11_swap_45 : decode cX11_swap 45 = .ok (.invokestatic 112, 3) := by decide +kernel
theorem dX11_swap_48 : decode cX11_swap 48 = .ok (.istore 5, 2) := by decide +kernel
theorem dX11_swap_50 : decode cX11_swap 50 = .ok (.aload_n 3, 1) := by decide +kernel
theorem dX11_swap_51 : decode cX11_swap 51 = .ok (.aload 4, 2) := by decide +kernel
theorem dX11_swap_53 : decode cX11_swap 53 = .ok (.invokestatic 236, 3) := by decide +kernel
theorem dX11_swap_56 : decode cX11_swap 56 = .ok (.aload_n 0, 1) := by decide +kernel
theorem dX11_swap_57 : decode cX11_swap 57 = .ok (.getfield 30, 3) := by decide +kernel
theorem dX11_swap_60 : decode cX11_swap 60 = .ok (.iconst 0, 1) := by decide +kernel
theorem dX11_swap_61 : decode cX11_swap 61 = .ok (.invokevirtual 170, 3) := by decide +kernel
theorem dX11_swap_64 : decode cX11_swap 64 = .ok (.invokestatic 112, 3) := by decide +kernel
theorem dX11_swap_67 : decode cX11_swap 67 = .ok (.istore 6, 2) := by decide +kernel
theorem dX11_swap_69 : decode cX11_swap 69 = .ok (.aload_n 3, 1) := by decide +kernel
theorem dX11_swap_70 : decode cX11_swap 70 = .ok (.aload 4, 2) := by decide +kernel
theorem dX11_swap_72 : decode cX11_swap 72 = .ok (.invokestatic 236, 3) := by decide +kernel
theorem dX11_swap_75 : decode cX11_swap 75 = .ok (.iload 6, 2) := by decide +kernel
theorem dX11_swap_77 : decode cX11_swap 77 = .ok (.iload 5, 2) := by decide +kernel
theorem dX11_swap_79 : decode cX11_swap 79 = .ok (.isub, 1) := by decide +kernel
theorem dX11_swap_80 : decode cX11_swap 80 = .ok (.ireturn, 1) := by decide +kernel
theorem dX11_changeCells_0 : decode cX11_changeCells 0 = .ok (.aload_n 0, 1) := by decide +kernel
theorem dX11_changeCells_1 : decode cX11_changeCells 1 = .ok (.getfield 240, 3) := by decide +kernel
theorem dX11_changeCells_4 : decode cX11_changeCells 4 = .ok (.istore_n 2, 1) := by decide +kernel
theorem dX11_changeCells_5 : decode cX11_changeCells 5 = .ok (.aload_n 0, 1) := by decide +kernel
theorem dX11_changeCells_6 : decode cX11_changeCells 6 = .ok (.aload_n 1, 1) := by decide +kernel
theorem dX11_changeCells_7 : decode cX11_changeCells 7 = .ok (.getfield 240, 3) := by decide +kernel
theorem dX11_changeCells_10 : decode cX11_changeCells 10 = .ok (.putfield 240, 3) := by decide +kernel
theorem dX11_changeCells_13 : decode cX11_changeCells 13 = .ok (.aload_n 1, 1) := by decide +kernel
theorem dX11_changeCells_14 : decode cX11_changeCells 14 = .ok (.iload_n 2, 1) := by decide +kernel
theorem dX11_changeCells_15 : decode cX11_changeCells 15 = .ok (.putfield 240, 3) := by decide +kernel
theorem dX11_changeCells_18 : decode cX11_changeCells 18 = .ok (.return_, 1) := by decide +kernel
set_option maxRecDepth 20000 in
theorem ggX11_judge_X10_isPerson : GoodIn wsX11_judge wsX10_isPerson := goodIn_r _ [7, 8, 55, 56, 57, 58, 59, 60] (by decide +kernel) (by decide +kernel)
set_option maxRecDepth 20000 in
theorem gX11_judge_X10_isPerson : GoodIn wsX11_judge (wsV RX11 156 RX10 yX10_isPerson wsX10_isPerson) := goodIn_app (goodIn_of _ (by decide +kernel)) ggX11_judge_X10_isPerson
set_option maxRecDepth 20000 in
theorem ggX11_judge_X11_refuse : GoodIn wsX11_judge wsX11_refuse := goodIn_r _ [13, 14, 47, 48, 49, 50, 51, 52, 53, 54] (by decide +kernel) (by decide +kernel)
set_option maxRecDepth 20000 in
theorem gX11_judge_X11_refuse : GoodIn wsX11_judge (wsV RX11 36 RX11 yX11_refuse wsX11_refuse) := goodIn_app (goodIn_of _ (by decide +kernel)) ggX11_judge_X11_refuse
set_option maxRecDepth 20000 in
theorem ggX11_judge_X10_cellOf : GoodIn wsX11_judge wsX10_cellOf := goodIn_r _ [18, 8, 19, 55, 56, 57, 58, 59, 60] (by decide +kernel) (by decide +kernel)
set_option maxRecDepth 20000 in
theorem gX11_judge_X10_cellOf : GoodIn wsX11_judge (wsV RX11 159 RX10 yX10_cellOf wsX10_cellOf) := goodIn_app (goodIn_of _ (by decide +kernel)) ggX11_judge_X10_cellOf
set_option maxRecDepth 20000 in
theorem ggX11_judge_X11_inRowAt : GoodIn wsX11_judge wsX11_inRowAt := goodIn_r _ [23, 24, 47, 48, 49, 50, 51, 52, 53, 54] (by decide +kernel) (by decide +kernel)
set_option maxRecDepth 20000 in
theorem gX11_judge_X11_inRowAt : GoodIn wsX11_judge (wsV RX11 220 RX11 yX11_inRowAt wsX11_inRowAt) := goodIn_app (goodIn_of _ (by decide +kernel)) ggX11_judge_X11_inRowAt
set_option maxRecDepth 20000 in
theorem ggX11_judge_X10_free : GoodIn wsX11_judge wsX10_free := goodIn_r _ [28, 29, 30, 31, 55, 56, 57, 58, 59, 60] (by decide +kernel) (by decide +kernel)
set_option maxRecDepth 20000 in
theorem gX11_judge_X10_free : GoodIn wsX11_judge (wsV RX11 162 RX10 yX10_free wsX10_free) := goodIn_app (goodIn_of _ (by decide +kernel)) ggX11_judge_X10_free
set_option maxRecDepth 20000 in
theorem ggX11_judge_X2_within : GoodIn wsX11_judge wsX2_within := goodIn_r _ [35, 36, 37, 34, 38, 39, 40, 41, 42, 43] (by decide +kernel) (by decide +kernel)
set_option maxRecDepth 20000 in
theorem gX11_judge_X2_within : GoodIn wsX11_judge (va_wsS RX11 231 yX2_within wsX2_within) := goodIn_app (goodIn_of _ (by decide +kernel)) ggX11_judge_X2_within
set_option maxRecDepth 20000 in
theorem ggX11_judge_X2_has : GoodIn wsX11_judge wsX2_has := goodIn_r _ [46, 36, 37, 34, 38] (by decide +kernel) (by decide +kernel)
set_option maxRecDepth 20000 in
theorem gX11_judge_X2_has : GoodIn wsX11_judge (va_wsS RX11 122 yX2_has wsX2_has) := goodIn_app (goodIn_of _ (by decide +kernel)) ggX11_judge_X2_has
theorem dX11_judge_0 : decode cX11_judge 0 = .ok (.aload_n 0, 1) := by decide +kernel
theorem dX11_judge_1 : decode cX11_judge 1 = .ok (.getfield 30, 3) := by decide +kernel
theorem dX11_judge_4 : decode cX11_judge 4 = .ok (.iload_n 1, 1) := by decide +kernel
theorem dX11_judge_5 : decode cX11_judge 5 = .ok (.invokevirtual 156, 3) := by decide +kernel
theorem dX11_judge_8 : decode cX11_judge 8 = .ok (.ifCond .ne 9, 3) := by decide +kernel
theorem dX11_judge_11 : decode cX11_judge 11 = .ok (.aload_n 0, 1) := by decide +kernel
theorem dX11_judge_12 : decode cX11_judge 12 = .ok (.iconst (-1), 1) := by decide +kernel
theorem dX11_judge_13 : decode cX11_judge 13 = .ok (.invokevirtual 36, 3) := by decide +kernel
theorem dX11_judge_16 : decode cX11_judge 16 = .ok (.ireturn, 1) := by decide +kernel
theorem dX11_judge_17 : decode cX11_judge 17 = .ok (.aload_n 0, 1) := by decide +kernel
theorem dX11_judge_18 : decode cX11_judge 18 = .ok (.getfield 30, 3) := by decide +kernel
theorem dX11_judge_21 : decode cX11_judge 21 = .ok (.iload_n 1, 1) := by decide +kernel
theorem dX11_judge_22 : decode cX11_judge 22 = .ok (.invokevirtual 159, 3) := by decide +kernel
theorem dX11_judge_25 : decode cX11_judge 25 = .ok (.istore_n 2, 1) := by decide +kernel
theorem dX11_judge_26 : decode cX11_judge 26 = .ok (.iconst 0, 1) := by decide +kernel
theorem dX11_judge_27 : decode cX11_judge 27 = .ok (.istore_n 3, 1) := by decide +kernel
theorem dX11_judge_28 : decode cX11_judge 28 = .ok (.iload_n 3, 1) := by decide +kernel
theorem dX11_judge_29 : decode cX11_judge 29 = .ok (.aload_n 0, 1) := by decide +kernel
theorem dX11_judge_30 : decode cX11_judge 30 = .ok (.getfield 85, 3) := by decide +kernel
theorem dX11_judge_33 : decode cX11_judge 33 = .ok (.if_icmp .ge 41, 3) := by decide +kernel
theorem dX11_judge_36 : decode cX11_judge 36 = .ok (.aload_n 0, 1) := by decide +kernel
theorem dX11_judge_37 : decode cX11_judge 37 = .ok (.iload_n 3, 1) := by decide +kernel
theorem dX11_judge_38 : decode cX11_judge 38 = .ok (.invokevirtual 220, 3) := by decide +kernel
theorem dX11_judge_41 : decode cX11_judge 41 = .ok (.istore 4, 2) := by decide +kernel
theorem dX11_judge_43 : decode cX11_judge 43 = .ok (.iload_n 2, 1) := by decide +kernel
theorem dX11_judge_44 : decode cX11_judge 44 = .ok (.iconst 1, 1) := by decide +kernel
theorem dX11_judge_45 : decode cX11_judge 45 = .ok (.aload_n 0, 1) := by decide +kernel
theorem dX11_judge_46 : decode cX11_judge 46 = .ok (.getfield 30, 3) := by decide +kernel
theorem dX11_judge_49 : decode cX11_judge 49 = .ok (.invokevirtual 162, 3) := by decide +kernel
theorem dX11_judge_52 : decode cX11_judge 52 = .ok (.invokestatic 231, 3) := by decide +kernel
theorem dX11_judge_55 : decode cX11_judge 55 = .ok (.iload 4, 2) := by decide +kernel
theorem dX11_judge_57 : decode cX11_judge 57 = .ok (.invokestatic 122, 3) := by decide +kernel
theorem dX11_judge_60 : decode cX11_judge 60 = .ok (.ifCond .ne 5, 3) := by decide +kernel
theorem dX11_judge_63 : decode cX11_judge 63 = .ok (.iload_n 3, 1) := by decide +kernel
theorem dX11_judge_64 : decode cX11_judge 64 = .ok (.ireturn, 1) := by decide +kernel
theorem dX11_judge_65 : decode cX11_judge 65 = .ok (.iload 4, 2) := by decide +kernel
theorem dX11_judge_67 : decode cX11_judge 67 = .ok (.istore_n 2, 1) := by decide +kernel
theorem dX11_judge_68 : decode cX11_judge 68 = .ok (.iinc 3 1, 3) := by decide +kernel
theorem dX11_judge_71 : decode cX11_judge 71 = .ok (.goto (-43), 3) := by decide +kernel
theorem dX11_judge_74 : decode cX11_judge 74 = .ok (.bipush (-9), 2) := by decide +kernel
theorem dX11_judge_76 : decode cX11_judge 76 = .ok (.ireturn, 1) := by decide +kernel
set_option maxRecDepth 20000 in
theorem ggX11_caught_X10_isPerson : GoodIn wsX11_caught wsX10_isPerson := goodIn_r _ [7, 8, 107, 108, 109, 110, 111, 112] (by decide +kernel) (by decide +kernel)
set_option maxRecDepth 20000 in
theorem gX11_caught_X10_isPerson : GoodIn wsX11_caught (wsV RX11 156 RX10 yX10_isPerson wsX10_isPerson) := goodIn_app (goodIn_of _ (by decide +kernel)) ggX11_caught_X10_isPerson
set_option maxRecDepth 20000 in
theorem ggX11_caught_X11_refuse : GoodIn wsX11_caught wsX11_refuse := goodIn_r _ [13, 14, 99, 100, 101, 102, 103, 104, 105, 106] (by decide +kernel) (by decide +kernel)
set_option maxRecDepth 20000 in
theorem gX11_caught_X11_refuse : GoodIn wsX11_caught (wsV RX11 36 RX11 yX11_refuse wsX11_refuse) := goodIn_app (goodIn_of _ (by decide +kernel)) ggX11_caught_X11_refuse
set_option maxRecDepth 20000 in
theorem ggX11_caught_X10_litBut : GoodIn wsX11_caught wsX10_litBut := goodIn_r _ [18, 19, 20, 21, 6, 22, 23, 24, 25, 26, 27, 28, 29, 30, 31, 32, 33, 34, 35, 36, 37, 38, 39, 40, 41, 42, 43, 44, 45, 46, 47, 48, 49, 50, 51, 52, 53, 54, 55, 56, 57, 8, 58, 59, 60, 61, 62, 63, 64, 65, 66, 67, 68, 69, 70, 71, 72, 73, 74, 75, 76, 77, 78, 79, 80, 81, 82, 83, 84, 85, 86, 87, 88, 89, 90, 107, 108, 109, 110, 111, 112, 113, 114, 115, 116, 117, 118, 119, 120, 121, 122, 123, 124, 125, 126, 127, 128, 129, 130, 131, 132, 133, 134, 135, 136, 137, 138, 139, 140, 141, 142, 143, 144, 145, 146, 147] (by decide +kernel) (by decide +kernel)
set_option maxRecDepth 20000 in
theorem gX11_caught_X10_litBut : GoodIn wsX11_caught (wsV RX11 170 RX10 yX10_litBut wsX10_litBut) := goodIn_app (goodIn_of _ (by decide +kernel)) ggX11_caught_X10_litBut
set_option maxRecDepth 20000 in
theorem ggX11_caught_X11_inRowAt : GoodIn wsX11_caught wsX11_inRowAt := goodIn_r _ [94, 95, 99, 100, 101, 102, 103, 104, 105, 106] (by decide +kernel) (by decide +kernel)
set_option maxRecDepth 20000 in
theorem gX11_caught_X11_inRowAt : GoodIn wsX11_caught (wsV RX11 220 RX11 yX11_inRowAt wsX11_inRowAt) := goodIn_app (goodIn_of _ (by decide +kernel)) ggX11_caught_X11_inRowAt
set_option maxRecDepth 20000 in
theorem ggX11_caught_X2_has : GoodIn wsX11_caught wsX2_has := goodIn_r _ [98, 76, 77, 74, 78] (by decide +kernel) (by decide +kernel)
set_option maxRecDepth 20000 in
theorem gX11_caught_X2_has : GoodIn wsX11_caught (va_wsS RX11 122 yX2_has wsX2_has) := goodIn_app (goodIn_of _ (by decide +kernel)) ggX11_caught_X2_has
theorem dX11_caught_0 : decode cX11_caught 0 = .ok (.aload_n 0, 1) := by decide +kernel
theorem dX11_caught_1 : decode cX11_caught 1 = .ok (.getfield 30, 3) := by decide +kernel
theorem dX11_caught_4 : decode cX11_caught 4 = .ok (.iload_n 1, 1) := by decide +kernel
theorem dX11_caught_5 : decode cX11_caught 5 = .ok (.invokevirtual 156, 3) := by decide +kernel
theorem dX11_caught_8 : decode cX11_caught 8 = .ok (.ifCond .ne 9, 3) := by decide +kernel
theorem dX11_caught_11 : decode cX11_caught 11 = .ok (.aload_n 0, 1) := by decide +kernel
theorem dX11_caught_12 : decode cX11_caught 12 = .ok (.iconst (-1), 1) := by decide +kernel
theorem dX11_caught_13 : decode cX11_caught 13 = .ok (.invokevirtual 36, 3) := by decide +kernel
theorem dX11_caught_16 : decode cX11_caught 16 = .ok (.ireturn, 1) := by decide +kernel
theorem dX11_caught_17 : decode cX11_caught 17 = .ok (.aload_n 0, 1) := by decide +kernel
theorem dX11_caught_18 : decode cX11_caught 18 = .ok (.getfield 30, 3) := by decide +kernel
theorem dX11_caught_21 : decode cX11_caught 21 = .ok (.iconst 0, 1) := by decide +kernel
theorem dX11_caught_22 : decode cX11_caught 22 = .ok (.invokevirtual 170, 3) := by decide +kernel
theorem dX11_caught_25 : decode cX11_caught 25 = .ok (.lstore_n 2, 1) := by decide +kernel
theorem dX11_caught_26 : decode cX11_caught 26 = .ok (.bipush (-9), 2) := by decide +kernel
theorem dX11_caught_28 : decode cX11_caught 28 = .ok (.istore 4, 2) := by decide +kernel
theorem dX11_caught_30 : decode cX11_caught 30 = .ok (.iconst 0, 1) := by decide +kernel
theorem dX11_caught_31 : decode cX11_caught 31 = .ok (.istore 5, 2) := by decide +kernel
theorem dX11_caught_33 : decode cX11_caught 33 = .ok (.iload 5, 2) := by decide +kernel
theorem dX11_caught_35 : decode cX11_caught 35 = .ok (.aload_n 0, 1) := by decide +kernel
theorem dX11_caught_36 : decode cX11_caught 36 = .ok (.getfield 85, 3) := by decide +kernel
theorem dX11_caught_39 : decode cX11_caught 39 = .ok (.if_icmp .ge 31, 3) := by decide +kernel
theorem dX11_caught_42 : decode cX11_caught 42 = .ok (.iload 4, 2) := by decide +kernel
theorem dX11_caught_44 : decode cX11_caught 44 = .ok (.ifCond .ge 26, 3) := by decide +kernel
theorem dX11_caught_47 : decode cX11_caught 47 = .ok (.lload_n 2, 1) := by decide +kernel
theorem dX11_caught_48 : decode cX11_caught 48 = .ok (.aload_n 0, 1) := by decide +kernel
theorem dX11_caught_49 : decode cX11_caught 49 = .ok (.iload 5, 2) := by decide +kernel
theorem dX11_caught_51 : decode cX11_caught 51 = .ok (.invokevirtual 220, 3) := by decide +kernel
theorem dX11_caught_54 : decode cX11_caught 54 = .ok (.invokestatic 122, 3) := by decide +kernel
theorem dX11_caught_57 : decode cX11_caught 57 = .ok (.ifCond .eq 7, 3) := by decide +kernel
theorem dX11_caught_60 : decode cX11_caught 60 = .ok (.iload 5, 2) := by decide +kernel
theorem dX11_caught_62 : decode cX11_caught 62 = .ok (.istore 4, 2) := by decide +kernel
theorem dX11_caught_64 : decode cX11_caught 64 = .ok (.iinc 5 1, 3) := by decide +kernel
theorem dX11_caught_67 : decode cX11_caught 67 = .ok (.goto (-34), 3) := by decide +kernel
theorem dX11_caught_70 : decode cX11_caught 70 = .ok (.aload_n 0, 1) := by decide +kernel
theorem dX11_caught_71 : decode cX11_caught 71 = .ok (.iconst 0, 1) := by decide +kernel
theorem dX11_caught_72 : decode cX11_caught 72 = .ok (.putfield 85, 3) := by decide +kernel
theorem dX11_caught_75 : decode cX11_caught 75 = .ok (.iload 4, 2) := by decide +kernel
theorem dX11_caught_77 : decode cX11_caught 77 = .ok (.ireturn, 1) := by decide +kernel
set_option maxRecDepth 20000 in
theorem ggX11_lots_X10_isPerson : GoodIn wsX11_lots wsX10_isPerson := goodIn_r _ [8, 9, 140, 141, 142, 143, 144, 145] (by decide +kernel) (by decide +kernel)
set_option maxRecDepth 20000 in
theorem gX11_lots_X10_isPerson : GoodIn wsX11_lots (wsV RX11 156 RX10 yX10_isPerson wsX10_isPerson) := goodIn_app (goodIn_of _ (by decide +kernel)) ggX11_lots_X10_isPerson
set_option maxRecDepth 20000 in
theorem ggX11_lots_X11_refuse : GoodIn wsX11_lots wsX11_refuse := goodIn_r _ [14, 15, 132, 133, 134, 135, 136, 137, 138, 139] (by decide +kernel) (by decide +kernel)
set_option maxRecDepth 20000 in
theorem gX11_lots_X11_refuse : GoodIn wsX11_lots (wsV RX11 36 RX11 yX11_refuse wsX11_refuse) := goodIn_app (goodIn_of _ (by decide +kernel)) ggX11_lots_X11_refuse
set_option maxRecDepth 20000 in
theorem ggX11_lots_X11_outside : GoodIn wsX11_lots wsX11_outside := goodIn_r _ [18] (by decide +kernel) (by decide +kernel)
set_option maxRecDepth 20000 in
theorem gX11_lots_X11_outside : GoodIn wsX11_lots (va_wsS RX11 143 yX11_outside wsX11_outside) := goodIn_app (goodIn_of _ (by decide +kernel)) ggX11_lots_X11_outside
set_option maxRecDepth 20000 in
theorem ggX11_lots_X10_lampAt : GoodIn wsX11_lots wsX10_lampAt := goodIn_r _ [22, 23, 24, 140, 141, 142, 143, 144, 145] (by decide +kernel) (by decide +kernel)
set_option maxRecDepth 20000 in
theorem gX11_lots_X10_lampAt : GoodIn wsX11_lots (wsV RX11 71 RX10 yX10_lampAt wsX10_lampAt) := goodIn_app (goodIn_of _ (by decide +kernel)) ggX11_lots_X10_lampAt
set_option maxRecDepth 20000 in
theorem ggX11_lots_X0_kind : GoodIn wsX11_lots wsX0_kind := goodIn_r _ [31] (by decide +kernel) (by decide +kernel)
set_option maxRecDepth 20000 in
theorem gX11_lots_X0_kind_u95X0 : GoodIn wsX11_lots (va_wsO RX11 95 RX0 "LampsThatRemember$Lamp" ⟨"LampsThatRemember$Lamp", "kind", "()I"⟩ yX0_kind wsX0_kind) := goodIn_app (goodIn_of _ (by decide +kernel)) ggX11_lots_X0_kind
set_option maxRecDepth 20000 in
theorem ggX11_lots_X1_kind : GoodIn wsX11_lots wsX1_kind := goodIn_r _ [36] (by decide +kernel) (by decide +kernel)
set_option maxRecDepth 20000 in
theorem gX11_lots_X1_kind_u95X1 : GoodIn wsX11_lots (va_wsO RX11 95 RX1 "LampsThatRemember$Lamp" ⟨"LampsThatRemember$Lamp", "kind", "()I"⟩ yX1_kind wsX1_kind) := goodIn_app (goodIn_of _ (by decide +kernel)) ggX11_lots_X1_kind
set_option maxRecDepth 20000 in
theorem ggX11_lots_X3_kind : GoodIn wsX11_lots wsX3_kind := goodIn_r _ [40] (by decide +kernel) (by decide +kernel)
set_option maxRecDepth 20000 in
theorem gX11_lots_X3_kind_u95X3 : GoodIn wsX11_lots (va_wsO RX11 95 RX3 "LampsThatRemember$Lamp" ⟨"LampsThatRemember$Lamp", "kind", "()I"⟩ yX3_kind wsX3_kind) := goodIn_app (goodIn_of _ (by decide +kernel)) ggX11_lots_X3_kind
set_option maxRecDepth 20000 in
theorem ggX11_lots_X4_kind : GoodIn wsX11_lots wsX4_kind := goodIn_r _ [44] (by decide +kernel) (by decide +kernel)
set_option maxRecDepth 20000 in
theorem gX11_lots_X4_kind_u95X4 : GoodIn wsX11_lots (va_wsO RX11 95 RX4 "LampsThatRemember$Lamp" ⟨"LampsThatRemember$Lamp", "kind", "()I"⟩ yX4_kind wsX4_kind) := goodIn_app (goodIn_of _ (by decide +kernel)) ggX11_lots_X4_kind
set_option maxRecDepth 20000 in
theorem ggX11_lots_X5_kind : GoodIn wsX11_lots wsX5_kind := goodIn_r _ [32] (by decide +kernel) (by decide +kernel)
set_option maxRecDepth 20000 in
theorem gX11_lots_X5_kind : GoodIn wsX11_lots (wsV RX11 95 RX5 yX5_kind wsX5_kind) := goodIn_app (goodIn_of _ (by decide +kernel)) ggX11_lots_X5_kind
set_option maxRecDepth 20000 in
theorem ggX11_lots_X7_kind : GoodIn wsX11_lots wsX7_kind := goodIn_r _ [52] (by decide +kernel) (by decide +kernel)
set_option maxRecDepth 20000 in
theorem gX11_lots_X7_kind_u95X7 : GoodIn wsX11_lots (va_wsO RX11 95 RX7 "LampsThatRemember$Lamp" ⟨"LampsThatRemember$Lamp", "kind", "()I"⟩ yX7_kind wsX7_kind) := goodIn_app (goodIn_of _ (by decide +kernel)) ggX11_lots_X7_kind
set_option maxRecDepth 20000 in
theorem ggX11_lots_X8_kind : GoodIn wsX11_lots wsX8_kind := goodIn_r _ [56] (by decide +kernel) (by decide +kernel)
set_option maxRecDepth 20000 in
theorem gX11_lots_X8_kind_u95X8 : GoodIn wsX11_lots (va_wsO RX11 95 RX8 "LampsThatRemember$Lamp" ⟨"LampsThatRemember$Lamp", "kind", "()I"⟩ yX8_kind wsX8_kind) := goodIn_app (goodIn_of _ (by decide +kernel)) ggX11_lots_X8_kind
set_option maxRecDepth 20000 in
theorem ggX11_lots_X5_glow : GoodIn wsX11_lots wsX5_glow := goodIn_r _ [61, 62, 63, 64, 65, 66, 48, 67, 68, 69, 70, 71, 35, 72, 73, 74, 75, 76, 77, 7, 78, 9, 79, 80, 81, 82, 83, 84, 85, 86, 87, 88, 89, 90, 91, 92, 93, 94, 95, 96, 97, 98, 99, 100, 101, 102, 103, 104, 146, 147, 148, 149, 150, 151, 152, 153, 154, 155, 156, 157, 158, 159, 160, 161, 162, 163, 164, 165, 166, 167, 168, 169, 170, 171, 172, 173, 174, 175, 176, 177, 178, 179, 180, 140, 141, 142, 143, 144, 145] (by decide +kernel) (by decide +kernel)
set_option maxRecDepth 20000 in
theorem gX11_lots_X5_glow_u108X0 : GoodIn wsX11_lots (va_wsU RX11 108 RX0 "LampsThatRemember$Lamp" ⟨"LampsThatRemember$Lamp", "glow", "(LLampsThatRemember$Town;)J"⟩ yX5_glow wsX5_glow) := goodIn_app (goodIn_of _ (by decide +kernel)) ggX11_lots_X5_glow
set_option maxRecDepth 20000 in
theorem gX11_lots_X5_glow_u108X1 : GoodIn wsX11_lots (va_wsU RX11 108 RX1 "LampsThatRemember$Lamp" ⟨"LampsThatRemember$Lamp", "glow", "(LLampsThatRemember$Town;)J"⟩ yX5_glow wsX5_glow) := goodIn_app (goodIn_of _ (by decide +kernel)) ggX11_lots_X5_glow
set_option maxRecDepth 20000 in
theorem gX11_lots_X5_glow_u108X3 : GoodIn wsX11_lots (va_wsU RX11 108 RX3 "LampsThatRemember$Lamp" ⟨"LampsThatRemember$Lamp", "glow", "(LLampsThatRemember$Town;)J"⟩ yX5_glow wsX5_glow) := goodIn_app (goodIn_of _ (by decide +kernel)) ggX11_lots_X5_glow
set_option maxRecDepth 20000 in
theorem gX11_lots_X5_glow_u108X4 : GoodIn wsX11_lots (va_wsU RX11 108 RX4 "LampsThatRemember$Lamp" ⟨"LampsThatRemember$Lamp", "glow", "(LLampsThatRemember$Town;)J"⟩ yX5_glow wsX5_glow) := goodIn_app (goodIn_of _ (by decide +kernel)) ggX11_lots_X5_glow
set_option maxRecDepth 20000 in
theorem gX11_lots_X5_glow : GoodIn wsX11_lots (wsV RX11 108 RX5 yX5_glow wsX5_glow) := goodIn_app (goodIn_of _ (by decide +kernel)) ggX11_lots_X5_glow
set_option maxRecDepth 20000 in
theorem gX11_lots_X5_glow_u108X7 : GoodIn wsX11_lots (va_wsU RX11 108 RX7 "LampsThatRemember$Lamp" ⟨"LampsThatRemember$Lamp", "glow", "(LLampsThatRemember$Town;)J"⟩ yX5_glow wsX5_glow) := goodIn_app (goodIn_of _ (by decide +kernel)) ggX11_lots_X5_glow
set_option maxRecDepth 20000 in
theorem gX11_lots_X5_glow_u108X8 : GoodIn wsX11_lots (va_wsU RX11 108 RX8 "LampsThatRemember$Lamp" ⟨"LampsThatRemember$Lamp", "glow", "(LLampsThatRemember$Town;)J"⟩ yX5_glow wsX5_glow) := goodIn_app (goodIn_of _ (by decide +kernel)) ggX11_lots_X5_glow
set_option maxRecDepth 20000 in
theorem ggX11_lots_X10_cellOf : GoodIn wsX11_lots wsX10_cellOf := goodIn_r _ [78, 9, 79, 140, 141, 142, 143, 144, 145] (by decide +kernel) (by decide +kernel)
set_option maxRecDepth 20000 in
theorem gX11_lots_X10_cellOf : GoodIn wsX11_lots (wsV RX11 159 RX10 yX10_cellOf wsX10_cellOf) := goodIn_app (goodIn_of _ (by decide +kernel)) ggX11_lots_X10_cellOf
set_option maxRecDepth 20000 in
theorem ggX11_lots_X11_minutesIn : GoodIn wsX11_lots wsX11_minutesIn := goodIn_r _ [116, 117, 118, 119, 1, 120, 121, 95, 122, 123, 124, 97, 98, 99, 125, 87, 88, 7, 89, 90, 91, 92, 126, 127, 128, 129, 130, 13, 131, 132, 133, 134, 135, 136, 137, 138, 139, 140, 141, 142, 143, 144, 145] (by decide +kernel) (by decide +kernel)
set_option maxRecDepth 20000 in
theorem gX11_lots_X11_minutesIn : GoodIn wsX11_lots (wsV RX11 243 RX11 yX11_minutesIn wsX11_minutesIn) := goodIn_app (goodIn_of _ (by decide +kernel)) ggX11_lots_X11_minutesIn
theorem dX11_lots_0 : decode cX11_lots 0 = .ok (.aload_n 0, 1) := by decide +kernel
theorem dX11_lots_1 : decode cX11_lots 1 = .ok (.getfield 30, 3) := by decide +kernel
theorem dX11_lots_4 : decode cX11_lots 4 = .ok (.iload_n 1, 1) := by decide +kernel
theorem dX11_lots_5 : decode cX11_lots 5 = .ok (.invokevirtual 156, 3) := by decide +kernel
theorem dX11_lots_8 : decode cX11_lots 8 = .ok (.ifCond .ne 9, 3) := by decide +kernel
theorem dX11_lots_11 : decode cX11_lots 11 = .ok (.aload_n 0, 1) := by decide +kernel
theorem dX11_lots_12 : decode cX11_lots 12 = .ok (.iconst (-1), 1) := by decide +kernel
theorem dX11_lots_13 : decode cX11_lots 13 = .ok (.invokevirtual 36, 3) := by decide +kernel
theorem dX11_lots_16 : decode cX11_lots 16 = .ok (.ireturn, 1) := by decide +kernel
theorem dX11_lots_17 : decode cX11_lots 17 = .ok (.iload_n 2, 1) := by decide +kernel
