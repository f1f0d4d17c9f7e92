theorem dX10_litLamps_29 : decode cX10_litLamps 29 = .ok (.iload_n 1, 1) := by decide +kernel
theorem dX10_litLamps_30 : decode cX10_litLamps 30 = .ok (.iconst 1, 1) := by decide +kernel
theorem dX10_litLamps_31 : decode cX10_litLamps 31 = .ok (.iload_n 2, 1) := by decide +kernel
theorem dX10_litLamps_32 : decode cX10_litLamps 32 = .ok (.ishl, 1) := by decide +kernel
theorem dX10_litLamps_33 : decode cX10_litLamps 33 = .ok (.ior, 1) := by decide +kernel
theorem dX10_litLamps_34 : decode cX10_litLamps 34 = .ok (.istore_n 1, 1) := by decide +kernel
theorem dX10_litLamps_35 : decode cX10_litLamps 35 = .ok (.iinc 2 1, 3) := by decide +kernel
theorem dX10_litLamps_38 : decode cX10_litLamps 38 = .ok (.goto (-34), 3) := by decide +kernel
theorem dX10_litLamps_41 : decode cX10_litLamps 41 = .ok (.iload_n 1, 1) := by decide +kernel
theorem dX10_litLamps_42 : decode cX10_litLamps 42 = .ok (.ireturn, 1) := by decide +kernel
set_option maxRecDepth 20000 in
theorem ggX10_allScenes_X10_lampAt : GoodIn wsX10_allScenes wsX10_lampAt := goodIn_r _ [7, 1, 8, 9, 10, 11, 12, 13, 14] (by decide +kernel) (by decide +kernel)
set_option maxRecDepth 20000 in
theorem gX10_allScenes_X10_lampAt : GoodIn wsX10_allScenes (wsV RX10 21 RX10 yX10_lampAt wsX10_lampAt) := goodIn_app (goodIn_of _ (by decide +kernel)) ggX10_allScenes_X10_lampAt
theorem dX10_allScenes_0 : decode cX10_allScenes 0 = .ok (.iconst 0, 1) := by decide +kernel
theorem dX10_allScenes_1 : decode cX10_allScenes 1 = .ok (.istore_n 1, 1) := by decide +kernel
theorem dX10_allScenes_2 : decode cX10_allScenes 2 = .ok (.iconst 0, 1) := by decide +kernel
theorem dX10_allScenes_3 : decode cX10_allScenes 3 = .ok (.istore_n 2, 1) := by decide +kernel
theorem dX10_allScenes_4 : decode cX10_allScenes 4 = .ok (.iload_n 2, 1) := by decide +kernel
theorem dX10_allScenes_5 : decode cX10_allScenes 5 = .ok (.aload_n 0, 1) := by decide +kernel
theorem dX10_allScenes_6 : decode cX10_allScenes 6 = .ok (.getfield 37, 3) := by decide +kernel
theorem dX10_allScenes_9 : decode cX10_allScenes 9 = .ok (.if_icmp .ge 30, 3) := by decide +kernel
theorem dX10_allScenes_12 : decode cX10_allScenes 12 = .ok (.aload_n 0, 1) := by decide +kernel
theorem dX10_allScenes_13 : decode cX10_allScenes 13 = .ok (.iload_n 2, 1) := by decide +kernel
theorem dX10_allScenes_14 : decode cX10_allScenes 14 = .ok (.invokevirtual 21, 3) := by decide +kernel
theorem dX10_allScenes_17 : decode cX10_allScenes 17 = .ok (.astore_n 3, 1) := by decide +kernel
theorem dX10_allScenes_18 : decode cX10_allScenes 18 = .ok (.iload_n 1, 1) := by decide +kernel
theorem dX10_allScenes_19 : decode cX10_allScenes 19 = .ok (.aload_n 3, 1) := by decide +kernel
theorem dX10_allScenes_20 : decode cX10_allScenes 20 = .ok (.ifnonnull 7, 3) := by decide +kernel
theorem dX10_allScenes_23 : decode cX10_allScenes 23 = .ok (.iconst 0, 1) := by decide +kernel
theorem dX10_allScenes_24 : decode cX10_allScenes 24 = .ok (.goto 7, 3) := by decide +kernel
theorem dX10_allScenes_27 : decode cX10_allScenes 27 = .ok (.aload_n 3, 1) := by decide +kernel
theorem dX10_allScenes_28 : decode cX10_allScenes 28 = .ok (.getfield 127, 3) := by decide +kernel
theorem dX10_allScenes_31 : decode cX10_allScenes 31 = .ok (.iadd, 1) := by decide +kernel
theorem dX10_allScenes_32 : decode cX10_allScenes 32 = .ok (.istore_n 1, 1) := by decide +kernel
theorem dX10_allScenes_33 : decode cX10_allScenes 33 = .ok (.iinc 2 1, 3) := by decide +kernel
theorem dX10_allScenes_36 : decode cX10_allScenes 36 = .ok (.goto (-32), 3) := by decide +kernel
theorem dX10_allScenes_39 : decode cX10_allScenes 39 = .ok (.iload_n 1, 1) := by decide +kernel
theorem dX10_allScenes_40 : decode cX10_allScenes 40 = .ok (.ireturn, 1) := by decide +kernel
set_option maxRecDepth 20000 in
theorem ggX10_peopleOn_X10_cellOf : GoodIn wsX10_peopleOn wsX10_cellOf := goodIn_r _ [6, 1, 7, 15, 16, 17, 18, 19, 20] (by decide +kernel) (by decide +kernel)
set_option maxRecDepth 20000 in
theorem gX10_peopleOn_X10_cellOf : GoodIn wsX10_peopleOn (wsV RX10 29 RX10 yX10_cellOf wsX10_cellOf) := goodIn_app (goodIn_of _ (by decide +kernel)) ggX10_peopleOn_X10_cellOf
set_option maxRecDepth 20000 in
theorem ggX10_peopleOn_X2_has : GoodIn wsX10_peopleOn wsX2_has := goodIn_r _ [11, 12, 13, 10, 14] (by decide +kernel) (by decide +kernel)
set_option maxRecDepth 20000 in
theorem gX10_peopleOn_X2_has : GoodIn wsX10_peopleOn (va_wsS RX10 74 yX2_has wsX2_has) := goodIn_app (goodIn_of _ (by decide +kernel)) ggX10_peopleOn_X2_has
theorem dX10_peopleOn_0 : decode cX10_peopleOn 0 = .ok (.iconst 0, 1) := by decide +kernel
theorem dX10_peopleOn_1 : decode cX10_peopleOn 1 = .ok (.istore_n 3, 1) := by decide +kernel
theorem dX10_peopleOn_2 : decode cX10_peopleOn 2 = .ok (.iconst 0, 1) := by decide +kernel
theorem dX10_peopleOn_3 : decode cX10_peopleOn 3 = .ok (.istore 4, 2) := by decide +kernel
theorem dX10_peopleOn_5 : decode cX10_peopleOn 5 = .ok (.iload 4, 2) := by decide +kernel
theorem dX10_peopleOn_7 : decode cX10_peopleOn 7 = .ok (.aload_n 0, 1) := by decide +kernel
theorem dX10_peopleOn_8 : decode cX10_peopleOn 8 = .ok (.getfield 41, 3) := by decide +kernel
theorem dX10_peopleOn_11 : decode cX10_peopleOn 11 = .ok (.if_icmp .ge 29, 3) := by decide +kernel
theorem dX10_peopleOn_14 : decode cX10_peopleOn 14 = .ok (.lload_n 1, 1) := by decide +kernel
theorem dX10_peopleOn_15 : decode cX10_peopleOn 15 = .ok (.aload_n 0, 1) := by decide +kernel
theorem dX10_peopleOn_16 : decode cX10_peopleOn 16 = .ok (.iload 4, 2) := by decide +kernel
theorem dX10_peopleOn_18 : decode cX10_peopleOn 18 = .ok (.invokevirtual 29, 3) := by decide +kernel
theorem dX10_peopleOn_21 : decode cX10_peopleOn 21 = .ok (.invokestatic 74, 3) := by decide +kernel
theorem dX10_peopleOn_24 : decode cX10_peopleOn 24 = .ok (.ifCond .eq 10, 3) := by decide +kernel
theorem dX10_peopleOn_27 : decode cX10_peopleOn 27 = .ok (.iload_n 3, 1) := by decide +kernel
theorem dX10_peopleOn_28 : decode cX10_peopleOn 28 = .ok (.iconst 1, 1) := by decide +kernel
theorem dX10_peopleOn_29 : decode cX10_peopleOn 29 = .ok (.iload 4, 2) := by decide +kernel
theorem dX10_peopleOn_31 : decode cX10_peopleOn 31 = .ok (.ishl, 1) := by decide +kernel
theorem dX10_peopleOn_32 : decode cX10_peopleOn 32 = .ok (.ior, 1) := by decide +kernel
theorem dX10_peopleOn_33 : decode cX10_peopleOn 33 = .ok (.istore_n 3, 1) := by decide +kernel
theorem dX10_peopleOn_34 : decode cX10_peopleOn 34 = .ok (.iinc 4 1, 3) := by decide +kernel
theorem dX10_peopleOn_37 : decode cX10_peopleOn 37 = .ok (.goto (-32), 3) := by decide +kernel
theorem dX10_peopleOn_40 : decode cX10_peopleOn 40 = .ok (.iload_n 3, 1) := by decide +kernel
theorem dX10_peopleOn_41 : decode cX10_peopleOn 41 = .ok (.ireturn, 1) := by decide +kernel
set_option maxRecDepth 20000 in
theorem ggX10_unlikeScenesShownTo_X10_lampAt : GoodIn wsX10_unlikeScenesShownTo wsX10_lampAt := goodIn_r _ [6, 1, 7, 122, 123, 124, 125, 126, 127] (by decide +kernel) (by decide +kernel)
set_option maxRecDepth 20000 in
theorem gX10_unlikeScenesShownTo_X10_lampAt : GoodIn wsX10_unlikeScenesShownTo (wsV RX10 21 RX10 yX10_lampAt wsX10_lampAt) := goodIn_app (goodIn_of _ (by decide +kernel)) ggX10_unlikeScenesShownTo_X10_lampAt
set_option maxRecDepth 20000 in
theorem ggX10_unlikeScenesShownTo_X5_glow : GoodIn wsX10_unlikeScenesShownTo wsX5_glow := goodIn_r _ [13, 14, 15, 16, 17, 18, 12, 19, 20, 21, 22, 23, 24, 25, 26, 27, 28, 29, 30, 5, 31, 32, 33, 34, 35, 36, 37, 38, 39, 40, 41, 42, 43, 44, 45, 46, 47, 48, 49, 50, 51, 52, 53, 54, 55, 56, 57, 58, 128, 129, 130, 131, 132, 133, 134, 135, 136, 137, 138, 139, 140, 141, 142, 143, 144, 145, 146, 147, 148, 149, 150, 151, 152, 153, 154, 155, 156, 157, 158, 159, 160, 161, 162, 122, 123, 124, 125, 126, 127] (by decide +kernel) (by decide +kernel)
set_option maxRecDepth 20000 in
theorem gX10_unlikeScenesShownTo_X5_glow_u112X0 : GoodIn wsX10_unlikeScenesShownTo (va_wsU RX10 112 RX0 "LampsThatRemember$Lamp" ⟨"LampsThatRemember$Lamp", "glow", "(LLampsThatRemember$Town;)J"⟩ yX5_glow wsX5_glow) := goodIn_app (goodIn_of _ (by decide +kernel)) ggX10_unlikeScenesShownTo_X5_glow
set_option maxRecDepth 20000 in
theorem gX10_unlikeScenesShownTo_X5_glow_u112X1 : GoodIn wsX10_unlikeScenesShownTo (va_wsU RX10 112 RX1 "LampsThatRemember$Lamp" ⟨"LampsThatRemember$Lamp", "glow", "(LLampsThatRemember$Town;)J"⟩ yX5_glow wsX5_glow) := goodIn_app (goodIn_of _ (by decide +kernel)) ggX10_unlikeScenesShownTo_X5_glow
set_option maxRecDepth 20000 in
theorem gX10_unlikeScenesShownTo_X5_glow_u112X3 : GoodIn wsX10_unlikeScenesShownTo (va_wsU RX10 112 RX3 "LampsThatRemember$Lamp" ⟨"LampsThatRemember$Lamp", "glow", "(LLampsThatRemember$Town;)J"⟩ yX5_glow wsX5_glow) := goodIn_app (goodIn_of _ (by decide +kernel)) ggX10_unlikeScenesShownTo_X5_glow
set_option maxRecDepth 20000 in
theorem gX10_unlikeScenesShownTo_X5_glow_u112X4 : GoodIn wsX10_unlikeScenesShownTo (va_wsU RX10 112 RX4 "LampsThatRemember$Lamp" ⟨"LampsThatRemember$Lamp", "glow", "(LLampsThatRemember$Town;)J"⟩ yX5_glow wsX5_glow) := goodIn_app (goodIn_of _ (by decide +kernel)) ggX10_unlikeScenesShownTo_X5_glow
set_option maxRecDepth 20000 in
theorem gX10_unlikeScenesShownTo_X5_glow : GoodIn wsX10_unlikeScenesShownTo (wsV RX10 112 RX5 yX5_glow wsX5_glow) := goodIn_app (goodIn_of _ (by decide +kernel)) ggX10_unlikeScenesShownTo_X5_glow
set_option maxRecDepth 20000 in
theorem gX10_unlikeScenesShownTo_X5_glow_u112X7 : GoodIn wsX10_unlikeScenesShownTo (va_wsU RX10 112 RX7 "LampsThatRemember$Lamp" ⟨"LampsThatRemember$Lamp", "glow", "(LLampsThatRemember$Town;)J"⟩ yX5_glow wsX5_glow) := goodIn_app (goodIn_of _ (by decide +kernel)) ggX10_unlikeScenesShownTo_X5_glow
set_option maxRecDepth 20000 in
theorem gX10_unlikeScenesShownTo_X5_glow_u112X8 : GoodIn wsX10_unlikeScenesShownTo (va_wsU RX10 112 RX8 "LampsThatRemember$Lamp" ⟨"LampsThatRemember$Lamp", "glow", "(LLampsThatRemember$Town;)J"⟩ yX5_glow wsX5_glow) := goodIn_app (goodIn_of _ (by decide +kernel)) ggX10_unlikeScenesShownTo_X5_glow
set_option maxRecDepth 20000 in
theorem ggX10_unlikeScenesShownTo_X10_scenesNotOf : GoodIn wsX10_unlikeScenesShownTo wsX10_scenesNotOf := goodIn_r _ [69, 70, 71, 72, 73, 74, 12, 75, 76, 77, 78, 79, 80, 81, 82, 83, 84, 85, 86, 87, 5, 88, 1, 2, 3, 4, 6, 7, 89, 90, 91, 92, 93, 94, 95, 96, 97, 98, 99, 100, 101, 102, 103, 104, 105, 106, 107, 108, 109, 110, 111, 112, 113, 114, 115, 116, 117, 118, 119, 120, 121, 128, 129, 130, 131, 132, 133, 134, 135, 136, 137, 138, 139, 140, 141, 142, 143, 144, 145, 146, 147, 148, 149, 150, 151, 152, 153, 154, 155, 156, 157, 158, 159, 160, 161, 162, 122, 123, 124, 125, 126, 127] (by decide +kernel) (by decide +kernel)
set_option maxRecDepth 20000 in
theorem gX10_unlikeScenesShownTo_X10_scenesNotOf : GoodIn wsX10_unlikeScenesShownTo (wsV RX10 130 RX10 yX10_scenesNotOf wsX10_scenesNotOf) := goodIn_app (goodIn_of _ (by decide +kernel)) ggX10_unlikeScenesShownTo_X10_scenesNotOf
theorem dX10_unlikeScenesShownTo_0 : decode cX10_unlikeScenesShownTo 0 = .ok (.iconst 0, 1) := by decide +kernel
theorem dX10_unlikeScenesShownTo_1 : decode cX10_unlikeScenesShownTo 1 = .ok (.istore_n 3, 1) := by decide +kernel
theorem dX10_unlikeScenesShownTo_2 : decode cX10_unlikeScenesShownTo 2 = .ok (.iconst 0, 1) := by decide +kernel
theorem dX10_unlikeScenesShownTo_3 : decode cX10_unlikeScenesShownTo 3 = .ok (.istore 4, 2) := by decide +kernel
theorem dX10_unlikeScenesShownTo_5 : decode cX10_unlikeScenesShownTo 5 = .ok (.iconst 0, 1) := by decide +kernel
theorem dX10_unlikeScenesShownTo_6 : decode cX10_unlikeScenesShownTo 6 = .ok (.istore 5, 2) := by decide +kernel
theorem dX10_unlikeScenesShownTo_8 : decode cX10_unlikeScenesShownTo 8 = .ok (.iload 5, 2) := by decide +kernel
theorem dX10_unlikeScenesShownTo_10 : decode cX10_unlikeScenesShownTo 10 = .ok (.aload_n 0, 1) := by decide +kernel
theorem dX10_unlikeScenesShownTo_11 : decode cX10_unlikeScenesShownTo 11 = .ok (.getfield 37, 3) := by decide +kernel
theorem dX10_unlikeScenesShownTo_14 : decode cX10_unlikeScenesShownTo 14 = .ok (.if_icmp .ge 55, 3) := by decide +kernel
theorem dX10_unlikeScenesShownTo_17 : decode cX10_unlikeScenesShownTo 17 = .ok (.aload_n 0, 1) := by decide +kernel
theorem dX10_unlikeScenesShownTo_18 : decode cX10_unlikeScenesShownTo 18 = .ok (.iload 5, 2) := by decide +kernel
theorem dX10_unlikeScenesShownTo_20 : decode cX10_unlikeScenesShownTo 20 = .ok (.invokevirtual 21, 3) := by decide +kernel
theorem dX10_unlikeScenesShownTo_23 : decode cX10_unlikeScenesShownTo 23 = .ok (.astore 6, 2) := by decide +kernel
theorem dX10_unlikeScenesShownTo_25 : decode cX10_unlikeScenesShownTo 25 = .ok (.aload 6, 2) := by decide +kernel
theorem dX10_unlikeScenesShownTo_27 : decode cX10_unlikeScenesShownTo 27 = .ok (.ifnull 36, 3) := by decide +kernel
theorem dX10_unlikeScenesShownTo_30 : decode cX10_unlikeScenesShownTo 30 = .ok (.aload 6, 2) := by decide +kernel
theorem dX10_unlikeScenesShownTo_32 : decode cX10_unlikeScenesShownTo 32 = .ok (.aload_n 0, 1) := by decide +kernel
theorem dX10_unlikeScenesShownTo_33 : decode cX10_unlikeScenesShownTo 33 = .ok (.invokevirtual 112, 3) := by decide +kernel
theorem dX10_unlikeScenesShownTo_36 : decode cX10_unlikeScenesShownTo 36 = .ok (.lload_n 1, 1) := by decide +kernel
theorem dX10_unlikeScenesShownTo_37 : decode cX10_unlikeScenesShownTo 37 = .ok (.land, 1) := by decide +kernel
theorem dX10_unlikeScenesShownTo_38 : decode cX10_unlikeScenesShownTo 38 = .ok (.lconst 0, 1) := by decide +kernel
theorem dX10_unlikeScenesShownTo_39 : decode cX10_unlikeScenesShownTo 39 = .ok (.lcmp, 1) := by decide +kernel
theorem dX10_unlikeScenesShownTo_40 : decode cX10_unlikeScenesShownTo 40 = .ok (.ifCond .eq 23, 3) := by decide +kernel
theorem dX10_unlikeScenesShownTo_43 : decode cX10_unlikeScenesShownTo 43 = .ok (.iload_n 3, 1) := by decide +kernel
theorem dX10_unlikeScenesShownTo_44 : decode cX10_unlikeScenesShownTo 44 = .ok (.aload_n 0, 1) := by decide +kernel
theorem dX10_unlikeScenesShownTo_45 : decode cX10_unlikeScenesShownTo 45 = .ok (.iload 4, 2) := by decide +kernel
theorem dX10_unlikeScenesShownTo_47 : decode cX10_unlikeScenesShownTo 47 = .ok (.aload 6, 2) := by decide +kernel
theorem dX10_unlikeScenesShownTo_49 : decode cX10_unlikeScenesShownTo 49 = .ok (.invokevirtual 130, 3) := by decide +kernel
theorem dX10_unlikeScenesShownTo_52 : decode cX10_unlikeScenesShownTo 52 = .ok (.iadd, 1) := by decide +kernel
theorem dX10_unlikeScenesShownTo_53 : decode cX10_unlikeScenesShownTo 53 = .ok (.istore_n 3, 1) := by decide +kernel
theorem dX10_unlikeScenesShownTo_54 : decode cX10_unlikeScenesShownTo 54 = .ok (.iload 4, 2) := by decide +kernel
theorem dX10_unlikeScenesShownTo_56 : decode cX10_unlikeScenesShownTo 56 = .ok (.iconst 1, 1) := by decide +kernel
theorem dX10_unlikeScenesShownTo_57 : decode cX10_unlikeScenesShownTo 57 = .ok (.iload 5, 2) := by decide +kernel
theorem dX10_unlikeScenesShownTo_59 : decode cX10_unlikeScenesShownTo 59 = .ok (.ishl, 1) := by decide +kernel
theorem dX10_unlikeScenesShownTo_60 : decode cX10_unlikeScenesShownTo 60 = .ok (.ior, 1) := by decide +kernel
theorem dX10_unlikeScenesShownTo_61 : decode cX10_unlikeScenesShownTo 61 = .ok (.istore 4, 2) := by decide +kernel
theorem dX10_unlikeScenesShownTo_63 : decode cX10_unlikeScenesShownTo 63 = .ok (.iinc 5 1, 3) := by decide +kernel
theorem dX10_unlikeScenesShownTo_66 : decode cX10_unlikeScenesShownTo 66 = .ok (.goto (-58), 3) := by decide +kernel
theorem dX10_unlikeScenesShownTo_69 : decode cX10_unlikeScenesShownTo 69 = .ok (.iload_n 3, 1) := by decide +kernel
theorem dX10_unlikeScenesShownTo_70 : decode cX10_unlikeScenesShownTo 70 = .ok (.ireturn, 1) := by decide +kernel
set_option maxRecDepth 20000 in
theorem ggX10_scenesNotOf_X5_sceneAt : GoodIn wsX10_scenesNotOf wsX5_sceneAt := goodIn_r _ [7, 8, 9, 61, 62, 63, 64, 65, 66, 67, 68, 69, 70, 71, 72, 73, 74, 75, 76, 77, 78, 79, 80, 81, 82, 83, 84, 85, 86, 87, 88, 89, 90, 91, 92, 93, 94, 95] (by decide +kernel) (by decide +kernel)
set_option maxRecDepth 20000 in
theorem gX10_scenesNotOf_X5_sceneAt_u134X0 : GoodIn wsX10_scenesNotOf (va_wsU RX10 134 RX0 "LampsThatRemember$Lamp" ⟨"LampsThatRemember$Lamp", "sceneAt", "(I)I"⟩ yX5_sceneAt wsX5_sceneAt) := goodIn_app (goodIn_of _ (by decide +kernel)) ggX10_scenesNotOf_X5_sceneAt
set_option maxRecDepth 20000 in
theorem gX10_scenesNotOf_X5_sceneAt_u134X1 : GoodIn wsX10_scenesNotOf (va_wsU RX10 134 RX1 "LampsThatRemember$Lamp" ⟨"LampsThatRemember$Lamp", "sceneAt", "(I)I"⟩ yX5_sceneAt wsX5_sceneAt) := goodIn_app (goodIn_of _ (by decide +kernel)) ggX10_scenesNotOf_X5_sceneAt
set_option maxRecDepth 20000 in
theorem gX10_scenesNotOf_X5_sceneAt_u134X3 : GoodIn wsX10_scenesNotOf (va_wsU RX10 134 RX3 "LampsThatRemember$Lamp" ⟨"LampsThatRemember$Lamp", "sceneAt", "(I)I"⟩ yX5_sceneAt wsX5_sceneAt) := goodIn_app (goodIn_of _ (by decide +kernel)) ggX10_scenesNotOf_X5_sceneAt
set_option maxRecDepth 20000 in
theorem gX10_scenesNotOf_X5_sceneAt_u134X4 : GoodIn wsX10_scenesNotOf (va_wsU RX10 134 RX4 "LampsThatRemember$Lamp" ⟨"LampsThatRemember$Lamp", "sceneAt", "(I)I"⟩ yX5_sceneAt wsX5_sceneAt) := goodIn_app (goodIn_of _ (by decide +kernel)) ggX10_scenesNotOf_X5_sceneAt
set_option maxRecDepth 20000 in
theorem gX10_scenesNotOf_X5_sceneAt : GoodIn wsX10_scenesNotOf (wsV RX10 134 RX5 yX5_sceneAt wsX5_sceneAt) := goodIn_app (goodIn_of _ (by decide +kernel)) ggX10_scenesNotOf_X5_sceneAt
set_option maxRecDepth 20000 in
theorem gX10_scenesNotOf_X5_sceneAt_u134X7 : GoodIn wsX10_scenesNotOf (va_wsU RX10 134 RX7 "LampsThatRemember$Lamp" ⟨"LampsThatRemember$Lamp", "sceneAt", "(I)I"⟩ yX5_sceneAt wsX5_sceneAt) := goodIn_app (goodIn_of _ (by decide +kernel)) ggX10_scenesNotOf_X5_sceneAt
set_option maxRecDepth 20000 in
theorem gX10_scenesNotOf_X5_sceneAt_u134X8 : GoodIn wsX10_scenesNotOf (va_wsU RX10 134 RX8 "LampsThatRemember$Lamp" ⟨"LampsThatRemember$Lamp", "sceneAt", "(I)I"⟩ yX5_sceneAt wsX5_sceneAt) := goodIn_app (goodIn_of _ (by decide +kernel)) ggX10_scenesNotOf_X5_sceneAt
set_option maxRecDepth 20000 in
theorem ggX10_scenesNotOf_X10_anyHas : GoodIn wsX10_scenesNotOf wsX10_anyHas := goodIn_r _ [21, 22, 23, 24, 25, 20, 26, 27, 28, 29, 30, 31, 6, 32, 33, 34, 35, 36, 37, 38, 39, 40, 41, 8, 42, 3, 4, 5, 7, 9, 10, 11, 12, 43, 14, 15, 16, 44, 45, 46, 47, 48, 49, 50, 51, 52, 53, 54, 55, 56, 57, 96, 97, 98, 99, 100, 101, 61, 62, 63, 64, 65, 66, 67, 68, 69, 70, 71, 72, 73, 74, 75, 76, 77, 78, 79, 80, 81, 82, 83, 84, 85, 86, 87, 88, 89, 90, 91, 92, 93, 94, 95] (by decide +kernel) (by decide +kernel)
set_option maxRecDepth 20000 in
theorem gX10_scenesNotOf_X10_anyHas : GoodIn wsX10_scenesNotOf (wsV RX10 137 RX10 yX10_anyHas wsX10_anyHas) := goodIn_app (goodIn_of _ (by decide +kernel)) ggX10_scenesNotOf_X10_anyHas
set_option maxRecDepth 20000 in
theorem ggX10_scenesNotOf_X11_yes : GoodIn wsX10_scenesNotOf wsX11_yes := goodIn_r _ [60] (by decide +kernel) (by decide +kernel)
set_option maxRecDepth 20000 in
theorem gX10_scenesNotOf_X11_yes_n82 : GoodIn wsX10_scenesNotOf (wsX11_yes) := ggX10_scenesNotOf_X11_yes
theorem dX10_scenesNotOf_0 : decode cX10_scenesNotOf 0 = .ok (.iconst 0, 1) := by decide +kernel
theorem dX10_scenesNotOf_1 : decode cX10_scenesNotOf 1 = .ok (.istore_n 3, 1) := by decide +kernel
theorem dX10_scenesNotOf_2 : decode cX10_scenesNotOf 2 = .ok (.iconst 0, 1) := by decide +kernel
theorem dX10_scenesNotOf_3 : decode cX10_scenesNotOf 3 = .ok (.istore 4, 2) := by decide +kernel
theorem dX10_scenesNotOf_5 : decode cX10_scenesNotOf 5 = .ok (.iload 4, 2) := by decide +kernel
theorem dX10_scenesNotOf_7 : decode cX10_scenesNotOf 7 = .ok (.aload_n 2, 1) := by decide +kernel
theorem dX10_scenesNotOf_8 : decode cX10_scenesNotOf 8 = .ok (.getfield 127, 3) := by decide +kernel
theorem dX10_scenesNotOf_11 : decode cX10_scenesNotOf 11 = .ok (.if_icmp .ge 34, 3) := by decide +kernel
theorem dX10_scenesNotOf_14 : decode cX10_scenesNotOf 14 = .ok (.iload_n 3, 1) := by decide +kernel
theorem dX10_scenesNotOf_15 : decode cX10_scenesNotOf 15 = .ok (.aload_n 0, 1) := by decide +kernel
theorem dX10_scenesNotOf_16 : decode cX10_scenesNotOf 16 = .ok (.iload_n 1, 1) := by decide +kernel
theorem dX10_scenesNotOf_17 : decode cX10_scenesNotOf 17 = .ok (.aload_n 2, 1) := by decide +kernel
theorem dX10_scenesNotOf_18 : decode cX10_scenesNotOf 18 = .ok (.iload 4, 2) := by decide +kernel
theorem dX10_scenesNotOf_20 : decode cX10_scenesNotOf 20 = .ok (.invokevirtual 134, 3) := by decide +kernel
theorem dX10_scenesNotOf_23 : decode cX10_scenesNotOf 23 = .ok (.invokevirtual 137, 3) := by decide +kernel
theorem dX10_scenesNotOf_26 : decode cX10_scenesNotOf 26 = .ok (.ifCond .ne 7, 3) := by decide +kernel
theorem dX10_scenesNotOf_29 : decode cX10_scenesNotOf 29 = .ok (.iconst 1, 1) := by decide +kernel
theorem dX10_scenesNotOf_30 : decode cX10_scenesNotOf 30 = .ok (.goto 4, 3) := by decide +kernel
theorem dX10_scenesNotOf_33 : decode cX10_scenesNotOf 33 = .ok (.iconst 0, 1) := by decide +kernel
theorem dX10_scenesNotOf_34 : decode cX10_scenesNotOf 34 = .ok (.invokestatic 82, 3) := by decide +kernel
theorem dX10_scenesNotOf_37 : decode cX10_scenesNotOf 37 = .ok (.iadd, 1) := by decide +kernel
theorem dX10_scenesNotOf_38 : decode cX10_scenesNotOf 38 = .ok (.istore_n 3, 1) := by decide +kernel
theorem dX10_scenesNotOf_39 : decode cX10_scenesNotOf 39 = .ok (.iinc 4 1, 3) := by decide +kernel
theorem dX10_scenesNotOf_42 : decode cX10_scenesNotOf 42 = .ok (.goto (-37), 3) := by decide +kernel
theorem dX10_scenesNotOf_45 : decode cX10_scenesNotOf 45 = .ok (.iload_n 3, 1) := by decide +kernel
theorem dX10_scenesNotOf_46 : decode cX10_scenesNotOf 46 = .ok (.ireturn, 1) := by decide +kernel
set_option maxRecDepth 20000 in
theorem ggX10_anyHas_X10_lampAt : GoodIn wsX10_anyHas wsX10_lampAt := goodIn_r _ [6, 1, 7, 51, 52, 53, 54, 55, 56] (by decide +kernel) (by decide +kernel)
set_option maxRecDepth 20000 in
theorem gX10_anyHas_X10_lampAt : GoodIn wsX10_anyHas (wsV RX10 21 RX10 yX10_lampAt wsX10_lampAt) := goodIn_app (goodIn_of _ (by decide +kernel)) ggX10_anyHas_X10_lampAt
set_option maxRecDepth 20000 in
theorem ggX10_anyHas_X5_hasScene : GoodIn wsX10_anyHas wsX5_hasScene := goodIn_r _ [13, 14, 15, 16, 17, 18, 19, 20, 21, 12, 22, 23, 24, 25, 26, 27, 28, 29, 30, 31, 32, 33, 34, 35, 36, 37, 38, 39, 40, 41, 42, 43, 57, 58, 59, 60, 61, 62, 63, 64, 65, 66, 67, 68, 69, 70, 71, 72, 73, 74, 75, 76, 77, 78, 79, 80, 81, 82, 83, 84, 85, 86, 87, 88, 89, 90, 91] (by decide +kernel) (by decide +kernel)
set_option maxRecDepth 20000 in
theorem gX10_anyHas_X5_hasScene_u141X0 : GoodIn wsX10_anyHas (va_wsU RX10 141 RX0 "LampsThatRemember$Lamp" ⟨"LampsThatRemember$Lamp", "hasScene", "(I)Z"⟩ yX5_hasScene wsX5_hasScene) := goodIn_app (goodIn_of _ (by decide +kernel)) ggX10_anyHas_X5_hasScene
set_option maxRecDepth 20000 in
theorem gX10_anyHas_X5_hasScene_u141X1 : GoodIn wsX10_anyHas (va_wsU RX10 141 RX1 "LampsThatRemember$Lamp" ⟨"LampsThatRemember$Lamp", "hasScene", "(I)Z"⟩ yX5_hasScene wsX5_hasScene) := goodIn_app (goodIn_of _ (by decide +kernel)) ggX10_anyHas_X5_hasScene
set_option maxRecDepth 20000 in
theorem gX10_anyHas_X5_hasScene_u141X3 : GoodIn wsX10_anyHas (va_wsU RX10 141 RX3 "LampsThatRemember$Lamp" ⟨"LampsThatRemember$Lamp", "hasScene", "(I)Z"⟩ yX5_hasScene wsX5_hasScene) := goodIn_app (goodIn_of _ (by decide +kernel)) ggX10_anyHas_X5_hasScene
set_option maxRecDepth 20000 in
theorem gX10_anyHas_X5_hasScene_u141X4 : GoodIn wsX10_anyHas (va_wsU RX10 141 RX4 "LampsThatRemember$Lamp" ⟨"LampsThatRemember$Lamp", "hasScene", "(I)Z"⟩ yX5_hasScene wsX5_hasScene) := goodIn_app (goodIn_of _ (by decide +kernel)) ggX10_anyHas_X5_hasScene
set_option maxRecDepth 20000 in
theorem gX10_anyHas_X5_hasScene : GoodIn wsX10_anyHas (wsV RX10 141 RX5 yX5_hasScene wsX5_hasScene) := goodIn_app (goodIn_of _ (by decide +kernel)) ggX10_anyHas_X5_hasScene
set_option maxRecDepth 20000 in
theorem gX10_anyHas_X5_hasScene_u141X7 : GoodIn wsX10_anyHas (va_wsU RX10 141 RX7 "LampsThatRemember$Lamp" ⟨"LampsThatRemember$Lamp", "hasScene", "(I)Z"⟩ yX5_hasScene wsX5_hasScene) := goodIn_app (goodIn_of _ (by decide +kernel)) ggX10_anyHas_X5_hasScene
set_option maxRecDepth 20000 in
theorem gX10_anyHas_X5_hasScene_u141X8 : GoodIn wsX10_anyHas (va_wsU RX10 141 RX8 "LampsThatRemember$Lamp" ⟨"LampsThatRemember$Lamp", "hasScene", "(I)Z"⟩ yX5_hasScene wsX5_hasScene) := goodIn_app (goodIn_of _ (by decide +kernel)) ggX10_anyHas_X5_hasScene
theorem dX10_anyHas_0 : decode cX10_anyHas 0 = .ok (.iconst 0, 1) := by decide +kernel
theorem dX10_anyHas_1 : decode cX10_anyHas 1 = .ok (.istore_n 3, 1) := by decide +kernel
theorem dX10_anyHas_2 : decode cX10_anyHas 2 = .ok (.iload_n 3, 1) := by decide +kernel
theorem dX10_anyHas_3 : decode cX10_anyHas 3 = .ok (.aload_n 0, 1) := by decide +kernel
theorem dX10_anyHas_4 : decode cX10_anyHas 4 = .ok (.getfield 37, 3) := by decide +kernel
theorem dX10_anyHas_7 : decode cX10_anyHas 7 = .ok (.if_icmp .ge 41, 3) := by decide +kernel
theorem dX10_anyHas_10 : decode cX10_anyHas 10 = .ok (.aload_n 0, 1) := by decide +kernel
theorem dX10_anyHas_11 : decode cX10_anyHas 11 = .ok (.iload_n 3, 1) := by decide +kernel
theorem dX10_anyHas_12 : decode cX10_anyHas 12 = .ok (.invokevirtual 21, 3) := by decide +kernel
theorem dX10_anyHas_15 : decode cX10_anyHas 15 = .ok (.astore 4, 2) := by decide +kernel
theorem dX10_anyHas_17 : decode cX10_anyHas 17 = .ok (.aload 4, 2) := by decide +kernel
theorem dX10_anyHas_19 : decode cX10_anyHas 19 = .ok (.ifnull 23, 3) := by decide +kernel
theorem dX10_anyHas_22 : decode cX10_anyHas 22 = .ok (.iload_n 1, 1) := by decide +kernel
theorem dX10_anyHas_23 : decode cX10_anyHas 23 = .ok (.iload_n 3, 1) := by decide +kernel
theorem dX10_anyHas_24 : decode cX10_anyHas 24 = .ok (.ishr, 1) := by decide +kernel
theorem dX10_anyHas_25 : decode cX10_anyHas 25 = .ok (.iconst 1, 1) := by decide +kernel
theorem dX10_anyHas_26 : decode cX10_anyHas 26 = .ok (.iand, 1) := by decide +kernel
theorem dX10_anyHas_27 : decode cX10_anyHas 27 = .ok (.iconst 1, 1) := by decide +kernel
theorem dX10_anyHas_28 : decode cX10_anyHas 28 = .ok (.if_icmp .ne 14, 3) := by decide +kernel
theorem dX10_anyHas_31 : decode cX10_anyHas 31 = .ok (.aload 4, 2) := by decide +kernel
theorem dX10_anyHas_33 : decode cX10_anyHas 33 = .ok (.iload_n 2, 1) := by decide +kernel
theorem dX10_anyHas_34 : decode cX10_anyHas 34 = .ok (.invokevirtual 141, 3) := by decide +kernel
theorem dX10_anyHas_37 : decode cX10_anyHas 37 = .ok (.ifCond .eq 5, 3) := by decide +kernel
theorem dX10_anyHas_40 : decode cX10_anyHas 40 = .ok (.iconst 1, 1) := by decide +kernel
theorem dX10_anyHas_41 : decode cX10_anyHas 41 = .ok (.ireturn, 1) := by decide +kernel
theorem dX10_anyHas_42 : decode cX10_anyHas 42 = .ok (.iinc 3 1, 3) := by decide +kernel
theorem dX10_anyHas_45 : decode cX10_anyHas 45 = .ok (.goto (-43), 3) := by decide +kernel
theorem dX10_anyHas_48 : decode cX10_anyHas 48 = .ok (.iconst 0, 1) := by decide +kernel
theorem dX10_anyHas_49 : decode cX10_anyHas 49 = .ok (.ireturn, 1) := by decide +kernel
set_option maxRecDepth 20000 in
theorem ggX10_whereabouts_X10_free : GoodIn wsX10_whereabouts wsX10_free := goodIn_r _ [8, 3, 9, 2, 174, 175, 176, 177, 178, 179] (by decide +kernel) (by decide +kernel)
set_option maxRecDepth 20000 in
theorem gX10_whereabouts_X10_free : GoodIn wsX10_whereabouts (wsV RX10 89 RX10 yX10_free wsX10_free) := goodIn_app (goodIn_of _ (by decide +kernel)) ggX10_whereabouts_X10_free
set_option maxRecDepth 20000 in
theorem ggX10_whereabouts_X10_lampAt : GoodIn wsX10_whereabouts wsX10_lampAt := goodIn_r _ [13, 1, 14, 174, 175, 176, 177, 178, 179] (by decide +kernel) (by decide +kernel)
set_option maxRecDepth 20000 in
theorem gX10_whereabouts_X10_lampAt : GoodIn wsX10_whereabouts (wsV RX10 21 RX10 yX10_lampAt wsX10_lampAt) := goodIn_app (goodIn_of _ (by decide +kernel)) ggX10_whereabouts_X10_lampAt
set_option maxRecDepth 20000 in
theorem ggX10_whereabouts_X5_leftByScenes : GoodIn wsX10_whereabouts wsX5_leftByScenes := goodIn_r _ [20, 21, 22, 23, 24, 25, 26, 27, 28, 29, 19, 30, 31, 32, 33, 34, 35, 36, 37, 38, 39, 40, 41, 42, 43, 44, 45, 46, 47, 48, 49, 50, 51, 52, 53, 54, 55, 56, 57, 58, 59, 60, 180, 181, 182, 183, 184, 185, 186, 187, 188, 189, 190, 191, 192, 193, 194, 195, 196, 197, 198, 199, 200, 201, 202, 203, 204, 205, 206, 207, 208, 209, 210, 211, 212, 213, 214] (by decide +kernel) (by decide +kernel)
set_option maxRecDepth 20000 in
theorem gX10_whereabouts_X5_leftByScenes_u144X0 : GoodIn wsX10_whereabouts (va_wsU RX10 144 RX0 "LampsThatRemember$Lamp" ⟨"LampsThatRemember$Lamp", "leftByScenes", "(IIJ)J"⟩ yX5_leftByScenes wsX5_leftByScenes) := goodIn_app (goodIn_of _ (by decide +kernel)) ggX10_whereabouts_X5_leftByScenes
set_option maxRecDepth 20000 in
theorem gX10_whereabouts_X5_leftByScenes_u144X1 : GoodIn wsX10_whereabouts (va_wsU RX10 144 RX1 "LampsThatRemember$Lamp" ⟨"LampsThatRemember$Lamp", "leftByScenes", "(IIJ)J"⟩ yX5_leftByScenes wsX5_leftByScenes) := goodIn_app (goodIn_of _ (by decide +kernel)) ggX10_whereabouts_X5_leftByScenes
set_option maxRecDepth 20000 in
theorem gX10_whereabouts_X5_leftByScenes_u144X3 : GoodIn wsX10_whereabouts (va_wsU RX10 144 RX3 "LampsThatRemember$Lamp" ⟨"LampsThatRemember$Lamp", "leftByScenes", "(IIJ)J"⟩ yX5_leftByScenes wsX5_leftByScenes) := goodIn_app (goodIn_of _ (by decide +kernel)) ggX10_whereabouts_X5_leftByScenes
set_option maxRecDepth 20000 in
theorem gX10_whereabouts_X5_leftByScenes_u144X4 : GoodIn wsX10_whereabouts (va_wsU RX10 144 RX4 "LampsThatRemember$Lamp" ⟨"LampsThatRemember$Lamp", "leftByScenes", "(IIJ)J"⟩ yX5_leftByScenes wsX5_leftByScenes) := goodIn_app (goodIn_of _ (by decide +kernel)) ggX10_whereabouts_X5_leftByScenes
set_option maxRecDepth 20000 in
theorem gX10_whereabouts_X5_leftByScenes : GoodIn wsX10_whereabouts (wsV RX10 144 RX5 yX5_leftByScenes wsX5_leftByScenes) := goodIn_app (goodIn_of _ (by decide +kernel)) ggX10_whereabouts_X5_leftByScenes
set_option maxRecDepth 20000 in
theorem gX10_whereabouts_X5_leftByScenes_u144X7 : GoodIn wsX10_whereabouts (va_wsU RX10 144 RX7 "LampsThatRemember$Lamp" ⟨"LampsThatRemember$Lamp", "leftByScenes", "(IIJ)J"⟩ yX5_leftByScenes wsX5_leftByScenes) := goodIn_app (goodIn_of _ (by decide +kernel)) ggX10_whereabouts_X5_leftByScenes
set_option maxRecDepth 20000 in
theorem gX10_whereabouts_X5_leftByScenes_u144X8 : GoodIn wsX10_whereabouts (va_wsU RX10 144 RX8 "LampsThatRemember$Lamp" ⟨"LampsThatRemember$Lamp", "leftByScenes", "(IIJ)J"⟩ yX5_leftByScenes wsX5_leftByScenes) := goodIn_app (goodIn_of _ (by decide +kernel)) ggX10_whereabouts_X5_leftByScenes
set_option maxRecDepth 20000 in
theorem ggX10_whereabouts_X5_missed : GoodIn wsX10_whereabouts wsX5_missed := goodIn_r _ [72, 73, 21, 74, 75, 76, 77, 78, 79, 80, 81, 82, 83, 84, 85, 86, 87, 88, 89, 90, 91, 92, 93, 94, 95, 96, 19, 97, 98, 99, 100, 101, 102, 103, 104, 105, 106, 107, 108, 109, 110, 111, 112, 113, 114, 26, 27, 28, 29, 30, 31, 32, 33, 34, 35, 36, 37, 38, 43, 44, 41, 45, 115, 116, 117, 118, 119, 120, 121, 39, 40, 42, 122, 123, 124, 125, 126, 127, 128, 180, 181, 182, 183, 184, 185, 186, 187, 188, 189, 190, 191, 192, 193, 194, 195, 196, 197, 198, 199, 200, 201, 202, 203, 204, 205, 206, 207, 208, 209, 210, 211, 212, 213, 214] (by decide +kernel) (by decide +kernel)
set_option maxRecDepth 20000 in
theorem gX10_whereabouts_X5_missed_u147X0 : GoodIn wsX10_whereabouts (va_wsU RX10 147 RX0 "LampsThatRemember$Lamp" ⟨"LampsThatRemember$Lamp", "missed", "(II)Z"⟩ yX5_missed wsX5_missed) := goodIn_app (goodIn_of _ (by decide +kernel)) ggX10_whereabouts_X5_missed
set_option maxRecDepth 20000 in
theorem gX10_whereabouts_X5_missed_u147X1 : GoodIn wsX10_whereabouts (va_wsU RX10 147 RX1 "LampsThatRemember$Lamp" ⟨"LampsThatRemember$Lamp", "missed", "(II)Z"⟩ yX5_missed wsX5_missed) := goodIn_app (goodIn_of _ (by decide +kernel)) ggX10_whereabouts_X5_missed
set_option maxRecDepth 20000 in
theorem gX10_whereabouts_X5_missed_u147X3 : GoodIn wsX10_whereabouts (va_wsU RX10 147 RX3 "LampsThatRemember$Lamp" ⟨"LampsThatRemember$Lamp", "missed", "(II)Z"⟩ yX5_missed wsX5_missed) := goodIn_app (goodIn_of _ (by decide +kernel)) ggX10_whereabouts_X5_missed
set_option maxRecDepth 20000 in
theorem gX10_whereabouts_X5_missed_u147X4 : GoodIn wsX10_whereabouts (va_wsU RX10 147 RX4 "LampsThatRemember$Lamp" ⟨"LampsThatRemember$Lamp", "missed", "(II)Z"⟩ yX5_missed wsX5_missed) := goodIn_app (goodIn_of _ (by decide +kernel)) ggX10_whereabouts_X5_missed
set_option maxRecDepth 20000 in
theorem gX10_whereabouts_X5_missed : GoodIn wsX10_whereabouts (wsV RX10 147 RX5 yX5_missed wsX5_missed) := goodIn_app (goodIn_of _ (by decide +kernel)) ggX10_whereabouts_X5_missed
set_option maxRecDepth 20000 in
theorem gX10_whereabouts_X5_missed_u147X7 : GoodIn wsX10_whereabouts (va_wsU RX10 147 RX7 "LampsThatRemember$Lamp" ⟨"LampsThatRemember$Lamp", "missed", "(II)Z"⟩ yX5_missed wsX5_missed) := goodIn_app (goodIn_of _ (by decide +kernel)) ggX10_whereabouts_X5_missed
set_option maxRecDepth 20000 in
theorem gX10_whereabouts_X5_missed_u147X8 : GoodIn wsX10_whereabouts (va_wsU RX10 147 RX8 "LampsThatRemember$Lamp" ⟨"LampsThatRemember$Lamp", "missed", "(II)Z"⟩ yX5_missed wsX5_missed) := goodIn_app (goodIn_of _ (by decide +kernel)) ggX10_whereabouts_X5_missed
set_option maxRecDepth 20000 in
theorem ggX10_whereabouts_X5_glow : GoodIn wsX10_whereabouts wsX5_glow := goodIn_r _ [140, 141, 142, 143, 144, 145, 19, 146, 147, 148, 149, 150, 84, 151, 152, 153, 154, 155, 156, 7, 157, 158, 159, 160, 161, 162, 163, 164, 165, 166, 5, 6, 8, 3, 9, 2, 49, 50, 51, 52, 53, 54, 55, 56, 57, 58, 59, 60, 180, 181, 182, 183, 184, 185, 186, 187, 188, 189, 190, 191, 192, 193, 194, 195, 196, 197, 198, 199, 200, 201, 202, 203, 204, 205, 206, 207, 208, 209, 210, 211, 212, 213, 214, 174, 175, 176, 177, 178, 179] (by decide +kernel) (by decide +kernel)
set_option maxRecDepth 20000 in
theorem gX10_whereabouts_X5_glow_u112X0 : GoodIn wsX10_whereabouts (va_wsU RX10 112 RX0 "LampsThatRemember$Lamp" ⟨"LampsThatRemember$Lamp", "glow", "(LLampsThatRemember$Town;)J"⟩ yX5_glow wsX5_glow) := goodIn_app (goodIn_of _ (by decide +kernel)) ggX10_whereabouts_X5_glow
set_option maxRecDepth 20000 in
theorem gX10_whereabouts_X5_glow_u112X1 : GoodIn wsX10_whereabouts (va_wsU RX10 112 RX1 "LampsThatRemember$Lamp" ⟨"LampsThatRemember$Lamp", "glow", "(LLampsThatRemember$Town;)J"⟩ yX5_glow wsX5_glow) := goodIn_app (goodIn_of _ (by decide +kernel)) ggX10_whereabouts_X5_glow
set_option maxRecDepth 20000 in
theorem gX10_whereabouts_X5_glow_u112X3 : GoodIn wsX10_whereabouts (va_wsU RX10 112 RX3 "LampsThatRemember$Lamp" ⟨"LampsThatRemember$Lamp", "glow", "(LLampsThatRemember$Town;)J"⟩ yX5_glow wsX5_glow) := goodIn_app (goodIn_of _ (by decide +kernel)) ggX10_whereabouts_X5_glow
set_option maxRecDepth 20000 in
theorem gX10_whereabouts_X5_glow_u112X4 : GoodIn wsX10_whereabouts (va_wsU RX10 112 RX4 "LampsThatRemember$Lamp" ⟨"LampsThatRemember$Lamp", "glow", "(LLampsThatRemember$Town;)J"⟩ yX5_glow wsX5_glow) := goodIn_app (goodIn_of _ (by decide +kernel)) ggX10_whereabouts_X5_glow
set_option maxRecDepth 20000 in
theorem gX10_whereabouts_X5_glow : GoodIn wsX10_whereabouts (wsV RX10 112 RX5 yX5_glow wsX5_glow) := goodIn_app (goodIn_of _ (by decide +kernel)) ggX10_whereabouts_X5_glow
set_option maxRecDepth 20000 in
theorem gX10_whereabouts_X5_glow_u112X7 : GoodIn wsX10_whereabouts (va_wsU RX10 112 RX7 "LampsThatRemember$Lamp" ⟨"LampsThatRemember$Lamp", "glow", "(LLampsThatRemember$Town;)J"⟩ yX5_glow wsX5_glow) := goodIn_app (goodIn_of _ (by decide +kernel)) ggX10_whereabouts_X5_glow
set_option maxRecDepth 20000 in
theorem gX10_whereabouts_X5_glow_u112X8 : GoodIn wsX10_whereabouts (va_wsU RX10 112 RX8 "LampsThatRemember$Lamp" ⟨"LampsThatRemember$Lamp", "glow", "(LLampsThatRemember$Town;)J"⟩ yX5_glow wsX5_glow) := goodIn_app (goodIn_of _ (by decide +kernel)) ggX10_whereabouts_X5_glow
theorem dX10_whereabouts_0 : decode cX10_whereabouts 0 = .ok (.aload_n 0, 1) := by decide +kernel
theorem dX10_whereabouts_1 : decode cX10_whereabouts 1 = .ok (.invokevirtual 89, 3) := by decide +kernel
theorem dX10_whereabouts_4 : decode cX10_whereabouts 4 = .ok (.lstore_n 3, 1) := by decide +kernel
theorem dX10_whereabouts_5 : decode cX10_whereabouts 5 = .ok (.iconst 0, 1) := by decide +kernel
theorem dX10_whereabouts_6 : decode cX10_whereabouts 6 = .ok (.istore 5, 2) := by decide +kernel
theorem dX10_whereabouts_8 : decode cX10_whereabouts 8 = .ok (.iload 5, 2) := by decide +kernel
theorem dX10_whereabouts_10 : decode cX10_whereabouts 10 = .ok (.aload_n 0, 1) := by decide +kernel
theorem dX10_whereabouts_11 : decode cX10_whereabouts 11 = .ok (.getfield 37, 3) := by decide +kernel
theorem dX10_whereabouts_14 : decode cX10_whereabouts 14 = .ok (.if_icmp .ge 65, 3) := by decide +kernel
theorem dX10_whereabouts_17 : decode cX10_whereabouts 17 = .ok (.aload_n 0, 1) := by decide +kernel
theorem dX10_whereabouts_18 : decode cX10_whereabouts 18 = .ok (.iload 5, 2) := by decide +kernel
theorem dX10_whereabouts_20 : decode cX10_whereabouts 20 = .ok (.invokevirtual 21, 3) := by decide +kernel
theorem dX10_whereabouts_23 : decode cX10_whereabouts 23 = .ok (.astore 6, 2) := by decide +kernel
theorem dX10_whereabouts_25 : decode cX10_whereabouts 25 = .ok (.aload 6, 2) := by decide +kernel
theorem dX10_whereabouts_27 : decode cX10_whereabouts 27 = .ok (.ifnull 46, 3) := by decide +kernel
theorem dX10_whereabouts_30 : decode cX10_whereabouts 30 = .ok (.lload_n 3, 1) := by decide +kernel
theorem dX10_whereabouts_31 : decode cX10_whereabouts 31 = .ok (.aload 6, 2) := by decide +kernel
theorem dX10_whereabouts_33 : decode cX10_whereabouts 33 = .ok (.iload_n 1, 1) := by decide +kernel
theorem dX10_whereabouts_34 : decode cX10_whereabouts 34 = .ok (.iload_n 2, 1) := by decide +kernel
theorem dX10_whereabouts_35 : decode cX10_whereabouts 35 = .ok (.aload_n 0, 1) := by decide +kernel
theorem dX10_whereabouts_36 : decode cX10_whereabouts 36 = .ok (.invokevirtual 89, 3) := by decide +kernel
theorem dX10_whereabouts_39 : decode cX10_whereabouts 39 = .ok (.invokevirtual 144, 3) := by decide +kernel
theorem dX10_whereabouts_42 : decode cX10_whereabouts 42 = .ok (.land, 1) := by decide +kernel
theorem dX10_whereabouts_43 : decode cX10_whereabouts 43 = .ok (.lstore_n 3, 1) := by decide +kernel
theorem dX10_whereabouts_44 : decode cX10_whereabouts 44 = .ok (.lload_n 3, 1) := by decide +kernel
theorem dX10_whereabouts_45 : decode cX10_whereabouts 45 = .ok (.aload 6, 2) := by decide +kernel
theorem dX10_whereabouts_47 : decode cX10_whereabouts 47 = .ok (.iload_n 1, 1) := by decide +kernel
theorem dX10_whereabouts_48 : decode cX10_whereabouts 48 = .ok (.iload_n 2, 1) := by decide +kernel
theorem dX10_whereabouts_49 : decode cX10_whereabouts 49 = .ok (.invokevirtual 147, 3) := by decide +kernel
theorem dX10_whereabouts_52 : decode cX10_whereabouts 52 = .ok (.ifCond .eq 16, 3) := by decide +kernel
theorem dX10_whereabouts_55 : decode cX10_whereabouts 55 = .ok (.aload 6, 2) := by decide +kernel
theorem dX10_whereabouts_57 : decode cX10_whereabouts 57 = .ok (.aload_n 0, 1) := by decide +kernel
theorem dX10_whereabouts_58 : decode cX10_whereabouts 58 = .ok (.invokevirtual 112, 3) := by decide +kernel
theorem dX10_whereabouts_61 : decode cX10_whereabouts 61 = .ok (.ldc2_w 51, 3) := by decide +kernel
theorem dX10_whereabouts_64 : decode cX10_whereabouts 64 = .ok (.lxor, 1) := by decide +kernel
theorem dX10_whereabouts_65 : decode cX10_whereabouts 65 = .ok (.goto 6, 3) := by decide +kernel
theorem dX10_whereabouts_68 : decode cX10_whereabouts 68 = .ok (.ldc2_w 49, 3) := by decide +kernel
theorem dX10_whereabouts_71 : decode cX10_whereabouts 71 = .ok (.land, 1) := by decide +kernel
theorem dX10_whereabouts_72 : decode cX10_whereabouts 72 = .ok (.lstore_n 3, 1) := by decide +kernel
theorem dX10_whereabouts_73 : decode cX10_whereabouts 73 = .ok (.iinc 5 1, 3) := by decide +kernel
theorem dX10_whereabouts_76 : decode cX10_whereabouts 76 = .ok (.goto (-68), 3) := by decide +kernel
theorem dX10_whereabouts_79 : decode cX10_whereabouts 79 = .ok (.lload_n 3, 1) := by decide +kernel
theorem dX10_whereabouts_80 : decode cX10_whereabouts 80 = .ok (.lreturn, 1) := by decide +kernel
set_option maxRecDepth 20000 in
theorem ggX11_init_X6_init : GoodIn wsX11_init wsX6_init := goodIn_r _ [18, 19, 2, 3, 8, 20, 27, 28] (by decide +kernel) (by decide +kernel)
set_option maxRecDepth 20000 in
theorem gX11_init_X6_init_n9 : GoodIn wsX11_init (wsX6_init) := ggX11_init_X6_init
set_option maxRecDepth 20000 in
theorem ggX11_init_X10_init : GoodIn wsX11_init wsX10_init := goodIn_r _ [22, 23, 2, 3, 24, 25, 8, 26, 37, 38, 39, 40, 41, 42] (by decide +kernel) (by decide +kernel)
set_option maxRecDepth 20000 in
theorem gX11_init_X10_init_n25 : GoodIn wsX11_init (wsX10_init) := ggX11_init_X10_init
theorem dX11_init_0 : decode cX11_init 0 = .ok (.aload_n 0, 1) := by decide +kernel
theorem dX11_init_1 : decode cX11_init 1 = .ok (.invokespecial 1, 3) := by decide +kernel
theorem dX11_init_4 : decode cX11_init 4 = .ok (.aload_n 0, 1) := by decide +kernel
theorem dX11_init_5 : decode cX11_init 5 = .ok (.new 7, 3) := by decide +kernel
theorem dX11_init_8 : decode cX11_init 8 = .ok (.dup, 1) := by decide +kernel
theorem dX11_init_9 : decode cX11_init 9 = .ok (.invokespecial 9, 3) := by decide +kernel
theorem dX11_init_12 : decode cX11_init 12 = .ok (.putfield 10, 3) := by decide +kernel
theorem dX11_init_15 : decode cX11_init 15 = .ok (.aload_n 0, 1) := by decide +kernel
theorem dX11_init_16 : decode cX11_init 16 = .ok (.bipush 12, 2) := by decide +kernel
theorem dX11_init_18 : decode cX11_init 18 = .ok (.newarray .int, 2) := by decide +kernel
theorem dX11_init_20 : decode cX11_init 20 = .ok (.putfield 16, 3) := by decide +kernel
theorem dX11_init_23 : decode cX11_init 23 = .ok (.aload_n 0, 1) := by decide +kernel
theorem dX11_init_24 : decode cX11_init 24 = .ok (.bipush 7, 2) := by decide +kernel
theorem dX11_init_26 : decode cX11_init 26 = .ok (.newarray .int, 2) := by decide +kernel
theorem dX11_init_28 : decode cX11_init 28 = .ok (.putfield 20, 3) := by decide +kernel
theorem dX11_init_31 : decode cX11_init 31 = .ok (.aload_n 0, 1) := by decide +kernel
theorem dX11_init_32 : decode cX11_init 32 = .ok (.new 23, 3) := by decide +kernel
theorem dX11_init_35 : decode cX11_init 35 = .ok (.dup, 1) := by decide +kernel
theorem dX11_init_36 : decode cX11_init 36 = .ok (.invokespecial 25, 3) := by decide +kernel
theorem dX11_init_39 : decode cX11_init 39 = .ok (.putfield 26, 3) := by decide +kernel
theorem dX11_init_42 : decode cX11_init 42 = .ok (.aload_n 0, 1) := by decide +kernel
theorem dX11_init_43 : decode cX11_init 43 = .ok (.new 23, 3) := by decide +kernel
theorem dX11_init_46 : decode cX11_init 46 = .ok (.dup, 1) := by decide +kernel
theorem dX11_init_47 : decode cX11_init 47 = .ok (.invokespecial 25, 3) := by decide +kernel
theorem dX11_init_50 : decode cX11_init 50 = .ok (.putfield 30, 3) := by decide +kernel
theorem dX11_init_53 : decode cX11_init 53 = .ok (.aload_n 0, 1) := by decide +kernel
theorem dX11_init_54 : decode cX11_init 54 = .ok (.new 23, 3) := by decide +kernel
theorem dX11_init_57 : decode cX11_init 57 = .ok (.dup, 1) := by decide +kernel
theorem dX11_init_58 : decode cX11_init 58 = .ok (.invokespecial 25, 3) := by decide +kernel
theorem dX11_init_61 : decode cX11_init 61 = .ok (.putfield 33, 3) := by decide +kernel
theorem dX11_init_64 : decode cX11_init 64 = .ok (.return_, 1) := by decide +kernel
set_option maxRecDepth 20000 in
theorem ggX11_letter_X11_refuse : GoodIn wsX11_letter wsX11_refuse := goodIn_r _ [6, 7, 19, 20, 21, 22, 23, 24, 25, 26] (by decide +kernel) (by decide +kernel)
set_option maxRecDepth 20000 in
theorem gX11_letter_X11_refuse : GoodIn wsX11_letter (wsV RX11 36 RX11 yX11_refuse wsX11_refuse) := goodIn_app (goodIn_of _ (by decide +kernel)) ggX11_letter_X11_refuse
set_option maxRecDepth 20000 in
theorem ggX11_letter_X6_isFull : GoodIn wsX11_letter wsX6_isFull := goodIn_r _ [12, 13, 14, 27, 28] (by decide +kernel) (by decide +kernel)
set_option maxRecDepth 20000 in
theorem gX11_letter_X6_isFull : GoodIn wsX11_letter (wsV RX11 40 RX6 yX6_isFull wsX6_isFull) := goodIn_app (goodIn_of _ (by decide +kernel)) ggX11_letter_X6_isFull
set_option maxRecDepth 20000 in
theorem ggX11_letter_X6_add : GoodIn wsX11_letter wsX6_add := goodIn_r _ [18, 13, 14, 27, 28] (by decide +kernel) (by decide +kernel)
set_option maxRecDepth 20000 in
theorem gX11_letter_X6_add : GoodIn wsX11_letter (wsV RX11 44 RX6 yX6_add wsX6_add) := goodIn_app (goodIn_of _ (by decide +kernel)) ggX11_letter_X6_add
theorem dX11_letter_0 : decode cX11_letter 0 = .ok (.iload_n 1, 1) := by decide +kernel
theorem dX11_letter_1 : decode cX11_letter 1 = .ok (.ifCond .ge 10, 3) := by decide +kernel
theorem dX11_letter_4 : decode cX11_letter 4 = .ok (.aload_n 0, 1) := by decide +kernel
theorem dX11_letter_5 : decode cX11_letter 5 = .ok (.bipush (-4), 2) := by decide +kernel
theorem dX11_letter_7 : decode cX11_letter 7 = .ok (.invokevirtual 36, 3) := by decide +kernel
theorem dX11_letter_10 : decode cX11_letter 10 = .ok (.ireturn, 1) := by decide +kernel
theorem dX11_letter_11 : decode cX11_letter 11 = .ok (.iload_n 1, 1) := by decide +kernel
theorem dX11_letter_12 : decode cX11_letter 12 = .ok (.sipush 255, 3) := by decide +kernel
theorem dX11_letter_15 : decode cX11_letter 15 = .ok (.if_icmp .gt 13, 3) := by decide +kernel
theorem dX11_letter_18 : decode cX11_letter 18 = .ok (.aload_n 0, 1) := by decide +kernel
theorem dX11_letter_19 : decode cX11_letter 19 = .ok (.getfield 10, 3) := by decide +kernel
theorem dX11_letter_22 : decode cX11_letter 22 = .ok (.invokevirtual 40, 3) := by decide +kernel
theorem dX11_letter_25 : decode cX11_letter 25 = .ok (.ifCond .eq 10, 3) := by decide +kernel
theorem dX11_letter_28 : decode cX11_letter 28 = .ok (.aload_n 0, 1) := by decide +kernel
theorem dX11_letter_29 : decode cX11_letter 29 = .ok (.bipush (-6), 2) := by decide +kernel
theorem dX11_letter_31 : decode cX11_letter 31 = .ok (.invokevirtual 36, 3) := by decide +kernel
theorem dX11_letter_34 : decode cX11_letter 34 = .ok (.ireturn, 1) := by decide +kernel
theorem dX11_letter_35 : decode cX11_letter 35 = .ok (.aload_n 0, 1) := by decide +kernel
theorem dX11_letter_36 : decode cX11_letter 36 = .ok (.getfield 10, 3) := by decide +kernel
theorem dX11_letter_39 : decode cX11_letter 39 = .ok (.iload_n 1, 1) := by decide +kernel
theorem dX11_letter_40 : decode cX11_letter 40 = .ok (.invokevirtual 44, 3) := by decide +kernel
theorem dX11_letter_43 : decode cX11_letter 43 = .ok (.ireturn, 1) := by decide +kernel
set_option maxRecDepth 20000 in
theorem ggX11_town_X10_become : GoodIn wsX11_town wsX10_become := goodIn_r _ [8, 9, 10, 11, 12, 13, 14, 15, 16, 17, 7, 18, 19, 20, 21, 22, 23, 24, 25, 26, 27, 28, 29, 30, 31, 32, 33, 34, 35, 36, 37, 38, 39, 40, 41, 42, 43, 44, 45, 46, 47, 48, 49, 50, 51, 52, 53, 54, 55, 56, 57, 58, 59, 60, 61, 62, 63, 64, 65, 66, 67, 68, 69, 70, 71, 72, 73, 74, 75, 76, 77, 78, 79, 80, 81, 82, 83, 84, 85, 86, 87, 88, 89, 90, 91, 92, 93, 94, 95, 96, 97, 98, 99, 100, 101, 102, 103, 104, 105, 106, 107, 487, 488, 489, 490, 491, 492, 493, 494, 495, 496, 497, 498, 499, 500, 501, 502, 503, 504, 505, 506, 507, 508, 509, 510, 511, 512, 513, 514, 515, 516, 517, 518, 519, 520, 521, 522, 523, 524, 525, 526, 527] (by decide +kernel) (by decide +kernel)
set_option maxRecDepth 20000 in
theorem gX11_town_X10_become : GoodIn wsX11_town (wsV RX11 47 RX10 yX10_become wsX10_become) := goodIn_app (goodIn_of _ (by decide +kernel)) ggX11_town_X10_become
set_option maxRecDepth 20000 in
theorem ggX11_town_X6_tellTo : GoodIn wsX11_town wsX6_tellTo := goodIn_r _ [112, 113, 114, 115, 116, 111, 117, 118, 119, 120, 121, 122, 123, 124, 125, 126, 127, 128, 129, 130, 131, 132, 133, 134, 135, 136, 137, 138, 139, 140, 141, 142, 143, 144, 145, 146, 147, 148, 149, 150, 151, 152, 153, 154, 155, 156, 157, 158, 159, 160, 161, 162, 163, 164, 165, 166, 167, 168, 169, 170, 171, 172, 173, 174, 175, 176, 177, 178, 179, 180, 181, 182, 183, 184, 185, 186, 187, 188, 189, 190, 191, 192, 193, 194, 195, 196, 197, 198, 199, 200, 201, 202, 203, 204, 205, 206, 207, 208, 209, 210, 211, 212, 213, 214, 215, 216, 217, 218, 219, 220, 221, 222, 223, 224, 225, 226, 227, 228, 229, 230, 231, 232, 233, 234, 235, 236, 237, 238, 239, 240, 241, 242, 243, 244, 245, 246, 247, 248, 249, 250, 251, 252, 253, 254, 255, 256, 257, 258, 259, 260, 261, 7, 262, 12, 9, 263, 264, 265, 266, 267, 268, 269, 62, 23, 63, 64, 65, 44, 66, 67, 55, 68, 69, 40, 70, 71, 35, 72, 73, 59, 74, 75, 48, 76, 77, 78, 79, 80, 81, 82, 83, 84, 27, 85, 29, 86, 87, 88, 89, 90, 91, 92, 93, 94, 95, 96, 270, 271, 272, 273, 11, 274, 275, 276, 277, 13, 104, 105, 106, 107, 10, 278, 279, 280, 281, 282, 283, 284, 285, 286, 287, 288, 289, 290, 291, 292, 293, 294, 295, 296, 297, 298, 299, 300, 301, 302, 303, 304, 305, 306, 14, 307, 308, 309, 310, 311, 312, 313, 314, 315, 316, 317, 318, 319, 320, 321, 322, 323, 324, 325, 326, 327, 328, 329, 330, 331, 332, 333, 334, 335, 336, 15, 16, 17, 18, 337, 338, 339, 340, 341, 26, 342, 343, 344, 345, 346, 25, 347, 348, 349, 350, 351, 352, 353, 354, 355, 356, 357, 358, 359, 360, 361, 362, 363, 364, 365, 366, 367, 368, 369, 370, 371, 372, 373, 28, 374, 375, 376, 377, 378, 379, 380, 381, 382, 383, 384, 385, 386, 387, 388, 389, 390, 391, 392, 393, 394, 395, 396, 397, 398, 399, 400, 401, 402, 403, 404, 405, 406, 407, 408, 409, 410, 411, 412, 413, 414, 415, 416, 417, 418, 419, 420, 421, 422, 423, 424, 425, 426, 427, 428, 429, 430, 431, 432, 433, 434, 435, 436, 437, 438, 439, 440, 441, 442, 443, 444, 445, 446, 447, 448, 449, 450, 451, 452, 453, 454, 455, 456, 457, 458, 459, 460, 461, 462, 463, 464, 465, 466, 467, 468, 469, 470, 471, 472, 473, 474, 528, 529, 487, 488, 489, 490, 491, 492, 493, 494, 495, 496, 497, 498, 499, 500, 501, 502, 503, 504, 505, 506, 507, 508, 509, 510, 511, 512, 513, 514, 515, 516, 517, 518, 519, 520, 521, 522, 523, 524, 525, 526, 527] (by decide +kernel) (by decide +kernel)
set_option maxRecDepth 20000 in
theorem gX11_town_X6_tellTo : GoodIn wsX11_town (wsV RX11 51 RX6 yX6_tellTo wsX6_tellTo) := goodIn_app (goodIn_of _ (by decide +kernel)) ggX11_town_X6_tellTo
set_option maxRecDepth 20000 in
theorem ggX11_town_X6_clear : GoodIn wsX11_town wsX6_clear := goodIn_r _ [478, 113, 528, 529] (by decide +kernel) (by decide +kernel)
set_option maxRecDepth 20000 in
theorem gX11_town_X6_clear : GoodIn wsX11_town (wsV RX11 55 RX6 yX6_clear wsX6_clear) := goodIn_app (goodIn_of _ (by decide +kernel)) ggX11_town_X6_clear
theorem dX11_town_0 : decode cX11_town 0 = .ok (.aload_n 0, 1) := by decide +kernel
theorem dX11_town_1 : decode cX11_town 1 = .ok (.getfield 33, 3) := by decide +kernel
theorem dX11_town_4 : decode cX11_town 4 = .ok (.aload_n 0, 1) := by decide +kernel
theorem dX11_town_5 : decode cX11_town 5 = .ok (.getfield 30, 3) := by decide +kernel
theorem dX11_town_8 : decode cX11_town 8 = .ok (.invokevirtual 47, 3) := by decide +kernel
theorem dX11_town_11 : decode cX11_town 11 = .ok (.aload_n 0, 1) := by decide +kernel
theorem dX11_town_12 : decode cX11_town 12 = .ok (.getfield 10, 3) := by decide +kernel
theorem dX11_town_15 : decode cX11_town 15 = .ok (.aload_n 0, 1) := by decide +kernel
theorem dX11_town_16 : decode cX11_town 16 = .ok (.getfield 33, 3) := by decide +kernel
theorem dX11_town_19 : decode cX11_town 19 = .ok (.invokevirtual 51, 3) := by decide +kernel
theorem dX11_town_22 : decode cX11_town 22 = .ok (.istore_n 1, 1) := by decide +kernel
theorem dX11_town_23 : decode cX11_town 23 = .ok (.aload_n 0, 1) := by decide +kernel
theorem dX11_town_24 : decode cX11_town 24 = .ok (.getfield 10, 3) := by decide +kernel
theorem dX11_town_27 : decode cX11_town 27 = .ok (.invokevirtual 55, 3) := by decide +kernel
theorem dX11_town_30 : decode cX11_town 30 = .ok (.iload_n 1, 1) := by decide +kernel
theorem dX11_town_31 : decode cX11_town 31 = .ok (.ifCond .lt 21, 3) := by decide +kernel
theorem dX11_town_34 : decode cX11_town 34 = .ok (.aload_n 0, 1) := by decide +kernel
theorem dX11_town_35 : decode cX11_town 35 = .ok (.getfield 30, 3) := by decide +kernel
theorem dX11_town_38 : decode cX11_town 38 = .ok (.astore_n 2, 1) := by decide +kernel
theorem dX11_town_39 : decode cX11_town 39 = .ok (.aload_n 0, 1) := by decide +kernel
theorem dX11_town_40 : decode cX11_town 40 = .ok (.aload_n 0, 1) := by decide +kernel
theorem dX11_town_41 : decode cX11_town 41 = .ok (.getfield 33, 3) := by decide +kernel
theorem dX11_town_44 : decode cX11_town 44 = .ok (.putfield 30, 3) := by decide +kernel
theorem dX11_town_47 : decode cX11_town 47 = .ok (.aload_n 0, 1) := by decide +kernel
theorem dX11_town_48 : decode cX11_town 48 = .ok (.aload_n 2, 1) := by decide +kernel
theorem dX11_town_49 : decode cX11_town 49 = .ok (.putfield 33, 3) := by decide +kernel
theorem dX11_town_52 : decode cX11_town 52 = .ok (.iload_n 1, 1) := by decide +kernel
theorem dX11_town_53 : decode cX11_town 53 = .ok (.ireturn, 1) := by decide +kernel
set_option maxRecDepth 20000 in
theorem ggX11_wall_X10_turnWall : GoodIn wsX11_wall wsX10_turnWall := goodIn_r _ [6, 7, 8, 9, 10, 11, 12, 13, 14, 5, 15, 16, 17, 18, 19, 20, 21, 22, 23, 24, 25, 26, 27, 28, 29, 30, 31, 32, 33, 34, 35, 36, 37, 38, 39, 40, 41, 42, 60, 61, 62, 63, 64, 65] (by decide +kernel) (by decide +kernel)
set_option maxRecDepth 20000 in
theorem gX11_wall_X10_turnWall : GoodIn wsX11_wall (wsV RX11 58 RX10 yX10_turnWall wsX10_turnWall) := goodIn_app (goodIn_of _ (by decide +kernel)) ggX11_wall_X10_turnWall
set_option maxRecDepth 20000 in
theorem ggX11_wall_X11_counted : GoodIn wsX11_wall wsX11_counted := goodIn_r _ [46, 47, 48, 49, 41, 50, 51, 52, 53, 54, 55, 56, 57, 58, 59] (by decide +kernel) (by decide +kernel)
set_option maxRecDepth 20000 in
theorem gX11_wall_X11_counted : GoodIn wsX11_wall (wsV RX11 61 RX11 yX11_counted wsX11_counted) := goodIn_app (goodIn_of _ (by decide +kernel)) ggX11_wall_X11_counted
theorem dX11_wall_0 : decode cX11_wall 0 = .ok (.aload_n 0, 1) := by decide +kernel
theorem dX11_wall_1 : decode cX11_wall 1 = .ok (.aload_n 0, 1) := by decide +kernel
theorem dX11_wall_2 : decode cX11_wall 2 = .ok (.getfield 30, 3) := by decide +kernel
theorem dX11_wall_5 : decode cX11_wall 5 = .ok (.iload_n 1, 1) := by decide +kernel
theorem dX11_wall_6 : decode cX11_wall 6 = .ok (.invokevirtual 58, 3) := by decide +kernel
theorem dX11_wall_9 : decode cX11_wall 9 = .ok (.invokevirtual 61, 3) := by decide +kernel
theorem dX11_wall_12 : decode cX11_wall 12 = .ok (.ireturn, 1) := by decide +kernel
set_option maxRecDepth 20000 in
theorem ggX11_person_X10_addPerson : GoodIn wsX11_person wsX10_addPerson := goodIn_r _ [6, 7, 8, 9, 10, 11, 12, 13, 14, 15, 16, 17, 18, 19, 38, 39, 40, 41, 42, 43] (by decide +kernel) (by decide +kernel)
set_option maxRecDepth 20000 in
theorem gX11_person_X10_addPerson : GoodIn wsX11_person (wsV RX11 64 RX10 yX10_addPerson wsX10_addPerson) := goodIn_app (goodIn_of _ (by decide +kernel)) ggX11_person_X10_addPerson
set_option maxRecDepth 20000 in
theorem ggX11_person_X11_counted : GoodIn wsX11_person wsX11_counted := goodIn_r _ [24, 25, 26, 27, 23, 28, 29, 30, 31, 32, 33, 34, 35, 36, 37] (by decide +kernel) (by decide +kernel)
set_option maxRecDepth 20000 in
theorem gX11_person_X11_counted : GoodIn wsX11_person (wsV RX11 61 RX11 yX11_counted wsX11_counted) := goodIn_app (goodIn_of _ (by decide +kernel)) ggX11_person_X11_counted
theorem dX11_person_0 : decode cX11_person 0 = .ok (.aload_n 0, 1) := by decide +kernel
theorem dX11_person_1 : decode cX11_person 1 = .ok (.aload_n 0, 1) := by decide +kernel
theorem dX11_person_2 : decode cX11_person 2 = .ok (.getfield 30, 3) := by decide +kernel
theorem dX11_person_5 : decode cX11_person 5 = .ok (.iload_n 1, 1) := by decide +kernel
theorem dX11_person_6 : decode cX11_person 6 = .ok (.invokevirtual 64, 3) := by decide +kernel
theorem dX11_person_9 : decode cX11_person 9 = .ok (.invokevirtual 61, 3) := by decide +kernel
theorem dX11_person_12 : decode cX11_person 12 = .ok (.ireturn, 1) := by decide +kernel
set_option maxRecDepth 20000 in
theorem ggX11_go_X10_walk : GoodIn wsX11_go wsX10_walk := goodIn_r _ [6, 7, 8, 9, 10, 11, 5, 12, 13, 14, 15, 16, 17, 18, 19, 20, 21, 22, 23, 24, 25, 26, 27, 28, 29, 30, 31, 32, 33, 34, 35, 36, 37, 38, 39, 40, 41, 42, 43, 44, 45, 46, 47, 48, 49, 50, 51, 52, 53, 54, 55, 56, 57, 58, 59, 60, 61, 62, 63, 64, 65, 66, 67, 68, 69, 70, 71, 72, 73, 74, 75, 76, 77, 78, 79, 80, 81, 82, 83, 84, 85, 86, 87, 88, 89, 90, 91, 92, 93, 94, 95, 96, 97, 98, 99, 100, 101, 102, 103, 104, 105, 106, 107, 108, 109, 110, 111, 112, 113, 114, 115, 116, 117, 118, 119, 120, 121, 122, 123, 124, 125, 126, 127, 128, 129, 130, 131, 132, 133, 134, 135, 136, 137, 138, 139, 140, 141, 142, 143, 144, 145, 146, 147, 148, 149, 150, 151, 152, 153, 154, 155, 156, 157, 158, 159, 160, 161, 162, 163, 164, 165, 166, 167, 168, 169, 170, 171, 172, 173, 174, 175, 176, 177, 178, 179, 180, 181, 182, 183, 184, 185, 186, 187, 206, 207, 208, 209, 210, 211, 212, 213, 214, 215, 216, 217, 218, 219, 220, 221, 222, 223, 224, 225, 226, 227, 228, 229, 230, 231, 232, 233, 234, 235, 236, 237, 238, 239, 240, 241, 242, 243, 244, 245, 246] (by decide +kernel) (by decide +kernel)
set_option maxRecDepth 20000 in
theorem gX11_go_X10_walk : GoodIn wsX11_go (wsV RX11 67 RX10 yX10_walk wsX10_walk) := goodIn_app (goodIn_of _ (by decide +kernel)) ggX11_go_X10_walk
set_option maxRecDepth 20000 in
theorem ggX11_go_X11_counted : GoodIn wsX11_go wsX11_counted := goodIn_r _ [192, 193, 194, 195, 191, 196, 197, 198, 199, 200, 201, 202, 203, 204, 205] (by decide +kernel) (by decide +kernel)
set_option maxRecDepth 20000 in
theorem gX11_go_X11_counted : GoodIn wsX11_go (wsV RX11 61 RX11 yX11_counted wsX11_counted) := goodIn_app (goodIn_of _ (by decide +kernel)) ggX11_go_X11_counted
theorem dX11_go_0 : decode cX11_go 0 = .ok (.aload_n 0, 1) := by decide +kernel
theorem dX11_go_1 : decode cX11_go 1 = .ok (.aload_n 0, 1) := by decide +kernel
theorem dX11_go_2 : decode cX11_go 2 = .ok (.getfield 30, 3) := by decide +kernel
theorem dX11_go_5 : decode cX11_go 5 = .ok (.iload_n 1, 1) := by decide +kernel
theorem dX11_go_6 : decode cX11_go 6 = .ok (.iload_n 2, 1) := by decide +kernel
theorem dX11_go_7 : decode cX11_go 7 = .ok (.invokevirtual 67, 3) := by decide +kernel
theorem dX11_go_10 : decode cX11_go 10 = .ok (.invokevirtual 61, 3) := by decide +kernel
theorem dX11_go_13 : decode cX11_go 13 = .ok (.ireturn, 1) := by decide +kernel
set_option maxRecDepth 20000 in
theorem ggX11_light_X10_lampAt : GoodIn wsX11_light wsX10_lampAt := goodIn_r _ [7, 8, 9, 62, 63, 64, 65, 66, 67] (by decide +kernel) (by decide +kernel)
set_option maxRecDepth 20000 in
theorem gX11_light_X10_lampAt : GoodIn wsX11_light (wsV RX11 71 RX10 yX10_lampAt wsX10_lampAt) := goodIn_app (goodIn_of _ (by decide +kernel)) ggX11_light_X10_lampAt
set_option maxRecDepth 20000 in
theorem ggX11_light_X11_refuse : GoodIn wsX11_light wsX11_refuse := goodIn_r _ [14, 15, 19, 20, 21, 22, 23, 24, 25, 26] (by decide +kernel) (by decide +kernel)
set_option maxRecDepth 20000 in
theorem gX11_light_X11_refuse : GoodIn wsX11_light (wsV RX11 36 RX11 yX11_refuse wsX11_refuse) := goodIn_app (goodIn_of _ (by decide +kernel)) ggX11_light_X11_refuse
set_option maxRecDepth 20000 in
theorem ggX11_light_X11_yes : GoodIn wsX11_light wsX11_yes := goodIn_r _ [18] (by decide +kernel) (by decide +kernel)
set_option maxRecDepth 20000 in
theorem gX11_light_X11_yes : GoodIn wsX11_light (va_wsS RX11 81 yX11_yes wsX11_yes) := goodIn_app (goodIn_of _ (by decide +kernel)) ggX11_light_X11_yes
theorem dX11_light_0 : decode cX11_light 0 = .ok (.aload_n 0, 1) := by decide +kernel
theorem dX11_light_1 : decode cX11_light 1 = .ok (.getfield 30, 3) := by decide +kernel
theorem dX11_light_4 : decode cX11_light 4 = .ok (.iload_n 1, 1) := by decide +kernel
theorem dX11_light_5 : decode cX11_light 5 = .ok (.invokevirtual 71, 3) := by decide +kernel
theorem dX11_light_8 : decode cX11_light 8 = .ok (.astore_n 3, 1) := by decide +kernel
theorem dX11_light_9 : decode cX11_light 9 = .ok (.aload_n 3, 1) := by decide +kernel
theorem dX11_light_10 : decode cX11_light 10 = .ok (.ifnonnull 9, 3) := by decide +kernel
theorem dX11_light_13 : decode cX11_light 13 = .ok (.aload_n 0, 1) := by decide +kernel
theorem dX11_light_14 : decode cX11_light 14 = .ok (.iconst (-1), 1) := by decide +kernel
theorem dX11_light_15 : decode cX11_light 15 = .ok (.invokevirtual 36, 3) := by decide +kernel
theorem dX11_light_18 : decode cX11_light 18 = .ok (.ireturn, 1) := by decide +kernel
theorem dX11_light_19 : decode cX11_light 19 = .ok (.iload_n 2, 1) := by decide +kernel
theorem dX11_light_20 : decode cX11_light 20 = .ok (.ifCond .eq 15, 3) := by decide +kernel
theorem dX11_light_23 : decode cX11_light 23 = .ok (.iload_n 2, 1) := by decide +kernel
theorem dX11_light_24 : decode cX11_light 24 = .ok (.iconst 1, 1) := by decide +kernel
