theorem dX5_twin_57 : decode cX5_twin 57 = .ok (.if_icmp .ge 21, 3) := by decide +kernel
theorem dX5_twin_60 : decode cX5_twin 60 = .ok (.aload_n 1, 1) := by decide +kernel
theorem dX5_twin_61 : decode cX5_twin 61 = .ok (.getfield 15, 3) := by decide +kernel
theorem dX5_twin_64 : decode cX5_twin 64 = .ok (.iload_n 2, 1) := by decide +kernel
theorem dX5_twin_65 : decode cX5_twin 65 = .ok (.aload_n 0, 1) := by decide +kernel
theorem dX5_twin_66 : decode cX5_twin 66 = .ok (.getfield 15, 3) := by decide +kernel
theorem dX5_twin_69 : decode cX5_twin 69 = .ok (.iload_n 2, 1) := by decide +kernel
theorem dX5_twin_70 : decode cX5_twin 70 = .ok (.iaload, 1) := by decide +kernel
theorem dX5_twin_71 : decode cX5_twin 71 = .ok (.iastore, 1) := by decide +kernel
theorem dX5_twin_72 : decode cX5_twin 72 = .ok (.iinc 2 1, 3) := by decide +kernel
theorem dX5_twin_75 : decode cX5_twin 75 = .ok (.goto (-33), 3) := by decide +kernel
theorem dX5_twin_78 : decode cX5_twin 78 = .ok (.aload_n 1, 1) := by decide +kernel
theorem dX5_twin_79 : decode cX5_twin 79 = .ok (.areturn, 1) := by decide +kernel
set_option maxRecDepth 20000 in
theorem ggX5_glow_X5_cellNow : GoodIn wsX5_glow wsX5_cellNow := goodIn_r _ [7, 8, 48, 49, 50, 51, 52, 53, 54, 55, 56, 57, 58, 59, 60, 61, 62, 63, 64, 65, 66, 67, 68, 69, 70, 71, 72, 73, 74, 75, 76, 77, 78, 79, 80, 81, 82] (by decide +kernel) (by decide +kernel)
set_option maxRecDepth 20000 in
theorem gX5_glow_X5_cellNow_u76X0 : GoodIn wsX5_glow (va_wsU RX5 76 RX0 "LampsThatRemember$Lamp" ⟨"LampsThatRemember$Lamp", "cellNow", "(LLampsThatRemember$Town;)I"⟩ yX5_cellNow wsX5_cellNow) := goodIn_app (goodIn_of _ (by decide +kernel)) ggX5_glow_X5_cellNow
set_option maxRecDepth 20000 in
theorem ggX5_glow_X1_cellNow : GoodIn wsX5_glow wsX1_cellNow := goodIn_r _ [13, 14, 15, 16, 17, 18, 19, 20, 21, 22, 48, 49, 50, 51, 52, 53, 54, 55, 56, 57, 58, 59, 60, 61, 62, 63, 64, 65, 66, 67, 68, 69, 70, 71, 72, 73, 74, 75, 76, 77, 78, 79, 80, 81, 82, 83, 84, 85, 86, 87, 88] (by decide +kernel) (by decide +kernel)
set_option maxRecDepth 20000 in
theorem gX5_glow_X1_cellNow_u76X1 : GoodIn wsX5_glow (va_wsO RX5 76 RX1 "LampsThatRemember$Lamp" ⟨"LampsThatRemember$Lamp", "cellNow", "(LLampsThatRemember$Town;)I"⟩ yX1_cellNow wsX1_cellNow) := goodIn_app (goodIn_of _ (by decide +kernel)) ggX5_glow_X1_cellNow
set_option maxRecDepth 20000 in
theorem gX5_glow_X5_cellNow_u76X3 : GoodIn wsX5_glow (va_wsU RX5 76 RX3 "LampsThatRemember$Lamp" ⟨"LampsThatRemember$Lamp", "cellNow", "(LLampsThatRemember$Town;)I"⟩ yX5_cellNow wsX5_cellNow) := goodIn_app (goodIn_of _ (by decide +kernel)) ggX5_glow_X5_cellNow
set_option maxRecDepth 20000 in
theorem gX5_glow_X5_cellNow_u76X4 : GoodIn wsX5_glow (va_wsU RX5 76 RX4 "LampsThatRemember$Lamp" ⟨"LampsThatRemember$Lamp", "cellNow", "(LLampsThatRemember$Town;)I"⟩ yX5_cellNow wsX5_cellNow) := goodIn_app (goodIn_of _ (by decide +kernel)) ggX5_glow_X5_cellNow
set_option maxRecDepth 20000 in
theorem gX5_glow_X5_cellNow : GoodIn wsX5_glow (wsV RX5 76 RX5 yX5_cellNow wsX5_cellNow) := goodIn_app (goodIn_of _ (by decide +kernel)) ggX5_glow_X5_cellNow
set_option maxRecDepth 20000 in
theorem gX5_glow_X5_cellNow_u76X7 : GoodIn wsX5_glow (va_wsU RX5 76 RX7 "LampsThatRemember$Lamp" ⟨"LampsThatRemember$Lamp", "cellNow", "(LLampsThatRemember$Town;)I"⟩ yX5_cellNow wsX5_cellNow) := goodIn_app (goodIn_of _ (by decide +kernel)) ggX5_glow_X5_cellNow
set_option maxRecDepth 20000 in
theorem gX5_glow_X5_cellNow_u76X8 : GoodIn wsX5_glow (va_wsU RX5 76 RX8 "LampsThatRemember$Lamp" ⟨"LampsThatRemember$Lamp", "cellNow", "(LLampsThatRemember$Town;)I"⟩ yX5_cellNow wsX5_cellNow) := goodIn_app (goodIn_of _ (by decide +kernel)) ggX5_glow_X5_cellNow
set_option maxRecDepth 20000 in
theorem ggX5_glow_X10_free : GoodIn wsX5_glow wsX10_free := goodIn_r _ [32, 33, 34, 35, 83, 84, 85, 86, 87, 88] (by decide +kernel) (by decide +kernel)
set_option maxRecDepth 20000 in
theorem gX5_glow_X10_free : GoodIn wsX5_glow (wsV RX5 80 RX10 yX10_free wsX10_free) := goodIn_app (goodIn_of _ (by decide +kernel)) ggX5_glow_X10_free
set_option maxRecDepth 20000 in
theorem ggX5_glow_X2_within : GoodIn wsX5_glow wsX2_within := goodIn_r _ [39, 40, 41, 38, 42, 43, 44, 45, 46, 47] (by decide +kernel) (by decide +kernel)
set_option maxRecDepth 20000 in
theorem gX5_glow_X2_within : GoodIn wsX5_glow (va_wsS RX5 86 yX2_within wsX2_within) := goodIn_app (goodIn_of _ (by decide +kernel)) ggX5_glow_X2_within
theorem dX5_glow_0 : decode cX5_glow 0 = .ok (.aload_n 1, 1) := by decide +kernel
theorem dX5_glow_1 : decode cX5_glow 1 = .ok (.ifnonnull 7, 3) := by decide +kernel
theorem dX5_glow_4 : decode cX5_glow 4 = .ok (.lconst 0, 1) := by decide +kernel
theorem dX5_glow_5 : decode cX5_glow 5 = .ok (.goto 19, 3) := by decide +kernel
theorem dX5_glow_8 : decode cX5_glow 8 = .ok (.aload_n 0, 1) := by decide +kernel
theorem dX5_glow_9 : decode cX5_glow 9 = .ok (.aload_n 1, 1) := by decide +kernel
theorem dX5_glow_10 : decode cX5_glow 10 = .ok (.invokevirtual 76, 3) := by decide +kernel
theorem dX5_glow_13 : decode cX5_glow 13 = .ok (.aload_n 0, 1) := by decide +kernel
theorem dX5_glow_14 : decode cX5_glow 14 = .ok (.getfield 73, 3) := by decide +kernel
theorem dX5_glow_17 : decode cX5_glow 17 = .ok (.aload_n 1, 1) := by decide +kernel
theorem dX5_glow_18 : decode cX5_glow 18 = .ok (.invokevirtual 80, 3) := by decide +kernel
theorem dX5_glow_21 : decode cX5_glow 21 = .ok (.invokestatic 86, 3) := by decide +kernel
theorem dX5_glow_24 : decode cX5_glow 24 = .ok (.lreturn, 1) := by decide +kernel
theorem dX5_sceneAt_0 : decode cX5_sceneAt 0 = .ok (.iload_n 1, 1) := by decide +kernel
theorem dX5_sceneAt_1 : decode cX5_sceneAt 1 = .ok (.ifCond .lt 29, 3) := by decide +kernel
theorem dX5_sceneAt_4 : decode cX5_sceneAt 4 = .ok (.iload_n 1, 1) := by decide +kernel
theorem dX5_sceneAt_5 : decode cX5_sceneAt 5 = .ok (.aload_n 0, 1) := by decide +kernel
theorem dX5_sceneAt_6 : decode cX5_sceneAt 6 = .ok (.getfield 50, 3) := by decide +kernel
theorem dX5_sceneAt_9 : decode cX5_sceneAt 9 = .ok (.if_icmp .ge 21, 3) := by decide +kernel
theorem dX5_sceneAt_12 : decode cX5_sceneAt 12 = .ok (.iload_n 1, 1) := by decide +kernel
theorem dX5_sceneAt_13 : decode cX5_sceneAt 13 = .ok (.aload_n 0, 1) := by decide +kernel
theorem dX5_sceneAt_14 : decode cX5_sceneAt 14 = .ok (.getfield 15, 3) := by decide +kernel
theorem dX5_sceneAt_17 : decode cX5_sceneAt 17 = .ok (.arraylength, 1) := by decide +kernel
theorem dX5_sceneAt_18 : decode cX5_sceneAt 18 = .ok (.if_icmp .ge 12, 3) := by decide +kernel
theorem dX5_sceneAt_21 : decode cX5_sceneAt 21 = .ok (.aload_n 0, 1) := by decide +kernel
theorem dX5_sceneAt_22 : decode cX5_sceneAt 22 = .ok (.getfield 15, 3) := by decide +kernel
theorem dX5_sceneAt_25 : decode cX5_sceneAt 25 = .ok (.iload_n 1, 1) := by decide +kernel
theorem dX5_sceneAt_26 : decode cX5_sceneAt 26 = .ok (.iaload, 1) := by decide +kernel
theorem dX5_sceneAt_27 : decode cX5_sceneAt 27 = .ok (.goto 5, 3) := by decide +kernel
theorem dX5_sceneAt_30 : decode cX5_sceneAt 30 = .ok (.bipush (-9), 2) := by decide +kernel
theorem dX5_sceneAt_32 : decode cX5_sceneAt 32 = .ok (.ireturn, 1) := by decide +kernel
set_option maxRecDepth 20000 in
theorem ggX5_sceneShown_X5_showsOldestFirst : GoodIn wsX5_sceneShown wsX5_showsOldestFirst := goodIn_r _ [7] (by decide +kernel) (by decide +kernel)
set_option maxRecDepth 20000 in
theorem gX5_sceneShown_X5_showsOldestFirst_u92X0 : GoodIn wsX5_sceneShown (va_wsU RX5 92 RX0 "LampsThatRemember$Lamp" ⟨"LampsThatRemember$Lamp", "showsOldestFirst", "()Z"⟩ yX5_showsOldestFirst wsX5_showsOldestFirst) := goodIn_app (goodIn_of _ (by decide +kernel)) ggX5_sceneShown_X5_showsOldestFirst
set_option maxRecDepth 20000 in
theorem gX5_sceneShown_X5_showsOldestFirst_u92X1 : GoodIn wsX5_sceneShown (va_wsU RX5 92 RX1 "LampsThatRemember$Lamp" ⟨"LampsThatRemember$Lamp", "showsOldestFirst", "()Z"⟩ yX5_showsOldestFirst wsX5_showsOldestFirst) := goodIn_app (goodIn_of _ (by decide +kernel)) ggX5_sceneShown_X5_showsOldestFirst
set_option maxRecDepth 20000 in
theorem gX5_sceneShown_X5_showsOldestFirst_u92X3 : GoodIn wsX5_sceneShown (va_wsU RX5 92 RX3 "LampsThatRemember$Lamp" ⟨"LampsThatRemember$Lamp", "showsOldestFirst", "()Z"⟩ yX5_showsOldestFirst wsX5_showsOldestFirst) := goodIn_app (goodIn_of _ (by decide +kernel)) ggX5_sceneShown_X5_showsOldestFirst
set_option maxRecDepth 20000 in
theorem ggX5_sceneShown_X4_showsOldestFirst : GoodIn wsX5_sceneShown wsX4_showsOldestFirst := goodIn_r _ [14] (by decide +kernel) (by decide +kernel)
set_option maxRecDepth 20000 in
theorem gX5_sceneShown_X4_showsOldestFirst_u92X4 : GoodIn wsX5_sceneShown (va_wsO RX5 92 RX4 "LampsThatRemember$Lamp" ⟨"LampsThatRemember$Lamp", "showsOldestFirst", "()Z"⟩ yX4_showsOldestFirst wsX4_showsOldestFirst) := goodIn_app (goodIn_of _ (by decide +kernel)) ggX5_sceneShown_X4_showsOldestFirst
set_option maxRecDepth 20000 in
theorem gX5_sceneShown_X5_showsOldestFirst : GoodIn wsX5_sceneShown (wsV RX5 92 RX5 yX5_showsOldestFirst wsX5_showsOldestFirst) := goodIn_app (goodIn_of _ (by decide +kernel)) ggX5_sceneShown_X5_showsOldestFirst
set_option maxRecDepth 20000 in
theorem gX5_sceneShown_X5_showsOldestFirst_u92X7 : GoodIn wsX5_sceneShown (va_wsU RX5 92 RX7 "LampsThatRemember$Lamp" ⟨"LampsThatRemember$Lamp", "showsOldestFirst", "()Z"⟩ yX5_showsOldestFirst wsX5_showsOldestFirst) := goodIn_app (goodIn_of _ (by decide +kernel)) ggX5_sceneShown_X5_showsOldestFirst
set_option maxRecDepth 20000 in
theorem gX5_sceneShown_X5_showsOldestFirst_u92X8 : GoodIn wsX5_sceneShown (va_wsU RX5 92 RX8 "LampsThatRemember$Lamp" ⟨"LampsThatRemember$Lamp", "showsOldestFirst", "()Z"⟩ yX5_showsOldestFirst wsX5_showsOldestFirst) := goodIn_app (goodIn_of _ (by decide +kernel)) ggX5_sceneShown_X5_showsOldestFirst
set_option maxRecDepth 20000 in
theorem ggX5_sceneShown_X5_sceneAt : GoodIn wsX5_sceneShown wsX5_sceneAt := goodIn_r _ [23, 1, 24, 32, 33, 34, 35, 36, 37, 38, 39, 40, 41, 42, 43, 44, 45, 46, 47, 48, 49, 50, 51, 52, 53, 54, 55, 56, 57, 58, 59, 60, 61, 62, 63, 64, 65, 66] (by decide +kernel) (by decide +kernel)
set_option maxRecDepth 20000 in
theorem gX5_sceneShown_X5_sceneAt_u96X0 : GoodIn wsX5_sceneShown (va_wsU RX5 96 RX0 "LampsThatRemember$Lamp" ⟨"LampsThatRemember$Lamp", "sceneAt", "(I)I"⟩ yX5_sceneAt wsX5_sceneAt) := goodIn_app (goodIn_of _ (by decide +kernel)) ggX5_sceneShown_X5_sceneAt
set_option maxRecDepth 20000 in
theorem gX5_sceneShown_X5_sceneAt_u96X1 : GoodIn wsX5_sceneShown (va_wsU RX5 96 RX1 "LampsThatRemember$Lamp" ⟨"LampsThatRemember$Lamp", "sceneAt", "(I)I"⟩ yX5_sceneAt wsX5_sceneAt) := goodIn_app (goodIn_of _ (by decide +kernel)) ggX5_sceneShown_X5_sceneAt
set_option maxRecDepth 20000 in
theorem gX5_sceneShown_X5_sceneAt_u96X3 : GoodIn wsX5_sceneShown (va_wsU RX5 96 RX3 "LampsThatRemember$Lamp" ⟨"LampsThatRemember$Lamp", "sceneAt", "(I)I"⟩ yX5_sceneAt wsX5_sceneAt) := goodIn_app (goodIn_of _ (by decide +kernel)) ggX5_sceneShown_X5_sceneAt
set_option maxRecDepth 20000 in
theorem gX5_sceneShown_X5_sceneAt_u96X4 : GoodIn wsX5_sceneShown (va_wsU RX5 96 RX4 "LampsThatRemember$Lamp" ⟨"LampsThatRemember$Lamp", "sceneAt", "(I)I"⟩ yX5_sceneAt wsX5_sceneAt) := goodIn_app (goodIn_of _ (by decide +kernel)) ggX5_sceneShown_X5_sceneAt
set_option maxRecDepth 20000 in
theorem gX5_sceneShown_X5_sceneAt : GoodIn wsX5_sceneShown (wsV RX5 96 RX5 yX5_sceneAt wsX5_sceneAt) := goodIn_app (goodIn_of _ (by decide +kernel)) ggX5_sceneShown_X5_sceneAt
set_option maxRecDepth 20000 in
theorem gX5_sceneShown_X5_sceneAt_u96X7 : GoodIn wsX5_sceneShown (va_wsU RX5 96 RX7 "LampsThatRemember$Lamp" ⟨"LampsThatRemember$Lamp", "sceneAt", "(I)I"⟩ yX5_sceneAt wsX5_sceneAt) := goodIn_app (goodIn_of _ (by decide +kernel)) ggX5_sceneShown_X5_sceneAt
set_option maxRecDepth 20000 in
theorem gX5_sceneShown_X5_sceneAt_u96X8 : GoodIn wsX5_sceneShown (va_wsU RX5 96 RX8 "LampsThatRemember$Lamp" ⟨"LampsThatRemember$Lamp", "sceneAt", "(I)I"⟩ yX5_sceneAt wsX5_sceneAt) := goodIn_app (goodIn_of _ (by decide +kernel)) ggX5_sceneShown_X5_sceneAt
theorem dX5_sceneShown_0 : decode cX5_sceneShown 0 = .ok (.aload_n 0, 1) := by decide +kernel
theorem dX5_sceneShown_1 : decode cX5_sceneShown 1 = .ok (.aload_n 0, 1) := by decide +kernel
theorem dX5_sceneShown_2 : decode cX5_sceneShown 2 = .ok (.invokevirtual 92, 3) := by decide +kernel
theorem dX5_sceneShown_5 : decode cX5_sceneShown 5 = .ok (.ifCond .eq 7, 3) := by decide +kernel
theorem dX5_sceneShown_8 : decode cX5_sceneShown 8 = .ok (.iload_n 1, 1) := by decide +kernel
theorem dX5_sceneShown_9 : decode cX5_sceneShown 9 = .ok (.goto 11, 3) := by decide +kernel
theorem dX5_sceneShown_12 : decode cX5_sceneShown 12 = .ok (.aload_n 0, 1) := by decide +kernel
theorem dX5_sceneShown_13 : decode cX5_sceneShown 13 = .ok (.getfield 50, 3) := by decide +kernel
theorem dX5_sceneShown_16 : decode cX5_sceneShown 16 = .ok (.iconst 1, 1) := by decide +kernel
theorem dX5_sceneShown_17 : decode cX5_sceneShown 17 = .ok (.isub, 1) := by decide +kernel
theorem dX5_sceneShown_18 : decode cX5_sceneShown 18 = .ok (.iload_n 1, 1) := by decide +kernel
theorem dX5_sceneShown_19 : decode cX5_sceneShown 19 = .ok (.isub, 1) := by decide +kernel
theorem dX5_sceneShown_20 : decode cX5_sceneShown 20 = .ok (.invokevirtual 96, 3) := by decide +kernel
theorem dX5_sceneShown_23 : decode cX5_sceneShown 23 = .ok (.ireturn, 1) := by decide +kernel
set_option maxRecDepth 20000 in
theorem ggX5_placeOfMinute_X5_sceneAt : GoodIn wsX5_placeOfMinute wsX5_sceneAt := goodIn_r _ [7, 1, 8, 20, 21, 22, 23, 24, 25, 26, 27, 28, 29, 30, 31, 32, 33, 34, 35, 36, 37, 38, 39, 40, 41, 42, 43, 44, 45, 46, 47, 48, 49, 50, 51, 52, 53, 54] (by decide +kernel) (by decide +kernel)
set_option maxRecDepth 20000 in
theorem gX5_placeOfMinute_X5_sceneAt_u96X0 : GoodIn wsX5_placeOfMinute (va_wsU RX5 96 RX0 "LampsThatRemember$Lamp" ⟨"LampsThatRemember$Lamp", "sceneAt", "(I)I"⟩ yX5_sceneAt wsX5_sceneAt) := goodIn_app (goodIn_of _ (by decide +kernel)) ggX5_placeOfMinute_X5_sceneAt
set_option maxRecDepth 20000 in
theorem gX5_placeOfMinute_X5_sceneAt_u96X1 : GoodIn wsX5_placeOfMinute (va_wsU RX5 96 RX1 "LampsThatRemember$Lamp" ⟨"LampsThatRemember$Lamp", "sceneAt", "(I)I"⟩ yX5_sceneAt wsX5_sceneAt) := goodIn_app (goodIn_of _ (by decide +kernel)) ggX5_placeOfMinute_X5_sceneAt
set_option maxRecDepth 20000 in
theorem gX5_placeOfMinute_X5_sceneAt_u96X3 : GoodIn wsX5_placeOfMinute (va_wsU RX5 96 RX3 "LampsThatRemember$Lamp" ⟨"LampsThatRemember$Lamp", "sceneAt", "(I)I"⟩ yX5_sceneAt wsX5_sceneAt) := goodIn_app (goodIn_of _ (by decide +kernel)) ggX5_placeOfMinute_X5_sceneAt
set_option maxRecDepth 20000 in
theorem gX5_placeOfMinute_X5_sceneAt_u96X4 : GoodIn wsX5_placeOfMinute (va_wsU RX5 96 RX4 "LampsThatRemember$Lamp" ⟨"LampsThatRemember$Lamp", "sceneAt", "(I)I"⟩ yX5_sceneAt wsX5_sceneAt) := goodIn_app (goodIn_of _ (by decide +kernel)) ggX5_placeOfMinute_X5_sceneAt
set_option maxRecDepth 20000 in
theorem gX5_placeOfMinute_X5_sceneAt : GoodIn wsX5_placeOfMinute (wsV RX5 96 RX5 yX5_sceneAt wsX5_sceneAt) := goodIn_app (goodIn_of _ (by decide +kernel)) ggX5_placeOfMinute_X5_sceneAt
set_option maxRecDepth 20000 in
theorem gX5_placeOfMinute_X5_sceneAt_u96X7 : GoodIn wsX5_placeOfMinute (va_wsU RX5 96 RX7 "LampsThatRemember$Lamp" ⟨"LampsThatRemember$Lamp", "sceneAt", "(I)I"⟩ yX5_sceneAt wsX5_sceneAt) := goodIn_app (goodIn_of _ (by decide +kernel)) ggX5_placeOfMinute_X5_sceneAt
set_option maxRecDepth 20000 in
theorem gX5_placeOfMinute_X5_sceneAt_u96X8 : GoodIn wsX5_placeOfMinute (va_wsU RX5 96 RX8 "LampsThatRemember$Lamp" ⟨"LampsThatRemember$Lamp", "sceneAt", "(I)I"⟩ yX5_sceneAt wsX5_sceneAt) := goodIn_app (goodIn_of _ (by decide +kernel)) ggX5_placeOfMinute_X5_sceneAt
set_option maxRecDepth 20000 in
theorem ggX5_placeOfMinute_X9_minuteIn : GoodIn wsX5_placeOfMinute wsX9_minuteIn := goodIn_r _ [19] (by decide +kernel) (by decide +kernel)
set_option maxRecDepth 20000 in
theorem gX5_placeOfMinute_X9_minuteIn : GoodIn wsX5_placeOfMinute (va_wsS RX5 99 yX9_minuteIn wsX9_minuteIn) := goodIn_app (goodIn_of _ (by decide +kernel)) ggX5_placeOfMinute_X9_minuteIn
theorem dX5_placeOfMinute_0 : decode cX5_placeOfMinute 0 = .ok (.iconst 0, 1) := by decide +kernel
theorem dX5_placeOfMinute_1 : decode cX5_placeOfMinute 1 = .ok (.istore_n 2, 1) := by decide +kernel
theorem dX5_placeOfMinute_2 : decode cX5_placeOfMinute 2 = .ok (.iload_n 2, 1) := by decide +kernel
theorem dX5_placeOfMinute_3 : decode cX5_placeOfMinute 3 = .ok (.aload_n 0, 1) := by decide +kernel
theorem dX5_placeOfMinute_4 : decode cX5_placeOfMinute 4 = .ok (.getfield 50, 3) := by decide +kernel
theorem dX5_placeOfMinute_7 : decode cX5_placeOfMinute 7 = .ok (.if_icmp .ge 23, 3) := by decide +kernel
theorem dX5_placeOfMinute_10 : decode cX5_placeOfMinute 10 = .ok (.aload_n 0, 1) := by decide +kernel
theorem dX5_placeOfMinute_11 : decode cX5_placeOfMinute 11 = .ok (.iload_n 2, 1) := by decide +kernel
theorem dX5_placeOfMinute_12 : decode cX5_placeOfMinute 12 = .ok (.invokevirtual 96, 3) := by decide +kernel
theorem dX5_placeOfMinute_15 : decode cX5_placeOfMinute 15 = .ok (.invokestatic 99, 3) := by decide +kernel
theorem dX5_placeOfMinute_18 : decode cX5_placeOfMinute 18 = .ok (.iload_n 1, 1) := by decide +kernel
theorem dX5_placeOfMinute_19 : decode cX5_placeOfMinute 19 = .ok (.if_icmp .ne 5, 3) := by decide +kernel
theorem dX5_placeOfMinute_22 : decode cX5_placeOfMinute 22 = .ok (.iload_n 2, 1) := by decide +kernel
theorem dX5_placeOfMinute_23 : decode cX5_placeOfMinute 23 = .ok (.ireturn, 1) := by decide +kernel
theorem dX5_placeOfMinute_24 : decode cX5_placeOfMinute 24 = .ok (.iinc 2 1, 3) := by decide +kernel
theorem dX5_placeOfMinute_27 : decode cX5_placeOfMinute 27 = .ok (.goto (-25), 3) := by decide +kernel
theorem dX5_placeOfMinute_30 : decode cX5_placeOfMinute 30 = .ok (.bipush (-9), 2) := by decide +kernel
theorem dX5_placeOfMinute_32 : decode cX5_placeOfMinute 32 = .ok (.ireturn, 1) := by decide +kernel
set_option maxRecDepth 20000 in
theorem ggX5_hasScene_X9_minuteIn : GoodIn wsX5_hasScene wsX9_minuteIn := goodIn_r _ [4] (by decide +kernel) (by decide +kernel)
set_option maxRecDepth 20000 in
theorem gX5_hasScene_X9_minuteIn : GoodIn wsX5_hasScene (va_wsS RX5 99 yX9_minuteIn wsX9_minuteIn) := goodIn_app (goodIn_of _ (by decide +kernel)) ggX5_hasScene_X9_minuteIn
set_option maxRecDepth 20000 in
theorem ggX5_hasScene_X5_placeOfMinute : GoodIn wsX5_hasScene wsX5_placeOfMinute := goodIn_r _ [10, 11, 12, 13, 14, 15, 9, 16, 17, 18, 19, 20, 21, 22, 23, 24, 1, 2, 3, 4, 32, 33, 34, 35, 36, 37, 38, 39, 40, 41, 42, 43, 44, 45, 46, 47, 48, 49, 50, 51, 52, 53, 54, 55, 56, 57, 58, 59, 60, 61, 62, 63, 64, 65, 66] (by decide +kernel) (by decide +kernel)
set_option maxRecDepth 20000 in
theorem gX5_hasScene_X5_placeOfMinute_u102X0 : GoodIn wsX5_hasScene (va_wsU RX5 102 RX0 "LampsThatRemember$Lamp" ⟨"LampsThatRemember$Lamp", "placeOfMinute", "(I)I"⟩ yX5_placeOfMinute wsX5_placeOfMinute) := goodIn_app (goodIn_of _ (by decide +kernel)) ggX5_hasScene_X5_placeOfMinute
set_option maxRecDepth 20000 in
theorem gX5_hasScene_X5_placeOfMinute_u102X1 : GoodIn wsX5_hasScene (va_wsU RX5 102 RX1 "LampsThatRemember$Lamp" ⟨"LampsThatRemember$Lamp", "placeOfMinute", "(I)I"⟩ yX5_placeOfMinute wsX5_placeOfMinute) := goodIn_app (goodIn_of _ (by decide +kernel)) ggX5_hasScene_X5_placeOfMinute
set_option maxRecDepth 20000 in
theorem gX5_hasScene_X5_placeOfMinute_u102X3 : GoodIn wsX5_hasScene (va_wsU RX5 102 RX3 "LampsThatRemember$Lamp" ⟨"LampsThatRemember$Lamp", "placeOfMinute", "(I)I"⟩ yX5_placeOfMinute wsX5_placeOfMinute) := goodIn_app (goodIn_of _ (by decide +kernel)) ggX5_hasScene_X5_placeOfMinute
set_option maxRecDepth 20000 in
theorem gX5_hasScene_X5_placeOfMinute_u102X4 : GoodIn wsX5_hasScene (va_wsU RX5 102 RX4 "LampsThatRemember$Lamp" ⟨"LampsThatRemember$Lamp", "placeOfMinute", "(I)I"⟩ yX5_placeOfMinute wsX5_placeOfMinute) := goodIn_app (goodIn_of _ (by decide +kernel)) ggX5_hasScene_X5_placeOfMinute
set_option maxRecDepth 20000 in
theorem gX5_hasScene_X5_placeOfMinute : GoodIn wsX5_hasScene (wsV RX5 102 RX5 yX5_placeOfMinute wsX5_placeOfMinute) := goodIn_app (goodIn_of _ (by decide +kernel)) ggX5_hasScene_X5_placeOfMinute
set_option maxRecDepth 20000 in
theorem gX5_hasScene_X5_placeOfMinute_u102X7 : GoodIn wsX5_hasScene (va_wsU RX5 102 RX7 "LampsThatRemember$Lamp" ⟨"LampsThatRemember$Lamp", "placeOfMinute", "(I)I"⟩ yX5_placeOfMinute wsX5_placeOfMinute) := goodIn_app (goodIn_of _ (by decide +kernel)) ggX5_hasScene_X5_placeOfMinute
set_option maxRecDepth 20000 in
theorem gX5_hasScene_X5_placeOfMinute_u102X8 : GoodIn wsX5_hasScene (va_wsU RX5 102 RX8 "LampsThatRemember$Lamp" ⟨"LampsThatRemember$Lamp", "placeOfMinute", "(I)I"⟩ yX5_placeOfMinute wsX5_placeOfMinute) := goodIn_app (goodIn_of _ (by decide +kernel)) ggX5_hasScene_X5_placeOfMinute
set_option maxRecDepth 20000 in
theorem ggX5_hasScene_X5_sceneAt : GoodIn wsX5_hasScene wsX5_sceneAt := goodIn_r _ [16, 11, 17, 32, 33, 34, 35, 36, 37, 38, 39, 40, 41, 42, 43, 44, 45, 46, 47, 48, 49, 50, 51, 52, 53, 54, 55, 56, 57, 58, 59, 60, 61, 62, 63, 64, 65, 66] (by decide +kernel) (by decide +kernel)
set_option maxRecDepth 20000 in
theorem gX5_hasScene_X5_sceneAt_u96X0 : GoodIn wsX5_hasScene (va_wsU RX5 96 RX0 "LampsThatRemember$Lamp" ⟨"LampsThatRemember$Lamp", "sceneAt", "(I)I"⟩ yX5_sceneAt wsX5_sceneAt) := goodIn_app (goodIn_of _ (by decide +kernel)) ggX5_hasScene_X5_sceneAt
set_option maxRecDepth 20000 in
theorem gX5_hasScene_X5_sceneAt_u96X1 : GoodIn wsX5_hasScene (va_wsU RX5 96 RX1 "LampsThatRemember$Lamp" ⟨"LampsThatRemember$Lamp", "sceneAt", "(I)I"⟩ yX5_sceneAt wsX5_sceneAt) := goodIn_app (goodIn_of _ (by decide +kernel)) ggX5_hasScene_X5_sceneAt
set_option maxRecDepth 20000 in
theorem gX5_hasScene_X5_sceneAt_u96X3 : GoodIn wsX5_hasScene (va_wsU RX5 96 RX3 "LampsThatRemember$Lamp" ⟨"LampsThatRemember$Lamp", "sceneAt", "(I)I"⟩ yX5_sceneAt wsX5_sceneAt) := goodIn_app (goodIn_of _ (by decide +kernel)) ggX5_hasScene_X5_sceneAt
set_option maxRecDepth 20000 in
theorem gX5_hasScene_X5_sceneAt_u96X4 : GoodIn wsX5_hasScene (va_wsU RX5 96 RX4 "LampsThatRemember$Lamp" ⟨"LampsThatRemember$Lamp", "sceneAt", "(I)I"⟩ yX5_sceneAt wsX5_sceneAt) := goodIn_app (goodIn_of _ (by decide +kernel)) ggX5_hasScene_X5_sceneAt
set_option maxRecDepth 20000 in
theorem gX5_hasScene_X5_sceneAt : GoodIn wsX5_hasScene (wsV RX5 96 RX5 yX5_sceneAt wsX5_sceneAt) := goodIn_app (goodIn_of _ (by decide +kernel)) ggX5_hasScene_X5_sceneAt
set_option maxRecDepth 20000 in
theorem gX5_hasScene_X5_sceneAt_u96X7 : GoodIn wsX5_hasScene (va_wsU RX5 96 RX7 "LampsThatRemember$Lamp" ⟨"LampsThatRemember$Lamp", "sceneAt", "(I)I"⟩ yX5_sceneAt wsX5_sceneAt) := goodIn_app (goodIn_of _ (by decide +kernel)) ggX5_hasScene_X5_sceneAt
set_option maxRecDepth 20000 in
theorem gX5_hasScene_X5_sceneAt_u96X8 : GoodIn wsX5_hasScene (va_wsU RX5 96 RX8 "LampsThatRemember$Lamp" ⟨"LampsThatRemember$Lamp", "sceneAt", "(I)I"⟩ yX5_sceneAt wsX5_sceneAt) := goodIn_app (goodIn_of _ (by decide +kernel)) ggX5_hasScene_X5_sceneAt
theorem dX5_hasScene_0 : decode cX5_hasScene 0 = .ok (.aload_n 0, 1) := by decide +kernel
theorem dX5_hasScene_1 : decode cX5_hasScene 1 = .ok (.iload_n 1, 1) := by decide +kernel
theorem dX5_hasScene_2 : decode cX5_hasScene 2 = .ok (.invokestatic 99, 3) := by decide +kernel
theorem dX5_hasScene_5 : decode cX5_hasScene 5 = .ok (.invokevirtual 102, 3) := by decide +kernel
theorem dX5_hasScene_8 : decode cX5_hasScene 8 = .ok (.istore_n 2, 1) := by decide +kernel
theorem dX5_hasScene_9 : decode cX5_hasScene 9 = .ok (.iload_n 2, 1) := by decide +kernel
theorem dX5_hasScene_10 : decode cX5_hasScene 10 = .ok (.ifCond .lt 16, 3) := by decide +kernel
theorem dX5_hasScene_13 : decode cX5_hasScene 13 = .ok (.aload_n 0, 1) := by decide +kernel
theorem dX5_hasScene_14 : decode cX5_hasScene 14 = .ok (.iload_n 2, 1) := by decide +kernel
theorem dX5_hasScene_15 : decode cX5_hasScene 15 = .ok (.invokevirtual 96, 3) := by decide +kernel
theorem dX5_hasScene_18 : decode cX5_hasScene 18 = .ok (.iload_n 1, 1) := by decide +kernel
theorem dX5_hasScene_19 : decode cX5_hasScene 19 = .ok (.if_icmp .ne 7, 3) := by decide +kernel
theorem dX5_hasScene_22 : decode cX5_hasScene 22 = .ok (.iconst 1, 1) := by decide +kernel
theorem dX5_hasScene_23 : decode cX5_hasScene 23 = .ok (.goto 4, 3) := by decide +kernel
theorem dX5_hasScene_26 : decode cX5_hasScene 26 = .ok (.iconst 0, 1) := by decide +kernel
theorem dX5_hasScene_27 : decode cX5_hasScene 27 = .ok (.ireturn, 1) := by decide +kernel
set_option maxRecDepth 20000 in
theorem ggX5_sawAt_X5_placeOfMinute : GoodIn wsX5_sawAt wsX5_placeOfMinute := goodIn_r _ [6, 7, 8, 9, 10, 11, 5, 12, 13, 14, 15, 16, 17, 18, 19, 20, 21, 22, 23, 24, 35, 36, 37, 38, 39, 40, 41, 42, 43, 44, 45, 46, 47, 48, 49, 50, 51, 52, 53, 54, 55, 56, 57, 58, 59, 60, 61, 62, 63, 64, 65, 66, 67, 68, 69] (by decide +kernel) (by decide +kernel)
set_option maxRecDepth 20000 in
theorem gX5_sawAt_X5_placeOfMinute_u102X0 : GoodIn wsX5_sawAt (va_wsU RX5 102 RX0 "LampsThatRemember$Lamp" ⟨"LampsThatRemember$Lamp", "placeOfMinute", "(I)I"⟩ yX5_placeOfMinute wsX5_placeOfMinute) := goodIn_app (goodIn_of _ (by decide +kernel)) ggX5_sawAt_X5_placeOfMinute
set_option maxRecDepth 20000 in
theorem gX5_sawAt_X5_placeOfMinute_u102X1 : GoodIn wsX5_sawAt (va_wsU RX5 102 RX1 "LampsThatRemember$Lamp" ⟨"LampsThatRemember$Lamp", "placeOfMinute", "(I)I"⟩ yX5_placeOfMinute wsX5_placeOfMinute) := goodIn_app (goodIn_of _ (by decide +kernel)) ggX5_sawAt_X5_placeOfMinute
set_option maxRecDepth 20000 in
theorem gX5_sawAt_X5_placeOfMinute_u102X3 : GoodIn wsX5_sawAt (va_wsU RX5 102 RX3 "LampsThatRemember$Lamp" ⟨"LampsThatRemember$Lamp", "placeOfMinute", "(I)I"⟩ yX5_placeOfMinute wsX5_placeOfMinute) := goodIn_app (goodIn_of _ (by decide +kernel)) ggX5_sawAt_X5_placeOfMinute
set_option maxRecDepth 20000 in
theorem gX5_sawAt_X5_placeOfMinute_u102X4 : GoodIn wsX5_sawAt (va_wsU RX5 102 RX4 "LampsThatRemember$Lamp" ⟨"LampsThatRemember$Lamp", "placeOfMinute", "(I)I"⟩ yX5_placeOfMinute wsX5_placeOfMinute) := goodIn_app (goodIn_of _ (by decide +kernel)) ggX5_sawAt_X5_placeOfMinute
set_option maxRecDepth 20000 in
theorem gX5_sawAt_X5_placeOfMinute : GoodIn wsX5_sawAt (wsV RX5 102 RX5 yX5_placeOfMinute wsX5_placeOfMinute) := goodIn_app (goodIn_of _ (by decide +kernel)) ggX5_sawAt_X5_placeOfMinute
set_option maxRecDepth 20000 in
theorem gX5_sawAt_X5_placeOfMinute_u102X7 : GoodIn wsX5_sawAt (va_wsU RX5 102 RX7 "LampsThatRemember$Lamp" ⟨"LampsThatRemember$Lamp", "placeOfMinute", "(I)I"⟩ yX5_placeOfMinute wsX5_placeOfMinute) := goodIn_app (goodIn_of _ (by decide +kernel)) ggX5_sawAt_X5_placeOfMinute
set_option maxRecDepth 20000 in
theorem gX5_sawAt_X5_placeOfMinute_u102X8 : GoodIn wsX5_sawAt (va_wsU RX5 102 RX8 "LampsThatRemember$Lamp" ⟨"LampsThatRemember$Lamp", "placeOfMinute", "(I)I"⟩ yX5_placeOfMinute wsX5_placeOfMinute) := goodIn_app (goodIn_of _ (by decide +kernel)) ggX5_sawAt_X5_placeOfMinute
set_option maxRecDepth 20000 in
theorem ggX5_sawAt_X5_sceneAt : GoodIn wsX5_sawAt wsX5_sceneAt := goodIn_r _ [12, 7, 13, 35, 36, 37, 38, 39, 40, 41, 42, 43, 44, 45, 46, 47, 48, 49, 50, 51, 52, 53, 54, 55, 56, 57, 58, 59, 60, 61, 62, 63, 64, 65, 66, 67, 68, 69] (by decide +kernel) (by decide +kernel)
set_option maxRecDepth 20000 in
theorem gX5_sawAt_X5_sceneAt_u96X0 : GoodIn wsX5_sawAt (va_wsU RX5 96 RX0 "LampsThatRemember$Lamp" ⟨"LampsThatRemember$Lamp", "sceneAt", "(I)I"⟩ yX5_sceneAt wsX5_sceneAt) := goodIn_app (goodIn_of _ (by decide +kernel)) ggX5_sawAt_X5_sceneAt
set_option maxRecDepth 20000 in
theorem gX5_sawAt_X5_sceneAt_u96X1 : GoodIn wsX5_sawAt (va_wsU RX5 96 RX1 "LampsThatRemember$Lamp" ⟨"LampsThatRemember$Lamp", "sceneAt", "(I)I"⟩ yX5_sceneAt wsX5_sceneAt) := goodIn_app (goodIn_of _ (by decide +kernel)) ggX5_sawAt_X5_sceneAt
set_option maxRecDepth 20000 in
theorem gX5_sawAt_X5_sceneAt_u96X3 : GoodIn wsX5_sawAt (va_wsU RX5 96 RX3 "LampsThatRemember$Lamp" ⟨"LampsThatRemember$Lamp", "sceneAt", "(I)I"⟩ yX5_sceneAt wsX5_sceneAt) := goodIn_app (goodIn_of _ (by decide +kernel)) ggX5_sawAt_X5_sceneAt
set_option maxRecDepth 20000 in
theorem gX5_sawAt_X5_sceneAt_u96X4 : GoodIn wsX5_sawAt (va_wsU RX5 96 RX4 "LampsThatRemember$Lamp" ⟨"LampsThatRemember$Lamp", "sceneAt", "(I)I"⟩ yX5_sceneAt wsX5_sceneAt) := goodIn_app (goodIn_of _ (by decide +kernel)) ggX5_sawAt_X5_sceneAt
set_option maxRecDepth 20000 in
theorem gX5_sawAt_X5_sceneAt : GoodIn wsX5_sawAt (wsV RX5 96 RX5 yX5_sceneAt wsX5_sceneAt) := goodIn_app (goodIn_of _ (by decide +kernel)) ggX5_sawAt_X5_sceneAt
set_option maxRecDepth 20000 in
theorem gX5_sawAt_X5_sceneAt_u96X7 : GoodIn wsX5_sawAt (va_wsU RX5 96 RX7 "LampsThatRemember$Lamp" ⟨"LampsThatRemember$Lamp", "sceneAt", "(I)I"⟩ yX5_sceneAt wsX5_sceneAt) := goodIn_app (goodIn_of _ (by decide +kernel)) ggX5_sawAt_X5_sceneAt
set_option maxRecDepth 20000 in
theorem gX5_sawAt_X5_sceneAt_u96X8 : GoodIn wsX5_sawAt (va_wsU RX5 96 RX8 "LampsThatRemember$Lamp" ⟨"LampsThatRemember$Lamp", "sceneAt", "(I)I"⟩ yX5_sceneAt wsX5_sceneAt) := goodIn_app (goodIn_of _ (by decide +kernel)) ggX5_sawAt_X5_sceneAt
set_option maxRecDepth 20000 in
theorem ggX5_sawAt_X9_whoIn : GoodIn wsX5_sawAt wsX9_whoIn := goodIn_r _ [34] (by decide +kernel) (by decide +kernel)
set_option maxRecDepth 20000 in
theorem gX5_sawAt_X9_whoIn : GoodIn wsX5_sawAt (va_wsS RX5 105 yX9_whoIn wsX9_whoIn) := goodIn_app (goodIn_of _ (by decide +kernel)) ggX5_sawAt_X9_whoIn
theorem dX5_sawAt_0 : decode cX5_sawAt 0 = .ok (.aload_n 0, 1) := by decide +kernel
theorem dX5_sawAt_1 : decode cX5_sawAt 1 = .ok (.iload_n 2, 1) := by decide +kernel
theorem dX5_sawAt_2 : decode cX5_sawAt 2 = .ok (.invokevirtual 102, 3) := by decide +kernel
theorem dX5_sawAt_5 : decode cX5_sawAt 5 = .ok (.istore_n 3, 1) := by decide +kernel
theorem dX5_sawAt_6 : decode cX5_sawAt 6 = .ok (.iload_n 3, 1) := by decide +kernel
theorem dX5_sawAt_7 : decode cX5_sawAt 7 = .ok (.ifCond .lt 19, 3) := by decide +kernel
theorem dX5_sawAt_10 : decode cX5_sawAt 10 = .ok (.aload_n 0, 1) := by decide +kernel
theorem dX5_sawAt_11 : decode cX5_sawAt 11 = .ok (.iload_n 3, 1) := by decide +kernel
theorem dX5_sawAt_12 : decode cX5_sawAt 12 = .ok (.invokevirtual 96, 3) := by decide +kernel
theorem dX5_sawAt_15 : decode cX5_sawAt 15 = .ok (.invokestatic 105, 3) := by decide +kernel
theorem dX5_sawAt_18 : decode cX5_sawAt 18 = .ok (.iload_n 1, 1) := by decide +kernel
theorem dX5_sawAt_19 : decode cX5_sawAt 19 = .ok (.if_icmp .ne 7, 3) := by decide +kernel
theorem dX5_sawAt_22 : decode cX5_sawAt 22 = .ok (.iconst 1, 1) := by decide +kernel
theorem dX5_sawAt_23 : decode cX5_sawAt 23 = .ok (.goto 4, 3) := by decide +kernel
theorem dX5_sawAt_26 : decode cX5_sawAt 26 = .ok (.iconst 0, 1) := by decide +kernel
theorem dX5_sawAt_27 : decode cX5_sawAt 27 = .ok (.ireturn, 1) := by decide +kernel
set_option maxRecDepth 20000 in
theorem ggX5_everSeen_X5_sceneAt : GoodIn wsX5_everSeen wsX5_sceneAt := goodIn_r _ [7, 1, 8, 20, 21, 22, 23, 24, 25, 26, 27, 28, 29, 30, 31, 32, 33, 34, 35, 36, 37, 38, 39, 40, 41, 42, 43, 44, 45, 46, 47, 48, 49, 50, 51, 52, 53, 54] (by decide +kernel) (by decide +kernel)
set_option maxRecDepth 20000 in
theorem gX5_everSeen_X5_sceneAt_u96X0 : GoodIn wsX5_everSeen (va_wsU RX5 96 RX0 "LampsThatRemember$Lamp" ⟨"LampsThatRemember$Lamp", "sceneAt", "(I)I"⟩ yX5_sceneAt wsX5_sceneAt) := goodIn_app (goodIn_of _ (by decide +kernel)) ggX5_everSeen_X5_sceneAt
set_option maxRecDepth 20000 in
theorem gX5_everSeen_X5_sceneAt_u96X1 : GoodIn wsX5_everSeen (va_wsU RX5 96 RX1 "LampsThatRemember$Lamp" ⟨"LampsThatRemember$Lamp", "sceneAt", "(I)I"⟩ yX5_sceneAt wsX5_sceneAt) := goodIn_app (goodIn_of _ (by decide +kernel)) ggX5_everSeen_X5_sceneAt
set_option maxRecDepth 20000 in
theorem gX5_everSeen_X5_sceneAt_u96X3 : GoodIn wsX5_everSeen (va_wsU RX5 96 RX3 "LampsThatRemember$Lamp" ⟨"LampsThatRemember$Lamp", "sceneAt", "(I)I"⟩ yX5_sceneAt wsX5_sceneAt) := goodIn_app (goodIn_of _ (by decide +kernel)) ggX5_everSeen_X5_sceneAt
set_option maxRecDepth 20000 in
theorem gX5_everSeen_X5_sceneAt_u96X4 : GoodIn wsX5_everSeen (va_wsU RX5 96 RX4 "LampsThatRemember$Lamp" ⟨"LampsThatRemember$Lamp", "sceneAt", "(I)I"⟩ yX5_sceneAt wsX5_sceneAt) := goodIn_app (goodIn_of _ (by decide +kernel)) ggX5_everSeen_X5_sceneAt
set_option maxRecDepth 20000 in
theorem gX5_everSeen_X5_sceneAt : GoodIn wsX5_everSeen (wsV RX5 96 RX5 yX5_sceneAt wsX5_sceneAt) := goodIn_app (goodIn_of _ (by decide +kernel)) ggX5_everSeen_X5_sceneAt
set_option maxRecDepth 20000 in
theorem gX5_everSeen_X5_sceneAt_u96X7 : GoodIn wsX5_everSeen (va_wsU RX5 96 RX7 "LampsThatRemember$Lamp" ⟨"LampsThatRemember$Lamp", "sceneAt", "(I)I"⟩ yX5_sceneAt wsX5_sceneAt) := goodIn_app (goodIn_of _ (by decide +kernel)) ggX5_everSeen_X5_sceneAt
set_option maxRecDepth 20000 in
theorem gX5_everSeen_X5_sceneAt_u96X8 : GoodIn wsX5_everSeen (va_wsU RX5 96 RX8 "LampsThatRemember$Lamp" ⟨"LampsThatRemember$Lamp", "sceneAt", "(I)I"⟩ yX5_sceneAt wsX5_sceneAt) := goodIn_app (goodIn_of _ (by decide +kernel)) ggX5_everSeen_X5_sceneAt
set_option maxRecDepth 20000 in
theorem ggX5_everSeen_X9_whoIn : GoodIn wsX5_everSeen wsX9_whoIn := goodIn_r _ [19] (by decide +kernel) (by decide +kernel)
set_option maxRecDepth 20000 in
theorem gX5_everSeen_X9_whoIn : GoodIn wsX5_everSeen (va_wsS RX5 105 yX9_whoIn wsX9_whoIn) := goodIn_app (goodIn_of _ (by decide +kernel)) ggX5_everSeen_X9_whoIn
theorem dX5_everSeen_0 : decode cX5_everSeen 0 = .ok (.iconst 0, 1) := by decide +kernel
theorem dX5_everSeen_1 : decode cX5_everSeen 1 = .ok (.istore_n 1, 1) := by decide +kernel
theorem dX5_everSeen_2 : decode cX5_everSeen 2 = .ok (.iconst 0, 1) := by decide +kernel
theorem dX5_everSeen_3 : decode cX5_everSeen 3 = .ok (.istore_n 2, 1) := by decide +kernel
theorem dX5_everSeen_4 : decode cX5_everSeen 4 = .ok (.iload_n 2, 1) := by decide +kernel
theorem dX5_everSeen_5 : decode cX5_everSeen 5 = .ok (.aload_n 0, 1) := by decide +kernel
theorem dX5_everSeen_6 : decode cX5_everSeen 6 = .ok (.getfield 50, 3) := by decide +kernel
theorem dX5_everSeen_9 : decode cX5_everSeen 9 = .ok (.if_icmp .ge 30, 3) := by decide +kernel
theorem dX5_everSeen_12 : decode cX5_everSeen 12 = .ok (.aload_n 0, 1) := by decide +kernel
theorem dX5_everSeen_13 : decode cX5_everSeen 13 = .ok (.iload_n 2, 1) := by decide +kernel
theorem dX5_everSeen_14 : decode cX5_everSeen 14 = .ok (.invokevirtual 96, 3) := by decide +kernel
theorem dX5_everSeen_17 : decode cX5_everSeen 17 = .ok (.invokestatic 105, 3) := by decide +kernel
theorem dX5_everSeen_20 : decode cX5_everSeen 20 = .ok (.istore_n 3, 1) := by decide +kernel
theorem dX5_everSeen_21 : decode cX5_everSeen 21 = .ok (.iload_n 3, 1) := by decide +kernel
theorem dX5_everSeen_22 : decode cX5_everSeen 22 = .ok (.bipush 9, 2) := by decide +kernel
theorem dX5_everSeen_24 : decode cX5_everSeen 24 = .ok (.if_icmp .eq 9, 3) := by decide +kernel
theorem dX5_everSeen_27 : decode cX5_everSeen 27 = .ok (.iload_n 1, 1) := by decide +kernel
theorem dX5_everSeen_28 : decode cX5_everSeen 28 = .ok (.iconst 1, 1) := by decide +kernel
theorem dX5_everSeen_29 : decode cX5_everSeen 29 = .ok (.iload_n 3, 1) := by decide +kernel
theorem dX5_everSeen_30 : decode cX5_everSeen 30 = .ok (.ishl, 1) := by decide +kernel
theorem dX5_everSeen_31 : decode cX5_everSeen 31 = .ok (.ior, 1) := by decide +kernel
theorem dX5_everSeen_32 : decode cX5_everSeen 32 = .ok (.istore_n 1, 1) := by decide +kernel
theorem dX5_everSeen_33 : decode cX5_everSeen 33 = .ok (.iinc 2 1, 3) := by decide +kernel
theorem dX5_everSeen_36 : decode cX5_everSeen 36 = .ok (.goto (-32), 3) := by decide +kernel
theorem dX5_everSeen_39 : decode cX5_everSeen 39 = .ok (.iload_n 1, 1) := by decide +kernel
theorem dX5_everSeen_40 : decode cX5_everSeen 40 = .ok (.ireturn, 1) := by decide +kernel
set_option maxRecDepth 20000 in
theorem ggX5_leftByScenes_X5_sceneAt : GoodIn wsX5_leftByScenes wsX5_sceneAt := goodIn_r _ [11, 1, 12, 42, 43, 44, 45, 46, 47, 48, 49, 50, 51, 52, 53, 54, 55, 56, 57, 58, 59, 60, 61, 62, 63, 64, 65, 66, 67, 68, 69, 70, 71, 72, 73, 74, 75, 76] (by decide +kernel) (by decide +kernel)
set_option maxRecDepth 20000 in
theorem gX5_leftByScenes_X5_sceneAt_u96X0 : GoodIn wsX5_leftByScenes (va_wsU RX5 96 RX0 "LampsThatRemember$Lamp" ⟨"LampsThatRemember$Lamp", "sceneAt", "(I)I"⟩ yX5_sceneAt wsX5_sceneAt) := goodIn_app (goodIn_of _ (by decide +kernel)) ggX5_leftByScenes_X5_sceneAt
set_option maxRecDepth 20000 in
theorem gX5_leftByScenes_X5_sceneAt_u96X1 : GoodIn wsX5_leftByScenes (va_wsU RX5 96 RX1 "LampsThatRemember$Lamp" ⟨"LampsThatRemember$Lamp", "sceneAt", "(I)I"⟩ yX5_sceneAt wsX5_sceneAt) := goodIn_app (goodIn_of _ (by decide +kernel)) ggX5_leftByScenes_X5_sceneAt
set_option maxRecDepth 20000 in
theorem gX5_leftByScenes_X5_sceneAt_u96X3 : GoodIn wsX5_leftByScenes (va_wsU RX5 96 RX3 "LampsThatRemember$Lamp" ⟨"LampsThatRemember$Lamp", "sceneAt", "(I)I"⟩ yX5_sceneAt wsX5_sceneAt) := goodIn_app (goodIn_of _ (by decide +kernel)) ggX5_leftByScenes_X5_sceneAt
set_option maxRecDepth 20000 in
theorem gX5_leftByScenes_X5_sceneAt_u96X4 : GoodIn wsX5_leftByScenes (va_wsU RX5 96 RX4 "LampsThatRemember$Lamp" ⟨"LampsThatRemember$Lamp", "sceneAt", "(I)I"⟩ yX5_sceneAt wsX5_sceneAt) := goodIn_app (goodIn_of _ (by decide +kernel)) ggX5_leftByScenes_X5_sceneAt
set_option maxRecDepth 20000 in
theorem gX5_leftByScenes_X5_sceneAt : GoodIn wsX5_leftByScenes (wsV RX5 96 RX5 yX5_sceneAt wsX5_sceneAt) := goodIn_app (goodIn_of _ (by decide +kernel)) ggX5_leftByScenes_X5_sceneAt
set_option maxRecDepth 20000 in
theorem gX5_leftByScenes_X5_sceneAt_u96X7 : GoodIn wsX5_leftByScenes (va_wsU RX5 96 RX7 "LampsThatRemember$Lamp" ⟨"LampsThatRemember$Lamp", "sceneAt", "(I)I"⟩ yX5_sceneAt wsX5_sceneAt) := goodIn_app (goodIn_of _ (by decide +kernel)) ggX5_leftByScenes_X5_sceneAt
set_option maxRecDepth 20000 in
theorem gX5_leftByScenes_X5_sceneAt_u96X8 : GoodIn wsX5_leftByScenes (va_wsU RX5 96 RX8 "LampsThatRemember$Lamp" ⟨"LampsThatRemember$Lamp", "sceneAt", "(I)I"⟩ yX5_sceneAt wsX5_sceneAt) := goodIn_app (goodIn_of _ (by decide +kernel)) ggX5_leftByScenes_X5_sceneAt
set_option maxRecDepth 20000 in
theorem ggX5_leftByScenes_X9_whoIn : GoodIn wsX5_leftByScenes wsX9_whoIn := goodIn_r _ [23] (by decide +kernel) (by decide +kernel)
set_option maxRecDepth 20000 in
theorem gX5_leftByScenes_X9_whoIn : GoodIn wsX5_leftByScenes (va_wsS RX5 105 yX9_whoIn wsX9_whoIn) := goodIn_app (goodIn_of _ (by decide +kernel)) ggX5_leftByScenes_X9_whoIn
set_option maxRecDepth 20000 in
theorem ggX5_leftByScenes_X9_minuteIn : GoodIn wsX5_leftByScenes wsX9_minuteIn := goodIn_r _ [26] (by decide +kernel) (by decide +kernel)
set_option maxRecDepth 20000 in
theorem gX5_leftByScenes_X9_minuteIn : GoodIn wsX5_leftByScenes (va_wsS RX5 99 yX9_minuteIn wsX9_minuteIn) := goodIn_app (goodIn_of _ (by decide +kernel)) ggX5_leftByScenes_X9_minuteIn
set_option maxRecDepth 20000 in
theorem ggX5_leftByScenes_X9_cellIn : GoodIn wsX5_leftByScenes wsX9_cellIn := goodIn_r _ [29] (by decide +kernel) (by decide +kernel)
set_option maxRecDepth 20000 in
theorem gX5_leftByScenes_X9_cellIn : GoodIn wsX5_leftByScenes (va_wsS RX5 113 yX9_cellIn wsX9_cellIn) := goodIn_app (goodIn_of _ (by decide +kernel)) ggX5_leftByScenes_X9_cellIn
set_option maxRecDepth 20000 in
theorem ggX5_leftByScenes_X2_within : GoodIn wsX5_leftByScenes wsX2_within := goodIn_r _ [33, 34, 35, 32, 36, 37, 38, 39, 40, 41] (by decide +kernel) (by decide +kernel)
set_option maxRecDepth 20000 in
theorem gX5_leftByScenes_X2_within : GoodIn wsX5_leftByScenes (va_wsS RX5 86 yX2_within wsX2_within) := goodIn_app (goodIn_of _ (by decide +kernel)) ggX5_leftByScenes_X2_within
theorem dX5_leftByScenes_0 : decode cX5_leftByScenes 0 = .ok (.lload_n 3, 1) := by decide +kernel
theorem dX5_leftByScenes_1 : decode cX5_leftByScenes 1 = .ok (.lstore 5, 2) := by decide +kernel
theorem dX5_leftByScenes_3 : decode cX5_leftByScenes 3 = .ok (.iconst 0, 1) := by decide +kernel
theorem dX5_leftByScenes_4 : decode cX5_leftByScenes 4 = .ok (.istore 7, 2) := by decide +kernel
theorem dX5_leftByScenes_6 : decode cX5_leftByScenes 6 = .ok (.iload 7, 2) := by decide +kernel
theorem dX5_leftByScenes_8 : decode cX5_leftByScenes 8 = .ok (.aload_n 0, 1) := by decide +kernel
theorem dX5_leftByScenes_9 : decode cX5_leftByScenes 9 = .ok (.getfield 50, 3) := by decide +kernel
theorem dX5_leftByScenes_12 : decode cX5_leftByScenes 12 = .ok (.if_icmp .ge 54, 3) := by decide +kernel
theorem dX5_leftByScenes_15 : decode cX5_leftByScenes 15 = .ok (.aload_n 0, 1) := by decide +kernel
theorem dX5_leftByScenes_16 : decode cX5_leftByScenes 16 = .ok (.iload 7, 2) := by decide +kernel
theorem dX5_leftByScenes_18 : decode cX5_leftByScenes 18 = .ok (.invokevirtual 96, 3) := by decide +kernel
theorem dX5_leftByScenes_21 : decode cX5_leftByScenes 21 = .ok (.istore 8, 2) := by decide +kernel
theorem dX5_leftByScenes_23 : decode cX5_leftByScenes 23 = .ok (.iload 8, 2) := by decide +kernel
theorem dX5_leftByScenes_25 : decode cX5_leftByScenes 25 = .ok (.invokestatic 105, 3) := by decide +kernel
theorem dX5_leftByScenes_28 : decode cX5_leftByScenes 28 = .ok (.iload_n 1, 1) := by decide +kernel
theorem dX5_leftByScenes_29 : decode cX5_leftByScenes 29 = .ok (.if_icmp .ne 31, 3) := by decide +kernel
theorem dX5_leftByScenes_32 : decode cX5_leftByScenes 32 = .ok (.iload_n 2, 1) := by decide +kernel
theorem dX5_leftByScenes_33 : decode cX5_leftByScenes 33 = .ok (.iload 8, 2) := by decide +kernel
theorem dX5_leftByScenes_35 : decode cX5_leftByScenes 35 = .ok (.invokestatic 99, 3) := by decide +kernel
theorem dX5_leftByScenes_38 : decode cX5_leftByScenes 38 = .ok (.isub, 1) := by decide +kernel
theorem dX5_leftByScenes_39 : decode cX5_leftByScenes 39 = .ok (.invokestatic 108, 3) := by decide +kernel
theorem dX5_leftByScenes_42 : decode cX5_leftByScenes 42 = .ok (.istore 9, 2) := by decide +kernel
theorem dX5_leftByScenes_44 : decode cX5_leftByScenes 44 = .ok (.lload 5, 2) := by decide +kernel
theorem dX5_leftByScenes_46 : decode cX5_leftByScenes 46 = .ok (.iload 8, 2) := by decide +kernel
theorem dX5_leftByScenes_48 : decode cX5_leftByScenes 48 = .ok (.invokestatic 113, 3) := by decide +kernel
theorem dX5_leftByScenes_51 : decode cX5_leftByScenes 51 = .ok (.iload 9, 2) := by decide +kernel
theorem dX5_leftByScenes_53 : decode cX5_leftByScenes 53 = .ok (.lload_n 3, 1) := by decide +kernel
theorem dX5_leftByScenes_54 : decode cX5_leftByScenes 54 = .ok (.invokestatic 86, 3) := by decide +kernel
theorem dX5_leftByScenes_57 : decode cX5_leftByScenes 57 = .ok (.land, 1) := by decide +kernel
theorem dX5_leftByScenes_58 : decode cX5_leftByScenes 58 = .ok (.lstore 5, 2) := by decide +kernel
theorem dX5_leftByScenes_60 : decode cX5_leftByScenes 60 = .ok (.iinc 7 1, 3) := by decide +kernel
theorem dX5_leftByScenes_63 : decode cX5_leftByScenes 63 = .ok (.goto (-57), 3) := by decide +kernel
theorem dX5_leftByScenes_66 : decode cX5_leftByScenes 66 = .ok (.lload 5, 2) := by decide +kernel
theorem dX5_leftByScenes_68 : decode cX5_leftByScenes 68 = .ok (.lreturn, 1) := by decide +kernel
set_option maxRecDepth 20000 in
theorem ggX5_missed_X0_kind : GoodIn wsX5_missed wsX0_kind := goodIn_r _ [9] (by decide +kernel) (by decide +kernel)
set_option maxRecDepth 20000 in
theorem gX5_missed_X0_kind_u66X0 : GoodIn wsX5_missed (va_wsO RX5 66 RX0 "LampsThatRemember$Lamp" ⟨"LampsThatRemember$Lamp", "kind", "()I"⟩ yX0_kind wsX0_kind) := goodIn_app (goodIn_of _ (by decide +kernel)) ggX5_missed_X0_kind
set_option maxRecDepth 20000 in
theorem ggX5_missed_X1_kind : GoodIn wsX5_missed wsX1_kind := goodIn_r _ [14] (by decide +kernel) (by decide +kernel)
set_option maxRecDepth 20000 in
theorem gX5_missed_X1_kind_u66X1 : GoodIn wsX5_missed (va_wsO RX5 66 RX1 "LampsThatRemember$Lamp" ⟨"LampsThatRemember$Lamp", "kind", "()I"⟩ yX1_kind wsX1_kind) := goodIn_app (goodIn_of _ (by decide +kernel)) ggX5_missed_X1_kind
set_option maxRecDepth 20000 in
theorem ggX5_missed_X3_kind : GoodIn wsX5_missed wsX3_kind := goodIn_r _ [18] (by decide +kernel) (by decide +kernel)
set_option maxRecDepth 20000 in
theorem gX5_missed_X3_kind_u66X3 : GoodIn wsX5_missed (va_wsO RX5 66 RX3 "LampsThatRemember$Lamp" ⟨"LampsThatRemember$Lamp", "kind", "()I"⟩ yX3_kind wsX3_kind) := goodIn_app (goodIn_of _ (by decide +kernel)) ggX5_missed_X3_kind
set_option maxRecDepth 20000 in
theorem ggX5_missed_X4_kind : GoodIn wsX5_missed wsX4_kind := goodIn_r _ [22] (by decide +kernel) (by decide +kernel)
set_option maxRecDepth 20000 in
theorem gX5_missed_X4_kind_u66X4 : GoodIn wsX5_missed (va_wsO RX5 66 RX4 "LampsThatRemember$Lamp" ⟨"LampsThatRemember$Lamp", "kind", "()I"⟩ yX4_kind wsX4_kind) := goodIn_app (goodIn_of _ (by decide +kernel)) ggX5_missed_X4_kind
set_option maxRecDepth 20000 in
theorem ggX5_missed_X5_kind : GoodIn wsX5_missed wsX5_kind := goodIn_r _ [10] (by decide +kernel) (by decide +kernel)
set_option maxRecDepth 20000 in
theorem gX5_missed_X5_kind : GoodIn wsX5_missed (wsV RX5 66 RX5 yX5_kind wsX5_kind) := goodIn_app (goodIn_of _ (by decide +kernel)) ggX5_missed_X5_kind
set_option maxRecDepth 20000 in
theorem ggX5_missed_X7_kind : GoodIn wsX5_missed wsX7_kind := goodIn_r _ [30] (by decide +kernel) (by decide +kernel)
set_option maxRecDepth 20000 in
theorem gX5_missed_X7_kind_u66X7 : GoodIn wsX5_missed (va_wsO RX5 66 RX7 "LampsThatRemember$Lamp" ⟨"LampsThatRemember$Lamp", "kind", "()I"⟩ yX7_kind wsX7_kind) := goodIn_app (goodIn_of _ (by decide +kernel)) ggX5_missed_X7_kind
set_option maxRecDepth 20000 in
theorem ggX5_missed_X8_kind : GoodIn wsX5_missed wsX8_kind := goodIn_r _ [34] (by decide +kernel) (by decide +kernel)
set_option maxRecDepth 20000 in
theorem gX5_missed_X8_kind_u66X8 : GoodIn wsX5_missed (va_wsO RX5 66 RX8 "LampsThatRemember$Lamp" ⟨"LampsThatRemember$Lamp", "kind", "()I"⟩ yX8_kind wsX8_kind) := goodIn_app (goodIn_of _ (by decide +kernel)) ggX5_missed_X8_kind
set_option maxRecDepth 20000 in
theorem ggX5_missed_X5_sawAt : GoodIn wsX5_missed wsX5_sawAt := goodIn_r _ [39, 40, 41, 42, 43, 26, 44, 2, 45, 46, 47, 48, 49, 50, 51, 52, 53, 54, 55, 56, 57, 58, 59, 60, 61, 62, 63, 64, 65, 66, 67, 68, 69, 70, 71, 79, 80, 81, 82, 83, 84, 85, 86, 87, 88, 89, 90, 91, 92, 93, 94, 95, 96, 97, 98, 99, 100, 101, 102, 103, 104, 105, 106, 107, 108, 109, 110, 111, 112, 113] (by decide +kernel) (by decide +kernel)
set_option maxRecDepth 20000 in
theorem gX5_missed_X5_sawAt_u116X0 : GoodIn wsX5_missed (va_wsU RX5 116 RX0 "LampsThatRemember$Lamp" ⟨"LampsThatRemember$Lamp", "sawAt", "(II)Z"⟩ yX5_sawAt wsX5_sawAt) := goodIn_app (goodIn_of _ (by decide +kernel)) ggX5_missed_X5_sawAt
set_option maxRecDepth 20000 in
theorem gX5_missed_X5_sawAt_u116X1 : GoodIn wsX5_missed (va_wsU RX5 116 RX1 "LampsThatRemember$Lamp" ⟨"LampsThatRemember$Lamp", "sawAt", "(II)Z"⟩ yX5_sawAt wsX5_sawAt) := goodIn_app (goodIn_of _ (by decide +kernel)) ggX5_missed_X5_sawAt
set_option maxRecDepth 20000 in
theorem gX5_missed_X5_sawAt_u116X3 : GoodIn wsX5_missed (va_wsU RX5 116 RX3 "LampsThatRemember$Lamp" ⟨"LampsThatRemember$Lamp", "sawAt", "(II)Z"⟩ yX5_sawAt wsX5_sawAt) := goodIn_app (goodIn_of _ (by decide +kernel)) ggX5_missed_X5_sawAt
set_option maxRecDepth 20000 in
theorem gX5_missed_X5_sawAt_u116X4 : GoodIn wsX5_missed (va_wsU RX5 116 RX4 "LampsThatRemember$Lamp" ⟨"LampsThatRemember$Lamp", "sawAt", "(II)Z"⟩ yX5_sawAt wsX5_sawAt) := goodIn_app (goodIn_of _ (by decide +kernel)) ggX5_missed_X5_sawAt
set_option maxRecDepth 20000 in
theorem gX5_missed_X5_sawAt : GoodIn wsX5_missed (wsV RX5 116 RX5 yX5_sawAt wsX5_sawAt) := goodIn_app (goodIn_of _ (by decide +kernel)) ggX5_missed_X5_sawAt
set_option maxRecDepth 20000 in
theorem gX5_missed_X5_sawAt_u116X7 : GoodIn wsX5_missed (va_wsU RX5 116 RX7 "LampsThatRemember$Lamp" ⟨"LampsThatRemember$Lamp", "sawAt", "(II)Z"⟩ yX5_sawAt wsX5_sawAt) := goodIn_app (goodIn_of _ (by decide +kernel)) ggX5_missed_X5_sawAt
set_option maxRecDepth 20000 in
theorem gX5_missed_X5_sawAt_u116X8 : GoodIn wsX5_missed (va_wsU RX5 116 RX8 "LampsThatRemember$Lamp" ⟨"LampsThatRemember$Lamp", "sawAt", "(II)Z"⟩ yX5_sawAt wsX5_sawAt) := goodIn_app (goodIn_of _ (by decide +kernel)) ggX5_missed_X5_sawAt
theorem dX5_missed_0 : decode cX5_missed 0 = .ok (.aload_n 0, 1) := by decide +kernel
theorem dX5_missed_1 : decode cX5_missed 1 = .ok (.invokevirtual 66, 3) := by decide +kernel
theorem dX5_missed_4 : decode cX5_missed 4 = .ok (.ifCond .ne 32, 3) := by decide +kernel
theorem dX5_missed_7 : decode cX5_missed 7 = .ok (.aload_n 0, 1) := by decide +kernel
theorem dX5_missed_8 : decode cX5_missed 8 = .ok (.getfield 9, 3) := by decide +kernel
theorem dX5_missed_11 : decode cX5_missed 11 = .ok (.ifCond .eq 25, 3) := by decide +kernel
theorem dX5_missed_14 : decode cX5_missed 14 = .ok (.aload_n 0, 1) := by decide +kernel
theorem dX5_missed_15 : decode cX5_missed 15 = .ok (.getfield 50, 3) := by decide +kernel
theorem dX5_missed_18 : decode cX5_missed 18 = .ok (.bipush 9, 2) := by decide +kernel
theorem dX5_missed_20 : decode cX5_missed 20 = .ok (.if_icmp .ge 16, 3) := by decide +kernel
theorem dX5_missed_23 : decode cX5_missed 23 = .ok (.aload_n 0, 1) := by decide +kernel
theorem dX5_missed_24 : decode cX5_missed 24 = .ok (.iload_n 1, 1) := by decide +kernel
theorem dX5_missed_25 : decode cX5_missed 25 = .ok (.iload_n 2, 1) := by decide +kernel
theorem dX5_missed_26 : decode cX5_missed 26 = .ok (.invokevirtual 116, 3) := by decide +kernel
theorem dX5_missed_29 : decode cX5_missed 29 = .ok (.ifCond .ne 7, 3) := by decide +kernel
theorem dX5_missed_32 : decode cX5_missed 32 = .ok (.iconst 1, 1) := by decide +kernel
theorem dX5_missed_33 : decode cX5_missed 33 = .ok (.goto 4, 3) := by decide +kernel
theorem dX5_missed_36 : decode cX5_missed 36 = .ok (.iconst 0, 1) := by decide +kernel
theorem dX5_missed_37 : decode cX5_missed 37 = .ok (.ireturn, 1) := by decide +kernel
theorem dX6_init_0 : decode cX6_init 0 = .ok (.aload_n 0, 1) := by decide +kernel
theorem dX6_init_1 : decode cX6_init 1 = .ok (.invokespecial 3, 3) := by decide +kernel
theorem dX6_init_4 : decode cX6_init 4 = .ok (.aload_n 0, 1) := by decide +kernel
theorem dX6_init_5 : decode cX6_init 5 = .ok (.bipush 96, 2) := by decide +kernel
theorem dX6_init_7 : decode cX6_init 7 = .ok (.newarray .int, 2) := by decide +kernel
theorem dX6_init_9 : decode cX6_init 9 = .ok (.putfield 9, 3) := by decide +kernel
theorem dX6_init_12 : decode cX6_init 12 = .ok (.return_, 1) := by decide +kernel
theorem dX6_isFull_0 : decode cX6_isFull 0 = .ok (.aload_n 0, 1) := by decide +kernel
theorem dX6_isFull_1 : decode cX6_isFull 1 = .ok (.getfield 15, 3) := by decide +kernel
theorem dX6_isFull_4 : decode cX6_isFull 4 = .ok (.aload_n 0, 1) := by decide +kernel
theorem dX6_isFull_5 : decode cX6_isFull 5 = .ok (.getfield 9, 3) := by decide +kernel
theorem dX6_isFull_8 : decode cX6_isFull 8 = .ok (.arraylength, 1) := by decide +kernel
theorem dX6_isFull_9 : decode cX6_isFull 9 = .ok (.if_icmp .lt 7, 3) := by decide +kernel
theorem dX6_isFull_12 : decode cX6_isFull 12 = .ok (.iconst 1, 1) := by decide +kernel
theorem dX6_isFull_13 : decode cX6_isFull 13 = .ok (.goto 4, 3) := by decide +kernel
theorem dX6_isFull_16 : decode cX6_isFull 16 = .ok (.iconst 0, 1) := by decide +kernel
theorem dX6_isFull_17 : decode cX6_isFull 17 = .ok (.ireturn, 1) := by decide +kernel
theorem dX6_add_0 : decode cX6_add 0 = .ok (.aload_n 0, 1) := by decide +kernel
theorem dX6_add_1 : decode cX6_add 1 = .ok (.getfield 15, 3) := by decide +kernel
theorem dX6_add_4 : decode cX6_add 4 = .ok (.ifCond .lt 35, 3) := by decide +kernel
theorem dX6_add_7 : decode cX6_add 7 = .ok (.aload_n 0, 1) := by decide +kernel
theorem dX6_add_8 : decode cX6_add 8 = .ok (.getfield 15, 3) := by decide +kernel
theorem dX6_add_11 : decode cX6_add 11 = .ok (.aload_n 0, 1) := by decide +kernel
theorem dX6_add_12 : decode cX6_add 12 = .ok (.getfield 9, 3) := by decide +kernel
theorem dX6_add_15 : decode cX6_add 15 = .ok (.arraylength, 1) := by decide +kernel
theorem dX6_add_16 : decode cX6_add 16 = .ok (.if_icmp .ge 23, 3) := by decide +kernel
theorem dX6_add_19 : decode cX6_add 19 = .ok (.aload_n 0, 1) := by decide +kernel
theorem dX6_add_20 : decode cX6_add 20 = .ok (.getfield 9, 3) := by decide +kernel
theorem dX6_add_23 : decode cX6_add 23 = .ok (.aload_n 0, 1) := by decide +kernel
theorem dX6_add_24 : decode cX6_add 24 = .ok (.getfield 15, 3) := by decide +kernel
theorem dX6_add_27 : decode cX6_add 27 = .ok (.iload_n 1, 1) := by decide +kernel
theorem dX6_add_28 : decode cX6_add 28 = .ok (.iastore, 1) := by decide +kernel
theorem dX6_add_29 : decode cX6_add 29 = .ok (.aload_n 0, 1) := by decide +kernel
theorem dX6_add_30 : decode cX6_add 30 = .ok (.dup, 1) := by decide +kernel
theorem dX6_add_31 : decode cX6_add 31 = .ok (.getfield 15, 3) := by decide +kernel
theorem dX6_add_34 : decode cX6_add 34 = .ok (.iconst 1, 1) := by decide +kernel
theorem dX6_add_35 : decode cX6_add 35 = .ok (.iadd, 1) := by decide +kernel
theorem dX6_add_36 : decode cX6_add 36 = .ok (.putfield 15, 3) := by decide +kernel
theorem dX6_add_39 : decode cX6_add 39 = .ok (.aload_n 0, 1) := by decide +kernel
theorem dX6_add_40 : decode cX6_add 40 = .ok (.getfield 15, 3) := by decide +kernel
theorem dX6_add_43 : decode cX6_add 43 = .ok (.ireturn, 1) := by decide +kernel
theorem dX6_clear_0 : decode cX6_clear 0 = .ok (.aload_n 0, 1) := by decide +kernel
theorem dX6_clear_1 : decode cX6_clear 1 = .ok (.iconst 0, 1) := by decide +kernel
theorem dX6_clear_2 : decode cX6_clear 2 = .ok (.putfield 15, 3) := by decide +kernel
theorem dX6_clear_5 : decode cX6_clear 5 = .ok (.return_, 1) := by decide +kernel
theorem dX6_at_0 : decode cX6_at 0 = .ok (.iload_n 1, 1) := by decide +kernel
theorem dX6_at_1 : decode cX6_at 1 = .ok (.ifCond .lt 29, 3) := by decide +kernel
theorem dX6_at_4 : decode cX6_at 4 = .ok (.iload_n 1, 1) := by decide +kernel
theorem dX6_at_5 : decode cX6_at 5 = .ok (.aload_n 0, 1) := by decide +kernel
theorem dX6_at_6 : decode cX6_at 6 = .ok (.getfield 15, 3) := by decide +kernel
theorem dX6_at_9 : decode cX6_at 9 = .ok (.if_icmp .ge 21, 3) := by decide +kernel
theorem dX6_at_12 : decode cX6_at 12 = .ok (.iload_n 1, 1) := by decide +kernel
theorem dX6_at_13 : decode cX6_at 13 = .ok (.aload_n 0, 1) := by decide +kernel
theorem dX6_at_14 : decode cX6_at 14 = .ok (.getfield 9, 3) := by decide +kernel
theorem dX6_at_17 : decode cX6_at 17 = .ok (.arraylength, 1) := by decide +kernel
theorem dX6_at_18 : decode cX6_at 18 = .ok (.if_icmp .ge 12, 3) := by decide +kernel
theorem dX6_at_21 : decode cX6_at 21 = .ok (.aload_n 0, 1) := by decide +kernel
theorem dX6_at_22 : decode cX6_at 22 = .ok (.getfield 9, 3) := by decide +kernel
theorem dX6_at_25 : decode cX6_at 25 = .ok (.iload_n 1, 1) := by decide +kernel
theorem dX6_at_26 : decode cX6_at 26 = .ok (.iaload, 1) := by decide +kernel
theorem dX6_at_27 : decode cX6_at 27 = .ok (.goto 5, 3) := by decide +kernel
theorem dX6_at_30 : decode cX6_at 30 = .ok (.bipush (-9), 2) := by decide +kernel
theorem dX6_at_32 : decode cX6_at 32 = .ok (.ireturn, 1) := by decide +kernel
theorem dX6_formAfter_0 : decode cX6_formAfter 0 = .ok (.iload_n 0, 1) := by decide +kernel
theorem dX6_formAfter_1 : decode cX6_formAfter 1 = .ok (.lookupswitch 71 #[(98, 68), (103, 62), (108, 59), (112, 65), (115, 68), (119, 65)], 59) := by decide +kernel
theorem dX6_formAfter_60 : decode cX6_formAfter 60 = .ok (.ldc 19, 2) := by decide +kernel
theorem dX6_formAfter_62 : decode cX6_formAfter 62 = .ok (.areturn, 1) := by decide +kernel
theorem dX6_formAfter_63 : decode cX6_formAfter 63 = .ok (.ldc 21, 2) := by decide +kernel
theorem dX6_formAfter_65 : decode cX6_formAfter 65 = .ok (.areturn, 1) := by decide +kernel
theorem dX6_formAfter_66 : decode cX6_formAfter 66 = .ok (.ldc 23, 2) := by decide +kernel
theorem dX6_formAfter_68 : decode cX6_formAfter 68 = .ok (.areturn, 1) := by decide +kernel
theorem dX6_formAfter_69 : decode cX6_formAfter 69 = .ok (.ldc 25, 2) := by decide +kernel
theorem dX6_formAfter_71 : decode cX6_formAfter 71 = .ok (.areturn, 1) := by decide +kernel
theorem dX6_formAfter_72 : decode cX6_formAfter 72 = .ok (.ldc 27, 2) := by decide +kernel
theorem dX6_formAfter_74 : decode cX6_formAfter 74 = .ok (.areturn, 1) := by decide +kernel
set_option maxRecDepth 20000 in
theorem ggX6_fits_J0_indexOf_0f7a4 : GoodIn wsX6_fits wsJ0_indexOf_0f7a4 := goodIn_r _ [5, 6, 7, 8, 4, 9, 10, 11, 12, 13, 14, 15, 16, 17, 18, 19, 20, 21, 22, 23, 24, 25, 26, 27, 28, 29, 30, 31, 32, 33, 34, 35, 36, 37, 38, 39, 40, 41, 42, 43, 44, 45, 46, 47, 48, 49, 50, 51, 52, 53, 54, 55, 56, 57, 58, 59, 60, 61, 62, 63, 64, 65, 66, 67, 68, 69, 70, 71, 72, 73, 74, 75, 76, 77, 78, 79, 80, 81, 82, 83, 84, 85, 86, 87, 88, 89] (by decide +kernel) (by decide +kernel)
set_option maxRecDepth 20000 in
theorem gX6_fits_J0_indexOf_0f7a4 : GoodIn wsX6_fits (wsV RX6 31 RJ0 yJ0_indexOf_0f7a4 wsJ0_indexOf_0f7a4) := goodIn_app (goodIn_of _ (by decide +kernel)) ggX6_fits_J0_indexOf_0f7a4
theorem dX6_fits_0 : decode cX6_fits 0 = .ok (.iload_n 0, 1) := by decide +kernel
theorem dX6_fits_1 : decode cX6_fits 1 = .ok (.lookupswitch 65 #[(100, 47), (107, 27)], 27) := by decide +kernel
theorem dX6_fits_28 : decode cX6_fits 28 = .ok (.iload_n 1, 1) := by decide +kernel
theorem dX6_fits_29 : decode cX6_fits 29 = .ok (.ifCond .le 17, 3) := by decide +kernel
theorem dX6_fits_32 : decode cX6_fits 32 = .ok (.ldc 29, 2) := by decide +kernel
theorem dX6_fits_34 : decode cX6_fits 34 = .ok (.iload_n 1, 1) := by decide +kernel
