theorem dX11_light_25 : decode cX11_light 25 = .ok (.if_icmp .eq 10, 3) := by decide +kernel
theorem dX11_light_28 : decode cX11_light 28 = .ok (.aload_n 0, 1) := by decide +kernel
theorem dX11_light_29 : decode cX11_light 29 = .ok (.bipush (-2), 2) := by decide +kernel
theorem dX11_light_31 : decode cX11_light 31 = .ok (.invokevirtual 36, 3) := by decide +kernel
theorem dX11_light_34 : decode cX11_light 34 = .ok (.ireturn, 1) := by decide +kernel
theorem dX11_light_35 : decode cX11_light 35 = .ok (.aload_n 3, 1) := by decide +kernel
theorem dX11_light_36 : decode cX11_light 36 = .ok (.getfield 75, 3) := by decide +kernel
theorem dX11_light_39 : decode cX11_light 39 = .ok (.invokestatic 81, 3) := by decide +kernel
theorem dX11_light_42 : decode cX11_light 42 = .ok (.istore 4, 2) := by decide +kernel
theorem dX11_light_44 : decode cX11_light 44 = .ok (.aload_n 3, 1) := by decide +kernel
theorem dX11_light_45 : decode cX11_light 45 = .ok (.iload_n 2, 1) := by decide +kernel
theorem dX11_light_46 : decode cX11_light 46 = .ok (.iconst 1, 1) := by decide +kernel
theorem dX11_light_47 : decode cX11_light 47 = .ok (.if_icmp .ne 7, 3) := by decide +kernel
theorem dX11_light_50 : decode cX11_light 50 = .ok (.iconst 1, 1) := by decide +kernel
theorem dX11_light_51 : decode cX11_light 51 = .ok (.goto 4, 3) := by decide +kernel
theorem dX11_light_54 : decode cX11_light 54 = .ok (.iconst 0, 1) := by decide +kernel
theorem dX11_light_55 : decode cX11_light 55 = .ok (.putfield 75, 3) := by decide +kernel
theorem dX11_light_58 : decode cX11_light 58 = .ok (.iload 4, 2) := by decide +kernel
theorem dX11_light_60 : decode cX11_light 60 = .ok (.ireturn, 1) := by decide +kernel
set_option maxRecDepth 20000 in
theorem ggX11_row_X11_refuse : GoodIn wsX11_row wsX11_refuse := goodIn_r _ [7, 8, 9, 10, 11, 12, 13, 14, 15, 16] (by decide +kernel) (by decide +kernel)
set_option maxRecDepth 20000 in
theorem gX11_row_X11_refuse : GoodIn wsX11_row (wsV RX11 36 RX11 yX11_refuse wsX11_refuse) := goodIn_app (goodIn_of _ (by decide +kernel)) ggX11_row_X11_refuse
theorem dX11_row_0 : decode cX11_row 0 = .ok (.iload_n 1, 1) := by decide +kernel
theorem dX11_row_1 : decode cX11_row 1 = .ok (.ifCond .ge 10, 3) := by decide +kernel
theorem dX11_row_4 : decode cX11_row 4 = .ok (.aload_n 0, 1) := by decide +kernel
theorem dX11_row_5 : decode cX11_row 5 = .ok (.bipush (-4), 2) := by decide +kernel
theorem dX11_row_7 : decode cX11_row 7 = .ok (.invokevirtual 36, 3) := by decide +kernel
theorem dX11_row_10 : decode cX11_row 10 = .ok (.ireturn, 1) := by decide +kernel
theorem dX11_row_11 : decode cX11_row 11 = .ok (.iload_n 1, 1) := by decide +kernel
theorem dX11_row_12 : decode cX11_row 12 = .ok (.bipush 99, 2) := by decide +kernel
theorem dX11_row_14 : decode cX11_row 14 = .ok (.if_icmp .gt 22, 3) := by decide +kernel
theorem dX11_row_17 : decode cX11_row 17 = .ok (.aload_n 0, 1) := by decide +kernel
theorem dX11_row_18 : decode cX11_row 18 = .ok (.getfield 85, 3) := by decide +kernel
theorem dX11_row_21 : decode cX11_row 21 = .ok (.ifCond .lt 15, 3) := by decide +kernel
theorem dX11_row_24 : decode cX11_row 24 = .ok (.aload_n 0, 1) := by decide +kernel
theorem dX11_row_25 : decode cX11_row 25 = .ok (.getfield 85, 3) := by decide +kernel
theorem dX11_row_28 : decode cX11_row 28 = .ok (.aload_n 0, 1) := by decide +kernel
theorem dX11_row_29 : decode cX11_row 29 = .ok (.getfield 16, 3) := by decide +kernel
theorem dX11_row_32 : decode cX11_row 32 = .ok (.arraylength, 1) := by decide +kernel
theorem dX11_row_33 : decode cX11_row 33 = .ok (.if_icmp .lt 10, 3) := by decide +kernel
theorem dX11_row_36 : decode cX11_row 36 = .ok (.aload_n 0, 1) := by decide +kernel
theorem dX11_row_37 : decode cX11_row 37 = .ok (.bipush (-6), 2) := by decide +kernel
theorem dX11_row_39 : decode cX11_row 39 = .ok (.invokevirtual 36, 3) := by decide +kernel
theorem dX11_row_42 : decode cX11_row 42 = .ok (.ireturn, 1) := by decide +kernel
theorem dX11_row_43 : decode cX11_row 43 = .ok (.aload_n 0, 1) := by decide +kernel
theorem dX11_row_44 : decode cX11_row 44 = .ok (.getfield 16, 3) := by decide +kernel
theorem dX11_row_47 : decode cX11_row 47 = .ok (.aload_n 0, 1) := by decide +kernel
theorem dX11_row_48 : decode cX11_row 48 = .ok (.getfield 85, 3) := by decide +kernel
theorem dX11_row_51 : decode cX11_row 51 = .ok (.iload_n 1, 1) := by decide +kernel
theorem dX11_row_52 : decode cX11_row 52 = .ok (.iastore, 1) := by decide +kernel
theorem dX11_row_53 : decode cX11_row 53 = .ok (.aload_n 0, 1) := by decide +kernel
theorem dX11_row_54 : decode cX11_row 54 = .ok (.dup, 1) := by decide +kernel
theorem dX11_row_55 : decode cX11_row 55 = .ok (.getfield 85, 3) := by decide +kernel
theorem dX11_row_58 : decode cX11_row 58 = .ok (.iconst 1, 1) := by decide +kernel
theorem dX11_row_59 : decode cX11_row 59 = .ok (.iadd, 1) := by decide +kernel
theorem dX11_row_60 : decode cX11_row 60 = .ok (.putfield 85, 3) := by decide +kernel
theorem dX11_row_63 : decode cX11_row 63 = .ok (.aload_n 0, 1) := by decide +kernel
theorem dX11_row_64 : decode cX11_row 64 = .ok (.getfield 85, 3) := by decide +kernel
theorem dX11_row_67 : decode cX11_row 67 = .ok (.ireturn, 1) := by decide +kernel
set_option maxRecDepth 20000 in
theorem ggX11_image_X10_become : GoodIn wsX11_image wsX10_become := goodIn_r _ [9, 10, 11, 12, 13, 14, 15, 16, 17, 18, 8, 19, 20, 21, 22, 23, 24, 25, 26, 27, 28, 29, 30, 31, 32, 33, 34, 35, 36, 37, 38, 39, 40, 41, 42, 43, 44, 45, 46, 47, 48, 49, 50, 51, 52, 53, 54, 55, 56, 57, 58, 59, 60, 61, 62, 63, 64, 65, 66, 67, 68, 69, 70, 71, 72, 73, 74, 75, 76, 77, 78, 79, 80, 81, 82, 83, 84, 85, 86, 87, 88, 89, 90, 91, 92, 93, 94, 95, 96, 97, 98, 99, 100, 101, 102, 103, 104, 105, 106, 107, 108, 117, 118, 119, 120, 121, 122, 123, 124, 125, 126, 127, 128, 129, 130, 131, 132, 133, 134, 135, 136, 137, 138, 139, 140, 141, 142, 143, 144, 145, 146, 147, 148, 149, 150, 151, 152, 153, 154, 155, 156, 157] (by decide +kernel) (by decide +kernel)
set_option maxRecDepth 20000 in
theorem gX11_image_X10_become : GoodIn wsX11_image (wsV RX11 47 RX10 yX10_become wsX10_become) := goodIn_app (goodIn_of _ (by decide +kernel)) ggX11_image_X10_become
theorem dX11_image_0 : decode cX11_image 0 = .ok (.aload_n 0, 1) := by decide +kernel
theorem dX11_image_1 : decode cX11_image 1 = .ok (.getfield 26, 3) := by decide +kernel
theorem dX11_image_4 : decode cX11_image 4 = .ok (.aload_n 0, 1) := by decide +kernel
theorem dX11_image_5 : decode cX11_image 5 = .ok (.getfield 30, 3) := by decide +kernel
theorem dX11_image_8 : decode cX11_image 8 = .ok (.invokevirtual 47, 3) := by decide +kernel
theorem dX11_image_11 : decode cX11_image 11 = .ok (.aload_n 0, 1) := by decide +kernel
theorem dX11_image_12 : decode cX11_image 12 = .ok (.iconst 1, 1) := by decide +kernel
theorem dX11_image_13 : decode cX11_image 13 = .ok (.putfield 89, 3) := by decide +kernel
theorem dX11_image_16 : decode cX11_image 16 = .ok (.aload_n 0, 1) := by decide +kernel
theorem dX11_image_17 : decode cX11_image 17 = .ok (.getfield 30, 3) := by decide +kernel
theorem dX11_image_20 : decode cX11_image 20 = .ok (.getfield 92, 3) := by decide +kernel
theorem dX11_image_23 : decode cX11_image 23 = .ok (.ireturn, 1) := by decide +kernel
set_option maxRecDepth 20000 in
theorem ggX11_on_X11_refuse : GoodIn wsX11_on wsX11_refuse := goodIn_r _ [9, 10, 115, 116, 117, 118, 119, 120, 121, 122] (by decide +kernel) (by decide +kernel)
set_option maxRecDepth 20000 in
theorem gX11_on_X11_refuse : GoodIn wsX11_on (wsV RX11 36 RX11 yX11_refuse wsX11_refuse) := goodIn_app (goodIn_of _ (by decide +kernel)) ggX11_on_X11_refuse
set_option maxRecDepth 20000 in
theorem ggX11_on_X10_become : GoodIn wsX11_on wsX10_become := goodIn_r _ [15, 16, 17, 18, 19, 20, 21, 22, 23, 24, 14, 25, 26, 27, 28, 29, 30, 31, 32, 33, 34, 35, 36, 37, 38, 39, 40, 41, 42, 43, 44, 45, 46, 47, 48, 49, 50, 51, 52, 53, 54, 55, 56, 57, 58, 59, 60, 61, 62, 63, 64, 65, 66, 67, 68, 69, 70, 71, 72, 73, 74, 75, 76, 77, 78, 79, 80, 81, 82, 83, 84, 85, 86, 87, 88, 89, 90, 91, 92, 93, 94, 95, 96, 97, 98, 99, 100, 101, 102, 103, 104, 105, 106, 107, 108, 109, 110, 111, 112, 113, 114, 123, 124, 125, 126, 127, 128, 129, 130, 131, 132, 133, 134, 135, 136, 137, 138, 139, 140, 141, 142, 143, 144, 145, 146, 147, 148, 149, 150, 151, 152, 153, 154, 155, 156, 157, 158, 159, 160, 161, 162, 163] (by decide +kernel) (by decide +kernel)
set_option maxRecDepth 20000 in
theorem gX11_on_X10_become : GoodIn wsX11_on (wsV RX11 47 RX10 yX10_become wsX10_become) := goodIn_app (goodIn_of _ (by decide +kernel)) ggX11_on_X10_become
theorem dX11_on_0 : decode cX11_on 0 = .ok (.aload_n 0, 1) := by decide +kernel
theorem dX11_on_1 : decode cX11_on 1 = .ok (.getfield 89, 3) := by decide +kernel
theorem dX11_on_4 : decode cX11_on 4 = .ok (.ifCond .ne 10, 3) := by decide +kernel
theorem dX11_on_7 : decode cX11_on 7 = .ok (.aload_n 0, 1) := by decide +kernel
theorem dX11_on_8 : decode cX11_on 8 = .ok (.bipush (-3), 2) := by decide +kernel
theorem dX11_on_10 : decode cX11_on 10 = .ok (.invokevirtual 36, 3) := by decide +kernel
theorem dX11_on_13 : decode cX11_on 13 = .ok (.ireturn, 1) := by decide +kernel
theorem dX11_on_14 : decode cX11_on 14 = .ok (.aload_n 0, 1) := by decide +kernel
theorem dX11_on_15 : decode cX11_on 15 = .ok (.getfield 30, 3) := by decide +kernel
theorem dX11_on_18 : decode cX11_on 18 = .ok (.aload_n 0, 1) := by decide +kernel
theorem dX11_on_19 : decode cX11_on 19 = .ok (.getfield 26, 3) := by decide +kernel
theorem dX11_on_22 : decode cX11_on 22 = .ok (.invokevirtual 47, 3) := by decide +kernel
theorem dX11_on_25 : decode cX11_on 25 = .ok (.aload_n 0, 1) := by decide +kernel
theorem dX11_on_26 : decode cX11_on 26 = .ok (.getfield 30, 3) := by decide +kernel
theorem dX11_on_29 : decode cX11_on 29 = .ok (.getfield 92, 3) := by decide +kernel
theorem dX11_on_32 : decode cX11_on 32 = .ok (.ireturn, 1) := by decide +kernel
set_option maxRecDepth 20000 in
theorem ggX11_lamp_X10_lampAt : GoodIn wsX11_lamp wsX10_lampAt := goodIn_r _ [9, 10, 11, 165, 166, 167, 168, 169, 170] (by decide +kernel) (by decide +kernel)
set_option maxRecDepth 20000 in
theorem gX11_lamp_X10_lampAt : GoodIn wsX11_lamp (wsV RX11 71 RX10 yX10_lampAt wsX10_lampAt) := goodIn_app (goodIn_of _ (by decide +kernel)) ggX11_lamp_X10_lampAt
set_option maxRecDepth 20000 in
theorem ggX11_lamp_X11_refuse : GoodIn wsX11_lamp wsX11_refuse := goodIn_r _ [16, 17, 122, 123, 124, 125, 126, 127, 128, 129] (by decide +kernel) (by decide +kernel)
set_option maxRecDepth 20000 in
theorem gX11_lamp_X11_refuse : GoodIn wsX11_lamp (wsV RX11 36 RX11 yX11_refuse wsX11_refuse) := goodIn_app (goodIn_of _ (by decide +kernel)) ggX11_lamp_X11_refuse
set_option maxRecDepth 20000 in
theorem ggX11_lamp_X0_kind : GoodIn wsX11_lamp wsX0_kind := goodIn_r _ [24] (by decide +kernel) (by decide +kernel)
set_option maxRecDepth 20000 in
theorem gX11_lamp_X0_kind_u95X0 : GoodIn wsX11_lamp (va_wsO RX11 95 RX0 "LampsThatRemember$Lamp" ⟨"LampsThatRemember$Lamp", "kind", "()I"⟩ yX0_kind wsX0_kind) := goodIn_app (goodIn_of _ (by decide +kernel)) ggX11_lamp_X0_kind
set_option maxRecDepth 20000 in
theorem ggX11_lamp_X1_kind : GoodIn wsX11_lamp wsX1_kind := goodIn_r _ [29] (by decide +kernel) (by decide +kernel)
set_option maxRecDepth 20000 in
theorem gX11_lamp_X1_kind_u95X1 : GoodIn wsX11_lamp (va_wsO RX11 95 RX1 "LampsThatRemember$Lamp" ⟨"LampsThatRemember$Lamp", "kind", "()I"⟩ yX1_kind wsX1_kind) := goodIn_app (goodIn_of _ (by decide +kernel)) ggX11_lamp_X1_kind
set_option maxRecDepth 20000 in
theorem ggX11_lamp_X3_kind : GoodIn wsX11_lamp wsX3_kind := goodIn_r _ [33] (by decide +kernel) (by decide +kernel)
set_option maxRecDepth 20000 in
theorem gX11_lamp_X3_kind_u95X3 : GoodIn wsX11_lamp (va_wsO RX11 95 RX3 "LampsThatRemember$Lamp" ⟨"LampsThatRemember$Lamp", "kind", "()I"⟩ yX3_kind wsX3_kind) := goodIn_app (goodIn_of _ (by decide +kernel)) ggX11_lamp_X3_kind
set_option maxRecDepth 20000 in
theorem ggX11_lamp_X4_kind : GoodIn wsX11_lamp wsX4_kind := goodIn_r _ [37] (by decide +kernel) (by decide +kernel)
set_option maxRecDepth 20000 in
theorem gX11_lamp_X4_kind_u95X4 : GoodIn wsX11_lamp (va_wsO RX11 95 RX4 "LampsThatRemember$Lamp" ⟨"LampsThatRemember$Lamp", "kind", "()I"⟩ yX4_kind wsX4_kind) := goodIn_app (goodIn_of _ (by decide +kernel)) ggX11_lamp_X4_kind
set_option maxRecDepth 20000 in
theorem ggX11_lamp_X5_kind : GoodIn wsX11_lamp wsX5_kind := goodIn_r _ [25] (by decide +kernel) (by decide +kernel)
set_option maxRecDepth 20000 in
theorem gX11_lamp_X5_kind : GoodIn wsX11_lamp (wsV RX11 95 RX5 yX5_kind wsX5_kind) := goodIn_app (goodIn_of _ (by decide +kernel)) ggX11_lamp_X5_kind
set_option maxRecDepth 20000 in
theorem ggX11_lamp_X7_kind : GoodIn wsX11_lamp wsX7_kind := goodIn_r _ [45] (by decide +kernel) (by decide +kernel)
set_option maxRecDepth 20000 in
theorem gX11_lamp_X7_kind_u95X7 : GoodIn wsX11_lamp (va_wsO RX11 95 RX7 "LampsThatRemember$Lamp" ⟨"LampsThatRemember$Lamp", "kind", "()I"⟩ yX7_kind wsX7_kind) := goodIn_app (goodIn_of _ (by decide +kernel)) ggX11_lamp_X7_kind
set_option maxRecDepth 20000 in
theorem ggX11_lamp_X8_kind : GoodIn wsX11_lamp wsX8_kind := goodIn_r _ [49] (by decide +kernel) (by decide +kernel)
set_option maxRecDepth 20000 in
theorem gX11_lamp_X8_kind_u95X8 : GoodIn wsX11_lamp (va_wsO RX11 95 RX8 "LampsThatRemember$Lamp" ⟨"LampsThatRemember$Lamp", "kind", "()I"⟩ yX8_kind wsX8_kind) := goodIn_app (goodIn_of _ (by decide +kernel)) ggX11_lamp_X8_kind
set_option maxRecDepth 20000 in
theorem ggX11_lamp_X5_cellNow : GoodIn wsX11_lamp wsX5_cellNow := goodIn_r _ [54, 55, 130, 131, 132, 133, 134, 135, 136, 137, 138, 139, 140, 141, 142, 143, 144, 145, 146, 147, 148, 149, 150, 151, 152, 153, 154, 155, 156, 157, 158, 159, 160, 161, 162, 163, 164] (by decide +kernel) (by decide +kernel)
set_option maxRecDepth 20000 in
theorem gX11_lamp_X5_cellNow_u99X0 : GoodIn wsX11_lamp (va_wsU RX11 99 RX0 "LampsThatRemember$Lamp" ⟨"LampsThatRemember$Lamp", "cellNow", "(LLampsThatRemember$Town;)I"⟩ yX5_cellNow wsX5_cellNow) := goodIn_app (goodIn_of _ (by decide +kernel)) ggX11_lamp_X5_cellNow
set_option maxRecDepth 20000 in
theorem ggX11_lamp_X1_cellNow : GoodIn wsX11_lamp wsX1_cellNow := goodIn_r _ [59, 60, 61, 62, 63, 64, 8, 65, 66, 67, 130, 131, 132, 133, 134, 135, 136, 137, 138, 139, 140, 141, 142, 143, 144, 145, 146, 147, 148, 149, 150, 151, 152, 153, 154, 155, 156, 157, 158, 159, 160, 161, 162, 163, 164, 165, 166, 167, 168, 169, 170] (by decide +kernel) (by decide +kernel)
set_option maxRecDepth 20000 in
theorem gX11_lamp_X1_cellNow_u99X1 : GoodIn wsX11_lamp (va_wsO RX11 99 RX1 "LampsThatRemember$Lamp" ⟨"LampsThatRemember$Lamp", "cellNow", "(LLampsThatRemember$Town;)I"⟩ yX1_cellNow wsX1_cellNow) := goodIn_app (goodIn_of _ (by decide +kernel)) ggX11_lamp_X1_cellNow
set_option maxRecDepth 20000 in
theorem gX11_lamp_X5_cellNow_u99X3 : GoodIn wsX11_lamp (va_wsU RX11 99 RX3 "LampsThatRemember$Lamp" ⟨"LampsThatRemember$Lamp", "cellNow", "(LLampsThatRemember$Town;)I"⟩ yX5_cellNow wsX5_cellNow) := goodIn_app (goodIn_of _ (by decide +kernel)) ggX11_lamp_X5_cellNow
set_option maxRecDepth 20000 in
theorem gX11_lamp_X5_cellNow_u99X4 : GoodIn wsX11_lamp (va_wsU RX11 99 RX4 "LampsThatRemember$Lamp" ⟨"LampsThatRemember$Lamp", "cellNow", "(LLampsThatRemember$Town;)I"⟩ yX5_cellNow wsX5_cellNow) := goodIn_app (goodIn_of _ (by decide +kernel)) ggX11_lamp_X5_cellNow
set_option maxRecDepth 20000 in
theorem gX11_lamp_X5_cellNow : GoodIn wsX11_lamp (wsV RX11 99 RX5 yX5_cellNow wsX5_cellNow) := goodIn_app (goodIn_of _ (by decide +kernel)) ggX11_lamp_X5_cellNow
set_option maxRecDepth 20000 in
theorem gX11_lamp_X5_cellNow_u99X7 : GoodIn wsX11_lamp (va_wsU RX11 99 RX7 "LampsThatRemember$Lamp" ⟨"LampsThatRemember$Lamp", "cellNow", "(LLampsThatRemember$Town;)I"⟩ yX5_cellNow wsX5_cellNow) := goodIn_app (goodIn_of _ (by decide +kernel)) ggX11_lamp_X5_cellNow
set_option maxRecDepth 20000 in
theorem gX11_lamp_X5_cellNow_u99X8 : GoodIn wsX11_lamp (va_wsU RX11 99 RX8 "LampsThatRemember$Lamp" ⟨"LampsThatRemember$Lamp", "cellNow", "(LLampsThatRemember$Town;)I"⟩ yX5_cellNow wsX5_cellNow) := goodIn_app (goodIn_of _ (by decide +kernel)) ggX11_lamp_X5_cellNow
set_option maxRecDepth 20000 in
theorem ggX11_lamp_X11_yes : GoodIn wsX11_lamp wsX11_yes := goodIn_r _ [76] (by decide +kernel) (by decide +kernel)
set_option maxRecDepth 20000 in
theorem gX11_lamp_X11_yes : GoodIn wsX11_lamp (va_wsS RX11 81 yX11_yes wsX11_yes) := goodIn_app (goodIn_of _ (by decide +kernel)) ggX11_lamp_X11_yes
set_option maxRecDepth 20000 in
theorem ggX11_lamp_X5_glow : GoodIn wsX11_lamp wsX5_glow := goodIn_r _ [81, 82, 83, 51, 52, 53, 41, 54, 55, 56, 57, 58, 28, 59, 60, 61, 62, 63, 64, 8, 65, 66, 67, 68, 69, 84, 71, 72, 73, 85, 86, 87, 88, 89, 90, 91, 92, 93, 94, 95, 96, 97, 98, 99, 100, 101, 102, 103, 130, 131, 132, 133, 134, 135, 136, 137, 138, 139, 140, 141, 142, 143, 144, 145, 146, 147, 148, 149, 150, 151, 152, 153, 154, 155, 156, 157, 158, 159, 160, 161, 162, 163, 164, 165, 166, 167, 168, 169, 170] (by decide +kernel) (by decide +kernel)
set_option maxRecDepth 20000 in
theorem gX11_lamp_X5_glow_u108X0 : GoodIn wsX11_lamp (va_wsU RX11 108 RX0 "LampsThatRemember$Lamp" ⟨"LampsThatRemember$Lamp", "glow", "(LLampsThatRemember$Town;)J"⟩ yX5_glow wsX5_glow) := goodIn_app (goodIn_of _ (by decide +kernel)) ggX11_lamp_X5_glow
set_option maxRecDepth 20000 in
theorem gX11_lamp_X5_glow_u108X1 : GoodIn wsX11_lamp (va_wsU RX11 108 RX1 "LampsThatRemember$Lamp" ⟨"LampsThatRemember$Lamp", "glow", "(LLampsThatRemember$Town;)J"⟩ yX5_glow wsX5_glow) := goodIn_app (goodIn_of _ (by decide +kernel)) ggX11_lamp_X5_glow
set_option maxRecDepth 20000 in
theorem gX11_lamp_X5_glow_u108X3 : GoodIn wsX11_lamp (va_wsU RX11 108 RX3 "LampsThatRemember$Lamp" ⟨"LampsThatRemember$Lamp", "glow", "(LLampsThatRemember$Town;)J"⟩ yX5_glow wsX5_glow) := goodIn_app (goodIn_of _ (by decide +kernel)) ggX11_lamp_X5_glow
set_option maxRecDepth 20000 in
theorem gX11_lamp_X5_glow_u108X4 : GoodIn wsX11_lamp (va_wsU RX11 108 RX4 "LampsThatRemember$Lamp" ⟨"LampsThatRemember$Lamp", "glow", "(LLampsThatRemember$Town;)J"⟩ yX5_glow wsX5_glow) := goodIn_app (goodIn_of _ (by decide +kernel)) ggX11_lamp_X5_glow
set_option maxRecDepth 20000 in
theorem gX11_lamp_X5_glow : GoodIn wsX11_lamp (wsV RX11 108 RX5 yX5_glow wsX5_glow) := goodIn_app (goodIn_of _ (by decide +kernel)) ggX11_lamp_X5_glow
set_option maxRecDepth 20000 in
theorem gX11_lamp_X5_glow_u108X7 : GoodIn wsX11_lamp (va_wsU RX11 108 RX7 "LampsThatRemember$Lamp" ⟨"LampsThatRemember$Lamp", "glow", "(LLampsThatRemember$Town;)J"⟩ yX5_glow wsX5_glow) := goodIn_app (goodIn_of _ (by decide +kernel)) ggX11_lamp_X5_glow
set_option maxRecDepth 20000 in
theorem gX11_lamp_X5_glow_u108X8 : GoodIn wsX11_lamp (va_wsU RX11 108 RX8 "LampsThatRemember$Lamp" ⟨"LampsThatRemember$Lamp", "glow", "(LLampsThatRemember$Town;)J"⟩ yX5_glow wsX5_glow) := goodIn_app (goodIn_of _ (by decide +kernel)) ggX11_lamp_X5_glow
set_option maxRecDepth 20000 in
theorem ggX11_lamp_X2_howMany : GoodIn wsX11_lamp wsX2_howMany := goodIn_r _ [113, 114, 115, 116, 117, 118, 119, 120, 121] (by decide +kernel) (by decide +kernel)
set_option maxRecDepth 20000 in
theorem gX11_lamp_X2_howMany : GoodIn wsX11_lamp (va_wsS RX11 112 yX2_howMany wsX2_howMany) := goodIn_app (goodIn_of _ (by decide +kernel)) ggX11_lamp_X2_howMany
theorem dX11_lamp_0 : decode cX11_lamp 0 = .ok (.aload_n 0, 1) := by decide +kernel
theorem dX11_lamp_1 : decode cX11_lamp 1 = .ok (.getfield 30, 3) := by decide +kernel
theorem dX11_lamp_4 : decode cX11_lamp 4 = .ok (.iload_n 1, 1) := by decide +kernel
theorem dX11_lamp_5 : decode cX11_lamp 5 = .ok (.invokevirtual 71, 3) := by decide +kernel
theorem dX11_lamp_8 : decode cX11_lamp 8 = .ok (.astore_n 3, 1) := by decide +kernel
theorem dX11_lamp_9 : decode cX11_lamp 9 = .ok (.aload_n 3, 1) := by decide +kernel
theorem dX11_lamp_10 : decode cX11_lamp 10 = .ok (.ifnonnull 9, 3) := by decide +kernel
theorem dX11_lamp_13 : decode cX11_lamp 13 = .ok (.aload_n 0, 1) := by decide +kernel
theorem dX11_lamp_14 : decode cX11_lamp 14 = .ok (.iconst (-1), 1) := by decide +kernel
theorem dX11_lamp_15 : decode cX11_lamp 15 = .ok (.invokevirtual 36, 3) := by decide +kernel
theorem dX11_lamp_18 : decode cX11_lamp 18 = .ok (.ireturn, 1) := by decide +kernel
theorem dX11_lamp_19 : decode cX11_lamp 19 = .ok (.iload_n 2, 1) := by decide +kernel
theorem dX11_lamp_20 : decode cX11_lamp 20 = .ok (.tableswitch 84 0 5 #[40, 45, 54, 59, 67, 72], 40) := by decide +kernel
theorem dX11_lamp_60 : decode cX11_lamp 60 = .ok (.aload_n 3, 1) := by decide +kernel
theorem dX11_lamp_61 : decode cX11_lamp 61 = .ok (.invokevirtual 95, 3) := by decide +kernel
theorem dX11_lamp_64 : decode cX11_lamp 64 = .ok (.ireturn, 1) := by decide +kernel
theorem dX11_lamp_65 : decode cX11_lamp 65 = .ok (.aload_n 3, 1) := by decide +kernel
theorem dX11_lamp_66 : decode cX11_lamp 66 = .ok (.aload_n 0, 1) := by decide +kernel
theorem dX11_lamp_67 : decode cX11_lamp 67 = .ok (.getfield 30, 3) := by decide +kernel
theorem dX11_lamp_70 : decode cX11_lamp 70 = .ok (.invokevirtual 99, 3) := by decide +kernel
theorem dX11_lamp_73 : decode cX11_lamp 73 = .ok (.ireturn, 1) := by decide +kernel
theorem dX11_lamp_74 : decode cX11_lamp 74 = .ok (.aload_n 3, 1) := by decide +kernel
theorem dX11_lamp_75 : decode cX11_lamp 75 = .ok (.getfield 102, 3) := by decide +kernel
theorem dX11_lamp_78 : decode cX11_lamp 78 = .ok (.ireturn, 1) := by decide +kernel
theorem dX11_lamp_79 : decode cX11_lamp 79 = .ok (.aload_n 3, 1) := by decide +kernel
theorem dX11_lamp_80 : decode cX11_lamp 80 = .ok (.getfield 75, 3) := by decide +kernel
theorem dX11_lamp_83 : decode cX11_lamp 83 = .ok (.invokestatic 81, 3) := by decide +kernel
theorem dX11_lamp_86 : decode cX11_lamp 86 = .ok (.ireturn, 1) := by decide +kernel
theorem dX11_lamp_87 : decode cX11_lamp 87 = .ok (.aload_n 3, 1) := by decide +kernel
theorem dX11_lamp_88 : decode cX11_lamp 88 = .ok (.getfield 105, 3) := by decide +kernel
theorem dX11_lamp_91 : decode cX11_lamp 91 = .ok (.ireturn, 1) := by decide +kernel
theorem dX11_lamp_92 : decode cX11_lamp 92 = .ok (.aload_n 3, 1) := by decide +kernel
theorem dX11_lamp_93 : decode cX11_lamp 93 = .ok (.aload_n 0, 1) := by decide +kernel
theorem dX11_lamp_94 : decode cX11_lamp 94 = .ok (.getfield 30, 3) := by decide +kernel
theorem dX11_lamp_97 : decode cX11_lamp 97 = .ok (.invokevirtual 108, 3) := by decide +kernel
theorem dX11_lamp_100 : decode cX11_lamp 100 = .ok (.invokestatic 112, 3) := by decide +kernel
theorem dX11_lamp_103 : decode cX11_lamp 103 = .ok (.ireturn, 1) := by decide +kernel
theorem dX11_lamp_104 : decode cX11_lamp 104 = .ok (.aload_n 0, 1) := by decide +kernel
theorem dX11_lamp_105 : decode cX11_lamp 105 = .ok (.bipush (-2), 2) := by decide +kernel
theorem dX11_lamp_107 : decode cX11_lamp 107 = .ok (.invokevirtual 36, 3) := by decide +kernel
theorem dX11_lamp_110 : decode cX11_lamp 110 = .ok (.ireturn, 1) := by decide +kernel
set_option maxRecDepth 20000 in
theorem ggX11_lights_X10_lampAt : GoodIn wsX11_lights wsX10_lampAt := goodIn_r _ [6, 7, 8, 90, 91, 92, 93, 94, 95] (by decide +kernel) (by decide +kernel)
set_option maxRecDepth 20000 in
theorem gX11_lights_X10_lampAt : GoodIn wsX11_lights (wsV RX11 71 RX10 yX10_lampAt wsX10_lampAt) := goodIn_app (goodIn_of _ (by decide +kernel)) ggX11_lights_X10_lampAt
set_option maxRecDepth 20000 in
theorem ggX11_lights_X2_isOne : GoodIn wsX11_lights wsX2_isOne := goodIn_r _ [12] (by decide +kernel) (by decide +kernel)
set_option maxRecDepth 20000 in
theorem gX11_lights_X2_isOne : GoodIn wsX11_lights (va_wsS RX11 118 yX2_isOne wsX2_isOne) := goodIn_app (goodIn_of _ (by decide +kernel)) ggX11_lights_X2_isOne
set_option maxRecDepth 20000 in
theorem ggX11_lights_X11_refuse : GoodIn wsX11_lights wsX11_refuse := goodIn_r _ [17, 18, 82, 83, 84, 85, 86, 87, 88, 89] (by decide +kernel) (by decide +kernel)
set_option maxRecDepth 20000 in
theorem gX11_lights_X11_refuse : GoodIn wsX11_lights (wsV RX11 36 RX11 yX11_refuse wsX11_refuse) := goodIn_app (goodIn_of _ (by decide +kernel)) ggX11_lights_X11_refuse
set_option maxRecDepth 20000 in
theorem ggX11_lights_X5_glow : GoodIn wsX11_lights wsX5_glow := goodIn_r _ [24, 25, 26, 27, 28, 29, 23, 30, 31, 32, 33, 34, 35, 36, 37, 38, 39, 40, 41, 5, 42, 43, 44, 45, 46, 47, 48, 49, 50, 51, 52, 53, 54, 55, 56, 57, 58, 59, 11, 60, 61, 62, 63, 64, 65, 66, 67, 68, 96, 97, 98, 99, 100, 101, 102, 103, 104, 105, 106, 107, 108, 109, 110, 111, 112, 113, 114, 115, 116, 117, 118, 119, 120, 121, 122, 123, 124, 125, 126, 127, 128, 129, 130, 90, 91, 92, 93, 94, 95] (by decide +kernel) (by decide +kernel)
set_option maxRecDepth 20000 in
theorem gX11_lights_X5_glow_u108X0 : GoodIn wsX11_lights (va_wsU RX11 108 RX0 "LampsThatRemember$Lamp" ⟨"LampsThatRemember$Lamp", "glow", "(LLampsThatRemember$Town;)J"⟩ yX5_glow wsX5_glow) := goodIn_app (goodIn_of _ (by decide +kernel)) ggX11_lights_X5_glow
set_option maxRecDepth 20000 in
theorem gX11_lights_X5_glow_u108X1 : GoodIn wsX11_lights (va_wsU RX11 108 RX1 "LampsThatRemember$Lamp" ⟨"LampsThatRemember$Lamp", "glow", "(LLampsThatRemember$Town;)J"⟩ yX5_glow wsX5_glow) := goodIn_app (goodIn_of _ (by decide +kernel)) ggX11_lights_X5_glow
set_option maxRecDepth 20000 in
theorem gX11_lights_X5_glow_u108X3 : GoodIn wsX11_lights (va_wsU RX11 108 RX3 "LampsThatRemember$Lamp" ⟨"LampsThatRemember$Lamp", "glow", "(LLampsThatRemember$Town;)J"⟩ yX5_glow wsX5_glow) := goodIn_app (goodIn_of _ (by decide +kernel)) ggX11_lights_X5_glow
set_option maxRecDepth 20000 in
theorem gX11_lights_X5_glow_u108X4 : GoodIn wsX11_lights (va_wsU RX11 108 RX4 "LampsThatRemember$Lamp" ⟨"LampsThatRemember$Lamp", "glow", "(LLampsThatRemember$Town;)J"⟩ yX5_glow wsX5_glow) := goodIn_app (goodIn_of _ (by decide +kernel)) ggX11_lights_X5_glow
set_option maxRecDepth 20000 in
theorem gX11_lights_X5_glow : GoodIn wsX11_lights (wsV RX11 108 RX5 yX5_glow wsX5_glow) := goodIn_app (goodIn_of _ (by decide +kernel)) ggX11_lights_X5_glow
set_option maxRecDepth 20000 in
theorem gX11_lights_X5_glow_u108X7 : GoodIn wsX11_lights (va_wsU RX11 108 RX7 "LampsThatRemember$Lamp" ⟨"LampsThatRemember$Lamp", "glow", "(LLampsThatRemember$Town;)J"⟩ yX5_glow wsX5_glow) := goodIn_app (goodIn_of _ (by decide +kernel)) ggX11_lights_X5_glow
set_option maxRecDepth 20000 in
theorem gX11_lights_X5_glow_u108X8 : GoodIn wsX11_lights (va_wsU RX11 108 RX8 "LampsThatRemember$Lamp" ⟨"LampsThatRemember$Lamp", "glow", "(LLampsThatRemember$Town;)J"⟩ yX5_glow wsX5_glow) := goodIn_app (goodIn_of _ (by decide +kernel)) ggX11_lights_X5_glow
set_option maxRecDepth 20000 in
theorem ggX11_lights_X2_has : GoodIn wsX11_lights wsX2_has := goodIn_r _ [78, 61, 62, 11, 63] (by decide +kernel) (by decide +kernel)
set_option maxRecDepth 20000 in
theorem gX11_lights_X2_has : GoodIn wsX11_lights (va_wsS RX11 122 yX2_has wsX2_has) := goodIn_app (goodIn_of _ (by decide +kernel)) ggX11_lights_X2_has
set_option maxRecDepth 20000 in
theorem ggX11_lights_X11_yes : GoodIn wsX11_lights wsX11_yes := goodIn_r _ [81] (by decide +kernel) (by decide +kernel)
set_option maxRecDepth 20000 in
theorem gX11_lights_X11_yes : GoodIn wsX11_lights (va_wsS RX11 81 yX11_yes wsX11_yes) := goodIn_app (goodIn_of _ (by decide +kernel)) ggX11_lights_X11_yes
theorem dX11_lights_0 : decode cX11_lights 0 = .ok (.aload_n 0, 1) := by decide +kernel
theorem dX11_lights_1 : decode cX11_lights 1 = .ok (.getfield 30, 3) := by decide +kernel
theorem dX11_lights_4 : decode cX11_lights 4 = .ok (.iload_n 1, 1) := by decide +kernel
theorem dX11_lights_5 : decode cX11_lights 5 = .ok (.invokevirtual 71, 3) := by decide +kernel
theorem dX11_lights_8 : decode cX11_lights 8 = .ok (.astore_n 3, 1) := by decide +kernel
theorem dX11_lights_9 : decode cX11_lights 9 = .ok (.aload_n 3, 1) := by decide +kernel
theorem dX11_lights_10 : decode cX11_lights 10 = .ok (.ifnull 10, 3) := by decide +kernel
theorem dX11_lights_13 : decode cX11_lights 13 = .ok (.iload_n 2, 1) := by decide +kernel
theorem dX11_lights_14 : decode cX11_lights 14 = .ok (.invokestatic 118, 3) := by decide +kernel
theorem dX11_lights_17 : decode cX11_lights 17 = .ok (.ifCond .ne 9, 3) := by decide +kernel
theorem dX11_lights_20 : decode cX11_lights 20 = .ok (.aload_n 0, 1) := by decide +kernel
theorem dX11_lights_21 : decode cX11_lights 21 = .ok (.iconst (-1), 1) := by decide +kernel
theorem dX11_lights_22 : decode cX11_lights 22 = .ok (.invokevirtual 36, 3) := by decide +kernel
theorem dX11_lights_25 : decode cX11_lights 25 = .ok (.ireturn, 1) := by decide +kernel
theorem dX11_lights_26 : decode cX11_lights 26 = .ok (.aload_n 3, 1) := by decide +kernel
theorem dX11_lights_27 : decode cX11_lights 27 = .ok (.aload_n 0, 1) := by decide +kernel
theorem dX11_lights_28 : decode cX11_lights 28 = .ok (.getfield 30, 3) := by decide +kernel
theorem dX11_lights_31 : decode cX11_lights 31 = .ok (.invokevirtual 108, 3) := by decide +kernel
theorem dX11_lights_34 : decode cX11_lights 34 = .ok (.iload_n 2, 1) := by decide +kernel
theorem dX11_lights_35 : decode cX11_lights 35 = .ok (.invokestatic 122, 3) := by decide +kernel
theorem dX11_lights_38 : decode cX11_lights 38 = .ok (.invokestatic 81, 3) := by decide +kernel
theorem dX11_lights_41 : decode cX11_lights 41 = .ok (.ireturn, 1) := by decide +kernel
set_option maxRecDepth 20000 in
theorem ggX11_shown_X10_lampAt : GoodIn wsX11_shown wsX10_lampAt := goodIn_r _ [7, 8, 9, 112, 113, 114, 115, 116, 117] (by decide +kernel) (by decide +kernel)
set_option maxRecDepth 20000 in
theorem gX11_shown_X10_lampAt : GoodIn wsX11_shown (wsV RX11 71 RX10 yX10_lampAt wsX10_lampAt) := goodIn_app (goodIn_of _ (by decide +kernel)) ggX11_shown_X10_lampAt
set_option maxRecDepth 20000 in
theorem ggX11_shown_X11_refuse : GoodIn wsX11_shown wsX11_refuse := goodIn_r _ [14, 15, 69, 70, 71, 72, 73, 74, 75, 76] (by decide +kernel) (by decide +kernel)
set_option maxRecDepth 20000 in
theorem gX11_shown_X11_refuse : GoodIn wsX11_shown (wsV RX11 36 RX11 yX11_refuse wsX11_refuse) := goodIn_app (goodIn_of _ (by decide +kernel)) ggX11_shown_X11_refuse
set_option maxRecDepth 20000 in
theorem ggX11_shown_X5_sceneShown : GoodIn wsX11_shown wsX5_sceneShown := goodIn_r _ [21, 22, 23, 24, 25, 26, 20, 27, 28, 29, 30, 31, 32, 33, 34, 35, 36, 37, 38, 39, 40, 41, 42, 43, 44, 45, 46, 47, 48, 49, 50, 51, 77, 78, 79, 80, 81, 82, 83, 84, 85, 86, 87, 88, 89, 90, 91, 92, 93, 94, 95, 96, 97, 98, 99, 100, 101, 102, 103, 104, 105, 106, 107, 108, 109, 110, 111] (by decide +kernel) (by decide +kernel)
set_option maxRecDepth 20000 in
theorem gX11_shown_X5_sceneShown_u126X0 : GoodIn wsX11_shown (va_wsU RX11 126 RX0 "LampsThatRemember$Lamp" ⟨"LampsThatRemember$Lamp", "sceneShown", "(I)I"⟩ yX5_sceneShown wsX5_sceneShown) := goodIn_app (goodIn_of _ (by decide +kernel)) ggX11_shown_X5_sceneShown
set_option maxRecDepth 20000 in
theorem gX11_shown_X5_sceneShown_u126X1 : GoodIn wsX11_shown (va_wsU RX11 126 RX1 "LampsThatRemember$Lamp" ⟨"LampsThatRemember$Lamp", "sceneShown", "(I)I"⟩ yX5_sceneShown wsX5_sceneShown) := goodIn_app (goodIn_of _ (by decide +kernel)) ggX11_shown_X5_sceneShown
set_option maxRecDepth 20000 in
theorem gX11_shown_X5_sceneShown_u126X3 : GoodIn wsX11_shown (va_wsU RX11 126 RX3 "LampsThatRemember$Lamp" ⟨"LampsThatRemember$Lamp", "sceneShown", "(I)I"⟩ yX5_sceneShown wsX5_sceneShown) := goodIn_app (goodIn_of _ (by decide +kernel)) ggX11_shown_X5_sceneShown
set_option maxRecDepth 20000 in
theorem gX11_shown_X5_sceneShown_u126X4 : GoodIn wsX11_shown (va_wsU RX11 126 RX4 "LampsThatRemember$Lamp" ⟨"LampsThatRemember$Lamp", "sceneShown", "(I)I"⟩ yX5_sceneShown wsX5_sceneShown) := goodIn_app (goodIn_of _ (by decide +kernel)) ggX11_shown_X5_sceneShown
set_option maxRecDepth 20000 in
theorem gX11_shown_X5_sceneShown : GoodIn wsX11_shown (wsV RX11 126 RX5 yX5_sceneShown wsX5_sceneShown) := goodIn_app (goodIn_of _ (by decide +kernel)) ggX11_shown_X5_sceneShown
set_option maxRecDepth 20000 in
theorem gX11_shown_X5_sceneShown_u126X7 : GoodIn wsX11_shown (va_wsU RX11 126 RX7 "LampsThatRemember$Lamp" ⟨"LampsThatRemember$Lamp", "sceneShown", "(I)I"⟩ yX5_sceneShown wsX5_sceneShown) := goodIn_app (goodIn_of _ (by decide +kernel)) ggX11_shown_X5_sceneShown
set_option maxRecDepth 20000 in
theorem gX11_shown_X5_sceneShown_u126X8 : GoodIn wsX11_shown (va_wsU RX11 126 RX8 "LampsThatRemember$Lamp" ⟨"LampsThatRemember$Lamp", "sceneShown", "(I)I"⟩ yX5_sceneShown wsX5_sceneShown) := goodIn_app (goodIn_of _ (by decide +kernel)) ggX11_shown_X5_sceneShown
set_option maxRecDepth 20000 in
theorem ggX11_shown_X9_whoIn : GoodIn wsX11_shown wsX9_whoIn := goodIn_r _ [62] (by decide +kernel) (by decide +kernel)
set_option maxRecDepth 20000 in
theorem gX11_shown_X9_whoIn : GoodIn wsX11_shown (va_wsS RX11 129 yX9_whoIn wsX9_whoIn) := goodIn_app (goodIn_of _ (by decide +kernel)) ggX11_shown_X9_whoIn
set_option maxRecDepth 20000 in
theorem ggX11_shown_X9_cellIn : GoodIn wsX11_shown wsX9_cellIn := goodIn_r _ [65] (by decide +kernel) (by decide +kernel)
set_option maxRecDepth 20000 in
theorem gX11_shown_X9_cellIn : GoodIn wsX11_shown (va_wsS RX11 134 yX9_cellIn wsX9_cellIn) := goodIn_app (goodIn_of _ (by decide +kernel)) ggX11_shown_X9_cellIn
set_option maxRecDepth 20000 in
theorem ggX11_shown_X9_minuteIn : GoodIn wsX11_shown wsX9_minuteIn := goodIn_r _ [68] (by decide +kernel) (by decide +kernel)
set_option maxRecDepth 20000 in
theorem gX11_shown_X9_minuteIn : GoodIn wsX11_shown (va_wsS RX11 137 yX9_minuteIn wsX9_minuteIn) := goodIn_app (goodIn_of _ (by decide +kernel)) ggX11_shown_X9_minuteIn
theorem dX11_shown_0 : decode cX11_shown 0 = .ok (.aload_n 0, 1) := by decide +kernel
theorem dX11_shown_1 : decode cX11_shown 1 = .ok (.getfield 30, 3) := by decide +kernel
theorem dX11_shown_4 : decode cX11_shown 4 = .ok (.iload_n 1, 1) := by decide +kernel
theorem dX11_shown_5 : decode cX11_shown 5 = .ok (.invokevirtual 71, 3) := by decide +kernel
theorem dX11_shown_8 : decode cX11_shown 8 = .ok (.astore 4, 2) := by decide +kernel
theorem dX11_shown_10 : decode cX11_shown 10 = .ok (.aload 4, 2) := by decide +kernel
theorem dX11_shown_12 : decode cX11_shown 12 = .ok (.ifnull 16, 3) := by decide +kernel
theorem dX11_shown_15 : decode cX11_shown 15 = .ok (.iload_n 2, 1) := by decide +kernel
theorem dX11_shown_16 : decode cX11_shown 16 = .ok (.ifCond .lt 12, 3) := by decide +kernel
theorem dX11_shown_19 : decode cX11_shown 19 = .ok (.iload_n 2, 1) := by decide +kernel
theorem dX11_shown_20 : decode cX11_shown 20 = .ok (.aload 4, 2) := by decide +kernel
theorem dX11_shown_22 : decode cX11_shown 22 = .ok (.getfield 105, 3) := by decide +kernel
theorem dX11_shown_25 : decode cX11_shown 25 = .ok (.if_icmp .lt 9, 3) := by decide +kernel
theorem dX11_shown_28 : decode cX11_shown 28 = .ok (.aload_n 0, 1) := by decide +kernel
theorem dX11_shown_29 : decode cX11_shown 29 = .ok (.iconst (-1), 1) := by decide +kernel
theorem dX11_shown_30 : decode cX11_shown 30 = .ok (.invokevirtual 36, 3) := by decide +kernel
theorem dX11_shown_33 : decode cX11_shown 33 = .ok (.ireturn, 1) := by decide +kernel
theorem dX11_shown_34 : decode cX11_shown 34 = .ok (.aload 4, 2) := by decide +kernel
theorem dX11_shown_36 : decode cX11_shown 36 = .ok (.iload_n 2, 1) := by decide +kernel
theorem dX11_shown_37 : decode cX11_shown 37 = .ok (.invokevirtual 126, 3) := by decide +kernel
theorem dX11_shown_40 : decode cX11_shown 40 = .ok (.istore 5, 2) := by decide +kernel
theorem dX11_shown_42 : decode cX11_shown 42 = .ok (.iload_n 3, 1) := by decide +kernel
theorem dX11_shown_43 : decode cX11_shown 43 = .ok (.tableswitch 43 0 2 #[25, 31, 37], 25) := by decide +kernel
theorem dX11_shown_68 : decode cX11_shown 68 = .ok (.iload 5, 2) := by decide +kernel
theorem dX11_shown_70 : decode cX11_shown 70 = .ok (.invokestatic 129, 3) := by decide +kernel
theorem dX11_shown_73 : decode cX11_shown 73 = .ok (.ireturn, 1) := by decide +kernel
theorem dX11_shown_74 : decode cX11_shown 74 = .ok (.iload 5, 2) := by decide +kernel
theorem dX11_shown_76 : decode cX11_shown 76 = .ok (.invokestatic 134, 3) := by decide +kernel
theorem dX11_shown_79 : decode cX11_shown 79 = .ok (.ireturn, 1) := by decide +kernel
theorem dX11_shown_80 : decode cX11_shown 80 = .ok (.iload 5, 2) := by decide +kernel
theorem dX11_shown_82 : decode cX11_shown 82 = .ok (.invokestatic 137, 3) := by decide +kernel
theorem dX11_shown_85 : decode cX11_shown 85 = .ok (.ireturn, 1) := by decide +kernel
theorem dX11_shown_86 : decode cX11_shown 86 = .ok (.aload_n 0, 1) := by decide +kernel
theorem dX11_shown_87 : decode cX11_shown 87 = .ok (.bipush (-2), 2) := by decide +kernel
theorem dX11_shown_89 : decode cX11_shown 89 = .ok (.invokevirtual 36, 3) := by decide +kernel
theorem dX11_shown_92 : decode cX11_shown 92 = .ok (.ireturn, 1) := by decide +kernel
set_option maxRecDepth 20000 in
theorem ggX11_seen_X10_lampAt : GoodIn wsX11_seen wsX10_lampAt := goodIn_r _ [6, 7, 8, 54, 55, 56, 57, 58, 59] (by decide +kernel) (by decide +kernel)
set_option maxRecDepth 20000 in
theorem gX11_seen_X10_lampAt : GoodIn wsX11_seen (wsV RX11 71 RX10 yX10_lampAt wsX10_lampAt) := goodIn_app (goodIn_of _ (by decide +kernel)) ggX11_seen_X10_lampAt
set_option maxRecDepth 20000 in
theorem ggX11_seen_X11_refuse : GoodIn wsX11_seen wsX11_refuse := goodIn_r _ [13, 14, 46, 47, 48, 49, 50, 51, 52, 53] (by decide +kernel) (by decide +kernel)
set_option maxRecDepth 20000 in
theorem gX11_seen_X11_refuse : GoodIn wsX11_seen (wsV RX11 36 RX11 yX11_refuse wsX11_refuse) := goodIn_app (goodIn_of _ (by decide +kernel)) ggX11_seen_X11_refuse
set_option maxRecDepth 20000 in
theorem ggX11_seen_X5_everSeen : GoodIn wsX11_seen wsX5_everSeen := goodIn_r _ [20, 21, 22, 23, 24, 25, 19, 26, 27, 28, 29, 30, 31, 32, 33, 34, 35, 36, 37, 38, 60, 61, 62, 63, 64, 65, 66, 67, 68, 69, 70, 71, 72, 73, 74, 75, 76, 77, 78, 79, 80, 81, 82, 83, 84, 85, 86, 87, 88, 89, 90, 91, 92, 93, 94] (by decide +kernel) (by decide +kernel)
set_option maxRecDepth 20000 in
theorem gX11_seen_X5_everSeen_u140X0 : GoodIn wsX11_seen (va_wsU RX11 140 RX0 "LampsThatRemember$Lamp" ⟨"LampsThatRemember$Lamp", "everSeen", "()I"⟩ yX5_everSeen wsX5_everSeen) := goodIn_app (goodIn_of _ (by decide +kernel)) ggX11_seen_X5_everSeen
set_option maxRecDepth 20000 in
theorem gX11_seen_X5_everSeen_u140X1 : GoodIn wsX11_seen (va_wsU RX11 140 RX1 "LampsThatRemember$Lamp" ⟨"LampsThatRemember$Lamp", "everSeen", "()I"⟩ yX5_everSeen wsX5_everSeen) := goodIn_app (goodIn_of _ (by decide +kernel)) ggX11_seen_X5_everSeen
set_option maxRecDepth 20000 in
theorem gX11_seen_X5_everSeen_u140X3 : GoodIn wsX11_seen (va_wsU RX11 140 RX3 "LampsThatRemember$Lamp" ⟨"LampsThatRemember$Lamp", "everSeen", "()I"⟩ yX5_everSeen wsX5_everSeen) := goodIn_app (goodIn_of _ (by decide +kernel)) ggX11_seen_X5_everSeen
set_option maxRecDepth 20000 in
theorem gX11_seen_X5_everSeen_u140X4 : GoodIn wsX11_seen (va_wsU RX11 140 RX4 "LampsThatRemember$Lamp" ⟨"LampsThatRemember$Lamp", "everSeen", "()I"⟩ yX5_everSeen wsX5_everSeen) := goodIn_app (goodIn_of _ (by decide +kernel)) ggX11_seen_X5_everSeen
set_option maxRecDepth 20000 in
theorem gX11_seen_X5_everSeen : GoodIn wsX11_seen (wsV RX11 140 RX5 yX5_everSeen wsX5_everSeen) := goodIn_app (goodIn_of _ (by decide +kernel)) ggX11_seen_X5_everSeen
set_option maxRecDepth 20000 in
theorem gX11_seen_X5_everSeen_u140X7 : GoodIn wsX11_seen (va_wsU RX11 140 RX7 "LampsThatRemember$Lamp" ⟨"LampsThatRemember$Lamp", "everSeen", "()I"⟩ yX5_everSeen wsX5_everSeen) := goodIn_app (goodIn_of _ (by decide +kernel)) ggX11_seen_X5_everSeen
set_option maxRecDepth 20000 in
theorem gX11_seen_X5_everSeen_u140X8 : GoodIn wsX11_seen (va_wsU RX11 140 RX8 "LampsThatRemember$Lamp" ⟨"LampsThatRemember$Lamp", "everSeen", "()I"⟩ yX5_everSeen wsX5_everSeen) := goodIn_app (goodIn_of _ (by decide +kernel)) ggX11_seen_X5_everSeen
theorem dX11_seen_0 : decode cX11_seen 0 = .ok (.aload_n 0, 1) := by decide +kernel
theorem dX11_seen_1 : decode cX11_seen 1 = .ok (.getfield 30, 3) := by decide +kernel
theorem dX11_seen_4 : decode cX11_seen 4 = .ok (.iload_n 1, 1) := by decide +kernel
theorem dX11_seen_5 : decode cX11_seen 5 = .ok (.invokevirtual 71, 3) := by decide +kernel
theorem dX11_seen_8 : decode cX11_seen 8 = .ok (.astore_n 2, 1) := by decide +kernel
theorem dX11_seen_9 : decode cX11_seen 9 = .ok (.aload_n 2, 1) := by decide +kernel
theorem dX11_seen_10 : decode cX11_seen 10 = .ok (.ifnonnull 11, 3) := by decide +kernel
theorem dX11_seen_13 : decode cX11_seen 13 = .ok (.aload_n 0, 1) := by decide +kernel
theorem dX11_seen_14 : decode cX11_seen 14 = .ok (.iconst (-1), 1) := by decide +kernel
theorem dX11_seen_15 : decode cX11_seen 15 = .ok (.invokevirtual 36, 3) := by decide +kernel
theorem dX11_seen_18 : decode cX11_seen 18 = .ok (.goto 7, 3) := by decide +kernel
theorem dX11_seen_21 : decode cX11_seen 21 = .ok (.aload_n 2, 1) := by decide +kernel
theorem dX11_seen_22 : decode cX11_seen 22 = .ok (.invokevirtual 140, 3) := by decide +kernel
theorem dX11_seen_25 : decode cX11_seen 25 = .ok (.ireturn, 1) := by decide +kernel
set_option maxRecDepth 20000 in
theorem ggX11_forget_X10_lampAt : GoodIn wsX11_forget wsX10_lampAt := goodIn_r _ [7, 8, 9, 112, 113, 114, 115, 116, 117] (by decide +kernel) (by decide +kernel)
set_option maxRecDepth 20000 in
theorem gX11_forget_X10_lampAt : GoodIn wsX11_forget (wsV RX11 71 RX10 yX10_lampAt wsX10_lampAt) := goodIn_app (goodIn_of _ (by decide +kernel)) ggX11_forget_X10_lampAt
set_option maxRecDepth 20000 in
theorem ggX11_forget_X11_refuse : GoodIn wsX11_forget wsX11_refuse := goodIn_r _ [14, 15, 69, 70, 71, 72, 73, 74, 75, 76] (by decide +kernel) (by decide +kernel)
set_option maxRecDepth 20000 in
theorem gX11_forget_X11_refuse : GoodIn wsX11_forget (wsV RX11 36 RX11 yX11_refuse wsX11_refuse) := goodIn_app (goodIn_of _ (by decide +kernel)) ggX11_forget_X11_refuse
set_option maxRecDepth 20000 in
theorem ggX11_forget_X11_outside : GoodIn wsX11_forget wsX11_outside := goodIn_r _ [18] (by decide +kernel) (by decide +kernel)
set_option maxRecDepth 20000 in
theorem gX11_forget_X11_outside : GoodIn wsX11_forget (va_wsS RX11 143 yX11_outside wsX11_outside) := goodIn_app (goodIn_of _ (by decide +kernel)) ggX11_forget_X11_outside
set_option maxRecDepth 20000 in
theorem ggX11_forget_X5_placeOfMinute : GoodIn wsX11_forget wsX5_placeOfMinute := goodIn_r _ [24, 25, 26, 27, 28, 29, 23, 30, 31, 32, 33, 34, 35, 36, 37, 38, 39, 40, 41, 42, 77, 78, 79, 80, 81, 82, 83, 84, 85, 86, 87, 88, 89, 90, 91, 92, 93, 94, 95, 96, 97, 98, 99, 100, 101, 102, 103, 104, 105, 106, 107, 108, 109, 110, 111] (by decide +kernel) (by decide +kernel)
set_option maxRecDepth 20000 in
theorem gX11_forget_X5_placeOfMinute_u147X0 : GoodIn wsX11_forget (va_wsU RX11 147 RX0 "LampsThatRemember$Lamp" ⟨"LampsThatRemember$Lamp", "placeOfMinute", "(I)I"⟩ yX5_placeOfMinute wsX5_placeOfMinute) := goodIn_app (goodIn_of _ (by decide +kernel)) ggX11_forget_X5_placeOfMinute
set_option maxRecDepth 20000 in
theorem gX11_forget_X5_placeOfMinute_u147X1 : GoodIn wsX11_forget (va_wsU RX11 147 RX1 "LampsThatRemember$Lamp" ⟨"LampsThatRemember$Lamp", "placeOfMinute", "(I)I"⟩ yX5_placeOfMinute wsX5_placeOfMinute) := goodIn_app (goodIn_of _ (by decide +kernel)) ggX11_forget_X5_placeOfMinute
set_option maxRecDepth 20000 in
theorem gX11_forget_X5_placeOfMinute_u147X3 : GoodIn wsX11_forget (va_wsU RX11 147 RX3 "LampsThatRemember$Lamp" ⟨"LampsThatRemember$Lamp", "placeOfMinute", "(I)I"⟩ yX5_placeOfMinute wsX5_placeOfMinute) := goodIn_app (goodIn_of _ (by decide +kernel)) ggX11_forget_X5_placeOfMinute
set_option maxRecDepth 20000 in
theorem gX11_forget_X5_placeOfMinute_u147X4 : GoodIn wsX11_forget (va_wsU RX11 147 RX4 "LampsThatRemember$Lamp" ⟨"LampsThatRemember$Lamp", "placeOfMinute", "(I)I"⟩ yX5_placeOfMinute wsX5_placeOfMinute) := goodIn_app (goodIn_of _ (by decide +kernel)) ggX11_forget_X5_placeOfMinute
set_option maxRecDepth 20000 in
theorem gX11_forget_X5_placeOfMinute : GoodIn wsX11_forget (wsV RX11 147 RX5 yX5_placeOfMinute wsX5_placeOfMinute) := goodIn_app (goodIn_of _ (by decide +kernel)) ggX11_forget_X5_placeOfMinute
set_option maxRecDepth 20000 in
theorem gX11_forget_X5_placeOfMinute_u147X7 : GoodIn wsX11_forget (va_wsU RX11 147 RX7 "LampsThatRemember$Lamp" ⟨"LampsThatRemember$Lamp", "placeOfMinute", "(I)I"⟩ yX5_placeOfMinute wsX5_placeOfMinute) := goodIn_app (goodIn_of _ (by decide +kernel)) ggX11_forget_X5_placeOfMinute
set_option maxRecDepth 20000 in
theorem gX11_forget_X5_placeOfMinute_u147X8 : GoodIn wsX11_forget (va_wsU RX11 147 RX8 "LampsThatRemember$Lamp" ⟨"LampsThatRemember$Lamp", "placeOfMinute", "(I)I"⟩ yX5_placeOfMinute wsX5_placeOfMinute) := goodIn_app (goodIn_of _ (by decide +kernel)) ggX11_forget_X5_placeOfMinute
set_option maxRecDepth 20000 in
theorem ggX11_forget_X0_room : GoodIn wsX11_forget wsX0_room := goodIn_r _ [56] (by decide +kernel) (by decide +kernel)
set_option maxRecDepth 20000 in
theorem gX11_forget_X0_room_u150X0 : GoodIn wsX11_forget (va_wsO RX11 150 RX0 "LampsThatRemember$Lamp" ⟨"LampsThatRemember$Lamp", "room", "()I"⟩ yX0_room wsX0_room) := goodIn_app (goodIn_of _ (by decide +kernel)) ggX11_forget_X0_room
set_option maxRecDepth 20000 in
theorem ggX11_forget_X5_room : GoodIn wsX11_forget wsX5_room := goodIn_r _ [57] (by decide +kernel) (by decide +kernel)
set_option maxRecDepth 20000 in
theorem gX11_forget_X5_room_u150X1 : GoodIn wsX11_forget (va_wsU RX11 150 RX1 "LampsThatRemember$Lamp" ⟨"LampsThatRemember$Lamp", "room", "()I"⟩ yX5_room wsX5_room) := goodIn_app (goodIn_of _ (by decide +kernel)) ggX11_forget_X5_room
set_option maxRecDepth 20000 in
theorem gX11_forget_X5_room_u150X3 : GoodIn wsX11_forget (va_wsU RX11 150 RX3 "LampsThatRemember$Lamp" ⟨"LampsThatRemember$Lamp", "room", "()I"⟩ yX5_room wsX5_room) := goodIn_app (goodIn_of _ (by decide +kernel)) ggX11_forget_X5_room
set_option maxRecDepth 20000 in
theorem gX11_forget_X5_room_u150X4 : GoodIn wsX11_forget (va_wsU RX11 150 RX4 "LampsThatRemember$Lamp" ⟨"LampsThatRemember$Lamp", "room", "()I"⟩ yX5_room wsX5_room) := goodIn_app (goodIn_of _ (by decide +kernel)) ggX11_forget_X5_room
set_option maxRecDepth 20000 in
theorem gX11_forget_X5_room : GoodIn wsX11_forget (wsV RX11 150 RX5 yX5_room wsX5_room) := goodIn_app (goodIn_of _ (by decide +kernel)) ggX11_forget_X5_room
set_option maxRecDepth 20000 in
theorem ggX11_forget_X7_room : GoodIn wsX11_forget wsX7_room := goodIn_r _ [67] (by decide +kernel) (by decide +kernel)
set_option maxRecDepth 20000 in
theorem gX11_forget_X7_room_u150X7 : GoodIn wsX11_forget (va_wsO RX11 150 RX7 "LampsThatRemember$Lamp" ⟨"LampsThatRemember$Lamp", "room", "()I"⟩ yX7_room wsX7_room) := goodIn_app (goodIn_of _ (by decide +kernel)) ggX11_forget_X7_room
set_option maxRecDepth 20000 in
theorem gX11_forget_X5_room_u150X8 : GoodIn wsX11_forget (va_wsU RX11 150 RX8 "LampsThatRemember$Lamp" ⟨"LampsThatRemember$Lamp", "room", "()I"⟩ yX5_room wsX5_room) := goodIn_app (goodIn_of _ (by decide +kernel)) ggX11_forget_X5_room
theorem dX11_forget_0 : decode cX11_forget 0 = .ok (.aload_n 0, 1) := by decide +kernel
theorem dX11_forget_1 : decode cX11_forget 1 = .ok (.getfield 30, 3) := by decide +kernel
theorem dX11_forget_4 : decode cX11_forget 4 = .ok (.iload_n 1, 1) := by decide +kernel
theorem dX11_forget_5 : decode cX11_forget 5 = .ok (.invokevirtual 71, 3) := by decide +kernel
theorem dX11_forget_8 : decode cX11_forget 8 = .ok (.astore_n 3, 1) := by decide +kernel
theorem dX11_forget_9 : decode cX11_forget 9 = .ok (.aload_n 3, 1) := by decide +kernel
theorem dX11_forget_10 : decode cX11_forget 10 = .ok (.ifnonnull 9, 3) := by decide +kernel
theorem dX11_forget_13 : decode cX11_forget 13 = .ok (.aload_n 0, 1) := by decide +kernel
theorem dX11_forget_14 : decode cX11_forget 14 = .ok (.iconst (-1), 1) := by decide +kernel
theorem dX11_forget_15 : decode cX11_forget 15 = .ok (.invokevirtual 36, 3) := by decide +kernel
theorem dX11_forget_18 : decode cX11_forget 18 = .ok (.ireturn, 1) := by decide +kernel
theorem dX11_forget_19 : decode cX11_forget 19 = .ok (.iload_n 2, 1) := by decide +kernel
theorem dX11_forget_20 : decode cX11_forget 20 = .ok (.iconst 0, 1) := by decide +kernel
theorem dX11_forget_21 : decode cX11_forget 21 = .ok (.sipush 9999, 3) := by decide +kernel
theorem dX11_forget_24 : decode cX11_forget 24 = .ok (.invokestatic 143, 3) := by decide +kernel
theorem dX11_forget_27 : decode cX11_forget 27 = .ok (.istore 4, 2) := by decide +kernel
theorem dX11_forget_29 : decode cX11_forget 29 = .ok (.iload 4, 2) := by decide +kernel
theorem dX11_forget_31 : decode cX11_forget 31 = .ok (.ifCond .ge 10, 3) := by decide +kernel
theorem dX11_forget_34 : decode cX11_forget 34 = .ok (.aload_n 0, 1) := by decide +kernel
theorem dX11_forget_35 : decode cX11_forget 35 = .ok (.iload 4, 2) := by decide +kernel
theorem dX11_forget_37 : decode cX11_forget 37 = .ok (.invokevirtual 36, 3) := by decide +kernel
theorem dX11_forget_40 : decode cX11_forget 40 = .ok (.ireturn, 1) := by decide +kernel
theorem dX11_forget_41 : decode cX11_forget 41 = .ok (.aload_n 3, 1) := by decide +kernel
theorem dX11_forget_42 : decode cX11_forget 42 = .ok (.iload_n 2, 1) := by decide +kernel
theorem dX11_forget_43 : decode cX11_forget 43 = .ok (.invokevirtual 147, 3) := by decide +kernel
theorem dX11_forget_46 : decode cX11_forget 46 = .ok (.istore 5, 2) := by decide +kernel
theorem dX11_forget_48 : decode cX11_forget 48 = .ok (.iload 5, 2) := by decide +kernel
theorem dX11_forget_50 : decode cX11_forget 50 = .ok (.ifCond .ge 8, 3) := by decide +kernel
theorem dX11_forget_53 : decode cX11_forget 53 = .ok (.bipush (-9), 2) := by decide +kernel
theorem dX11_forget_55 : decode cX11_forget 55 = .ok (.goto 17, 3) := by decide +kernel
theorem dX11_forget_58 : decode cX11_forget 58 = .ok (.aload_n 3, 1) := by decide +kernel
theorem dX11_forget_59 : decode cX11_forget 59 = .ok (.invokevirtual 150, 3) := by decide +kernel
theorem dX11_forget_62 : decode cX11_forget 62 = .ok (.aload_n 3, 1) := by decide +kernel
theorem dX11_forget_63 : decode cX11_forget 63 = .ok (.getfield 105, 3) := by decide +kernel
theorem dX11_forget_66 : decode cX11_forget 66 = .ok (.isub, 1) := by decide +kernel
theorem dX11_forget_67 : decode cX11_forget 67 = .ok (.iload 5, 2) := by decide +kernel
theorem dX11_forget_69 : decode cX11_forget 69 = .ok (.iadd, 1) := by decide +kernel
theorem dX11_forget_70 : decode cX11_forget 70 = .ok (.iconst 1, 1) := by decide +kernel
theorem dX11_forget_71 : decode cX11_forget 71 = .ok (.iadd, 1) := by decide +kernel
theorem dX11_forget_72 : decode cX11_forget 72 = .ok (.ireturn, 1) := by decide +kernel
set_option maxRecDepth 20000 in
theorem ggX11_two_X10_lampAt : GoodIn wsX11_two wsX10_lampAt := goodIn_r _ [7, 8, 9, 96, 97, 98, 99, 100, 101] (by decide +kernel) (by decide +kernel)
set_option maxRecDepth 20000 in
theorem gX11_two_X10_lampAt : GoodIn wsX11_two (wsV RX11 71 RX10 yX10_lampAt wsX10_lampAt) := goodIn_app (goodIn_of _ (by decide +kernel)) ggX11_two_X10_lampAt
set_option maxRecDepth 20000 in
theorem ggX11_two_X11_refuse : GoodIn wsX11_two wsX11_refuse := goodIn_r _ [14, 15, 53, 54, 55, 56, 57, 58, 59, 60] (by decide +kernel) (by decide +kernel)
set_option maxRecDepth 20000 in
theorem gX11_two_X11_refuse : GoodIn wsX11_two (wsV RX11 36 RX11 yX11_refuse wsX11_refuse) := goodIn_app (goodIn_of _ (by decide +kernel)) ggX11_two_X11_refuse
set_option maxRecDepth 20000 in
theorem ggX11_two_X5_sceneAt : GoodIn wsX11_two wsX5_sceneAt := goodIn_r _ [21, 22, 23, 61, 62, 63, 64, 65, 66, 67, 68, 69, 70, 71, 72, 73, 74, 75, 76, 77, 78, 79, 80, 81, 82, 83, 84, 85, 86, 87, 88, 89, 90, 91, 92, 93, 94, 95] (by decide +kernel) (by decide +kernel)
set_option maxRecDepth 20000 in
theorem gX11_two_X5_sceneAt_u153X0 : GoodIn wsX11_two (va_wsU RX11 153 RX0 "LampsThatRemember$Lamp" ⟨"LampsThatRemember$Lamp", "sceneAt", "(I)I"⟩ yX5_sceneAt wsX5_sceneAt) := goodIn_app (goodIn_of _ (by decide +kernel)) ggX11_two_X5_sceneAt
set_option maxRecDepth 20000 in
theorem gX11_two_X5_sceneAt_u153X1 : GoodIn wsX11_two (va_wsU RX11 153 RX1 "LampsThatRemember$Lamp" ⟨"LampsThatRemember$Lamp", "sceneAt", "(I)I"⟩ yX5_sceneAt wsX5_sceneAt) := goodIn_app (goodIn_of _ (by decide +kernel)) ggX11_two_X5_sceneAt
set_option maxRecDepth 20000 in
theorem gX11_two_X5_sceneAt_u153X3 : GoodIn wsX11_two (va_wsU RX11 153 RX3 "LampsThatRemember$Lamp" ⟨"LampsThatRemember$Lamp", "sceneAt", "(I)I"⟩ yX5_sceneAt wsX5_sceneAt) := goodIn_app (goodIn_of _ (by decide +kernel)) ggX11_two_X5_sceneAt
set_option maxRecDepth 20000 in
theorem gX11_two_X5_sceneAt_u153X4 : GoodIn wsX11_two (va_wsU RX11 153 RX4 "LampsThatRemember$Lamp" ⟨"LampsThatRemember$Lamp", "sceneAt", "(I)I"⟩ yX5_sceneAt wsX5_sceneAt) := goodIn_app (goodIn_of _ (by decide +kernel)) ggX11_two_X5_sceneAt
set_option maxRecDepth 20000 in
theorem gX11_two_X5_sceneAt : GoodIn wsX11_two (wsV RX11 153 RX5 yX5_sceneAt wsX5_sceneAt) := goodIn_app (goodIn_of _ (by decide +kernel)) ggX11_two_X5_sceneAt
set_option maxRecDepth 20000 in
theorem gX11_two_X5_sceneAt_u153X7 : GoodIn wsX11_two (va_wsU RX11 153 RX7 "LampsThatRemember$Lamp" ⟨"LampsThatRemember$Lamp", "sceneAt", "(I)I"⟩ yX5_sceneAt wsX5_sceneAt) := goodIn_app (goodIn_of _ (by decide +kernel)) ggX11_two_X5_sceneAt
set_option maxRecDepth 20000 in
theorem gX11_two_X5_sceneAt_u153X8 : GoodIn wsX11_two (va_wsU RX11 153 RX8 "LampsThatRemember$Lamp" ⟨"LampsThatRemember$Lamp", "sceneAt", "(I)I"⟩ yX5_sceneAt wsX5_sceneAt) := goodIn_app (goodIn_of _ (by decide +kernel)) ggX11_two_X5_sceneAt
set_option maxRecDepth 20000 in
theorem ggX11_two_X9_minuteIn : GoodIn wsX11_two wsX9_minuteIn := goodIn_r _ [34] (by decide +kernel) (by decide +kernel)
set_option maxRecDepth 20000 in
theorem gX11_two_X9_minuteIn : GoodIn wsX11_two (va_wsS RX11 137 yX9_minuteIn wsX9_minuteIn) := goodIn_app (goodIn_of _ (by decide +kernel)) ggX11_two_X9_minuteIn
set_option maxRecDepth 20000 in
theorem ggX11_two_X5_placeOfMinute : GoodIn wsX11_two wsX5_placeOfMinute := goodIn_r _ [39, 22, 40, 17, 18, 19, 20, 21, 23, 24, 25, 26, 41, 28, 29, 30, 42, 32, 33, 34, 61, 62, 63, 64, 65, 66, 67, 68, 69, 70, 71, 72, 73, 74, 75, 76, 77, 78, 79, 80, 81, 82, 83, 84, 85, 86, 87, 88, 89, 90, 91, 92, 93, 94, 95] (by decide +kernel) (by decide +kernel)
set_option maxRecDepth 20000 in
theorem gX11_two_X5_placeOfMinute_u147X0 : GoodIn wsX11_two (va_wsU RX11 147 RX0 "LampsThatRemember$Lamp" ⟨"LampsThatRemember$Lamp", "placeOfMinute", "(I)I"⟩ yX5_placeOfMinute wsX5_placeOfMinute) := goodIn_app (goodIn_of _ (by decide +kernel)) ggX11_two_X5_placeOfMinute
set_option maxRecDepth 20000 in
theorem gX11_two_X5_placeOfMinute_u147X1 : GoodIn wsX11_two (va_wsU RX11 147 RX1 "LampsThatRemember$Lamp" ⟨"LampsThatRemember$Lamp", "placeOfMinute", "(I)I"⟩ yX5_placeOfMinute wsX5_placeOfMinute) := goodIn_app (goodIn_of _ (by decide +kernel)) ggX11_two_X5_placeOfMinute
set_option maxRecDepth 20000 in
theorem gX11_two_X5_placeOfMinute_u147X3 : GoodIn wsX11_two (va_wsU RX11 147 RX3 "LampsThatRemember$Lamp" ⟨"LampsThatRemember$Lamp", "placeOfMinute", "(I)I"⟩ yX5_placeOfMinute wsX5_placeOfMinute) := goodIn_app (goodIn_of _ (by decide +kernel)) ggX11_two_X5_placeOfMinute
set_option maxRecDepth 20000 in
theorem gX11_two_X5_placeOfMinute_u147X4 : GoodIn wsX11_two (va_wsU RX11 147 RX4 "LampsThatRemember$Lamp" ⟨"LampsThatRemember$Lamp", "placeOfMinute", "(I)I"⟩ yX5_placeOfMinute wsX5_placeOfMinute) := goodIn_app (goodIn_of _ (by decide +kernel)) ggX11_two_X5_placeOfMinute
set_option maxRecDepth 20000 in
theorem gX11_two_X5_placeOfMinute : GoodIn wsX11_two (wsV RX11 147 RX5 yX5_placeOfMinute wsX5_placeOfMinute) := goodIn_app (goodIn_of _ (by decide +kernel)) ggX11_two_X5_placeOfMinute
set_option maxRecDepth 20000 in
theorem gX11_two_X5_placeOfMinute_u147X7 : GoodIn wsX11_two (va_wsU RX11 147 RX7 "LampsThatRemember$Lamp" ⟨"LampsThatRemember$Lamp", "placeOfMinute", "(I)I"⟩ yX5_placeOfMinute wsX5_placeOfMinute) := goodIn_app (goodIn_of _ (by decide +kernel)) ggX11_two_X5_placeOfMinute
set_option maxRecDepth 20000 in
theorem gX11_two_X5_placeOfMinute_u147X8 : GoodIn wsX11_two (va_wsU RX11 147 RX8 "LampsThatRemember$Lamp" ⟨"LampsThatRemember$Lamp", "placeOfMinute", "(I)I"⟩ yX5_placeOfMinute wsX5_placeOfMinute) := goodIn_app (goodIn_of _ (by decide +kernel)) ggX11_two_X5_placeOfMinute
set_option maxRecDepth 20000 in
theorem ggX11_two_X9_cellIn : GoodIn wsX11_two wsX9_cellIn := goodIn_r _ [52] (by decide +kernel) (by decide +kernel)
set_option maxRecDepth 20000 in
theorem gX11_two_X9_cellIn : GoodIn wsX11_two (va_wsS RX11 134 yX9_cellIn wsX9_cellIn) := goodIn_app (goodIn_of _ (by decide +kernel)) ggX11_two_X9_cellIn
theorem dX11_two_0 : decode cX11_two 0 = .ok (.aload_n 0, 1) := by decide +kernel
theorem dX11_two_1 : decode cX11_two 1 = .ok (.getfield 30, 3) := by decide +kernel
theorem dX11_two_4 : decode cX11_two 4 = .ok (.iload_n 1, 1) := by decide +kernel
theorem dX11_two_5 : decode cX11_two 5 = .ok (.invokevirtual 71, 3) := by decide +kernel
theorem dX11_two_8 : decode cX11_two 8 = .ok (.astore_n 3, 1) := by decide +kernel
theorem dX11_two_9 : decode cX11_two 9 = .ok (.aload_n 0, 1) := by decide +kernel
theorem dX11_two_10 : decode cX11_two 10 = .ok (.getfield 30, 3) := by decide +kernel
theorem dX11_two_13 : decode cX11_two 13 = .ok (.iload_n 2, 1) := by decide +kernel
theorem dX11_two_14 : decode cX11_two 14 = .ok (.invokevirtual 71, 3) := by decide +kernel
theorem dX11_two_17 : decode cX11_two 17 = .ok (.astore 4, 2) := by decide +kernel
theorem dX11_two_19 : decode cX11_two 19 = .ok (.aload_n 3, 1) := by decide +kernel
theorem dX11_two_20 : decode cX11_two 20 = .ok (.ifnull 8, 3) := by decide +kernel
theorem dX11_two_23 : decode cX11_two 23 = .ok (.aload 4, 2) := by decide +kernel
theorem dX11_two_25 : decode cX11_two 25 = .ok (.ifnonnull 9, 3) := by decide +kernel
theorem dX11_two_28 : decode cX11_two 28 = .ok (.aload_n 0, 1) := by decide +kernel
theorem dX11_two_29 : decode cX11_two 29 = .ok (.iconst (-1), 1) := by decide +kernel
theorem dX11_two_30 : decode cX11_two 30 = .ok (.invokevirtual 36, 3) := by decide +kernel
theorem dX11_two_33 : decode cX11_two 33 = .ok (.ireturn, 1) := by decide +kernel
theorem dX11_two_34 : decode cX11_two 34 = .ok (.iconst 0, 1) := by decide +kernel
theorem dX11_two_35 : decode cX11_two 35 = .ok (.istore 5, 2) := by decide +kernel
theorem dX11_two_37 : decode cX11_two 37 = .ok (.iconst 0, 1) := by decide +kernel
theorem dX11_two_38 : decode cX11_two 38 = .ok (.istore 6, 2) := by decide +kernel
theorem dX11_two_40 : decode cX11_two 40 = .ok (.iload 6, 2) := by decide +kernel
theorem dX11_two_42 : decode cX11_two 42 = .ok (.aload_n 3, 1) := by decide +kernel
theorem dX11_two_43 : decode cX11_two 43 = .ok (.getfield 105, 3) := by decide +kernel
theorem dX11_two_46 : decode cX11_two 46 = .ok (.if_icmp .ge 55, 3) := by decide +kernel
theorem dX11_two_49 : decode cX11_two 49 = .ok (.aload_n 3, 1) := by decide +kernel
theorem dX11_two_50 : decode cX11_two 50 = .ok (.iload 6, 2) := by decide +kernel
theorem dX11_two_52 : decode cX11_two 52 = .ok (.invokevirtual 153, 3) := by decide +kernel
theorem dX11_two_55 : decode cX11_two 55 = .ok (.istore 7, 2) := by decide +kernel
theorem dX11_two_57 : decode cX11_two 57 = .ok (.aload 4, 2) := by decide +kernel
theorem dX11_two_59 : decode cX11_two 59 = .ok (.iload 7, 2) := by decide +kernel
theorem dX11_two_61 : decode cX11_two 61 = .ok (.invokestatic 137, 3) := by decide +kernel
theorem dX11_two_64 : decode cX11_two 64 = .ok (.invokevirtual 147, 3) := by decide +kernel
theorem dX11_two_67 : decode cX11_two 67 = .ok (.istore 8, 2) := by decide +kernel
theorem dX11_two_69 : decode cX11_two 69 = .ok (.iload 8, 2) := by decide +kernel
theorem dX11_two_71 : decode cX11_two 71 = .ok (.ifCond .lt 24, 3) := by decide +kernel
theorem dX11_two_74 : decode cX11_two 74 = .ok (.aload 4, 2) := by decide +kernel
theorem dX11_two_76 : decode cX11_two 76 = .ok (.iload 8, 2) := by decide +kernel
theorem dX11_two_78 : decode cX11_two 78 = .ok (.invokevirtual 153, 3) := by decide +kernel
theorem dX11_two_81 : decode cX11_two 81 = .ok (.invokestatic 134, 3) := by decide +kernel
theorem dX11_two_84 : decode cX11_two 84 = .ok (.iload 7, 2) := by decide +kernel
theorem dX11_two_86 : decode cX11_two 86 = .ok (.invokestatic 134, 3) := by decide +kernel
theorem dX11_two_89 : decode cX11_two 89 = .ok (.if_icmp .ne 6, 3) := by decide +kernel
theorem dX11_two_92 : decode cX11_two 92 = .ok (.iinc 5 1, 3) := by decide +kernel
theorem dX11_two_95 : decode cX11_two 95 = .ok (.iinc 6 1, 3) := by decide +kernel
theorem dX11_two_98 : decode cX11_two 98 = .ok (.goto (-58), 3) := by decide +kernel
theorem dX11_two_101 : decode cX11_two 101 = .ok (.iload 5, 2) := by decide +kernel
theorem dX11_two_103 : decode cX11_two 103 = .ok (.ireturn, 1) := by decide +kernel
set_option maxRecDepth 20000 in
theorem ggX11_where_X10_isPerson : GoodIn wsX11_where wsX10_isPerson := goodIn_r _ [6, 7, 27, 28, 29, 30, 31, 32] (by decide +kernel) (by decide +kernel)
set_option maxRecDepth 20000 in
theorem gX11_where_X10_isPerson : GoodIn wsX11_where (wsV RX11 156 RX10 yX10_isPerson wsX10_isPerson) := goodIn_app (goodIn_of _ (by decide +kernel)) ggX11_where_X10_isPerson
set_option maxRecDepth 20000 in
theorem ggX11_where_X10_cellOf : GoodIn wsX11_where wsX10_cellOf := goodIn_r _ [11, 7, 12, 27, 28, 29, 30, 31, 32] (by decide +kernel) (by decide +kernel)
set_option maxRecDepth 20000 in
theorem gX11_where_X10_cellOf : GoodIn wsX11_where (wsV RX11 159 RX10 yX10_cellOf wsX10_cellOf) := goodIn_app (goodIn_of _ (by decide +kernel)) ggX11_where_X10_cellOf
set_option maxRecDepth 20000 in
theorem ggX11_where_X11_refuse : GoodIn wsX11_where wsX11_refuse := goodIn_r _ [17, 18, 19, 20, 21, 22, 23, 24, 25, 26] (by decide +kernel) (by decide +kernel)
set_option maxRecDepth 20000 in
theorem gX11_where_X11_refuse : GoodIn wsX11_where (wsV RX11 36 RX11 yX11_refuse wsX11_refuse) := goodIn_app (goodIn_of _ (by decide +kernel)) ggX11_where_X11_refuse
theorem dX11_where_0 : decode cX11_where 0 = .ok (.aload_n 0, 1) := by decide +kernel
theorem dX11_where_1 : decode cX11_where 1 = .ok (.getfield 30, 3) := by decide +kernel
theorem dX11_where_4 : decode cX11_where 4 = .ok (.iload_n 1, 1) := by decide +kernel
theorem dX11_where_5 : decode cX11_where 5 = .ok (.invokevirtual 156, 3) := by decide +kernel
theorem dX11_where_8 : decode cX11_where 8 = .ok (.ifCond .eq 14, 3) := by decide +kernel
theorem dX11_where_11 : decode cX11_where 11 = .ok (.aload_n 0, 1) := by decide +kernel
theorem dX11_where_12 : decode cX11_where 12 = .ok (.getfield 30, 3) := by decide +kernel
theorem dX11_where_15 : decode cX11_where 15 = .ok (.iload_n 1, 1) := by decide +kernel
theorem dX11_where_16 : decode cX11_where 16 = .ok (.invokevirtual 159, 3) := by decide +kernel
theorem dX11_where_19 : decode cX11_where 19 = .ok (.goto 8, 3) := by decide +kernel
theorem dX11_where_22 : decode cX11_where 22 = .ok (.aload_n 0, 1) := by decide +kernel
theorem dX11_where_23 : decode cX11_where 23 = .ok (.iconst (-1), 1) := by decide +kernel
theorem dX11_where_24 : decode cX11_where 24 = .ok (.invokevirtual 36, 3) := by decide +kernel
theorem dX11_where_27 : decode cX11_where 27 = .ok (.ireturn, 1) := by decide +kernel
set_option maxRecDepth 20000 in
theorem ggX11_steps_X2_isOne : GoodIn wsX11_steps wsX2_isOne := goodIn_r _ [5] (by decide +kernel) (by decide +kernel)
set_option maxRecDepth 20000 in
theorem gX11_steps_X2_isOne : GoodIn wsX11_steps (va_wsS RX11 118 yX2_isOne wsX2_isOne) := goodIn_app (goodIn_of _ (by decide +kernel)) ggX11_steps_X2_isOne
set_option maxRecDepth 20000 in
theorem ggX11_steps_X11_refuse : GoodIn wsX11_steps wsX11_refuse := goodIn_r _ [10, 11, 34, 35, 36, 37, 38, 39, 40, 41] (by decide +kernel) (by decide +kernel)
set_option maxRecDepth 20000 in
theorem gX11_steps_X11_refuse : GoodIn wsX11_steps (wsV RX11 36 RX11 yX11_refuse wsX11_refuse) := goodIn_app (goodIn_of _ (by decide +kernel)) ggX11_steps_X11_refuse
set_option maxRecDepth 20000 in
theorem ggX11_steps_X10_free : GoodIn wsX11_steps wsX10_free := goodIn_r _ [16, 17, 18, 19, 42, 43, 44, 45, 46, 47] (by decide +kernel) (by decide +kernel)
set_option maxRecDepth 20000 in
theorem gX11_steps_X10_free : GoodIn wsX11_steps (wsV RX11 162 RX10 yX10_free wsX10_free) := goodIn_app (goodIn_of _ (by decide +kernel)) ggX11_steps_X10_free
set_option maxRecDepth 20000 in
theorem ggX11_steps_X2_fewestSteps : GoodIn wsX11_steps wsX2_fewestSteps := goodIn_r _ [22, 23, 24, 4, 25, 26, 27, 28, 29, 30, 31, 32, 33] (by decide +kernel) (by decide +kernel)
set_option maxRecDepth 20000 in
theorem gX11_steps_X2_fewestSteps : GoodIn wsX11_steps (va_wsS RX11 166 yX2_fewestSteps wsX2_fewestSteps) := goodIn_app (goodIn_of _ (by decide +kernel)) ggX11_steps_X2_fewestSteps
theorem dX11_steps_0 : decode cX11_steps 0 = .ok (.iload_n 1, 1) := by decide +kernel
theorem dX11_steps_1 : decode cX11_steps 1 = .ok (.invokestatic 118, 3) := by decide +kernel
theorem dX11_steps_4 : decode cX11_steps 4 = .ok (.ifCond .eq 10, 3) := by decide +kernel
theorem dX11_steps_7 : decode cX11_steps 7 = .ok (.iload_n 2, 1) := by decide +kernel
theorem dX11_steps_8 : decode cX11_steps 8 = .ok (.invokestatic 118, 3) := by decide +kernel
theorem dX11_steps_11 : decode cX11_steps 11 = .ok (.ifCond .ne 9, 3) := by decide +kernel
theorem dX11_steps_14 : decode cX11_steps 14 = .ok (.aload_n 0, 1) := by decide +kernel
theorem dX11_steps_15 : decode cX11_steps 15 = .ok (.iconst (-1), 1) := by decide +kernel
theorem dX11_steps_16 : decode cX11_steps 16 = .ok (.invokevirtual 36, 3) := by decide +kernel
theorem dX11_steps_19 : decode cX11_steps 19 = .ok (.ireturn, 1) := by decide +kernel
theorem dX11_steps_20 : decode cX11_steps 20 = .ok (.iload_n 1, 1) := by decide +kernel
theorem dX11_steps_21 : decode cX11_steps 21 = .ok (.iload_n 2, 1) := by decide +kernel
theorem dX11_steps_22 : decode cX11_steps 22 = .ok (.aload_n 0, 1) := by decide +kernel
theorem dX11_steps_23 : decode cX11_steps 23 = .ok (.getfield 30, 3) := by decide +kernel
theorem dX11_steps_26 : decode cX11_steps 26 = .ok (.invokevirtual 162, 3) := by decide +kernel
theorem dX11_steps_29 : decode cX11_steps 29 = .ok (.invokestatic 166, 3) := by decide +kernel
theorem dX11_steps_32 : decode cX11_steps 32 = .ok (.ireturn, 1) := by decide +kernel
set_option maxRecDepth 20000 in
theorem ggX11_unlit_X2_isOne : GoodIn wsX11_unlit wsX2_isOne := goodIn_r _ [6] (by decide +kernel) (by decide +kernel)
set_option maxRecDepth 20000 in
theorem gX11_unlit_X2_isOne : GoodIn wsX11_unlit (va_wsS RX11 118 yX2_isOne wsX2_isOne) := goodIn_app (goodIn_of _ (by decide +kernel)) ggX11_unlit_X2_isOne
set_option maxRecDepth 20000 in
theorem ggX11_unlit_X11_refuse : GoodIn wsX11_unlit wsX11_refuse := goodIn_r _ [11, 12, 100, 101, 102, 103, 104, 105, 106, 107] (by decide +kernel) (by decide +kernel)
set_option maxRecDepth 20000 in
theorem gX11_unlit_X11_refuse : GoodIn wsX11_unlit (wsV RX11 36 RX11 yX11_refuse wsX11_refuse) := goodIn_app (goodIn_of _ (by decide +kernel)) ggX11_unlit_X11_refuse
set_option maxRecDepth 20000 in
theorem ggX11_unlit_X11_outside : GoodIn wsX11_unlit wsX11_outside := goodIn_r _ [15] (by decide +kernel) (by decide +kernel)
set_option maxRecDepth 20000 in
theorem gX11_unlit_X11_outside : GoodIn wsX11_unlit (va_wsS RX11 143 yX11_outside wsX11_outside) := goodIn_app (goodIn_of _ (by decide +kernel)) ggX11_unlit_X11_outside
set_option maxRecDepth 20000 in
theorem ggX11_unlit_X10_free : GoodIn wsX11_unlit wsX10_free := goodIn_r _ [20, 21, 22, 23, 108, 109, 110, 111, 112, 113] (by decide +kernel) (by decide +kernel)
set_option maxRecDepth 20000 in
theorem gX11_unlit_X10_free : GoodIn wsX11_unlit (wsV RX11 162 RX10 yX10_free wsX10_free) := goodIn_app (goodIn_of _ (by decide +kernel)) ggX11_unlit_X10_free
set_option maxRecDepth 20000 in
theorem ggX11_unlit_X10_litBut : GoodIn wsX11_unlit wsX10_litBut := goodIn_r _ [27, 28, 29, 30, 19, 31, 32, 33, 34, 35, 36, 37, 38, 39, 40, 41, 42, 43, 44, 45, 46, 47, 48, 49, 50, 51, 52, 53, 54, 55, 56, 57, 58, 59, 60, 61, 62, 63, 64, 65, 66, 67, 68, 69, 70, 71, 72, 73, 74, 75, 17, 18, 20, 21, 22, 23, 76, 77, 5, 78, 79, 80, 81, 82, 83, 84, 85, 86, 87, 88, 89, 90, 91, 92, 93, 108, 109, 110, 111, 112, 113, 114, 115, 116, 117, 118, 119, 120, 121, 122, 123, 124, 125, 126, 127, 128, 129, 130, 131, 132, 133, 134, 135, 136, 137, 138, 139, 140, 141, 142, 143, 144, 145, 146, 147, 148] (by decide +kernel) (by decide +kernel)
set_option maxRecDepth 20000 in
theorem gX11_unlit_X10_litBut : GoodIn wsX11_unlit (wsV RX11 170 RX10 yX10_litBut wsX10_litBut) := goodIn_app (goodIn_of _ (by decide +kernel)) ggX11_unlit_X10_litBut
set_option maxRecDepth 20000 in
theorem ggX11_unlit_X2_fewestSteps : GoodIn wsX11_unlit wsX2_fewestSteps := goodIn_r _ [96, 79, 80, 5, 81, 97, 98, 99, 82, 83, 84, 85, 86] (by decide +kernel) (by decide +kernel)
set_option maxRecDepth 20000 in
theorem gX11_unlit_X2_fewestSteps : GoodIn wsX11_unlit (va_wsS RX11 166 yX2_fewestSteps wsX2_fewestSteps) := goodIn_app (goodIn_of _ (by decide +kernel)) ggX11_unlit_X2_fewestSteps
theorem dX11_unlit_0 : decode cX11_unlit 0 = .ok (.iload_n 1, 1) := by decide +kernel
theorem dX11_unlit_1 : decode cX11_unlit 1 = .ok (.invokestatic 118, 3) := by decide +kernel
theorem dX11_unlit_4 : decode cX11_unlit 4 = .ok (.ifCond .eq 10, 3) := by decide +kernel
theorem dX11_unlit_7 : decode cX11_unlit 7 = .ok (.iload_n 2, 1) := by decide +kernel
theorem dX11_unlit_8 : decode cX11_unlit 8 = .ok (.invokestatic 118, 3) := by decide +kernel
theorem dX11_unlit_11 : decode cX11_unlit 11 = .ok (.ifCond .ne 9, 3) := by decide +kernel
theorem dX11_unlit_14 : decode cX11_unlit 14 = .ok (.aload_n 0, 1) := by decide +kernel
theorem dX11_unlit_15 : decode cX11_unlit 15 = .ok (.iconst (-1), 1) := by decide +kernel
theorem dX11_unlit_16 : decode cX11_unlit 16 = .ok (.invokevirtual 36, 3) := by decide +kernel
theorem dX11_unlit_19 : decode cX11_unlit 19 = .ok (.ireturn, 1) := by decide +kernel
theorem dX11_unlit_20 : decode cX11_unlit 20 = .ok (.iload_n 3, 1) := by decide +kernel
theorem dX11_unlit_21 : decode cX11_unlit 21 = .ok (.iconst 0, 1) := by decide +kernel
theorem dX11_unlit_22 : decode cX11_unlit 22 = .ok (.bipush 63, 2) := by decide +kernel
theorem dX11_unlit_24 : decode cX11_unlit 24 = .ok (.invokestatic 143, 3) := by decide +kernel
theorem dX11_unlit_27 : decode cX11_unlit 27 = .ok (.istore 4, 2) := by decide +kernel
theorem dX11_unlit_29 : decode cX11_unlit 29 = .ok (.iload 4, 2) := by decide +kernel
theorem dX11_unlit_31 : decode cX11_unlit 31 = .ok (.ifCond .ge 10, 3) := by decide +kernel
theorem dX11_unlit_34 : decode cX11_unlit 34 = .ok (.aload_n 0, 1) := by decide +kernel
theorem dX11_unlit_35 : decode cX11_unlit 35 = .ok (.iload 4, 2) := by decide +kernel
theorem dX11_unlit_37 : decode cX11_unlit 37 = .ok (.invokevirtual 36, 3) := by decide +kernel
theorem dX11_unlit_40 : decode cX11_unlit 40 = .ok (.ireturn, 1) := by decide +kernel
theorem dX11_unlit_41 : decode cX11_unlit 41 = .ok (.iload_n 1, 1) := by decide +kernel
theorem dX11_unlit_42 : decode cX11_unlit 42 = .ok (.iload_n 2, 1) := by decide +kernel
theorem dX11_unlit_43 : decode cX11_unlit 43 = .ok (.aload_n 0, 1) := by decide +kernel
theorem dX11_unlit_44 : decode cX11_unlit 44 = .ok (.getfield 30, 3) := by decide +kernel
theorem dX11_unlit_47 : decode cX11_unlit 47 = .ok (.invokevirtual 162, 3) := by decide +kernel
theorem dX11_unlit_50 : decode cX11_unlit 50 = .ok (.aload_n 0, 1) := by decide +kernel
theorem dX11_unlit_51 : decode cX11_unlit 51 = .ok (.getfield 30, 3) := by decide +kernel
theorem dX11_unlit_54 : decode cX11_unlit 54 = .ok (.iload_n 3, 1) := by decide +kernel
theorem dX11_unlit_55 : decode cX11_unlit 55 = .ok (.invokevirtual 170, 3) := by decide +kernel
theorem dX11_unlit_58 : decode cX11_unlit 58 = .ok (.ldc2_w 174, 3) := by decide +kernel
theorem dX11_unlit_61 : decode cX11_unlit 61 = .ok (.lxor, 1) := by decide +kernel
theorem dX11_unlit_62 : decode cX11_unlit 62 = .ok (.land, 1) := by decide +kernel
theorem dX11_unlit_63 : decode cX11_unlit 63 = .ok (.invokestatic 166, 3) := by decide +kernel
theorem dX11_unlit_66 : decode cX11_unlit 66 = .ok (.ireturn, 1) := by decide +kernel
set_option maxRecDepth 20000 in
theorem ggX11_by_X11_noPersonAt : GoodIn wsX11_by wsX11_noPersonAt := goodIn_r _ [7, 1, 8, 9, 10, 11, 12, 13, 14, 15, 6, 16, 74, 75, 76, 77, 78, 79, 80, 81, 82, 83, 84, 85, 86, 87] (by decide +kernel) (by decide +kernel)
set_option maxRecDepth 20000 in
theorem gX11_by_X11_noPersonAt : GoodIn wsX11_by (wsV RX11 176 RX11 yX11_noPersonAt wsX11_noPersonAt) := goodIn_app (goodIn_of _ (by decide +kernel)) ggX11_by_X11_noPersonAt
set_option maxRecDepth 20000 in
theorem ggX11_by_X11_refuse : GoodIn wsX11_by wsX11_refuse := goodIn_r _ [20, 21, 74, 75, 76, 77, 78, 79, 80, 81] (by decide +kernel) (by decide +kernel)
set_option maxRecDepth 20000 in
theorem gX11_by_X11_refuse : GoodIn wsX11_by (wsV RX11 36 RX11 yX11_refuse wsX11_refuse) := goodIn_app (goodIn_of _ (by decide +kernel)) ggX11_by_X11_refuse
set_option maxRecDepth 20000 in
theorem ggX11_by_X10_lampAt : GoodIn wsX11_by wsX10_lampAt := goodIn_r _ [25, 26, 27, 82, 83, 84, 85, 86, 87] (by decide +kernel) (by decide +kernel)
set_option maxRecDepth 20000 in
theorem gX11_by_X10_lampAt : GoodIn wsX11_by (wsV RX11 71 RX10 yX10_lampAt wsX10_lampAt) := goodIn_app (goodIn_of _ (by decide +kernel)) ggX11_by_X10_lampAt
set_option maxRecDepth 20000 in
theorem ggX11_by_X5_sawAt : GoodIn wsX11_by wsX5_sawAt := goodIn_r _ [33, 34, 35, 36, 37, 32, 38, 39, 40, 41, 42, 43, 44, 45, 46, 47, 48, 49, 50, 51, 52, 53, 54, 55, 56, 57, 58, 59, 60, 61, 62, 63, 64, 65, 66, 88, 89, 90, 91, 92, 93, 94, 95, 96, 97, 98, 99, 100, 101, 102, 103, 104, 105, 106, 107, 108, 109, 110, 111, 112, 113, 114, 115, 116, 117, 118, 119, 120, 121, 122] (by decide +kernel) (by decide +kernel)
set_option maxRecDepth 20000 in
theorem gX11_by_X5_sawAt_u182X0 : GoodIn wsX11_by (va_wsU RX11 182 RX0 "LampsThatRemember$Lamp" ⟨"LampsThatRemember$Lamp", "sawAt", "(II)Z"⟩ yX5_sawAt wsX5_sawAt) := goodIn_app (goodIn_of _ (by decide +kernel)) ggX11_by_X5_sawAt
set_option maxRecDepth 20000 in
theorem gX11_by_X5_sawAt_u182X1 : GoodIn wsX11_by (va_wsU RX11 182 RX1 "LampsThatRemember$Lamp" ⟨"LampsThatRemember$Lamp", "sawAt", "(II)Z"⟩ yX5_sawAt wsX5_sawAt) := goodIn_app (goodIn_of _ (by decide +kernel)) ggX11_by_X5_sawAt
set_option maxRecDepth 20000 in
theorem gX11_by_X5_sawAt_u182X3 : GoodIn wsX11_by (va_wsU RX11 182 RX3 "LampsThatRemember$Lamp" ⟨"LampsThatRemember$Lamp", "sawAt", "(II)Z"⟩ yX5_sawAt wsX5_sawAt) := goodIn_app (goodIn_of _ (by decide +kernel)) ggX11_by_X5_sawAt
set_option maxRecDepth 20000 in
theorem gX11_by_X5_sawAt_u182X4 : GoodIn wsX11_by (va_wsU RX11 182 RX4 "LampsThatRemember$Lamp" ⟨"LampsThatRemember$Lamp", "sawAt", "(II)Z"⟩ yX5_sawAt wsX5_sawAt) := goodIn_app (goodIn_of _ (by decide +kernel)) ggX11_by_X5_sawAt
set_option maxRecDepth 20000 in
theorem gX11_by_X5_sawAt : GoodIn wsX11_by (wsV RX11 182 RX5 yX5_sawAt wsX5_sawAt) := goodIn_app (goodIn_of _ (by decide +kernel)) ggX11_by_X5_sawAt
set_option maxRecDepth 20000 in
theorem gX11_by_X5_sawAt_u182X7 : GoodIn wsX11_by (va_wsU RX11 182 RX7 "LampsThatRemember$Lamp" ⟨"LampsThatRemember$Lamp", "sawAt", "(II)Z"⟩ yX5_sawAt wsX5_sawAt) := goodIn_app (goodIn_of _ (by decide +kernel)) ggX11_by_X5_sawAt
set_option maxRecDepth 20000 in
theorem gX11_by_X5_sawAt_u182X8 : GoodIn wsX11_by (va_wsU RX11 182 RX8 "LampsThatRemember$Lamp" ⟨"LampsThatRemember$Lamp", "sawAt", "(II)Z"⟩ yX5_sawAt wsX5_sawAt) := goodIn_app (goodIn_of _ (by decide +kernel)) ggX11_by_X5_sawAt
theorem dX11_by_0 : decode cX11_by 0 = .ok (.aload_n 0, 1) := by decide +kernel
theorem dX11_by_1 : decode cX11_by 1 = .ok (.iload_n 1, 1) := by decide +kernel
theorem dX11_by_2 : decode cX11_by 2 = .ok (.iload_n 2, 1) := by decide +kernel
theorem dX11_by_3 : decode cX11_by 3 = .ok (.invokevirtual 176, 3) := by decide +kernel
theorem dX11_by_6 : decode cX11_by 6 = .ok (.istore_n 3, 1) := by decide +kernel
theorem dX11_by_7 : decode cX11_by 7 = .ok (.iload_n 3, 1) := by decide +kernel
theorem dX11_by_8 : decode cX11_by 8 = .ok (.ifCond .ge 9, 3) := by decide +kernel
theorem dX11_by_11 : decode cX11_by 11 = .ok (.aload_n 0, 1) := by decide +kernel
theorem dX11_by_12 : decode cX11_by 12 = .ok (.iload_n 3, 1) := by decide +kernel
theorem dX11_by_13 : decode cX11_by 13 = .ok (.invokevirtual 36, 3) := by decide +kernel
theorem dX11_by_16 : decode cX11_by 16 = .ok (.ireturn, 1) := by decide +kernel
theorem dX11_by_17 : decode cX11_by 17 = .ok (.iconst 0, 1) := by decide +kernel
theorem dX11_by_18 : decode cX11_by 18 = .ok (.istore 4, 2) := by decide +kernel
theorem dX11_by_20 : decode cX11_by 20 = .ok (.iconst 0, 1) := by decide +kernel
theorem dX11_by_21 : decode cX11_by 21 = .ok (.istore 5, 2) := by decide +kernel
theorem dX11_by_23 : decode cX11_by 23 = .ok (.iload 5, 2) := by decide +kernel
theorem dX11_by_25 : decode cX11_by 25 = .ok (.aload_n 0, 1) := by decide +kernel
theorem dX11_by_26 : decode cX11_by 26 = .ok (.getfield 30, 3) := by decide +kernel
theorem dX11_by_29 : decode cX11_by 29 = .ok (.getfield 179, 3) := by decide +kernel
theorem dX11_by_32 : decode cX11_by 32 = .ok (.if_icmp .ge 44, 3) := by decide +kernel
theorem dX11_by_35 : decode cX11_by 35 = .ok (.aload_n 0, 1) := by decide +kernel
theorem dX11_by_36 : decode cX11_by 36 = .ok (.getfield 30, 3) := by decide +kernel
theorem dX11_by_39 : decode cX11_by 39 = .ok (.iload 5, 2) := by decide +kernel
theorem dX11_by_41 : decode cX11_by 41 = .ok (.invokevirtual 71, 3) := by decide +kernel
theorem dX11_by_44 : decode cX11_by 44 = .ok (.astore 6, 2) := by decide +kernel
theorem dX11_by_46 : decode cX11_by 46 = .ok (.aload 6, 2) := by decide +kernel
theorem dX11_by_48 : decode cX11_by 48 = .ok (.ifnull 22, 3) := by decide +kernel
theorem dX11_by_51 : decode cX11_by 51 = .ok (.aload 6, 2) := by decide +kernel
theorem dX11_by_53 : decode cX11_by 53 = .ok (.iload_n 1, 1) := by decide +kernel
theorem dX11_by_54 : decode cX11_by 54 = .ok (.iload_n 2, 1) := by decide +kernel
theorem dX11_by_55 : decode cX11_by 55 = .ok (.invokevirtual 182, 3) := by decide +kernel
theorem dX11_by_58 : decode cX11_by 58 = .ok (.ifCond .eq 12, 3) := by decide +kernel
theorem dX11_by_61 : decode cX11_by 61 = .ok (.iload 4, 2) := by decide +kernel
theorem dX11_by_63 : decode cX11_by 63 = .ok (.iconst 1, 1) := by decide +kernel
theorem dX11_by_64 : decode cX11_by 64 = .ok (.iload 5, 2) := by decide +kernel
theorem dX11_by_66 : decode cX11_by 66 = .ok (.ishl, 1) := by decide +kernel
theorem dX11_by_67 : decode cX11_by 67 = .ok (.ior, 1) := by decide +kernel
theorem dX11_by_68 : decode cX11_by 68 = .ok (.istore 4, 2) := by decide +kernel
theorem dX11_by_70 : decode cX11_by 70 = .ok (.iinc 5 1, 3) := by decide +kernel
theorem dX11_by_73 : decode cX11_by 73 = .ok (.goto (-50), 3) := by decide +kernel
theorem dX11_by_76 : decode cX11_by 76 = .ok (.iload 4, 2) := by decide +kernel
theorem dX11_by_78 : decode cX11_by 78 = .ok (.ireturn, 1) := by decide +kernel
set_option maxRecDepth 20000 in
theorem ggX11_knows_X10_isPerson : GoodIn wsX11_knows wsX10_isPerson := goodIn_r _ [7, 8, 145, 146, 147, 148, 149, 150] (by decide +kernel) (by decide +kernel)
set_option maxRecDepth 20000 in
theorem gX11_knows_X10_isPerson : GoodIn wsX11_knows (wsV RX11 156 RX10 yX10_isPerson wsX10_isPerson) := goodIn_app (goodIn_of _ (by decide +kernel)) ggX11_knows_X10_isPerson
set_option maxRecDepth 20000 in
theorem ggX11_knows_X2_isOne : GoodIn wsX11_knows wsX2_isOne := goodIn_r _ [12] (by decide +kernel) (by decide +kernel)
set_option maxRecDepth 20000 in
theorem gX11_knows_X2_isOne : GoodIn wsX11_knows (va_wsS RX11 118 yX2_isOne wsX2_isOne) := goodIn_app (goodIn_of _ (by decide +kernel)) ggX11_knows_X2_isOne
set_option maxRecDepth 20000 in
theorem ggX11_knows_X11_refuse : GoodIn wsX11_knows wsX11_refuse := goodIn_r _ [17, 18, 137, 138, 139, 140, 141, 142, 143, 144] (by decide +kernel) (by decide +kernel)
set_option maxRecDepth 20000 in
theorem gX11_knows_X11_refuse : GoodIn wsX11_knows (wsV RX11 36 RX11 yX11_refuse wsX11_refuse) := goodIn_app (goodIn_of _ (by decide +kernel)) ggX11_knows_X11_refuse
set_option maxRecDepth 20000 in
theorem ggX11_knows_X11_outside : GoodIn wsX11_knows wsX11_outside := goodIn_r _ [21] (by decide +kernel) (by decide +kernel)
set_option maxRecDepth 20000 in
theorem gX11_knows_X11_outside : GoodIn wsX11_knows (va_wsS RX11 143 yX11_outside wsX11_outside) := goodIn_app (goodIn_of _ (by decide +kernel)) ggX11_knows_X11_outside
set_option maxRecDepth 20000 in
theorem ggX11_knows_X9_of : GoodIn wsX11_knows wsX9_of := goodIn_r _ [25] (by decide +kernel) (by decide +kernel)
set_option maxRecDepth 20000 in
theorem gX11_knows_X9_of : GoodIn wsX11_knows (va_wsS RX11 186 yX9_of wsX9_of) := goodIn_app (goodIn_of _ (by decide +kernel)) ggX11_knows_X9_of
set_option maxRecDepth 20000 in
theorem ggX11_knows_X10_lampAt : GoodIn wsX11_knows wsX10_lampAt := goodIn_r _ [29, 30, 31, 145, 146, 147, 148, 149, 150] (by decide +kernel) (by decide +kernel)
set_option maxRecDepth 20000 in
theorem gX11_knows_X10_lampAt : GoodIn wsX11_knows (wsV RX11 71 RX10 yX10_lampAt wsX10_lampAt) := goodIn_app (goodIn_of _ (by decide +kernel)) ggX11_knows_X10_lampAt
set_option maxRecDepth 20000 in
theorem ggX11_knows_X5_hasScene : GoodIn wsX11_knows wsX5_hasScene := goodIn_r _ [37, 38, 39, 24, 40, 41, 42, 43, 44, 36, 45, 46, 47, 48, 49, 50, 51, 52, 53, 54, 55, 56, 57, 58, 59, 60, 61, 62, 63, 64, 65, 66, 151, 152, 153, 154, 155, 156, 157, 158, 159, 160, 161, 162, 163, 164, 165, 166, 167, 168, 169, 170, 171, 172, 173, 174, 175, 176, 177, 178, 179, 180, 181, 182, 183, 184, 185] (by decide +kernel) (by decide +kernel)
set_option maxRecDepth 20000 in
theorem gX11_knows_X5_hasScene_u189X0 : GoodIn wsX11_knows (va_wsU RX11 189 RX0 "LampsThatRemember$Lamp" ⟨"LampsThatRemember$Lamp", "hasScene", "(I)Z"⟩ yX5_hasScene wsX5_hasScene) := goodIn_app (goodIn_of _ (by decide +kernel)) ggX11_knows_X5_hasScene
set_option maxRecDepth 20000 in
theorem gX11_knows_X5_hasScene_u189X1 : GoodIn wsX11_knows (va_wsU RX11 189 RX1 "LampsThatRemember$Lamp" ⟨"LampsThatRemember$Lamp", "hasScene", "(I)Z"⟩ yX5_hasScene wsX5_hasScene) := goodIn_app (goodIn_of _ (by decide +kernel)) ggX11_knows_X5_hasScene
set_option maxRecDepth 20000 in
theorem gX11_knows_X5_hasScene_u189X3 : GoodIn wsX11_knows (va_wsU RX11 189 RX3 "LampsThatRemember$Lamp" ⟨"LampsThatRemember$Lamp", "hasScene", "(I)Z"⟩ yX5_hasScene wsX5_hasScene) := goodIn_app (goodIn_of _ (by decide +kernel)) ggX11_knows_X5_hasScene
set_option maxRecDepth 20000 in
theorem gX11_knows_X5_hasScene_u189X4 : GoodIn wsX11_knows (va_wsU RX11 189 RX4 "LampsThatRemember$Lamp" ⟨"LampsThatRemember$Lamp", "hasScene", "(I)Z"⟩ yX5_hasScene wsX5_hasScene) := goodIn_app (goodIn_of _ (by decide +kernel)) ggX11_knows_X5_hasScene
set_option maxRecDepth 20000 in
theorem gX11_knows_X5_hasScene : GoodIn wsX11_knows (wsV RX11 189 RX5 yX5_hasScene wsX5_hasScene) := goodIn_app (goodIn_of _ (by decide +kernel)) ggX11_knows_X5_hasScene
set_option maxRecDepth 20000 in
theorem gX11_knows_X5_hasScene_u189X7 : GoodIn wsX11_knows (va_wsU RX11 189 RX7 "LampsThatRemember$Lamp" ⟨"LampsThatRemember$Lamp", "hasScene", "(I)Z"⟩ yX5_hasScene wsX5_hasScene) := goodIn_app (goodIn_of _ (by decide +kernel)) ggX11_knows_X5_hasScene
set_option maxRecDepth 20000 in
theorem gX11_knows_X5_hasScene_u189X8 : GoodIn wsX11_knows (va_wsU RX11 189 RX8 "LampsThatRemember$Lamp" ⟨"LampsThatRemember$Lamp", "hasScene", "(I)Z"⟩ yX5_hasScene wsX5_hasScene) := goodIn_app (goodIn_of _ (by decide +kernel)) ggX11_knows_X5_hasScene
set_option maxRecDepth 20000 in
theorem ggX11_knows_X5_glow : GoodIn wsX11_knows wsX5_glow := goodIn_r _ [78, 79, 80, 81, 82, 83, 36, 84, 85, 86, 87, 88, 89, 90, 91, 92, 93, 94, 95, 6, 96, 8, 97, 98, 99, 100, 101, 102, 103, 104, 105, 106, 107, 108, 109, 110, 111, 112, 11, 113, 114, 115, 116, 117, 118, 119, 120, 121, 151, 152, 153, 154, 155, 156, 157, 158, 159, 160, 161, 162, 163, 164, 165, 166, 167, 168, 169, 170, 171, 172, 173, 174, 175, 176, 177, 178, 179, 180, 181, 182, 183, 184, 185, 145, 146, 147, 148, 149, 150] (by decide +kernel) (by decide +kernel)
set_option maxRecDepth 20000 in
theorem gX11_knows_X5_glow_u108X0 : GoodIn wsX11_knows (va_wsU RX11 108 RX0 "LampsThatRemember$Lamp" ⟨"LampsThatRemember$Lamp", "glow", "(LLampsThatRemember$Town;)J"⟩ yX5_glow wsX5_glow) := goodIn_app (goodIn_of _ (by decide +kernel)) ggX11_knows_X5_glow
set_option maxRecDepth 20000 in
theorem gX11_knows_X5_glow_u108X1 : GoodIn wsX11_knows (va_wsU RX11 108 RX1 "LampsThatRemember$Lamp" ⟨"LampsThatRemember$Lamp", "glow", "(LLampsThatRemember$Town;)J"⟩ yX5_glow wsX5_glow) := goodIn_app (goodIn_of _ (by decide +kernel)) ggX11_knows_X5_glow
set_option maxRecDepth 20000 in
theorem gX11_knows_X5_glow_u108X3 : GoodIn wsX11_knows (va_wsU RX11 108 RX3 "LampsThatRemember$Lamp" ⟨"LampsThatRemember$Lamp", "glow", "(LLampsThatRemember$Town;)J"⟩ yX5_glow wsX5_glow) := goodIn_app (goodIn_of _ (by decide +kernel)) ggX11_knows_X5_glow
set_option maxRecDepth 20000 in
theorem gX11_knows_X5_glow_u108X4 : GoodIn wsX11_knows (va_wsU RX11 108 RX4 "LampsThatRemember$Lamp" ⟨"LampsThatRemember$Lamp", "glow", "(LLampsThatRemember$Town;)J"⟩ yX5_glow wsX5_glow) := goodIn_app (goodIn_of _ (by decide +kernel)) ggX11_knows_X5_glow
set_option maxRecDepth 20000 in
theorem gX11_knows_X5_glow : GoodIn wsX11_knows (wsV RX11 108 RX5 yX5_glow wsX5_glow) := goodIn_app (goodIn_of _ (by decide +kernel)) ggX11_knows_X5_glow
set_option maxRecDepth 20000 in
theorem gX11_knows_X5_glow_u108X7 : GoodIn wsX11_knows (va_wsU RX11 108 RX7 "LampsThatRemember$Lamp" ⟨"LampsThatRemember$Lamp", "glow", "(LLampsThatRemember$Town;)J"⟩ yX5_glow wsX5_glow) := goodIn_app (goodIn_of _ (by decide +kernel)) ggX11_knows_X5_glow
set_option maxRecDepth 20000 in
theorem gX11_knows_X5_glow_u108X8 : GoodIn wsX11_knows (va_wsU RX11 108 RX8 "LampsThatRemember$Lamp" ⟨"LampsThatRemember$Lamp", "glow", "(LLampsThatRemember$Town;)J"⟩ yX5_glow wsX5_glow) := goodIn_app (goodIn_of _ (by decide +kernel)) ggX11_knows_X5_glow
set_option maxRecDepth 20000 in
theorem ggX11_knows_X10_peopleOn : GoodIn wsX11_knows wsX10_peopleOn := goodIn_r _ [132, 8, 133, 94, 95, 6, 96, 97, 134, 135, 11, 136, 114, 115, 116, 145, 146, 147, 148, 149, 150] (by decide +kernel) (by decide +kernel)
set_option maxRecDepth 20000 in
theorem gX11_knows_X10_peopleOn : GoodIn wsX11_knows (wsV RX11 192 RX10 yX10_peopleOn wsX10_peopleOn) := goodIn_app (goodIn_of _ (by decide +kernel)) ggX11_knows_X10_peopleOn
theorem dX11_knows_0 : decode cX11_knows 0 = .ok (.aload_n 0, 1) := by decide +kernel
theorem dX11_knows_1 : decode cX11_knows 1 = .ok (.getfield 30, 3) := by decide +kernel
theorem dX11_knows_4 : decode cX11_knows 4 = .ok (.iload_n 1, 1) := by decide +kernel
theorem dX11_knows_5 : decode cX11_knows 5 = .ok (.invokevirtual 156, 3) := by decide +kernel
theorem dX11_knows_8 : decode cX11_knows 8 = .ok (.ifCond .eq 10, 3) := by decide +kernel
theorem dX11_knows_11 : decode cX11_knows 11 = .ok (.iload_n 2, 1) := by decide +kernel
theorem dX11_knows_12 : decode cX11_knows 12 = .ok (.invokestatic 118, 3) := by decide +kernel
theorem dX11_knows_15 : decode cX11_knows 15 = .ok (.ifCond .ne 9, 3) := by decide +kernel
theorem dX11_knows_18 : decode cX11_knows 18 = .ok (.aload_n 0, 1) := by decide +kernel
theorem dX11_knows_19 : decode cX11_knows 19 = .ok (.iconst (-1), 1) := by decide +kernel
theorem dX11_knows_20 : decode cX11_knows 20 = .ok (.invokevirtual 36, 3) := by decide +kernel
theorem dX11_knows_23 : decode cX11_knows 23 = .ok (.ireturn, 1) := by decide +kernel
theorem dX11_knows_24 : decode cX11_knows 24 = .ok (.iload_n 3, 1) := by decide +kernel
theorem dX11_knows_25 : decode cX11_knows 25 = .ok (.iconst 0, 1) := by decide +kernel
theorem dX11_knows_26 : decode cX11_knows 26 = .ok (.sipush 9999, 3) := by decide +kernel
theorem dX11_knows_29 : decode cX11_knows 29 = .ok (.invokestatic 143, 3) := by decide +kernel
theorem dX11_knows_32 : decode cX11_knows 32 = .ok (.istore 4, 2) := by decide +kernel
theorem dX11_knows_34 : decode cX11_knows 34 = .ok (.iload 4, 2) := by decide +kernel
theorem dX11_knows_36 : decode cX11_knows 36 = .ok (.ifCond .ge 10, 3) := by decide +kernel
theorem dX11_knows_39 : decode cX11_knows 39 = .ok (.aload_n 0, 1) := by decide +kernel
theorem dX11_knows_40 : decode cX11_knows 40 = .ok (.iload 4, 2) := by decide +kernel
theorem dX11_knows_42 : decode cX11_knows 42 = .ok (.invokevirtual 36, 3) := by decide +kernel
theorem dX11_knows_45 : decode cX11_knows 45 = .ok (.ireturn, 1) := by decide +kernel
theorem dX11_knows_46 : decode cX11_knows 46 = .ok (.iload_n 1, 1) := by decide +kernel
theorem dX11_knows_47 : decode cX11_knows 47 = .ok (.iload_n 2, 1) := by decide +kernel
theorem dX11_knows_48 : decode cX11_knows 48 = .ok (.iload_n 3, 1) := by decide +kernel
theorem dX11_knows_49 : decode cX11_knows 49 = .ok (.invokestatic 186, 3) := by decide +kernel
theorem dX11_knows_52 : decode cX11_knows 52 = .ok (.istore 5, 2) := by decide +kernel
theorem dX11_knows_54 : decode cX11_knows 54 = .ok (.iconst 0, 1) := by decide +kernel
theorem dX11_knows_55 : decode cX11_knows 55 = .ok (.istore 6, 2) := by decide +kernel
theorem dX11_knows_57 : decode cX11_knows 57 = .ok (.iconst 0, 1) := by decide +kernel
theorem dX11_knows_58 : decode cX11_knows 58 = .ok (.istore 7, 2) := by decide +kernel
theorem dX11_knows_60 : decode cX11_knows 60 = .ok (.iload 7, 2) := by decide +kernel
theorem dX11_knows_62 : decode cX11_knows 62 = .ok (.aload_n 0, 1) := by decide +kernel
theorem dX11_knows_63 : decode cX11_knows 63 = .ok (.getfield 30, 3) := by decide +kernel
theorem dX11_knows_66 : decode cX11_knows 66 = .ok (.getfield 179, 3) := by decide +kernel
theorem dX11_knows_69 : decode cX11_knows 69 = .ok (.if_icmp .ge 56, 3) := by decide +kernel
theorem dX11_knows_72 : decode cX11_knows 72 = .ok (.aload_n 0, 1) := by decide +kernel
theorem dX11_knows_73 : decode cX11_knows 73 = .ok (.getfield 30, 3) := by decide +kernel
theorem dX11_knows_76 : decode cX11_knows 76 = .ok (.iload 7, 2) := by decide +kernel
theorem dX11_knows_78 : decode cX11_knows 78 = .ok (.invokevirtual 71, 3) := by decide +kernel
theorem dX11_knows_81 : decode cX11_knows 81 = .ok (.astore 8, 2) := by decide +kernel
theorem dX11_knows_83 : decode cX11_knows 83 = .ok (.aload 8, 2) := by decide +kernel
theorem dX11_knows_85 : decode cX11_knows 85 = .ok (.ifnull 34, 3) := by decide +kernel
theorem dX11_knows_88 : decode cX11_knows 88 = .ok (.aload 8, 2) := by decide +kernel
theorem dX11_knows_90 : decode cX11_knows 90 = .ok (.iload 5, 2) := by decide +kernel
theorem dX11_knows_92 : decode cX11_knows 92 = .ok (.invokevirtual 189, 3) := by decide +kernel
theorem dX11_knows_95 : decode cX11_knows 95 = .ok (.ifCond .eq 24, 3) := by decide +kernel
theorem dX11_knows_98 : decode cX11_knows 98 = .ok (.iload 6, 2) := by decide +kernel
theorem dX11_knows_100 : decode cX11_knows 100 = .ok (.aload_n 0, 1) := by decide +kernel
theorem dX11_knows_101 : decode cX11_knows 101 = .ok (.getfield 30, 3) := by decide +kernel
theorem dX11_knows_104 : decode cX11_knows 104 = .ok (.aload 8, 2) := by decide +kernel
theorem dX11_knows_106 : decode cX11_knows 106 = .ok (.aload_n 0, 1) := by decide +kernel
theorem dX11_knows_107 : decode cX11_knows 107 = .ok (.getfield 30, 3) := by decide +kernel
theorem dX11_knows_110 : decode cX11_knows 110 = .ok (.invokevirtual 108, 3) := by decide +kernel
theorem dX11_knows_113 : decode cX11_knows 113 = .ok (.invokevirtual 192, 3) := by decide +kernel
theorem dX11_knows_116 : decode cX11_knows 116 = .ok (.ior, 1) := by decide +kernel
theorem dX11_knows_117 : decode cX11_knows 117 = .ok (.istore 6, 2) := by decide +kernel
theorem dX11_knows_119 : decode cX11_knows 119 = .ok (.iinc 7 1, 3) := by decide +kernel
theorem dX11_knows_122 : decode cX11_knows 122 = .ok (.goto (-62), 3) := by decide +kernel
theorem dX11_knows_125 : decode cX11_knows 125 = .ok (.iload 6, 2) := by decide +kernel
theorem dX11_knows_127 : decode cX11_knows 127 = .ok (.ireturn, 1) := by decide +kernel
set_option maxRecDepth 20000 in
theorem ggX11_known_X10_isPerson : GoodIn wsX11_known wsX10_isPerson := goodIn_r _ [6, 7, 146, 147, 148, 149, 150, 151] (by decide +kernel) (by decide +kernel)
set_option maxRecDepth 20000 in
theorem gX11_known_X10_isPerson : GoodIn wsX11_known (wsV RX11 156 RX10 yX10_isPerson wsX10_isPerson) := goodIn_app (goodIn_of _ (by decide +kernel)) ggX11_known_X10_isPerson
set_option maxRecDepth 20000 in
theorem ggX11_known_X11_refuse : GoodIn wsX11_known wsX11_refuse := goodIn_r _ [12, 13, 138, 139, 140, 141, 142, 143, 144, 145] (by decide +kernel) (by decide +kernel)
set_option maxRecDepth 20000 in
theorem gX11_known_X11_refuse : GoodIn wsX11_known (wsV RX11 36 RX11 yX11_refuse wsX11_refuse) := goodIn_app (goodIn_of _ (by decide +kernel)) ggX11_known_X11_refuse
set_option maxRecDepth 20000 in
theorem ggX11_known_X10_cellOf : GoodIn wsX11_known wsX10_cellOf := goodIn_r _ [17, 7, 18, 146, 147, 148, 149, 150, 151] (by decide +kernel) (by decide +kernel)
set_option maxRecDepth 20000 in
theorem gX11_known_X10_cellOf : GoodIn wsX11_known (wsV RX11 159 RX10 yX10_cellOf wsX10_cellOf) := goodIn_app (goodIn_of _ (by decide +kernel)) ggX11_known_X10_cellOf
set_option maxRecDepth 20000 in
theorem ggX11_known_X2_only : GoodIn wsX11_known wsX2_only := goodIn_r _ [22] (by decide +kernel) (by decide +kernel)
set_option maxRecDepth 20000 in
theorem gX11_known_X2_only : GoodIn wsX11_known (va_wsS RX11 195 yX2_only wsX2_only) := goodIn_app (goodIn_of _ (by decide +kernel)) ggX11_known_X2_only
set_option maxRecDepth 20000 in
theorem ggX11_known_X10_unlikeScenesShownTo : GoodIn wsX11_known wsX10_unlikeScenesShownTo := goodIn_r _ [26, 27, 28, 29, 30, 5, 31, 32, 33, 34, 35, 36, 37, 38, 39, 40, 41, 42, 43, 44, 45, 46, 47, 48, 49, 50, 51, 52, 53, 15, 16, 17, 7, 18, 54, 55, 56, 57, 58, 59, 60, 61, 62, 63, 64, 65, 66, 67, 68, 21, 69, 70, 20, 22, 71, 72, 73, 74, 75, 76, 77, 78, 79, 80, 81, 82, 83, 84, 85, 86, 87, 88, 89, 90, 91, 92, 93, 94, 95, 96, 97, 98, 99, 100, 101, 102, 103, 104, 105, 106, 107, 108, 109, 110, 111, 112, 113, 114, 115, 116, 117, 118, 119, 120, 121, 122, 123, 124, 125, 126, 127, 128, 129, 130, 131, 132, 133, 134, 135, 136, 11, 137, 146, 147, 148, 149, 150, 151, 152, 153, 154, 155, 156, 157, 158, 159, 160, 161, 162, 163, 164, 165, 166, 167, 168, 169, 170, 171, 172, 173, 174, 175, 176, 177, 178, 179, 180, 181, 182, 183, 184, 185, 186] (by decide +kernel) (by decide +kernel)
set_option maxRecDepth 20000 in
theorem gX11_known_X10_unlikeScenesShownTo : GoodIn wsX11_known (wsV RX11 198 RX10 yX10_unlikeScenesShownTo wsX10_unlikeScenesShownTo) := goodIn_app (goodIn_of _ (by decide +kernel)) ggX11_known_X10_unlikeScenesShownTo
theorem dX11_known_0 : decode cX11_known 0 = .ok (.aload_n 0, 1) := by decide +kernel
theorem dX11_known_1 : decode cX11_known 1 = .ok (.getfield 30, 3) := by decide +kernel
theorem dX11_known_4 : decode cX11_known 4 = .ok (.iload_n 1, 1) := by decide +kernel
theorem dX11_known_5 : decode cX11_known 5 = .ok (.invokevirtual 156, 3) := by decide +kernel
theorem dX11_known_8 : decode cX11_known 8 = .ok (.ifCond .ne 9, 3) := by decide +kernel
theorem dX11_known_11 : decode cX11_known 11 = .ok (.aload_n 0, 1) := by decide +kernel
theorem dX11_known_12 : decode cX11_known 12 = .ok (.iconst (-1), 1) := by decide +kernel
theorem dX11_known_13 : decode cX11_known 13 = .ok (.invokevirtual 36, 3) := by decide +kernel
theorem dX11_known_16 : decode cX11_known 16 = .ok (.ireturn, 1) := by decide +kernel
theorem dX11_known_17 : decode cX11_known 17 = .ok (.aload_n 0, 1) := by decide +kernel
theorem dX11_known_18 : decode cX11_known 18 = .ok (.getfield 30, 3) := by decide +kernel
theorem dX11_known_21 : decode cX11_known 21 = .ok (.aload_n 0, 1) := by decide +kernel
theorem dX11_known_22 : decode cX11_known 22 = .ok (.getfield 30, 3) := by decide +kernel
theorem dX11_known_25 : decode cX11_known 25 = .ok (.iload_n 1, 1) := by decide +kernel
theorem dX11_known_26 : decode cX11_known 26 = .ok (.invokevirtual 159, 3) := by decide +kernel
theorem dX11_known_29 : decode cX11_known 29 = .ok (.invokestatic 195, 3) := by decide +kernel
theorem dX11_known_32 : decode cX11_known 32 = .ok (.invokevirtual 198, 3) := by decide +kernel
theorem dX11_known_35 : decode cX11_known 35 = .ok (.ireturn, 1) := by decide +kernel
set_option maxRecDepth 20000 in
theorem ggX11_allKnow_X10_peopled : GoodIn wsX11_allKnow wsX10_peopled := goodIn_r _ [6, 7, 8, 9, 10, 5, 11, 12, 13, 14, 15, 16, 141, 142, 143, 144, 145, 146] (by decide +kernel) (by decide +kernel)
set_option maxRecDepth 20000 in
theorem gX11_allKnow_X10_peopled : GoodIn wsX11_allKnow (wsV RX11 201 RX10 yX10_peopled wsX10_peopled) := goodIn_app (goodIn_of _ (by decide +kernel)) ggX11_allKnow_X10_peopled
set_option maxRecDepth 20000 in
theorem ggX11_allKnow_X10_unlikeScenesShownTo : GoodIn wsX11_allKnow wsX10_unlikeScenesShownTo := goodIn_r _ [20, 21, 22, 23, 24, 5, 25, 26, 27, 28, 29, 30, 31, 32, 33, 34, 35, 36, 37, 38, 39, 40, 41, 42, 43, 44, 45, 46, 47, 9, 10, 11, 7, 12, 48, 49, 50, 51, 52, 53, 54, 55, 56, 57, 58, 59, 60, 61, 62, 15, 63, 64, 14, 16, 65, 66, 67, 68, 69, 70, 71, 72, 73, 74, 75, 76, 77, 78, 79, 80, 81, 82, 83, 84, 85, 86, 87, 88, 89, 90, 91, 92, 93, 94, 95, 96, 97, 98, 99, 100, 101, 102, 103, 104, 105, 106, 107, 108, 109, 110, 111, 112, 113, 114, 115, 116, 117, 118, 119, 120, 121, 122, 123, 124, 125, 126, 127, 128, 129, 130, 131, 132, 141, 142, 143, 144, 145, 146, 147, 148, 149, 150, 151, 152, 153, 154, 155, 156, 157, 158, 159, 160, 161, 162, 163, 164, 165, 166, 167, 168, 169, 170, 171, 172, 173, 174, 175, 176, 177, 178, 179, 180, 181] (by decide +kernel) (by decide +kernel)
set_option maxRecDepth 20000 in
theorem gX11_allKnow_X10_unlikeScenesShownTo : GoodIn wsX11_allKnow (wsV RX11 198 RX10 yX10_unlikeScenesShownTo wsX10_unlikeScenesShownTo) := goodIn_app (goodIn_of _ (by decide +kernel)) ggX11_allKnow_X10_unlikeScenesShownTo
theorem dX11_allKnow_0 : decode cX11_allKnow 0 = .ok (.aload_n 0, 1) := by decide +kernel
theorem dX11_allKnow_1 : decode cX11_allKnow 1 = .ok (.getfield 30, 3) := by decide +kernel
theorem dX11_allKnow_4 : decode cX11_allKnow 4 = .ok (.aload_n 0, 1) := by decide +kernel
theorem dX11_allKnow_5 : decode cX11_allKnow 5 = .ok (.getfield 30, 3) := by decide +kernel
theorem dX11_allKnow_8 : decode cX11_allKnow 8 = .ok (.invokevirtual 201, 3) := by decide +kernel
theorem dX11_allKnow_11 : decode cX11_allKnow 11 = .ok (.invokevirtual 198, 3) := by decide +kernel
theorem dX11_allKnow_14 : decode cX11_allKnow 14 = .ok (.ireturn, 1) := by decide +kernel
set_option maxRecDepth 20000 in
theorem ggX11_whereAt_X10_isPerson : GoodIn wsX11_whereAt wsX10_isPerson := goodIn_r _ [6, 7, 214, 215, 216, 217, 218, 219] (by decide +kernel) (by decide +kernel)
set_option maxRecDepth 20000 in
theorem gX11_whereAt_X10_isPerson : GoodIn wsX11_whereAt (wsV RX11 156 RX10 yX10_isPerson wsX10_isPerson) := goodIn_app (goodIn_of _ (by decide +kernel)) ggX11_whereAt_X10_isPerson
set_option maxRecDepth 20000 in
theorem ggX11_whereAt_X11_refuse : GoodIn wsX11_whereAt wsX11_refuse := goodIn_r _ [12, 13, 206, 207, 208, 209, 210, 211, 212, 213] (by decide +kernel) (by decide +kernel)
set_option maxRecDepth 20000 in
theorem gX11_whereAt_X11_refuse : GoodIn wsX11_whereAt (wsV RX11 36 RX11 yX11_refuse wsX11_refuse) := goodIn_app (goodIn_of _ (by decide +kernel)) ggX11_whereAt_X11_refuse
set_option maxRecDepth 20000 in
theorem ggX11_whereAt_X10_whereabouts : GoodIn wsX11_whereAt wsX10_whereabouts := goodIn_r _ [17, 18, 19, 20, 21, 22, 23, 5, 24, 25, 26, 27, 28, 29, 30, 31, 32, 33, 34, 35, 36, 37, 38, 39, 40, 41, 42, 43, 44, 45, 46, 47, 48, 49, 50, 51, 52, 53, 54, 55, 56, 57, 58, 59, 60, 61, 62, 63, 64, 65, 66, 67, 68, 69, 70, 71, 72, 73, 74, 75, 76, 77, 78, 79, 80, 81, 82, 83, 84, 85, 86, 87, 88, 89, 90, 91, 92, 93, 94, 95, 96, 97, 98, 99, 100, 101, 102, 103, 104, 105, 106, 107, 108, 109, 110, 111, 112, 113, 114, 115, 116, 117, 118, 119, 120, 121, 122, 123, 124, 125, 126, 127, 128, 129, 130, 131, 132, 133, 134, 135, 136, 137, 138, 139, 140, 141, 142, 143, 144, 145, 146, 147, 148, 149, 150, 151, 152, 153, 154, 155, 156, 157, 158, 159, 160, 161, 162, 163, 164, 165, 166, 167, 168, 169, 170, 171, 172, 173, 7, 174, 175, 176, 177, 178, 179, 180, 181, 182, 183, 184, 185, 186, 187, 188, 214, 215, 216, 217, 218, 219, 220, 221, 222, 223, 224, 225, 226, 227, 228, 229, 230, 231, 232, 233, 234, 235, 236, 237, 238, 239, 240, 241, 242, 243, 244, 245, 246, 247, 248, 249, 250, 251, 252, 253, 254] (by decide +kernel) (by decide +kernel)
set_option maxRecDepth 20000 in
theorem gX11_whereAt_X10_whereabouts : GoodIn wsX11_whereAt (wsV RX11 204 RX10 yX10_whereabouts wsX10_whereabouts) := goodIn_app (goodIn_of _ (by decide +kernel)) ggX11_whereAt_X10_whereabouts
set_option maxRecDepth 20000 in
theorem ggX11_whereAt_X2_howMany : GoodIn wsX11_whereAt wsX2_howMany := goodIn_r _ [191, 192, 193, 194, 195, 196, 197, 198, 199] (by decide +kernel) (by decide +kernel)
set_option maxRecDepth 20000 in
theorem gX11_whereAt_X2_howMany : GoodIn wsX11_whereAt (va_wsS RX11 112 yX2_howMany wsX2_howMany) := goodIn_app (goodIn_of _ (by decide +kernel)) ggX11_whereAt_X2_howMany
set_option maxRecDepth 20000 in
theorem ggX11_whereAt_X2_byNumber : GoodIn wsX11_whereAt wsX2_byNumber := goodIn_r _ [202, 203, 204, 67, 205, 69, 70, 71] (by decide +kernel) (by decide +kernel)
set_option maxRecDepth 20000 in
theorem gX11_whereAt_X2_byNumber : GoodIn wsX11_whereAt (va_wsS RX11 208 yX2_byNumber wsX2_byNumber) := goodIn_app (goodIn_of _ (by decide +kernel)) ggX11_whereAt_X2_byNumber
theorem dX11_whereAt_0 : decode cX11_whereAt 0 = .ok (.aload_n 0, 1) := by decide +kernel
theorem dX11_whereAt_1 : decode cX11_whereAt 1 = .ok (.getfield 30, 3) := by decide +kernel
theorem dX11_whereAt_4 : decode cX11_whereAt 4 = .ok (.iload_n 1, 1) := by decide +kernel
theorem dX11_whereAt_5 : decode cX11_whereAt 5 = .ok (.invokevirtual 156, 3) := by decide +kernel
theorem dX11_whereAt_8 : decode cX11_whereAt 8 = .ok (.ifCond .ne 9, 3) := by decide +kernel
theorem dX11_whereAt_11 : decode cX11_whereAt 11 = .ok (.aload_n 0, 1) := by decide +kernel
theorem dX11_whereAt_12 : decode cX11_whereAt 12 = .ok (.iconst (-1), 1) := by decide +kernel
theorem dX11_whereAt_13 : decode cX11_whereAt 13 = .ok (.invokevirtual 36, 3) := by decide +kernel
theorem dX11_whereAt_16 : decode cX11_whereAt 16 = .ok (.ireturn, 1) := by decide +kernel
theorem dX11_whereAt_17 : decode cX11_whereAt 17 = .ok (.iload_n 2, 1) := by decide +kernel
theorem dX11_whereAt_18 : decode cX11_whereAt 18 = .ok (.ifCond .lt 8, 3) := by decide +kernel
theorem dX11_whereAt_21 : decode cX11_whereAt 21 = .ok (.iload_n 3, 1) := by decide +kernel
theorem dX11_whereAt_22 : decode cX11_whereAt 22 = .ok (.iconst (-1), 1) := by decide +kernel
theorem dX11_whereAt_23 : decode cX11_whereAt 23 = .ok (.if_icmp .ge 10, 3) := by decide +kernel
theorem dX11_whereAt_26 : decode cX11_whereAt 26 = .ok (.aload_n 0, 1) := by decide +kernel
theorem dX11_whereAt_27 : decode cX11_whereAt 27 = .ok (.bipush (-4), 2) := by decide +kernel
theorem dX11_whereAt_29 : decode cX11_whereAt 29 = .ok (.invokevirtual 36, 3) := by decide +kernel
theorem dX11_whereAt_32 : decode cX11_whereAt 32 = .ok (.ireturn, 1) := by decide +kernel
theorem dX11_whereAt_33 : decode cX11_whereAt 33 = .ok (.iload_n 2, 1) := by decide +kernel
theorem dX11_whereAt_34 : decode cX11_whereAt 34 = .ok (.sipush 9999, 3) := by decide +kernel
theorem dX11_whereAt_37 : decode cX11_whereAt 37 = .ok (.if_icmp .le 10, 3) := by decide +kernel
theorem dX11_whereAt_40 : decode cX11_whereAt 40 = .ok (.aload_n 0, 1) := by decide +kernel
theorem dX11_whereAt_41 : decode cX11_whereAt 41 = .ok (.bipush (-6), 2) := by decide +kernel
theorem dX11_whereAt_43 : decode cX11_whereAt 43 = .ok (.invokevirtual 36, 3) := by decide +kernel
theorem dX11_whereAt_46 : decode cX11_whereAt 46 = .ok (.ireturn, 1) := by decide +kernel
theorem dX11_whereAt_47 : decode cX11_whereAt 47 = .ok (.aload_n 0, 1) := by decide +kernel
theorem dX11_whereAt_48 : decode cX11_whereAt 48 = .ok (.getfield 30, 3) := by decide +kernel
theorem dX11_whereAt_51 : decode cX11_whereAt 51 = .ok (.iload_n 1, 1) := by decide +kernel
theorem dX11_whereAt_52 : decode cX11_whereAt 52 = .ok (.iload_n 2, 1) := by decide +kernel
theorem dX11_whereAt_53 : decode cX11_whereAt 53 = .ok (.invokevirtual 204, 3) := by decide +kernel
theorem dX11_whereAt_56 : decode cX11_whereAt 56 = .ok (.lstore 4, 2) := by decide +kernel
theorem dX11_whereAt_58 : decode cX11_whereAt 58 = .ok (.iload_n 3, 1) := by decide +kernel
theorem dX11_whereAt_59 : decode cX11_whereAt 59 = .ok (.ifCond .ge 11, 3) := by decide +kernel
theorem dX11_whereAt_62 : decode cX11_whereAt 62 = .ok (.lload 4, 2) := by decide +kernel
theorem dX11_whereAt_64 : decode cX11_whereAt 64 = .ok (.invokestatic 112, 3) := by decide +kernel
theorem dX11_whereAt_67 : decode cX11_whereAt 67 = .ok (.goto 9, 3) := by decide +kernel
theorem dX11_whereAt_70 : decode cX11_whereAt 70 = .ok (.lload 4, 2) := by decide +kernel
theorem dX11_whereAt_72 : decode cX11_whereAt 72 = .ok (.iload_n 3, 1) := by decide +kernel
theorem dX11_whereAt_73 : decode cX11_whereAt 73 = .ok (.invokestatic 208, 3) := by decide +kernel
theorem dX11_whereAt_76 : decode cX11_whereAt 76 = .ok (.ireturn, 1) := by decide +kernel
set_option maxRecDepth 20000 in
theorem ggX11_next_X11_noPersonAt : GoodIn wsX11_next wsX11_noPersonAt := goodIn_r _ [6, 1, 7, 8, 9, 10, 11, 12, 13, 14, 5, 15, 219, 220, 221, 222, 223, 224, 225, 226, 227, 228, 229, 230, 231, 232] (by decide +kernel) (by decide +kernel)
set_option maxRecDepth 20000 in
theorem gX11_next_X11_noPersonAt : GoodIn wsX11_next (wsV RX11 176 RX11 yX11_noPersonAt wsX11_noPersonAt) := goodIn_app (goodIn_of _ (by decide +kernel)) ggX11_next_X11_noPersonAt
set_option maxRecDepth 20000 in
theorem ggX11_next_X11_refuse : GoodIn wsX11_next wsX11_refuse := goodIn_r _ [19, 20, 219, 220, 221, 222, 223, 224, 225, 226] (by decide +kernel) (by decide +kernel)
set_option maxRecDepth 20000 in
theorem gX11_next_X11_refuse : GoodIn wsX11_next (wsV RX11 36 RX11 yX11_refuse wsX11_refuse) := goodIn_app (goodIn_of _ (by decide +kernel)) ggX11_next_X11_refuse
set_option maxRecDepth 20000 in
theorem ggX11_next_X10_whereabouts : GoodIn wsX11_next wsX10_whereabouts := goodIn_r _ [24, 25, 26, 27, 28, 29, 30, 10, 31, 32, 33, 34, 35, 36, 37, 38, 39, 40, 41, 42, 43, 44, 45, 46, 47, 48, 49, 50, 51, 52, 53, 54, 55, 56, 57, 58, 59, 60, 61, 62, 63, 64, 65, 66, 67, 68, 69, 70, 71, 72, 73, 74, 75, 76, 77, 78, 79, 80, 81, 82, 83, 84, 85, 86, 87, 88, 89, 90, 91, 92, 93, 94, 95, 96, 97, 98, 99, 100, 101, 102, 103, 104, 105, 106, 107, 108, 109, 110, 111, 112, 113, 114, 115, 116, 117, 118, 119, 120, 121, 122, 123, 124, 125, 126, 127, 128, 129, 130, 131, 132, 133, 134, 135, 136, 137, 138, 139, 140, 141, 142, 143, 144, 145, 146, 147, 148, 149, 150, 151, 152, 153, 154, 155, 156, 157, 158, 159, 160, 161, 162, 163, 164, 165, 166, 167, 168, 169, 170, 171, 172, 173, 174, 175, 176, 177, 178, 179, 180, 12, 181, 182, 183, 184, 185, 186, 187, 188, 189, 190, 191, 192, 193, 194, 195, 227, 228, 229, 230, 231, 232, 233, 234, 235, 236, 237, 238, 239, 240, 241, 242, 243, 244, 245, 246, 247, 248, 249, 250, 251, 252, 253, 254, 255, 256, 257, 258, 259, 260, 261, 262, 263, 264, 265, 266, 267] (by decide +kernel) (by decide +kernel)
set_option maxRecDepth 20000 in
theorem gX11_next_X10_whereabouts : GoodIn wsX11_next (wsV RX11 204 RX10 yX10_whereabouts wsX10_whereabouts) := goodIn_app (goodIn_of _ (by decide +kernel)) ggX11_next_X10_whereabouts
set_option maxRecDepth 20000 in
theorem ggX11_next_X11_evenestLamp : GoodIn wsX11_next wsX11_evenestLamp := goodIn_r _ [199, 1, 200, 201, 202, 203, 47, 204, 205, 34, 35, 10, 36, 25, 37, 206, 160, 161, 162, 42, 163, 164, 165, 166, 167, 168, 169, 170, 171, 172, 173, 107, 174, 175, 176, 177, 178, 179, 180, 12, 181, 182, 183, 184, 185, 186, 187, 188, 29, 30, 31, 27, 32, 26, 72, 73, 74, 75, 76, 77, 78, 79, 80, 81, 82, 83, 189, 190, 191, 207, 193, 194, 195, 208, 209, 210, 211, 212, 213, 214, 215, 216, 217, 218, 219, 220, 221, 222, 223, 224, 225, 226, 227, 228, 229, 230, 231, 232, 233, 234, 235, 236, 237, 238, 239, 240, 241, 242, 243, 244, 245, 246, 247, 248, 249, 250, 251, 252, 253, 254, 255, 256, 257, 258, 259, 260, 261, 262, 263, 264, 265, 266, 267] (by decide +kernel) (by decide +kernel)
set_option maxRecDepth 20000 in
theorem gX11_next_X11_evenestLamp : GoodIn wsX11_next (wsV RX11 212 RX11 yX11_evenestLamp wsX11_evenestLamp) := goodIn_app (goodIn_of _ (by decide +kernel)) ggX11_next_X11_evenestLamp
theorem dX11_next_0 : decode cX11_next 0 = .ok (.aload_n 0, 1) := by decide +kernel
theorem dX11_next_1 : decode cX11_next 1 = .ok (.iload_n 1, 1) := by decide +kernel
theorem dX11_next_2 : decode cX11_next 2 = .ok (.iload_n 2, 1) := by decide +kernel
theorem dX11_next_3 : decode cX11_next 3 = .ok (.invokevirtual 176, 3) := by decide +kernel
theorem dX11_next_6 : decode cX11_next 6 = .ok (.istore_n 3, 1) := by decide +kernel
theorem dX11_next_7 : decode cX11_next 7 = .ok (.iload_n 3, 1) := by decide +kernel
theorem dX11_next_8 : decode cX11_next 8 = .ok (.ifCond .ge 9, 3) := by decide +kernel
theorem dX11_next_11 : decode cX11_next 11 = .ok (.aload_n 0, 1) := by decide +kernel
theorem dX11_next_12 : decode cX11_next 12 = .ok (.iload_n 3, 1) := by decide +kernel
theorem dX11_next_13 : decode cX11_next 13 = .ok (.invokevirtual 36, 3) := by decide +kernel
theorem dX11_next_16 : decode cX11_next 16 = .ok (.ireturn, 1) := by decide +kernel
theorem dX11_next_17 : decode cX11_next 17 = .ok (.aload_n 0, 1) := by decide +kernel
theorem dX11_next_18 : decode cX11_next 18 = .ok (.aload_n 0, 1) := by decide +kernel
theorem dX11_next_19 : decode cX11_next 19 = .ok (.getfield 30, 3) := by decide +kernel
theorem dX11_next_22 : decode cX11_next 22 = .ok (.iload_n 1, 1) := by decide +kernel
theorem dX11_next_23 : decode cX11_next 23 = .ok (.iload_n 2, 1) := by decide +kernel
theorem dX11_next_24 : decode cX11_next 24 = .ok (.invokevirtual 204, 3) := by decide +kernel
theorem dX11_next_27 : decode cX11_next 27 = .ok (.invokevirtual 212, 3) := by decide +kernel
theorem dX11_next_30 : decode cX11_next 30 = .ok (.ireturn, 1) := by decide +kernel
set_option maxRecDepth 20000 in
theorem ggX11_evenestLamp_X10_lampAt : GoodIn wsX11_evenestLamp wsX10_lampAt := goodIn_r _ [12, 13, 14, 92, 93, 94, 95, 96, 97] (by decide +kernel) (by decide +kernel)
set_option maxRecDepth 20000 in
theorem gX11_evenestLamp_X10_lampAt : GoodIn wsX11_evenestLamp (wsV RX11 71 RX10 yX10_lampAt wsX10_lampAt) := goodIn_app (goodIn_of _ (by decide +kernel)) ggX11_evenestLamp_X10_lampAt
set_option maxRecDepth 20000 in
theorem ggX11_evenestLamp_X5_glow : GoodIn wsX11_evenestLamp wsX5_glow := goodIn_r _ [20, 21, 22, 23, 24, 25, 19, 26, 27, 28, 29, 30, 31, 32, 33, 34, 35, 36, 37, 11, 38, 39, 40, 41, 42, 43, 44, 45, 46, 47, 48, 49, 50, 51, 52, 53, 54, 55, 56, 57, 58, 59, 60, 61, 62, 63, 64, 65, 98, 99, 100, 101, 102, 103, 104, 105, 106, 107, 108, 109, 110, 111, 112, 113, 114, 115, 116, 117, 118, 119, 120, 121, 122, 123, 124, 125, 126, 127, 128, 129, 130, 131, 132, 92, 93, 94, 95, 96, 97] (by decide +kernel) (by decide +kernel)
set_option maxRecDepth 20000 in
theorem gX11_evenestLamp_X5_glow_u108X0 : GoodIn wsX11_evenestLamp (va_wsU RX11 108 RX0 "LampsThatRemember$Lamp" ⟨"LampsThatRemember$Lamp", "glow", "(LLampsThatRemember$Town;)J"⟩ yX5_glow wsX5_glow) := goodIn_app (goodIn_of _ (by decide +kernel)) ggX11_evenestLamp_X5_glow
set_option maxRecDepth 20000 in
theorem gX11_evenestLamp_X5_glow_u108X1 : GoodIn wsX11_evenestLamp (va_wsU RX11 108 RX1 "LampsThatRemember$Lamp" ⟨"LampsThatRemember$Lamp", "glow", "(LLampsThatRemember$Town;)J"⟩ yX5_glow wsX5_glow) := goodIn_app (goodIn_of _ (by decide +kernel)) ggX11_evenestLamp_X5_glow
set_option maxRecDepth 20000 in
theorem gX11_evenestLamp_X5_glow_u108X3 : GoodIn wsX11_evenestLamp (va_wsU RX11 108 RX3 "LampsThatRemember$Lamp" ⟨"LampsThatRemember$Lamp", "glow", "(LLampsThatRemember$Town;)J"⟩ yX5_glow wsX5_glow) := goodIn_app (goodIn_of _ (by decide +kernel)) ggX11_evenestLamp_X5_glow
set_option maxRecDepth 20000 in
theorem gX11_evenestLamp_X5_glow_u108X4 : GoodIn wsX11_evenestLamp (va_wsU RX11 108 RX4 "LampsThatRemember$Lamp" ⟨"LampsThatRemember$Lamp", "glow", "(LLampsThatRemember$Town;)J"⟩ yX5_glow wsX5_glow) := goodIn_app (goodIn_of _ (by decide +kernel)) ggX11_evenestLamp_X5_glow
set_option maxRecDepth 20000 in
theorem gX11_evenestLamp_X5_glow : GoodIn wsX11_evenestLamp (wsV RX11 108 RX5 yX5_glow wsX5_glow) := goodIn_app (goodIn_of _ (by decide +kernel)) ggX11_evenestLamp_X5_glow
set_option maxRecDepth 20000 in
theorem gX11_evenestLamp_X5_glow_u108X7 : GoodIn wsX11_evenestLamp (va_wsU RX11 108 RX7 "LampsThatRemember$Lamp" ⟨"LampsThatRemember$Lamp", "glow", "(LLampsThatRemember$Town;)J"⟩ yX5_glow wsX5_glow) := goodIn_app (goodIn_of _ (by decide +kernel)) ggX11_evenestLamp_X5_glow
set_option maxRecDepth 20000 in
theorem gX11_evenestLamp_X5_glow_u108X8 : GoodIn wsX11_evenestLamp (va_wsU RX11 108 RX8 "LampsThatRemember$Lamp" ⟨"LampsThatRemember$Lamp", "glow", "(LLampsThatRemember$Town;)J"⟩ yX5_glow wsX5_glow) := goodIn_app (goodIn_of _ (by decide +kernel)) ggX11_evenestLamp_X5_glow
set_option maxRecDepth 20000 in
theorem ggX11_evenestLamp_X2_howMany : GoodIn wsX11_evenestLamp wsX2_howMany := goodIn_r _ [75, 76, 77, 78, 79, 80, 81, 82, 83] (by decide +kernel) (by decide +kernel)
set_option maxRecDepth 20000 in
theorem gX11_evenestLamp_X2_howMany : GoodIn wsX11_evenestLamp (va_wsS RX11 112 yX2_howMany wsX2_howMany) := goodIn_app (goodIn_of _ (by decide +kernel)) ggX11_evenestLamp_X2_howMany
theorem dX11_evenestLamp_0 : decode cX11_evenestLamp 0 = .ok (.lload_n 1, 1) := by decide +kernel
theorem dX11_evenestLamp_1 : decode cX11_evenestLamp 1 = .ok (.lconst 0, 1) := by decide +kernel
theorem dX11_evenestLamp_2 : decode cX11_evenestLamp 2 = .ok (.lcmp, 1) := by decide +kernel
theorem dX11_evenestLamp_3 : decode cX11_evenestLamp 3 = .ok (.ifCond .ne 6, 3) := by decide +kernel
theorem dX11_evenestLamp_6 : decode cX11_evenestLamp 6 = .ok (.bipush (-9), 2) := by decide +kernel
theorem dX11_evenestLamp_8 : decode cX11_evenestLamp 8 = .ok (.ireturn, 1) := by decide +kernel
theorem dX11_evenestLamp_9 : decode cX11_evenestLamp 9 = .ok (.bipush (-9), 2) := by decide +kernel
theorem dX11_evenestLamp_11 : decode cX11_evenestLamp 11 = .ok (.istore_n 3, 1) := by decide +kernel
theorem dX11_evenestLamp_12 : decode cX11_evenestLamp 12 = .ok (.iconst (-1), 1) := by decide +kernel
theorem dX11_evenestLamp_13 : decode cX11_evenestLamp 13 = .ok (.istore 4, 2) := by decide +kernel
theorem dX11_evenestLamp_15 : decode cX11_evenestLamp 15 = .ok (.iconst 0, 1) := by decide +kernel
theorem dX11_evenestLamp_16 : decode cX11_evenestLamp 16 = .ok (.istore 5, 2) := by decide +kernel
theorem dX11_evenestLamp_18 : decode cX11_evenestLamp 18 = .ok (.iload 5, 2) := by decide +kernel
theorem dX11_evenestLamp_20 : decode cX11_evenestLamp 20 = .ok (.aload_n 0, 1) := by decide +kernel
theorem dX11_evenestLamp_21 : decode cX11_evenestLamp 21 = .ok (.getfield 30, 3) := by decide +kernel
theorem dX11_evenestLamp_24 : decode cX11_evenestLamp 24 = .ok (.getfield 179, 3) := by decide +kernel
theorem dX11_evenestLamp_27 : decode cX11_evenestLamp 27 = .ok (.if_icmp .ge 73, 3) := by decide +kernel
theorem dX11_evenestLamp_30 : decode cX11_evenestLamp 30 = .ok (.aload_n 0, 1) := by decide +kernel
theorem dX11_evenestLamp_31 : decode cX11_evenestLamp 31 = .ok (.getfield 30, 3) := by decide +kernel
theorem dX11_evenestLamp_34 : decode cX11_evenestLamp 34 = .ok (.iload 5, 2) := by decide +kernel
theorem dX11_evenestLamp_36 : decode cX11_evenestLamp 36 = .ok (.invokevirtual 71, 3) := by decide +kernel
theorem dX11_evenestLamp_39 : decode cX11_evenestLamp 39 = .ok (.astore 6, 2) := by decide +kernel
theorem dX11_evenestLamp_41 : decode cX11_evenestLamp 41 = .ok (.aload 6, 2) := by decide +kernel
theorem dX11_evenestLamp_43 : decode cX11_evenestLamp 43 = .ok (.ifnull 51, 3) := by decide +kernel
theorem dX11_evenestLamp_46 : decode cX11_evenestLamp 46 = .ok (.aload 6, 2) := by decide +kernel
theorem dX11_evenestLamp_48 : decode cX11_evenestLamp 48 = .ok (.aload_n 0, 1) := by decide +kernel
theorem dX11_evenestLamp_49 : decode cX11_evenestLamp 49 = .ok (.getfield 30, 3) := by decide +kernel
theorem dX11_evenestLamp_52 : decode cX11_evenestLamp 52 = .ok (.invokevirtual 108, 3) := by decide +kernel
theorem dX11_evenestLamp_55 : decode cX11_evenestLamp 55 = .ok (.lstore 7, 2) := by decide +kernel
theorem dX11_evenestLamp_57 : decode cX11_evenestLamp 57 = .ok (.lload_n 1, 1) := by decide +kernel
theorem dX11_evenestLamp_58 : decode cX11_evenestLamp 58 = .ok (.lload 7, 2) := by decide +kernel
theorem dX11_evenestLamp_60 : decode cX11_evenestLamp 60 = .ok (.land, 1) := by decide +kernel
theorem dX11_evenestLamp_61 : decode cX11_evenestLamp 61 = .ok (.invokestatic 112, 3) := by decide +kernel
theorem dX11_evenestLamp_64 : decode cX11_evenestLamp 64 = .ok (.lload_n 1, 1) := by decide +kernel
theorem dX11_evenestLamp_65 : decode cX11_evenestLamp 65 = .ok (.lload 7, 2) := by decide +kernel
theorem dX11_evenestLamp_67 : decode cX11_evenestLamp 67 = .ok (.ldc2_w 174, 3) := by decide +kernel
theorem dX11_evenestLamp_70 : decode cX11_evenestLamp 70 = .ok (.lxor, 1) := by decide +kernel
theorem dX11_evenestLamp_71 : decode cX11_evenestLamp 71 = .ok (.land, 1) := by decide +kernel
theorem dX11_evenestLamp_72 : decode cX11_evenestLamp 72 = .ok (.invokestatic 112, 3) := by decide +kernel
theorem dX11_evenestLamp_75 : decode cX11_evenestLamp 75 = .ok (.invokestatic 215, 3) := by decide +kernel
theorem dX11_evenestLamp_78 : decode cX11_evenestLamp 78 = .ok (.istore 9, 2) := by decide +kernel
theorem dX11_evenestLamp_80 : decode cX11_evenestLamp 80 = .ok (.iload 9, 2) := by decide +kernel
theorem dX11_evenestLamp_82 : decode cX11_evenestLamp 82 = .ok (.iload 4, 2) := by decide +kernel
theorem dX11_evenestLamp_84 : decode cX11_evenestLamp 84 = .ok (.if_icmp .le 10, 3) := by decide +kernel
theorem dX11_evenestLamp_87 : decode cX11_evenestLamp 87 = .ok (.iload 5, 2) := by decide +kernel
theorem dX11_evenestLamp_89 : decode cX11_evenestLamp 89 = .ok (.istore_n 3, 1) := by decide +kernel
theorem dX11_evenestLamp_90 : decode cX11_evenestLamp 90 = .ok (.iload 9, 2) := by decide +kernel
theorem dX11_evenestLamp_92 : decode cX11_evenestLamp 92 = .ok (.istore 4, 2) := by decide +kernel
theorem dX11_evenestLamp_94 : decode cX11_evenestLamp 94 = .ok (.iinc 5 1, 3) := by decide +kernel
theorem dX11_evenestLamp_97 : decode cX11_evenestLamp 97 = .ok (.goto (-79), 3) := by decide +kernel
theorem dX11_evenestLamp_100 : decode cX11_evenestLamp 100 = .ok (.iload_n 3, 1) := by decide +kernel
theorem dX11_evenestLamp_101 : decode cX11_evenestLamp 101 = .ok (.ireturn, 1) := by decide +kernel
set_option maxRecDepth 20000 in
theorem ggX11_fewest_X11_inRowAt : GoodIn wsX11_fewest wsX11_inRowAt := goodIn_r _ [9, 10, 96, 97, 98, 99, 100, 101, 102, 103] (by decide +kernel) (by decide +kernel)
set_option maxRecDepth 20000 in
theorem gX11_fewest_X11_inRowAt : GoodIn wsX11_fewest (wsV RX11 220 RX11 yX11_inRowAt wsX11_inRowAt) := goodIn_app (goodIn_of _ (by decide +kernel)) ggX11_fewest_X11_inRowAt
set_option maxRecDepth 20000 in
theorem ggX11_fewest_X2_isOne : GoodIn wsX11_fewest wsX2_isOne := goodIn_r _ [14] (by decide +kernel) (by decide +kernel)
set_option maxRecDepth 20000 in
theorem gX11_fewest_X2_isOne : GoodIn wsX11_fewest (va_wsS RX11 118 yX2_isOne wsX2_isOne) := goodIn_app (goodIn_of _ (by decide +kernel)) ggX11_fewest_X2_isOne
set_option maxRecDepth 20000 in
theorem ggX11_fewest_X11_refuse : GoodIn wsX11_fewest wsX11_refuse := goodIn_r _ [18, 19, 96, 97, 98, 99, 100, 101, 102, 103] (by decide +kernel) (by decide +kernel)
set_option maxRecDepth 20000 in
theorem gX11_fewest_X11_refuse : GoodIn wsX11_fewest (wsV RX11 36 RX11 yX11_refuse wsX11_refuse) := goodIn_app (goodIn_of _ (by decide +kernel)) ggX11_fewest_X11_refuse
set_option maxRecDepth 20000 in
theorem ggX11_fewest_X2_only : GoodIn wsX11_fewest wsX2_only := goodIn_r _ [22] (by decide +kernel) (by decide +kernel)
set_option maxRecDepth 20000 in
theorem gX11_fewest_X2_only : GoodIn wsX11_fewest (va_wsS RX11 195 yX2_only wsX2_only) := goodIn_app (goodIn_of _ (by decide +kernel)) ggX11_fewest_X2_only
set_option maxRecDepth 20000 in
theorem ggX11_fewest_J6_bitCount_0f7a4 : GoodIn wsX11_fewest wsJ6_bitCount_0f7a4 := goodIn_r _ [26, 27, 28, 29] (by decide +kernel) (by decide +kernel)
set_option maxRecDepth 20000 in
theorem gX11_fewest_J6_bitCount_0f7a4 : GoodIn wsX11_fewest (va_wsS RX11 223 yJ6_bitCount_0f7a4 wsJ6_bitCount_0f7a4) := goodIn_app (goodIn_of _ (by decide +kernel)) ggX11_fewest_J6_bitCount_0f7a4
set_option maxRecDepth 20000 in
theorem ggX11_fewest_X10_glowOf : GoodIn wsX11_fewest wsX10_glowOf := goodIn_r _ [34, 35, 36, 37, 38, 33, 39, 40, 41, 42, 43, 44, 45, 46, 47, 48, 49, 50, 51, 52, 53, 54, 55, 56, 57, 58, 59, 60, 61, 62, 63, 64, 65, 66, 67, 68, 69, 70, 71, 72, 73, 74, 75, 76, 77, 78, 79, 80, 81, 13, 82, 83, 21, 22, 84, 85, 86, 87, 88, 89, 90, 91, 92, 93, 94, 95, 104, 105, 106, 107, 108, 109, 110, 111, 112, 113, 114, 115, 116, 117, 118, 119, 120, 121, 122, 123, 124, 125, 126, 127, 128, 129, 130, 131, 132, 133, 134, 135, 136, 137, 138, 139, 140, 141, 142, 143, 144] (by decide +kernel) (by decide +kernel)
set_option maxRecDepth 20000 in
theorem gX11_fewest_X10_glowOf : GoodIn wsX11_fewest (wsV RX11 228 RX10 yX10_glowOf wsX10_glowOf) := goodIn_app (goodIn_of _ (by decide +kernel)) ggX11_fewest_X10_glowOf
theorem dX11_fewest_0 : decode cX11_fewest 0 = .ok (.lconst 0, 1) := by decide +kernel
theorem dX11_fewest_1 : decode cX11_fewest 1 = .ok (.lstore_n 1, 1) := by decide +kernel
theorem dX11_fewest_2 : decode cX11_fewest 2 = .ok (.iconst 0, 1) := by decide +kernel
theorem dX11_fewest_3 : decode cX11_fewest 3 = .ok (.istore_n 3, 1) := by decide +kernel
theorem dX11_fewest_4 : decode cX11_fewest 4 = .ok (.iload_n 3, 1) := by decide +kernel
theorem dX11_fewest_5 : decode cX11_fewest 5 = .ok (.aload_n 0, 1) := by decide +kernel
theorem dX11_fewest_6 : decode cX11_fewest 6 = .ok (.getfield 85, 3) := by decide +kernel
theorem dX11_fewest_9 : decode cX11_fewest 9 = .ok (.if_icmp .ge 38, 3) := by decide +kernel
theorem dX11_fewest_12 : decode cX11_fewest 12 = .ok (.aload_n 0, 1) := by decide +kernel
theorem dX11_fewest_13 : decode cX11_fewest 13 = .ok (.iload_n 3, 1) := by decide +kernel
theorem dX11_fewest_14 : decode cX11_fewest 14 = .ok (.invokevirtual 220, 3) := by decide +kernel
theorem dX11_fewest_17 : decode cX11_fewest 17 = .ok (.invokestatic 118, 3) := by decide +kernel
theorem dX11_fewest_20 : decode cX11_fewest 20 = .ok (.ifCond .ne 10, 3) := by decide +kernel
theorem dX11_fewest_23 : decode cX11_fewest 23 = .ok (.aload_n 0, 1) := by decide +kernel
theorem dX11_fewest_24 : decode cX11_fewest 24 = .ok (.bipush (-3), 2) := by decide +kernel
theorem dX11_fewest_26 : decode cX11_fewest 26 = .ok (.invokevirtual 36, 3) := by decide +kernel
theorem dX11_fewest_29 : decode cX11_fewest 29 = .ok (.ireturn, 1) := by decide +kernel
theorem dX11_fewest_30 : decode cX11_fewest 30 = .ok (.lload_n 1, 1) := by decide +kernel
theorem dX11_fewest_31 : decode cX11_fewest 31 = .ok (.aload_n 0, 1) := by decide +kernel
theorem dX11_fewest_32 : decode cX11_fewest 32 = .ok (.iload_n 3, 1) := by decide +kernel
theorem dX11_fewest_33 : decode cX11_fewest 33 = .ok (.invokevirtual 220, 3) := by decide +kernel
theorem dX11_fewest_36 : decode cX11_fewest 36 = .ok (.invokestatic 195, 3) := by decide +kernel
theorem dX11_fewest_39 : decode cX11_fewest 39 = .ok (.lor, 1) := by decide +kernel
theorem dX11_fewest_40 : decode cX11_fewest 40 = .ok (.lstore_n 1, 1) := by decide +kernel
theorem dX11_fewest_41 : decode cX11_fewest 41 = .ok (.iinc 3 1, 3) := by decide +kernel
theorem dX11_fewest_44 : decode cX11_fewest 44 = .ok (.goto (-40), 3) := by decide +kernel
theorem dX11_fewest_47 : decode cX11_fewest 47 = .ok (.bipush (-9), 2) := by decide +kernel
theorem dX11_fewest_49 : decode cX11_fewest 49 = .ok (.istore_n 3, 1) := by decide +kernel
theorem dX11_fewest_50 : decode cX11_fewest 50 = .ok (.iconst 0, 1) := by decide +kernel
theorem dX11_fewest_51 : decode cX11_fewest 51 = .ok (.istore 4, 2) := by decide +kernel
theorem dX11_fewest_53 : decode cX11_fewest 53 = .ok (.iload 4, 2) := by decide +kernel
theorem dX11_fewest_55 : decode cX11_fewest 55 = .ok (.iconst 1, 1) := by decide +kernel
theorem dX11_fewest_56 : decode cX11_fewest 56 = .ok (.aload_n 0, 1) := by decide +kernel
theorem dX11_fewest_57 : decode cX11_fewest 57 = .ok (.getfield 30, 3) := by decide +kernel
theorem dX11_fewest_60 : decode cX11_fewest 60 = .ok (.getfield 179, 3) := by decide +kernel
theorem dX11_fewest_63 : decode cX11_fewest 63 = .ok (.ishl, 1) := by decide +kernel
theorem dX11_fewest_64 : decode cX11_fewest 64 = .ok (.if_icmp .ge 60, 3) := by decide +kernel
theorem dX11_fewest_67 : decode cX11_fewest 67 = .ok (.iload_n 3, 1) := by decide +kernel
theorem dX11_fewest_68 : decode cX11_fewest 68 = .ok (.ifCond .lt 15, 3) := by decide +kernel
theorem dX11_fewest_71 : decode cX11_fewest 71 = .ok (.iload 4, 2) := by decide +kernel
theorem dX11_fewest_73 : decode cX11_fewest 73 = .ok (.invokestatic 223, 3) := by decide +kernel
theorem dX11_fewest_76 : decode cX11_fewest 76 = .ok (.iload_n 3, 1) := by decide +kernel
theorem dX11_fewest_77 : decode cX11_fewest 77 = .ok (.invokestatic 223, 3) := by decide +kernel
theorem dX11_fewest_80 : decode cX11_fewest 80 = .ok (.if_icmp .ge 7, 3) := by decide +kernel
theorem dX11_fewest_83 : decode cX11_fewest 83 = .ok (.iconst 1, 1) := by decide +kernel
theorem dX11_fewest_84 : decode cX11_fewest 84 = .ok (.goto 4, 3) := by decide +kernel
theorem dX11_fewest_87 : decode cX11_fewest 87 = .ok (.iconst 0, 1) := by decide +kernel
theorem dX11_fewest_88 : decode cX11_fewest 88 = .ok (.istore 5, 2) := by decide +kernel
theorem dX11_fewest_90 : decode cX11_fewest 90 = .ok (.iload 5, 2) := by decide +kernel
theorem dX11_fewest_92 : decode cX11_fewest 92 = .ok (.ifCond .eq 26, 3) := by decide +kernel
theorem dX11_fewest_95 : decode cX11_fewest 95 = .ok (.lload_n 1, 1) := by decide +kernel
theorem dX11_fewest_96 : decode cX11_fewest 96 = .ok (.aload_n 0, 1) := by decide +kernel
theorem dX11_fewest_97 : decode cX11_fewest 97 = .ok (.getfield 30, 3) := by decide +kernel
theorem dX11_fewest_100 : decode cX11_fewest 100 = .ok (.iload 4, 2) := by decide +kernel
theorem dX11_fewest_102 : decode cX11_fewest 102 = .ok (.invokevirtual 228, 3) := by decide +kernel
theorem dX11_fewest_105 : decode cX11_fewest 105 = .ok (.ldc2_w 174, 3) := by decide +kernel
theorem dX11_fewest_108 : decode cX11_fewest 108 = .ok (.lxor, 1) := by decide +kernel
theorem dX11_fewest_109 : decode cX11_fewest 109 = .ok (.land, 1) := by decide +kernel
theorem dX11_fewest_110 : decode cX11_fewest 110 = .ok (.lconst 0, 1) := by decide +kernel
theorem dX11_fewest_111 : decode cX11_fewest 111 = .ok (.lcmp, 1) := by decide +kernel
theorem dX11_fewest_112 : decode cX11_fewest 112 = .ok (.ifCond .ne 6, 3) := by decide +kernel
theorem dX11_fewest_115 : decode cX11_fewest 115 = .ok (.iload 4, 2) := by decide +kernel
theorem dX11_fewest_117 : decode cX11_fewest 117 = .ok (.istore_n 3, 1) := by decide +kernel
theorem dX11_fewest_118 : decode cX11_fewest 118 = .ok (.iinc 4 1, 3) := by decide +kernel
theorem dX11_fewest_121 : decode cX11_fewest 121 = .ok (.goto (-68), 3) := by decide +kernel
theorem dX11_fewest_124 : decode cX11_fewest 124 = .ok (.iload_n 3, 1) := by decide +kernel
theorem dX11_fewest_125 : decode cX11_fewest 125 = .ok (.ireturn, 1) := by decide +kernel
set_option maxRecDepth 20000 in
theorem ggX11_oneMore_X11_outside : GoodIn wsX11_oneMore wsX11_outside := goodIn_r _ [6] (by decide +kernel) (by decide +kernel)
set_option maxRecDepth 20000 in
theorem gX11_oneMore_X11_outside : GoodIn wsX11_oneMore (va_wsS RX11 143 yX11_outside wsX11_outside) := goodIn_app (goodIn_of _ (by decide +kernel)) ggX11_oneMore_X11_outside
set_option maxRecDepth 20000 in
theorem ggX11_oneMore_X11_refuse : GoodIn wsX11_oneMore wsX11_refuse := goodIn_r _ [10, 11, 103, 104, 105, 106, 107, 108, 109, 110] (by decide +kernel) (by decide +kernel)
set_option maxRecDepth 20000 in
theorem gX11_oneMore_X11_refuse : GoodIn wsX11_oneMore (wsV RX11 36 RX11 yX11_refuse wsX11_refuse) := goodIn_app (goodIn_of _ (by decide +kernel)) ggX11_oneMore_X11_refuse
set_option maxRecDepth 20000 in
theorem ggX11_oneMore_X10_litBut : GoodIn wsX11_oneMore wsX10_litBut := goodIn_r _ [16, 17, 18, 19, 15, 20, 21, 22, 23, 24, 25, 26, 27, 28, 29, 30, 31, 32, 33, 34, 35, 36, 37, 38, 39, 40, 41, 42, 43, 44, 45, 46, 47, 48, 49, 50, 51, 52, 53, 54, 55, 56, 57, 58, 59, 60, 61, 62, 63, 64, 65, 66, 67, 68, 69, 70, 71, 72, 73, 74, 75, 76, 77, 78, 79, 80, 81, 82, 83, 84, 85, 86, 87, 88, 89, 111, 112, 113, 114, 115, 116, 117, 118, 119, 120, 121, 122, 123, 124, 125, 126, 127, 128, 129, 130, 131, 132, 133, 134, 135, 136, 137, 138, 139, 140, 141, 142, 143, 144, 145, 146, 147, 148, 149, 150, 151] (by decide +kernel) (by decide +kernel)
set_option maxRecDepth 20000 in
theorem gX11_oneMore_X10_litBut : GoodIn wsX11_oneMore (wsV RX11 170 RX10 yX10_litBut wsX10_litBut) := goodIn_app (goodIn_of _ (by decide +kernel)) ggX11_oneMore_X10_litBut
set_option maxRecDepth 20000 in
theorem ggX11_oneMore_X10_free : GoodIn wsX11_oneMore wsX10_free := goodIn_r _ [67, 68, 69, 70, 111, 112, 113, 114, 115, 116] (by decide +kernel) (by decide +kernel)
set_option maxRecDepth 20000 in
theorem gX11_oneMore_X10_free : GoodIn wsX11_oneMore (wsV RX11 162 RX10 yX10_free wsX10_free) := goodIn_app (goodIn_of _ (by decide +kernel)) ggX11_oneMore_X10_free
set_option maxRecDepth 20000 in
theorem ggX11_oneMore_X2_within : GoodIn wsX11_oneMore wsX2_within := goodIn_r _ [74, 75, 76, 73, 77, 78, 79, 80, 81, 82] (by decide +kernel) (by decide +kernel)
set_option maxRecDepth 20000 in
theorem gX11_oneMore_X2_within : GoodIn wsX11_oneMore (va_wsS RX11 231 yX2_within wsX2_within) := goodIn_app (goodIn_of _ (by decide +kernel)) ggX11_oneMore_X2_within
set_option maxRecDepth 20000 in
theorem ggX11_oneMore_X2_howMany : GoodIn wsX11_oneMore wsX2_howMany := goodIn_r _ [94, 95, 96, 97, 98, 99, 100, 101, 102] (by decide +kernel) (by decide +kernel)
set_option maxRecDepth 20000 in
theorem gX11_oneMore_X2_howMany : GoodIn wsX11_oneMore (va_wsS RX11 112 yX2_howMany wsX2_howMany) := goodIn_app (goodIn_of _ (by decide +kernel)) ggX11_oneMore_X2_howMany
theorem dX11_oneMore_0 : decode cX11_oneMore 0 = .ok (.iload_n 1, 1) := by decide +kernel
theorem dX11_oneMore_1 : decode cX11_oneMore 1 = .ok (.iconst 0, 1) := by decide +kernel
theorem dX11_oneMore_2 : decode cX11_oneMore 2 = .ok (.iconst 5, 1) := by decide +kernel
theorem dX11_oneMore_3 : decode cX11_oneMore 3 = .ok (.invokestatic 143, 3) := by decide +kernel
theorem dX11_oneMore_6 : decode cX11_oneMore 6 = .ok (.istore_n 3, 1) := by decide +kernel
theorem dX11_oneMore_7 : decode cX11_oneMore 7 = .ok (.iload_n 3, 1) := by decide +kernel
theorem dX11_oneMore_8 : decode cX11_oneMore 8 = .ok (.ifCond .ge 9, 3) := by decide +kernel
theorem dX11_oneMore_11 : decode cX11_oneMore 11 = .ok (.aload_n 0, 1) := by decide +kernel
theorem dX11_oneMore_12 : decode cX11_oneMore 12 = .ok (.iload_n 3, 1) := by decide +kernel
theorem dX11_oneMore_13 : decode cX11_oneMore 13 = .ok (.invokevirtual 36, 3) := by decide +kernel
theorem dX11_oneMore_16 : decode cX11_oneMore 16 = .ok (.ireturn, 1) := by decide +kernel
theorem dX11_oneMore_17 : decode cX11_oneMore 17 = .ok (.iload_n 2, 1) := by decide +kernel
theorem dX11_oneMore_18 : decode cX11_oneMore 18 = .ok (.ifCond .eq 15, 3) := by decide +kernel
theorem dX11_oneMore_21 : decode cX11_oneMore 21 = .ok (.iload_n 2, 1) := by decide +kernel
theorem dX11_oneMore_22 : decode cX11_oneMore 22 = .ok (.iconst 1, 1) := by decide +kernel
theorem dX11_oneMore_23 : decode cX11_oneMore 23 = .ok (.if_icmp .eq 10, 3) := by decide +kernel
theorem dX11_oneMore_26 : decode cX11_oneMore 26 = .ok (.aload_n 0, 1) := by decide +kernel
theorem dX11_oneMore_27 : decode cX11_oneMore 27 = .ok (.bipush (-2), 2) := by decide +kernel
theorem dX11_oneMore_29 : decode cX11_oneMore 29 = .ok (.invokevirtual 36, 3) := by decide +kernel
theorem dX11_oneMore_32 : decode cX11_oneMore 32 = .ok (.ireturn, 1) := by decide +kernel
theorem dX11_oneMore_33 : decode cX11_oneMore 33 = .ok (.aload_n 0, 1) := by decide +kernel
theorem dX11_oneMore_34 : decode cX11_oneMore 34 = .ok (.getfield 30, 3) := by decide +kernel
theorem dX11_oneMore_37 : decode cX11_oneMore 37 = .ok (.iconst 0, 1) := by decide +kernel
theorem dX11_oneMore_38 : decode cX11_oneMore 38 = .ok (.invokevirtual 170, 3) := by decide +kernel
theorem dX11_oneMore_41 : decode cX11_oneMore 41 = .ok (.ldc2_w 174, 3) := by decide +kernel
theorem dX11_oneMore_44 : decode cX11_oneMore 44 = .ok (.lxor, 1) := by decide +kernel
theorem dX11_oneMore_45 : decode cX11_oneMore 45 = .ok (.lstore 4, 2) := by decide +kernel
theorem dX11_oneMore_47 : decode cX11_oneMore 47 = .ok (.iconst 0, 1) := by decide +kernel
theorem dX11_oneMore_48 : decode cX11_oneMore 48 = .ok (.istore 6, 2) := by decide +kernel
theorem dX11_oneMore_50 : decode cX11_oneMore 50 = .ok (.iconst (-1), 1) := by decide +kernel
theorem dX11_oneMore_51 : decode cX11_oneMore 51 = .ok (.istore 7, 2) := by decide +kernel
theorem dX11_oneMore_53 : decode cX11_oneMore 53 = .ok (.iconst 0, 1) := by decide +kernel
theorem dX11_oneMore_54 : decode cX11_oneMore 54 = .ok (.istore 8, 2) := by decide +kernel
theorem dX11_oneMore_56 : decode cX11_oneMore 56 = .ok (.iload 8, 2) := by decide +kernel
theorem dX11_oneMore_58 : decode cX11_oneMore 58 = .ok (.bipush 36, 2) := by decide +kernel
theorem dX11_oneMore_60 : decode cX11_oneMore 60 = .ok (.if_icmp .ge 45, 3) := by decide +kernel
theorem dX11_oneMore_63 : decode cX11_oneMore 63 = .ok (.iload 8, 2) := by decide +kernel
theorem dX11_oneMore_65 : decode cX11_oneMore 65 = .ok (.iload_n 1, 1) := by decide +kernel
theorem dX11_oneMore_66 : decode cX11_oneMore 66 = .ok (.aload_n 0, 1) := by decide +kernel
theorem dX11_oneMore_67 : decode cX11_oneMore 67 = .ok (.getfield 30, 3) := by decide +kernel
theorem dX11_oneMore_70 : decode cX11_oneMore 70 = .ok (.invokevirtual 162, 3) := by decide +kernel
theorem dX11_oneMore_73 : decode cX11_oneMore 73 = .ok (.invokestatic 231, 3) := by decide +kernel
theorem dX11_oneMore_76 : decode cX11_oneMore 76 = .ok (.lload 4, 2) := by decide +kernel
theorem dX11_oneMore_78 : decode cX11_oneMore 78 = .ok (.land, 1) := by decide +kernel
theorem dX11_oneMore_79 : decode cX11_oneMore 79 = .ok (.invokestatic 112, 3) := by decide +kernel
theorem dX11_oneMore_82 : decode cX11_oneMore 82 = .ok (.istore 9, 2) := by decide +kernel
theorem dX11_oneMore_84 : decode cX11_oneMore 84 = .ok (.iload 9, 2) := by decide +kernel
theorem dX11_oneMore_86 : decode cX11_oneMore 86 = .ok (.iload 7, 2) := by decide +kernel
theorem dX11_oneMore_88 : decode cX11_oneMore 88 = .ok (.if_icmp .le 11, 3) := by decide +kernel
theorem dX11_oneMore_91 : decode cX11_oneMore 91 = .ok (.iload 9, 2) := by decide +kernel
theorem dX11_oneMore_93 : decode cX11_oneMore 93 = .ok (.istore 7, 2) := by decide +kernel
theorem dX11_oneMore_95 : decode cX11_oneMore 95 = .ok (.iload 8, 2) := by decide +kernel
theorem dX11_oneMore_97 : decode cX11_oneMore 97 = .ok (.istore 6, 2) := by decide +kernel
theorem dX11_oneMore_99 : decode cX11_oneMore 99 = .ok (.iinc 8 1, 3) := by decide +kernel
theorem dX11_oneMore_102 : decode cX11_oneMore 102 = .ok (.goto (-46), 3) := by decide +kernel
theorem dX11_oneMore_105 : decode cX11_oneMore 105 = .ok (.iload_n 2, 1) := by decide +kernel
theorem dX11_oneMore_106 : decode cX11_oneMore 106 = .ok (.ifCond .ne 8, 3) := by decide +kernel
theorem dX11_oneMore_109 : decode cX11_oneMore 109 = .ok (.iload 7, 2) := by decide +kernel
theorem dX11_oneMore_111 : decode cX11_oneMore 111 = .ok (.goto 5, 3) := by decide +kernel
theorem dX11_oneMore_114 : decode cX11_oneMore 114 = .ok (.iload 6, 2) := by decide +kernel
theorem dX11_oneMore_116 : decode cX11_oneMore 116 = .ok (.ireturn, 1) := by decide +kernel
set_option maxRecDepth 20000 in
theorem ggX11_swap_X10_lampAt : GoodIn wsX11_swap wsX10_lampAt := goodIn_r _ [7, 8, 9, 111, 112, 113, 114, 115, 116] (by decide +kernel) (by decide +kernel)
set_option maxRecDepth 20000 in
theorem gX11_swap_X10_lampAt : GoodIn wsX11_swap (wsV RX11 71 RX10 yX10_lampAt wsX10_lampAt) := goodIn_app (goodIn_of _ (by decide +kernel)) ggX11_swap_X10_lampAt
set_option maxRecDepth 20000 in
theorem ggX11_swap_X11_refuse : GoodIn wsX11_swap wsX11_refuse := goodIn_r _ [14, 15, 103, 104, 105, 106, 107, 108, 109, 110] (by decide +kernel) (by decide +kernel)
set_option maxRecDepth 20000 in
theorem gX11_swap_X11_refuse : GoodIn wsX11_swap (wsV RX11 36 RX11 yX11_refuse wsX11_refuse) := goodIn_app (goodIn_of _ (by decide +kernel)) ggX11_swap_X11_refuse
set_option maxRecDepth 20000 in
theorem ggX11_swap_X10_litBut : GoodIn wsX11_swap wsX10_litBut := goodIn_r _ [19, 20, 21, 22, 6, 23, 8, 24, 25, 4, 5, 7, 9, 26, 27, 28, 29, 30, 31, 32, 33, 34, 35, 36, 37, 38, 39, 40, 41, 42, 43, 44, 45, 46, 47, 48, 49, 50, 51, 52, 53, 54, 55, 56, 57, 58, 59, 60, 61, 62, 63, 64, 65, 66, 67, 68, 69, 70, 71, 72, 73, 74, 75, 76, 77, 78, 79, 80, 81, 82, 83, 84, 85, 86, 87, 111, 112, 113, 114, 115, 116, 117, 118, 119, 120, 121, 122, 123, 124, 125, 126, 127, 128, 129, 130, 131, 132, 133, 134, 135, 136, 137, 138, 139, 140, 141, 142, 143, 144, 145, 146, 147, 148, 149, 150, 151] (by decide +kernel) (by decide +kernel)
set_option maxRecDepth 20000 in
theorem gX11_swap_X10_litBut : GoodIn wsX11_swap (wsV RX11 170 RX10 yX10_litBut wsX10_litBut) := goodIn_app (goodIn_of _ (by decide +kernel)) ggX11_swap_X10_litBut
set_option maxRecDepth 20000 in
theorem ggX11_swap_X2_howMany : GoodIn wsX11_swap wsX2_howMany := goodIn_r _ [90, 91, 92, 93, 94, 95, 96, 97, 98] (by decide +kernel) (by decide +kernel)
set_option maxRecDepth 20000 in
theorem gX11_swap_X2_howMany : GoodIn wsX11_swap (va_wsS RX11 112 yX2_howMany wsX2_howMany) := goodIn_app (goodIn_of _ (by decide +kernel)) ggX11_swap_X2_howMany
set_option maxRecDepth 20000 in
theorem ggX11_swap_X11_changeCells : GoodIn wsX11_swap wsX11_changeCells := goodIn_r _ [101, 102, 117, 118, 119, 120, 121, 122, 123, 124, 125, 126, 127, 128, 129, 130, 131, 132, 133, 134, 135, 136, 137, 138, 139, 140, 141, 142, 143, 144, 145, 146, 147, 148, 149, 150, 151] (by decide +kernel) (by decide +kernel)
set_option maxRecDepth 20000 in
theorem gX11_swap_X11_changeCells : GoodIn wsX11_swap (va_wsS RX11 236 yX11_changeCells wsX11_changeCells) := goodIn_app (goodIn_of _ (by decide +kernel)) ggX11_swap_X11_changeCells
theorem dX11_swap_0 : decode cX11_swap 0 = .ok (.aload_n 0, 1) := by decide +kernel
theorem dX11_swap_1 : decode cX11_swap 1 = .ok (.getfield 30, 3) := by decide +kernel
theorem dX11_swap_4 : decode cX11_swap 4 = .ok (.iload_n 1, 1) := by decide +kernel
theorem dX11_swap_5 : decode cX11_swap 5 = .ok (.invokevirtual 71, 3) := by decide +kernel
theorem dX11_swap_8 : decode cX11_swap 8 = .ok (.astore_n 3, 1) := by decide +kernel
theorem dX11_swap_9 : decode cX11_swap 9 = .ok (.aload_n 0, 1) := by decide +kernel
theorem dX11_swap_10 : decode cX11_swap 10 = .ok (.getfield 30, 3) := by decide +kernel
theorem dX11_swap_13 : decode cX11_swap 13 = .ok (.iload_n 2, 1) := by decide +kernel
theorem dX11_swap_14 : decode cX11_swap 14 = .ok (.invokevirtual 71, 3) := by decide +kernel
theorem dX11_swap_17 : decode cX11_swap 17 = .ok (.astore 4, 2) := by decide +kernel
theorem dX11_swap_19 : decode cX11_swap 19 = .ok (.aload_n 3, 1) := by decide +kernel
theorem dX11_swap_20 : decode cX11_swap 20 = .ok (.ifnull 8, 3) := by decide +kernel
theorem dX11_swap_23 : decode cX11_swap 23 = .ok (.aload 4, 2) := by decide +kernel
theorem dX11_swap_25 : decode cX11_swap 25 = .ok (.ifnonnull 12, 3) := by decide +kernel
theorem dX11_swap_28 : decode cX11_swap 28 = .ok (.ldc 235, 2) := by decide +kernel
theorem dX11_swap_30 : decode cX11_swap 30 = .ok (.aload_n 0, 1) := by decide +kernel
theorem dX11_swap_31 : decode cX11_swap 31 = .ok (.iconst (-1), 1) := by decide +kernel
theorem dX11_swap_32 : decode cX11_swap 32 = .ok (.invokevirtual 36, 3) := by decide +kernel
theorem dX11_swap_35 : decode cX11_swap 35 = .ok (.isub, 1) := by decide +kernel
theorem dX11_swap_36 : decode cX11_swap 36 = .ok (.ireturn, 1) := by decide +kernel
theorem dX11_swap_37 : decode cX11_swap 37 = .ok (.aload_n 0, 1) := by decide +kernel
theorem dX11_swap_38 : decode cX11_swap 38 = .ok (.getfield 30, 3) := by decide +kernel
theorem dX11_swap_41 : decode cX11_swap 41 = .ok (.iconst 0, 1) := by decide +kernel
theorem dX11_swap_42 : decode cX11_swap 42 = .ok (.invokevirtual 170, 3) := by decide +kernel
theorem dX11_swap_45 : decode cX11_swap 45 = .ok (.invokestatic 112, 3) := by decide +kernel
theorem dX11_swap_48 : decode cX11_swap 48 = .ok (.istore 5, 2) := by decide +kernel
theorem dX11_swap_50 : decode cX11_swap 50 = .ok (.aload_n 3, 1) := by decide +kernel
theorem dX11_swap_51 : decode cX11_swap 51 = .ok (.aload 4, 2) := by decide +kernel
theorem dX11_swap_53 : decode cX11_swap 53 = .ok (.invokestatic 236, 3) := by decide +kernel
theorem dX11_swap_56 : decode cX11_swap 56 = .ok (.aload_n 0, 1) := by decide +kernel
theorem dX11_swap_57 : decode cX11_swap 57 = .ok (.getfield 30, 3) := by decide +kernel
theorem dX11_swap_60 : decode cX11_swap 60 = .ok (.iconst 0, 1) := by decide +kernel
theorem dX11_swap_61 : decode cX11_swap 61 = .ok (.invokevirtual 170, 3) := by decide +kernel
theorem dX11_swap_64 : decode cX11_swap 64 = .ok (.invokestatic 112, 3) := by decide +kernel
theorem dX11_swap_67 : decode cX11_swap 67 = .ok (.istore 6, 2) := by decide +kernel
theorem dX11_swap_69 : decode cX11_swap 69 = .ok (.aload_n 3, 1) := by decide +kernel
theorem dX11_swap_70 : decode cX11_swap 70 = .ok (.aload 4, 2) := by decide +kernel
theorem dX11_swap_72 : decode cX11_swap 72 = .ok (.invokestatic 236, 3) := by decide +kernel
theorem dX11_swap_75 : decode cX11_swap 75 = .ok (.iload 6, 2) := by decide +kernel
theorem dX11_swap_77 : decode cX11_swap 77 = .ok (.iload 5, 2) := by decide +kernel
theorem dX11_swap_79 : decode cX11_swap 79 = .ok (.isub, 1) := by decide +kernel
theorem dX11_swap_80 : decode cX11_swap 80 = .ok (.ireturn, 1) := by decide +kernel
theorem dX11_changeCells_0 : decode cX11_changeCells 0 = .ok (.aload_n 0, 1) := by decide +kernel
theorem dX11_changeCells_1 : decode cX11_changeCells 1 = .ok (.getfield 240, 3) := by decide +kernel
theorem dX11_changeCells_4 : decode cX11_changeCells 4 = .ok (.istore_n 2, 1) := by decide +kernel
theorem dX11_changeCells_5 : decode cX11_changeCells 5 = .ok (.aload_n 0, 1) := by decide +kernel
theorem dX11_changeCells_6 : decode cX11_changeCells 6 = .ok (.aload_n 1, 1) := by decide +kernel
theorem dX11_changeCells_7 : decode cX11_changeCells 7 = .ok (.getfield 240, 3) := by decide +kernel
theorem dX11_changeCells_10 : decode cX11_changeCells 10 = .ok (.putfield 240, 3) := by decide +kernel
theorem dX11_changeCells_13 : decode cX11_changeCells 13 = .ok (.aload_n 1, 1) := by decide +kernel
theorem dX11_changeCells_14 : decode cX11_changeCells 14 = .ok (.iload_n 2, 1) := by decide +kernel
theorem dX11_changeCells_15 : decode cX11_changeCells 15 = .ok (.putfield 240, 3) := by decide +kernel
theorem dX11_changeCells_18 : decode cX11_changeCells 18 = .ok (.return_, 1) := by decide +kernel
set_option maxRecDepth 20000 in
theorem ggX11_judge_X10_isPerson : GoodIn wsX11_judge wsX10_isPerson := goodIn_r _ [7, 8, 55, 56, 57, 58, 59, 60] (by decide +kernel) (by decide +kernel)
set_option maxRecDepth 20000 in
theorem gX11_judge_X10_isPerson : GoodIn wsX11_judge (wsV RX11 156 RX10 yX10_isPerson wsX10_isPerson) := goodIn_app (goodIn_of _ (by decide +kernel)) ggX11_judge_X10_isPerson
set_option maxRecDepth 20000 in
theorem ggX11_judge_X11_refuse : GoodIn wsX11_judge wsX11_refuse := goodIn_r _ [13, 14, 47, 48, 49, 50, 51, 52, 53, 54] (by decide +kernel) (by decide +kernel)
set_option maxRecDepth 20000 in
theorem gX11_judge_X11_refuse : GoodIn wsX11_judge (wsV RX11 36 RX11 yX11_refuse wsX11_refuse) := goodIn_app (goodIn_of _ (by decide +kernel)) ggX11_judge_X11_refuse
set_option maxRecDepth 20000 in
theorem ggX11_judge_X10_cellOf : GoodIn wsX11_judge wsX10_cellOf := goodIn_r _ [18, 8, 19, 55, 56, 57, 58, 59, 60] (by decide +kernel) (by decide +kernel)
set_option maxRecDepth 20000 in
theorem gX11_judge_X10_cellOf : GoodIn wsX11_judge (wsV RX11 159 RX10 yX10_cellOf wsX10_cellOf) := goodIn_app (goodIn_of _ (by decide +kernel)) ggX11_judge_X10_cellOf
set_option maxRecDepth 20000 in
theorem ggX11_judge_X11_inRowAt : GoodIn wsX11_judge wsX11_inRowAt := goodIn_r _ [23, 24, 47, 48, 49, 50, 51, 52, 53, 54] (by decide +kernel) (by decide +kernel)
set_option maxRecDepth 20000 in
theorem gX11_judge_X11_inRowAt : GoodIn wsX11_judge (wsV RX11 220 RX11 yX11_inRowAt wsX11_inRowAt) := goodIn_app (goodIn_of _ (by decide +kernel)) ggX11_judge_X11_inRowAt
set_option maxRecDepth 20000 in
theorem ggX11_judge_X10_free : GoodIn wsX11_judge wsX10_free := goodIn_r _ [28, 29, 30, 31, 55, 56, 57, 58, 59, 60] (by decide +kernel) (by decide +kernel)
set_option maxRecDepth 20000 in
theorem gX11_judge_X10_free : GoodIn wsX11_judge (wsV RX11 162 RX10 yX10_free wsX10_free) := goodIn_app (goodIn_of _ (by decide +kernel)) ggX11_judge_X10_free
set_option maxRecDepth 20000 in
theorem ggX11_judge_X2_within : GoodIn wsX11_judge wsX2_within := goodIn_r _ [35, 36, 37, 34, 38, 39, 40, 41, 42, 43] (by decide +kernel) (by decide +kernel)
set_option maxRecDepth 20000 in
theorem gX11_judge_X2_within : GoodIn wsX11_judge (va_wsS RX11 231 yX2_within wsX2_within) := goodIn_app (goodIn_of _ (by decide +kernel)) ggX11_judge_X2_within
set_option maxRecDepth 20000 in
theorem ggX11_judge_X2_has : GoodIn wsX11_judge wsX2_has := goodIn_r _ [46, 36, 37, 34, 38] (by decide +kernel) (by decide +kernel)
set_option maxRecDepth 20000 in
theorem gX11_judge_X2_has : GoodIn wsX11_judge (va_wsS RX11 122 yX2_has wsX2_has) := goodIn_app (goodIn_of _ (by decide +kernel)) ggX11_judge_X2_has
theorem dX11_judge_0 : decode cX11_judge 0 = .ok (.aload_n 0, 1) := by decide +kernel
theorem dX11_judge_1 : decode cX11_judge 1 = .ok (.getfield 30, 3) := by decide +kernel
theorem dX11_judge_4 : decode cX11_judge 4 = .ok (.iload_n 1, 1) := by decide +kernel
theorem dX11_judge_5 : decode cX11_judge 5 = .ok (.invokevirtual 156, 3) := by decide +kernel
theorem dX11_judge_8 : decode cX11_judge 8 = .ok (.ifCond .ne 9, 3) := by decide +kernel
theorem dX11_judge_11 : decode cX11_judge 11 = .ok (.aload_n 0, 1) := by decide +kernel
theorem dX11_judge_12 : decode cX11_judge 12 = .ok (.iconst (-1), 1) := by decide +kernel
theorem dX11_judge_13 : decode cX11_judge 13 = .ok (.invokevirtual 36, 3) := by decide +kernel
theorem dX11_judge_16 : decode cX11_judge 16 = .ok (.ireturn, 1) := by decide +kernel
theorem dX11_judge_17 : decode cX11_judge 17 = .ok (.aload_n 0, 1) := by decide +kernel
theorem dX11_judge_18 : decode cX11_judge 18 = .ok (.getfield 30, 3) := by decide +kernel
theorem dX11_judge_21 : decode cX11_judge 21 = .ok (.iload_n 1, 1) := by decide +kernel
theorem dX11_judge_22 : decode cX11_judge 22 = .ok (.invokevirtual 159, 3) := by decide +kernel
theorem dX11_judge_25 : decode cX11_judge 25 = .ok (.istore_n 2, 1) := by decide +kernel
theorem dX11_judge_26 : decode cX11_judge 26 = .ok (.iconst 0, 1) := by decide +kernel
theorem dX11_judge_27 : decode cX11_judge 27 = .ok (.istore_n 3, 1) := by decide +kernel
theorem dX11_judge_28 : decode cX11_judge 28 = .ok (.iload_n 3, 1) := by decide +kernel
theorem dX11_judge_29 : decode cX11_judge 29 = .ok (.aload_n 0, 1) := by decide +kernel
theorem dX11_judge_30 : decode cX11_judge 30 = .ok (.getfield 85, 3) := by decide +kernel
theorem dX11_judge_33 : decode cX11_judge 33 = .ok (.if_icmp .ge 41, 3) := by decide +kernel
theorem dX11_judge_36 : decode cX11_judge 36 = .ok (.aload_n 0, 1) := by decide +kernel
theorem dX11_judge_37 : decode cX11_judge 37 = .ok (.iload_n 3, 1) := by decide +kernel
theorem dX11_judge_38 : decode cX11_judge 38 = .ok (.invokevirtual 220, 3) := by decide +kernel
theorem dX11_judge_41 : decode cX11_judge 41 = .ok (.istore 4, 2) := by decide +kernel
theorem dX11_judge_43 : decode cX11_judge 43 = .ok (.iload_n 2, 1) := by decide +kernel
theorem dX11_judge_44 : decode cX11_judge 44 = .ok (.iconst 1, 1) := by decide +kernel
theorem dX11_judge_45 : decode cX11_judge 45 = .ok (.aload_n 0, 1) := by decide +kernel
theorem dX11_judge_46 : decode cX11_judge 46 = .ok (.getfield 30, 3) := by decide +kernel
theorem dX11_judge_49 : decode cX11_judge 49 = .ok (.invokevirtual 162, 3) := by decide +kernel
theorem dX11_judge_52 : decode cX11_judge 52 = .ok (.invokestatic 231, 3) := by decide +kernel
theorem dX11_judge_55 : decode cX11_judge 55 = .ok (.iload 4, 2) := by decide +kernel
theorem dX11_judge_57 : decode cX11_judge 57 = .ok (.invokestatic 122, 3) := by decide +kernel
theorem dX11_judge_60 : decode cX11_judge 60 = .ok (.ifCond .ne 5, 3) := by decide +kernel
theorem dX11_judge_63 : decode cX11_judge 63 = .ok (.iload_n 3, 1) := by decide +kernel
theorem dX11_judge_64 : decode cX11_judge 64 = .ok (.ireturn, 1) := by decide +kernel
theorem dX11_judge_65 : decode cX11_judge 65 = .ok (.iload 4, 2) := by decide +kernel
theorem dX11_judge_67 : decode cX11_judge 67 = .ok (.istore_n 2, 1) := by decide +kernel
theorem dX11_judge_68 : decode cX11_judge 68 = .ok (.iinc 3 1, 3) := by decide +kernel
theorem dX11_judge_71 : decode cX11_judge 71 = .ok (.goto (-43), 3) := by decide +kernel
theorem dX11_judge_74 : decode cX11_judge 74 = .ok (.bipush (-9), 2) := by decide +kernel
theorem dX11_judge_76 : decode cX11_judge 76 = .ok (.ireturn, 1) := by decide +kernel
set_option maxRecDepth 20000 in
theorem ggX11_caught_X10_isPerson : GoodIn wsX11_caught wsX10_isPerson := goodIn_r _ [7, 8, 107, 108, 109, 110, 111, 112] (by decide +kernel) (by decide +kernel)
set_option maxRecDepth 20000 in
theorem gX11_caught_X10_isPerson : GoodIn wsX11_caught (wsV RX11 156 RX10 yX10_isPerson wsX10_isPerson) := goodIn_app (goodIn_of _ (by decide +kernel)) ggX11_caught_X10_isPerson
set_option maxRecDepth 20000 in
theorem ggX11_caught_X11_refuse : GoodIn wsX11_caught wsX11_refuse := goodIn_r _ [13, 14, 99, 100, 101, 102, 103, 104, 105, 106] (by decide +kernel) (by decide +kernel)
set_option maxRecDepth 20000 in
theorem gX11_caught_X11_refuse : GoodIn wsX11_caught (wsV RX11 36 RX11 yX11_refuse wsX11_refuse) := goodIn_app (goodIn_of _ (by decide +kernel)) ggX11_caught_X11_refuse
set_option maxRecDepth 20000 in
theorem ggX11_caught_X10_litBut : GoodIn wsX11_caught wsX10_litBut := goodIn_r _ [18, 19, 20, 21, 6, 22, 23, 24, 25, 26, 27, 28, 29, 30, 31, 32, 33, 34, 35, 36, 37, 38, 39, 40, 41, 42, 43, 44, 45, 46, 47, 48, 49, 50, 51, 52, 53, 54, 55, 56, 57, 8, 58, 59, 60, 61, 62, 63, 64, 65, 66, 67, 68, 69, 70, 71, 72, 73, 74, 75, 76, 77, 78, 79, 80, 81, 82, 83, 84, 85, 86, 87, 88, 89, 90, 107, 108, 109, 110, 111, 112, 113, 114, 115, 116, 117, 118, 119, 120, 121, 122, 123, 124, 125, 126, 127, 128, 129, 130, 131, 132, 133, 134, 135, 136, 137, 138, 139, 140, 141, 142, 143, 144, 145, 146, 147] (by decide +kernel) (by decide +kernel)
set_option maxRecDepth 20000 in
theorem gX11_caught_X10_litBut : GoodIn wsX11_caught (wsV RX11 170 RX10 yX10_litBut wsX10_litBut) := goodIn_app (goodIn_of _ (by decide +kernel)) ggX11_caught_X10_litBut
set_option maxRecDepth 20000 in
theorem ggX11_caught_X11_inRowAt : GoodIn wsX11_caught wsX11_inRowAt := goodIn_r _ [94, 95, 99, 100, 101, 102, 103, 104, 105, 106] (by decide +kernel) (by decide +kernel)
set_option maxRecDepth 20000 in
theorem gX11_caught_X11_inRowAt : GoodIn wsX11_caught (wsV RX11 220 RX11 yX11_inRowAt wsX11_inRowAt) := goodIn_app (goodIn_of _ (by decide +kernel)) ggX11_caught_X11_inRowAt
set_option maxRecDepth 20000 in
theorem ggX11_caught_X2_has : GoodIn wsX11_caught wsX2_has := goodIn_r _ [98, 76, 77, 74, 78] (by decide +kernel) (by decide +kernel)
set_option maxRecDepth 20000 in
theorem gX11_caught_X2_has : GoodIn wsX11_caught (va_wsS RX11 122 yX2_has wsX2_has) := goodIn_app (goodIn_of _ (by decide +kernel)) ggX11_caught_X2_has
theorem dX11_caught_0 : decode cX11_caught 0 = .ok (.aload_n 0, 1) := by decide +kernel
theorem dX11_caught_1 : decode cX11_caught 1 = .ok (.getfield 30, 3) := by decide +kernel
theorem dX11_caught_4 : decode cX11_caught 4 = .ok (.iload_n 1, 1) := by decide +kernel
theorem dX11_caught_5 : decode cX11_caught 5 = .ok (.invokevirtual 156, 3) := by decide +kernel
theorem dX11_caught_8 : decode cX11_caught 8 = .ok (.ifCond .ne 9, 3) := by decide +kernel
theorem dX11_caught_11 : decode cX11_caught 11 = .ok (.aload_n 0, 1) := by decide +kernel
theorem dX11_caught_12 : decode cX11_caught 12 = .ok (.iconst (-1), 1) := by decide +kernel
theorem dX11_caught_13 : decode cX11_caught 13 = .ok (.invokevirtual 36, 3) := by decide +kernel
theorem dX11_caught_16 : decode cX11_caught 16 = .ok (.ireturn, 1) := by decide +kernel
theorem dX11_caught_17 : decode cX11_caught 17 = .ok (.aload_n 0, 1) := by decide +kernel
theorem dX11_caught_18 : decode cX11_caught 18 = .ok (.getfield 30, 3) := by decide +kernel
theorem dX11_caught_21 : decode cX11_caught 21 = .ok (.iconst 0, 1) := by decide +kernel
theorem dX11_caught_22 : decode cX11_caught 22 = .ok (.invokevirtual 170, 3) := by decide +kernel
theorem dX11_caught_25 : decode cX11_caught 25 = .ok (.lstore_n 2, 1) := by decide +kernel
theorem dX11_caught_26 : decode cX11_caught 26 = .ok (.bipush (-9), 2) := by decide +kernel
theorem dX11_caught_28 : decode cX11_caught 28 = .ok (.istore 4, 2) := by decide +kernel
theorem dX11_caught_30 : decode cX11_caught 30 = .ok (.iconst 0, 1) := by decide +kernel
theorem dX11_caught_31 : decode cX11_caught 31 = .ok (.istore 5, 2) := by decide +kernel
theorem dX11_caught_33 : decode cX11_caught 33 = .ok (.iload 5, 2) := by decide +kernel
theorem dX11_caught_35 : decode cX11_caught 35 = .ok (.aload_n 0, 1) := by decide +kernel
theorem dX11_caught_36 : decode cX11_caught 36 = .ok (.getfield 85, 3) := by decide +kernel
theorem dX11_caught_39 : decode cX11_caught 39 = .ok (.if_icmp .ge 31, 3) := by decide +kernel
theorem dX11_caught_42 : decode cX11_caught 42 = .ok (.iload 4, 2) := by decide +kernel
theorem dX11_caught_44 : decode cX11_caught 44 = .ok (.ifCond .ge 26, 3) := by decide +kernel
theorem dX11_caught_47 : decode cX11_caught 47 = .ok (.lload_n 2, 1) := by decide +kernel
theorem dX11_caught_48 : decode cX11_caught 48 = .ok (.aload_n 0, 1) := by decide +kernel
theorem dX11_caught_49 : decode cX11_caught 49 = .ok (.iload 5, 2) := by decide +kernel
theorem dX11_caught_51 : decode cX11_caught 51 = .ok (.invokevirtual 220, 3) := by decide +kernel
theorem dX11_caught_54 : decode cX11_caught 54 = .ok (.invokestatic 122, 3) := by decide +kernel
theorem dX11_caught_57 : decode cX11_caught 57 = .ok (.ifCond .eq 7, 3) := by decide +kernel
theorem dX11_caught_60 : decode cX11_caught 60 = .ok (.iload 5, 2) := by decide +kernel
theorem dX11_caught_62 : decode cX11_caught 62 = .ok (.istore 4, 2) := by decide +kernel
theorem dX11_caught_64 : decode cX11_caught 64 = .ok (.iinc 5 1, 3) := by decide +kernel
theorem dX11_caught_67 : decode cX11_caught 67 = .ok (.goto (-34), 3) := by decide +kernel
theorem dX11_caught_70 : decode cX11_caught 70 = .ok (.aload_n 0, 1) := by decide +kernel
theorem dX11_caught_71 : decode cX11_caught 71 = .ok (.iconst 0, 1) := by decide +kernel
theorem dX11_caught_72 : decode cX11_caught 72 = .ok (.putfield 85, 3) := by decide +kernel
theorem dX11_caught_75 : decode cX11_caught 75 = .ok (.iload 4, 2) := by decide +kernel
theorem dX11_caught_77 : decode cX11_caught 77 = .ok (.ireturn, 1) := by decide +kernel
set_option maxRecDepth 20000 in
theorem ggX11_lots_X10_isPerson : GoodIn wsX11_lots wsX10_isPerson := goodIn_r _ [8, 9, 140, 141, 142, 143, 144, 145] (by decide +kernel) (by decide +kernel)
set_option maxRecDepth 20000 in
theorem gX11_lots_X10_isPerson : GoodIn wsX11_lots (wsV RX11 156 RX10 yX10_isPerson wsX10_isPerson) := goodIn_app (goodIn_of _ (by decide +kernel)) ggX11_lots_X10_isPerson
set_option maxRecDepth 20000 in
theorem ggX11_lots_X11_refuse : GoodIn wsX11_lots wsX11_refuse := goodIn_r _ [14, 15, 132, 133, 134, 135, 136, 137, 138, 139] (by decide +kernel) (by decide +kernel)
set_option maxRecDepth 20000 in
theorem gX11_lots_X11_refuse : GoodIn wsX11_lots (wsV RX11 36 RX11 yX11_refuse wsX11_refuse) := goodIn_app (goodIn_of _ (by decide +kernel)) ggX11_lots_X11_refuse
set_option maxRecDepth 20000 in
theorem ggX11_lots_X11_outside : GoodIn wsX11_lots wsX11_outside := goodIn_r _ [18] (by decide +kernel) (by decide +kernel)
set_option maxRecDepth 20000 in
theorem gX11_lots_X11_outside : GoodIn wsX11_lots (va_wsS RX11 143 yX11_outside wsX11_outside) := goodIn_app (goodIn_of _ (by decide +kernel)) ggX11_lots_X11_outside
set_option maxRecDepth 20000 in
theorem ggX11_lots_X10_lampAt : GoodIn wsX11_lots wsX10_lampAt := goodIn_r _ [22, 23, 24, 140, 141, 142, 143, 144, 145] (by decide +kernel) (by decide +kernel)
set_option maxRecDepth 20000 in
theorem gX11_lots_X10_lampAt : GoodIn wsX11_lots (wsV RX11 71 RX10 yX10_lampAt wsX10_lampAt) := goodIn_app (goodIn_of _ (by decide +kernel)) ggX11_lots_X10_lampAt
set_option maxRecDepth 20000 in
theorem ggX11_lots_X0_kind : GoodIn wsX11_lots wsX0_kind := goodIn_r _ [31] (by decide +kernel) (by decide +kernel)
set_option maxRecDepth 20000 in
theorem gX11_lots_X0_kind_u95X0 : GoodIn wsX11_lots (va_wsO RX11 95 RX0 "LampsThatRemember$Lamp" ⟨"LampsThatRemember$Lamp", "kind", "()I"⟩ yX0_kind wsX0_kind) := goodIn_app (goodIn_of _ (by decide +kernel)) ggX11_lots_X0_kind
set_option maxRecDepth 20000 in
theorem ggX11_lots_X1_kind : GoodIn wsX11_lots wsX1_kind := goodIn_r _ [36] (by decide +kernel) (by decide +kernel)
set_option maxRecDepth 20000 in
theorem gX11_lots_X1_kind_u95X1 : GoodIn wsX11_lots (va_wsO RX11 95 RX1 "LampsThatRemember$Lamp" ⟨"LampsThatRemember$Lamp", "kind", "()I"⟩ yX1_kind wsX1_kind) := goodIn_app (goodIn_of _ (by decide +kernel)) ggX11_lots_X1_kind
set_option maxRecDepth 20000 in
theorem ggX11_lots_X3_kind : GoodIn wsX11_lots wsX3_kind := goodIn_r _ [40] (by decide +kernel) (by decide +kernel)
set_option maxRecDepth 20000 in
theorem gX11_lots_X3_kind_u95X3 : GoodIn wsX11_lots (va_wsO RX11 95 RX3 "LampsThatRemember$Lamp" ⟨"LampsThatRemember$Lamp", "kind", "()I"⟩ yX3_kind wsX3_kind) := goodIn_app (goodIn_of _ (by decide +kernel)) ggX11_lots_X3_kind
set_option maxRecDepth 20000 in
theorem ggX11_lots_X4_kind : GoodIn wsX11_lots wsX4_kind := goodIn_r _ [44] (by decide +kernel) (by decide +kernel)
set_option maxRecDepth 20000 in
theorem gX11_lots_X4_kind_u95X4 : GoodIn wsX11_lots (va_wsO RX11 95 RX4 "LampsThatRemember$Lamp" ⟨"LampsThatRemember$Lamp", "kind", "()I"⟩ yX4_kind wsX4_kind) := goodIn_app (goodIn_of _ (by decide +kernel)) ggX11_lots_X4_kind
set_option maxRecDepth 20000 in
theorem ggX11_lots_X5_kind : GoodIn wsX11_lots wsX5_kind := goodIn_r _ [32] (by decide +kernel) (by decide +kernel)
set_option maxRecDepth 20000 in
theorem gX11_lots_X5_kind : GoodIn wsX11_lots (wsV RX11 95 RX5 yX5_kind wsX5_kind) := goodIn_app (goodIn_of _ (by decide +kernel)) ggX11_lots_X5_kind
set_option maxRecDepth 20000 in
theorem ggX11_lots_X7_kind : GoodIn wsX11_lots wsX7_kind := goodIn_r _ [52] (by decide +kernel) (by decide +kernel)
set_option maxRecDepth 20000 in
theorem gX11_lots_X7_kind_u95X7 : GoodIn wsX11_lots (va_wsO RX11 95 RX7 "LampsThatRemember$Lamp" ⟨"LampsThatRemember$Lamp", "kind", "()I"⟩ yX7_kind wsX7_kind) := goodIn_app (goodIn_of _ (by decide +kernel)) ggX11_lots_X7_kind
set_option maxRecDepth 20000 in
theorem ggX11_lots_X8_kind : GoodIn wsX11_lots wsX8_kind := goodIn_r _ [56] (by decide +kernel) (by decide +kernel)
set_option maxRecDepth 20000 in
theorem gX11_lots_X8_kind_u95X8 : GoodIn wsX11_lots (va_wsO RX11 95 RX8 "LampsThatRemember$Lamp" ⟨"LampsThatRemember$Lamp", "kind", "()I"⟩ yX8_kind wsX8_kind) := goodIn_app (goodIn_of _ (by decide +kernel)) ggX11_lots_X8_kind
set_option maxRecDepth 20000 in
theorem ggX11_lots_X5_glow : GoodIn wsX11_lots wsX5_glow := goodIn_r _ [61, 62, 63, 64, 65, 66, 48, 67, 68, 69, 70, 71, 35, 72, 73, 74, 75, 76, 77, 7, 78, 9, 79, 80, 81, 82, 83, 84, 85, 86, 87, 88, 89, 90, 91, 92, 93, 94, 95, 96, 97, 98, 99, 100, 101, 102, 103, 104, 146, 147, 148, 149, 150, 151, 152, 153, 154, 155, 156, 157, 158, 159, 160, 161, 162, 163, 164, 165, 166, 167, 168, 169, 170, 171, 172, 173, 174, 175, 176, 177, 178, 179, 180, 140, 141, 142, 143, 144, 145] (by decide +kernel) (by decide +kernel)
set_option maxRecDepth 20000 in
theorem gX11_lots_X5_glow_u108X0 : GoodIn wsX11_lots (va_wsU RX11 108 RX0 "LampsThatRemember$Lamp" ⟨"LampsThatRemember$Lamp", "glow", "(LLampsThatRemember$Town;)J"⟩ yX5_glow wsX5_glow) := goodIn_app (goodIn_of _ (by decide +kernel)) ggX11_lots_X5_glow
set_option maxRecDepth 20000 in
theorem gX11_lots_X5_glow_u108X1 : GoodIn wsX11_lots (va_wsU RX11 108 RX1 "LampsThatRemember$Lamp" ⟨"LampsThatRemember$Lamp", "glow", "(LLampsThatRemember$Town;)J"⟩ yX5_glow wsX5_glow) := goodIn_app (goodIn_of _ (by decide +kernel)) ggX11_lots_X5_glow
set_option maxRecDepth 20000 in
theorem gX11_lots_X5_glow_u108X3 : GoodIn wsX11_lots (va_wsU RX11 108 RX3 "LampsThatRemember$Lamp" ⟨"LampsThatRemember$Lamp", "glow", "(LLampsThatRemember$Town;)J"⟩ yX5_glow wsX5_glow) := goodIn_app (goodIn_of _ (by decide +kernel)) ggX11_lots_X5_glow
set_option maxRecDepth 20000 in
theorem gX11_lots_X5_glow_u108X4 : GoodIn wsX11_lots (va_wsU RX11 108 RX4 "LampsThatRemember$Lamp" ⟨"LampsThatRemember$Lamp", "glow", "(LLampsThatRemember$Town;)J"⟩ yX5_glow wsX5_glow) := goodIn_app (goodIn_of _ (by decide +kernel)) ggX11_lots_X5_glow
set_option maxRecDepth 20000 in
theorem gX11_lots_X5_glow : GoodIn wsX11_lots (wsV RX11 108 RX5 yX5_glow wsX5_glow) := goodIn_app (goodIn_of _ (by decide +kernel)) ggX11_lots_X5_glow
set_option maxRecDepth 20000 in
theorem gX11_lots_X5_glow_u108X7 : GoodIn wsX11_lots (va_wsU RX11 108 RX7 "LampsThatRemember$Lamp" ⟨"LampsThatRemember$Lamp", "glow", "(LLampsThatRemember$Town;)J"⟩ yX5_glow wsX5_glow) := goodIn_app (goodIn_of _ (by decide +kernel)) ggX11_lots_X5_glow
set_option maxRecDepth 20000 in
theorem gX11_lots_X5_glow_u108X8 : GoodIn wsX11_lots (va_wsU RX11 108 RX8 "LampsThatRemember$Lamp" ⟨"LampsThatRemember$Lamp", "glow", "(LLampsThatRemember$Town;)J"⟩ yX5_glow wsX5_glow) := goodIn_app (goodIn_of _ (by decide +kernel)) ggX11_lots_X5_glow
set_option maxRecDepth 20000 in
theorem ggX11_lots_X10_cellOf : GoodIn wsX11_lots wsX10_cellOf := goodIn_r _ [78, 9, 79, 140, 141, 142, 143, 144, 145] (by decide +kernel) (by decide +kernel)
set_option maxRecDepth 20000 in
theorem gX11_lots_X10_cellOf : GoodIn wsX11_lots (wsV RX11 159 RX10 yX10_cellOf wsX10_cellOf) := goodIn_app (goodIn_of _ (by decide +kernel)) ggX11_lots_X10_cellOf
set_option maxRecDepth 20000 in
theorem ggX11_lots_X11_minutesIn : GoodIn wsX11_lots wsX11_minutesIn := goodIn_r _ [116, 117, 118, 119, 1, 120, 121, 95, 122, 123, 124, 97, 98, 99, 125, 87, 88, 7, 89, 90, 91, 92, 126, 127, 128, 129, 130, 13, 131, 132, 133, 134, 135, 136, 137, 138, 139, 140, 141, 142, 143, 144, 145] (by decide +kernel) (by decide +kernel)
set_option maxRecDepth 20000 in
theorem gX11_lots_X11_minutesIn : GoodIn wsX11_lots (wsV RX11 243 RX11 yX11_minutesIn wsX11_minutesIn) := goodIn_app (goodIn_of _ (by decide +kernel)) ggX11_lots_X11_minutesIn
theorem dX11_lots_0 : decode cX11_lots 0 = .ok (.aload_n 0, 1) := by decide +kernel
theorem dX11_lots_1 : decode cX11_lots 1 = .ok (.getfield 30, 3) := by decide +kernel
theorem dX11_lots_4 : decode cX11_lots 4 = .ok (.iload_n 1, 1) := by decide +kernel
theorem dX11_lots_5 : decode cX11_lots 5 = .ok (.invokevirtual 156, 3) := by decide +kernel
theorem dX11_lots_8 : decode cX11_lots 8 = .ok (.ifCond .ne 9, 3) := by decide +kernel
theorem dX11_lots_11 : decode cX11_lots 11 = .ok (.aload_n 0, 1) := by decide +kernel
theorem dX11_lots_12 : decode cX11_lots 12 = .ok (.iconst (-1), 1) := by decide +kernel
theorem dX11_lots_13 : decode cX11_lots 13 = .ok (.invokevirtual 36, 3) := by decide +kernel
theorem dX11_lots_16 : decode cX11_lots 16 = .ok (.ireturn, 1) := by decide +kernel
theorem dX11_lots_17 : decode cX11_lots 17 = .ok (.iload_n 2, 1) := by decide +kernel
theorem dX11_lots_18 : decode cX11_lots 18 = .ok (.iconst 1, 1) := by decide +kernel
theorem dX11_lots_19 : decode cX11_lots 19 = .ok (.bipush 20, 2) := by decide +kernel
theorem dX11_lots_21 : decode cX11_lots 21 = .ok (.invokestatic 143, 3) := by decide +kernel
theorem dX11_lots_24 : decode cX11_lots 24 = .ok (.istore 4, 2) := by decide +kernel
theorem dX11_lots_26 : decode cX11_lots 26 = .ok (.iload 4, 2) := by decide +kernel
theorem dX11_lots_28 : decode cX11_lots 28 = .ok (.ifCond .ge 10, 3) := by decide +kernel
theorem dX11_lots_31 : decode cX11_lots 31 = .ok (.aload_n 0, 1) := by decide +kernel
theorem dX11_lots_32 : decode cX11_lots 32 = .ok (.iload 4, 2) := by decide +kernel
theorem dX11_lots_34 : decode cX11_lots 34 = .ok (.invokevirtual 36, 3) := by decide +kernel
theorem dX11_lots_37 : decode cX11_lots 37 = .ok (.ireturn, 1) := by decide +kernel
theorem dX11_lots_38 : decode cX11_lots 38 = .ok (.iconst 0, 1) := by decide +kernel
theorem dX11_lots_39 : decode cX11_lots 39 = .ok (.istore 5, 2) := by decide +kernel
theorem dX11_lots_41 : decode cX11_lots 41 = .ok (.iconst 0, 1) := by decide +kernel
theorem dX11_lots_42 : decode cX11_lots 42 = .ok (.istore 6, 2) := by decide +kernel
theorem dX11_lots_44 : decode cX11_lots 44 = .ok (.iload 6, 2) := by decide +kernel
theorem dX11_lots_46 : decode cX11_lots 46 = .ok (.aload_n 0, 1) := by decide +kernel
theorem dX11_lots_47 : decode cX11_lots 47 = .ok (.getfield 30, 3) := by decide +kernel
theorem dX11_lots_50 : decode cX11_lots 50 = .ok (.getfield 179, 3) := by decide +kernel
theorem dX11_lots_53 : decode cX11_lots 53 = .ok (.if_icmp .ge 70, 3) := by decide +kernel
theorem dX11_lots_56 : decode cX11_lots 56 = .ok (.aload_n 0, 1) := by decide +kernel
theorem dX11_lots_57 : decode cX11_lots 57 = .ok (.getfield 30, 3) := by decide +kernel
theorem dX11_lots_60 : decode cX11_lots 60 = .ok (.iload 6, 2) := by decide +kernel
theorem dX11_lots_62 : decode cX11_lots 62 = .ok (.invokevirtual 71, 3) := by decide +kernel
theorem dX11_lots_65 : decode cX11_lots 65 = .ok (.astore 7, 2) := by decide +kernel
theorem dX11_lots_67 : decode cX11_lots 67 = .ok (.aload 7, 2) := by decide +kernel
theorem dX11_lots_69 : decode cX11_lots 69 = .ok (.ifnull 48, 3) := by decide +kernel
theorem dX11_lots_72 : decode cX11_lots 72 = .ok (.aload 7, 2) := by decide +kernel
theorem dX11_lots_74 : decode cX11_lots 74 = .ok (.getfield 75, 3) := by decide +kernel
theorem dX11_lots_77 : decode cX11_lots 77 = .ok (.ifCond .eq 40, 3) := by decide +kernel
theorem dX11_lots_80 : decode cX11_lots 80 = .ok (.aload 7, 2) := by decide +kernel
theorem dX11_lots_82 : decode cX11_lots 82 = .ok (.invokevirtual 95, 3) := by decide +kernel
theorem dX11_lots_85 : decode cX11_lots 85 = .ok (.iconst 2, 1) := by decide +kernel
theorem dX11_lots_86 : decode cX11_lots 86 = .ok (.if_icmp .eq 31, 3) := by decide +kernel
theorem dX11_lots_89 : decode cX11_lots 89 = .ok (.iload 5, 2) := by decide +kernel
theorem dX11_lots_91 : decode cX11_lots 91 = .ok (.aload_n 0, 1) := by decide +kernel
theorem dX11_lots_92 : decode cX11_lots 92 = .ok (.aload 7, 2) := by decide +kernel
theorem dX11_lots_94 : decode cX11_lots 94 = .ok (.aload_n 0, 1) := by decide +kernel
theorem dX11_lots_95 : decode cX11_lots 95 = .ok (.getfield 30, 3) := by decide +kernel
theorem dX11_lots_98 : decode cX11_lots 98 = .ok (.invokevirtual 108, 3) := by decide +kernel
theorem dX11_lots_101 : decode cX11_lots 101 = .ok (.aload_n 0, 1) := by decide +kernel
theorem dX11_lots_102 : decode cX11_lots 102 = .ok (.getfield 30, 3) := by decide +kernel
theorem dX11_lots_105 : decode cX11_lots 105 = .ok (.iload_n 1, 1) := by decide +kernel
theorem dX11_lots_106 : decode cX11_lots 106 = .ok (.invokevirtual 159, 3) := by decide +kernel
theorem dX11_lots_109 : decode cX11_lots 109 = .ok (.iload_n 2, 1) := by decide +kernel
theorem dX11_lots_110 : decode cX11_lots 110 = .ok (.iload_n 3, 1) := by decide +kernel
theorem dX11_lots_111 : decode cX11_lots 111 = .ok (.invokevirtual 243, 3) := by decide +kernel
theorem dX11_lots_114 : decode cX11_lots 114 = .ok (.iadd, 1) := by decide +kernel
theorem dX11_lots_115 : decode cX11_lots 115 = .ok (.istore 5, 2) := by decide +kernel
theorem dX11_lots_117 : decode cX11_lots 117 = .ok (.iinc 6 1, 3) := by decide +kernel
theorem dX11_lots_120 : decode cX11_lots 120 = .ok (.goto (-76), 3) := by decide +kernel
theorem dX11_lots_123 : decode cX11_lots 123 = .ok (.iload 5, 2) := by decide +kernel
theorem dX11_lots_125 : decode cX11_lots 125 = .ok (.ireturn, 1) := by decide +kernel
set_option maxRecDepth 20000 in
theorem ggX11_minutesIn_X2_towards : GoodIn wsX11_minutesIn wsX2_towards := goodIn_r _ [8, 9, 10, 11, 12, 7, 13] (by decide +kernel) (by decide +kernel)
set_option maxRecDepth 20000 in
theorem gX11_minutesIn_X2_towards : GoodIn wsX11_minutesIn (va_wsS RX11 250 yX2_towards wsX2_towards) := goodIn_app (goodIn_of _ (by decide +kernel)) ggX11_minutesIn_X2_towards
set_option maxRecDepth 20000 in
theorem ggX11_minutesIn_X10_free : GoodIn wsX11_minutesIn wsX10_free := goodIn_r _ [18, 19, 20, 21, 37, 38, 39, 40, 41, 42] (by decide +kernel) (by decide +kernel)
set_option maxRecDepth 20000 in
theorem gX11_minutesIn_X10_free : GoodIn wsX11_minutesIn (wsV RX11 162 RX10 yX10_free wsX10_free) := goodIn_app (goodIn_of _ (by decide +kernel)) ggX11_minutesIn_X10_free
set_option maxRecDepth 20000 in
theorem ggX11_minutesIn_X2_has : GoodIn wsX11_minutesIn wsX2_has := goodIn_r _ [24, 11, 12, 7, 13] (by decide +kernel) (by decide +kernel)
set_option maxRecDepth 20000 in
theorem gX11_minutesIn_X2_has : GoodIn wsX11_minutesIn (va_wsS RX11 122 yX2_has wsX2_has) := goodIn_app (goodIn_of _ (by decide +kernel)) ggX11_minutesIn_X2_has
set_option maxRecDepth 20000 in
theorem ggX11_minutesIn_X11_yes : GoodIn wsX11_minutesIn wsX11_yes := goodIn_r _ [28] (by decide +kernel) (by decide +kernel)
set_option maxRecDepth 20000 in
theorem gX11_minutesIn_X11_yes : GoodIn wsX11_minutesIn (va_wsS RX11 81 yX11_yes wsX11_yes) := goodIn_app (goodIn_of _ (by decide +kernel)) ggX11_minutesIn_X11_yes
theorem dX11_minutesIn_0 : decode cX11_minutesIn 0 = .ok (.iconst 0, 1) := by decide +kernel
theorem dX11_minutesIn_1 : decode cX11_minutesIn 1 = .ok (.istore 6, 2) := by decide +kernel
theorem dX11_minutesIn_3 : decode cX11_minutesIn 3 = .ok (.iload 5, 2) := by decide +kernel
theorem dX11_minutesIn_5 : decode cX11_minutesIn 5 = .ok (.istore 7, 2) := by decide +kernel
theorem dX11_minutesIn_7 : decode cX11_minutesIn 7 = .ok (.iconst 0, 1) := by decide +kernel
theorem dX11_minutesIn_8 : decode cX11_minutesIn 8 = .ok (.istore 8, 2) := by decide +kernel
theorem dX11_minutesIn_10 : decode cX11_minutesIn 10 = .ok (.iload 8, 2) := by decide +kernel
theorem dX11_minutesIn_12 : decode cX11_minutesIn 12 = .ok (.iload 4, 2) := by decide +kernel
theorem dX11_minutesIn_14 : decode cX11_minutesIn 14 = .ok (.if_icmp .ge 94, 3) := by decide +kernel
theorem dX11_minutesIn_17 : decode cX11_minutesIn 17 = .ok (.iload_n 3, 1) := by decide +kernel
theorem dX11_minutesIn_18 : decode cX11_minutesIn 18 = .ok (.istore 9, 2) := by decide +kernel
theorem dX11_minutesIn_20 : decode cX11_minutesIn 20 = .ok (.iconst 0, 1) := by decide +kernel
theorem dX11_minutesIn_21 : decode cX11_minutesIn 21 = .ok (.istore 10, 2) := by decide +kernel
theorem dX11_minutesIn_23 : decode cX11_minutesIn 23 = .ok (.iload 10, 2) := by decide +kernel
theorem dX11_minutesIn_25 : decode cX11_minutesIn 25 = .ok (.bipush 12, 2) := by decide +kernel
theorem dX11_minutesIn_27 : decode cX11_minutesIn 27 = .ok (.if_icmp .ge 75, 3) := by decide +kernel
theorem dX11_minutesIn_30 : decode cX11_minutesIn 30 = .ok (.iload 7, 2) := by decide +kernel
theorem dX11_minutesIn_32 : decode cX11_minutesIn 32 = .ok (.ldc 247, 2) := by decide +kernel
theorem dX11_minutesIn_34 : decode cX11_minutesIn 34 = .ok (.imul, 1) := by decide +kernel
theorem dX11_minutesIn_35 : decode cX11_minutesIn 35 = .ok (.ldc 248, 2) := by decide +kernel
theorem dX11_minutesIn_37 : decode cX11_minutesIn 37 = .ok (.iadd, 1) := by decide +kernel
theorem dX11_minutesIn_38 : decode cX11_minutesIn 38 = .ok (.istore 7, 2) := by decide +kernel
theorem dX11_minutesIn_40 : decode cX11_minutesIn 40 = .ok (.iload 9, 2) := by decide +kernel
theorem dX11_minutesIn_42 : decode cX11_minutesIn 42 = .ok (.iload 7, 2) := by decide +kernel
theorem dX11_minutesIn_44 : decode cX11_minutesIn 44 = .ok (.ldc 249, 2) := by decide +kernel
theorem dX11_minutesIn_46 : decode cX11_minutesIn 46 = .ok (.iand, 1) := by decide +kernel
theorem dX11_minutesIn_47 : decode cX11_minutesIn 47 = .ok (.sipush 256, 3) := by decide +kernel
theorem dX11_minutesIn_50 : decode cX11_minutesIn 50 = .ok (.idiv, 1) := by decide +kernel
theorem dX11_minutesIn_51 : decode cX11_minutesIn 51 = .ok (.iconst 4, 1) := by decide +kernel
theorem dX11_minutesIn_52 : decode cX11_minutesIn 52 = .ok (.irem, 1) := by decide +kernel
theorem dX11_minutesIn_53 : decode cX11_minutesIn 53 = .ok (.invokestatic 250, 3) := by decide +kernel
theorem dX11_minutesIn_56 : decode cX11_minutesIn 56 = .ok (.istore 11, 2) := by decide +kernel
theorem dX11_minutesIn_58 : decode cX11_minutesIn 58 = .ok (.aload_n 0, 1) := by decide +kernel
theorem dX11_minutesIn_59 : decode cX11_minutesIn 59 = .ok (.getfield 30, 3) := by decide +kernel
theorem dX11_minutesIn_62 : decode cX11_minutesIn 62 = .ok (.invokevirtual 162, 3) := by decide +kernel
theorem dX11_minutesIn_65 : decode cX11_minutesIn 65 = .ok (.iload 11, 2) := by decide +kernel
theorem dX11_minutesIn_67 : decode cX11_minutesIn 67 = .ok (.invokestatic 122, 3) := by decide +kernel
theorem dX11_minutesIn_70 : decode cX11_minutesIn 70 = .ok (.ifCond .eq 8, 3) := by decide +kernel
theorem dX11_minutesIn_73 : decode cX11_minutesIn 73 = .ok (.iload 11, 2) := by decide +kernel
theorem dX11_minutesIn_75 : decode cX11_minutesIn 75 = .ok (.goto 5, 3) := by decide +kernel
theorem dX11_minutesIn_78 : decode cX11_minutesIn 78 = .ok (.iload 9, 2) := by decide +kernel
theorem dX11_minutesIn_80 : decode cX11_minutesIn 80 = .ok (.istore 9, 2) := by decide +kernel
theorem dX11_minutesIn_82 : decode cX11_minutesIn 82 = .ok (.iload 6, 2) := by decide +kernel
theorem dX11_minutesIn_84 : decode cX11_minutesIn 84 = .ok (.lload_n 1, 1) := by decide +kernel
theorem dX11_minutesIn_85 : decode cX11_minutesIn 85 = .ok (.iload 9, 2) := by decide +kernel
theorem dX11_minutesIn_87 : decode cX11_minutesIn 87 = .ok (.invokestatic 122, 3) := by decide +kernel
theorem dX11_minutesIn_90 : decode cX11_minutesIn 90 = .ok (.invokestatic 81, 3) := by decide +kernel
theorem dX11_minutesIn_93 : decode cX11_minutesIn 93 = .ok (.iadd, 1) := by decide +kernel
theorem dX11_minutesIn_94 : decode cX11_minutesIn 94 = .ok (.istore 6, 2) := by decide +kernel
theorem dX11_minutesIn_96 : decode cX11_minutesIn 96 = .ok (.iinc 10 1, 3) := by decide +kernel
theorem dX11_minutesIn_99 : decode cX11_minutesIn 99 = .ok (.goto (-76), 3) := by decide +kernel
theorem dX11_minutesIn_102 : decode cX11_minutesIn 102 = .ok (.iinc 8 1, 3) := by decide +kernel
theorem dX11_minutesIn_105 : decode cX11_minutesIn 105 = .ok (.goto (-95), 3) := by decide +kernel
theorem dX11_minutesIn_108 : decode cX11_minutesIn 108 = .ok (.iload 6, 2) := by decide +kernel
theorem dX11_minutesIn_110 : decode cX11_minutesIn 110 = .ok (.ireturn, 1) := by decide +kernel
set_option maxRecDepth 20000 in
theorem ggX11_count_X2_howMany : GoodIn wsX11_count wsX2_howMany := goodIn_r _ [13, 14, 15, 16, 17, 18, 19, 20, 21] (by decide +kernel) (by decide +kernel)
set_option maxRecDepth 20000 in
theorem gX11_count_X2_howMany : GoodIn wsX11_count (va_wsS RX11 112 yX2_howMany wsX2_howMany) := goodIn_app (goodIn_of _ (by decide +kernel)) ggX11_count_X2_howMany
set_option maxRecDepth 20000 in
theorem ggX11_count_X10_allScenes : GoodIn wsX11_count wsX10_allScenes := goodIn_r _ [26, 27, 28, 29, 30, 31, 25, 32, 33, 113, 114, 115, 116, 117, 118, 121, 122, 123, 124, 125, 126, 127, 128, 129, 130, 131, 132, 133, 134, 135, 136, 137, 138, 139, 140, 141, 142, 143, 144, 145, 146, 147, 148, 149, 150, 151, 152, 153, 154, 155] (by decide +kernel) (by decide +kernel)
set_option maxRecDepth 20000 in
theorem gX11_count_X10_allScenes : GoodIn wsX11_count (wsV RX11 260 RX10 yX10_allScenes wsX10_allScenes) := goodIn_app (goodIn_of _ (by decide +kernel)) ggX11_count_X10_allScenes
set_option maxRecDepth 20000 in
theorem ggX11_count_X10_litBut : GoodIn wsX11_count wsX10_litBut := goodIn_r _ [37, 38, 39, 40, 25, 41, 27, 42, 29, 30, 31, 32, 33, 43, 44, 45, 46, 47, 48, 49, 50, 51, 52, 53, 54, 55, 56, 57, 58, 59, 60, 61, 62, 63, 64, 65, 66, 67, 68, 69, 70, 71, 72, 73, 74, 75, 76, 77, 78, 79, 80, 81, 82, 83, 84, 85, 86, 87, 12, 88, 89, 90, 91, 92, 93, 94, 95, 96, 97, 98, 99, 100, 101, 102, 103, 113, 114, 115, 116, 117, 118, 121, 122, 123, 124, 125, 126, 127, 128, 129, 130, 131, 132, 133, 134, 135, 136, 137, 138, 139, 140, 141, 142, 143, 144, 145, 146, 147, 148, 149, 150, 151, 152, 153, 154, 155] (by decide +kernel) (by decide +kernel)
set_option maxRecDepth 20000 in
theorem gX11_count_X10_litBut : GoodIn wsX11_count (wsV RX11 170 RX10 yX10_litBut wsX10_litBut) := goodIn_app (goodIn_of _ (by decide +kernel)) ggX11_count_X10_litBut
set_option maxRecDepth 20000 in
theorem ggX11_count_X10_litLamps : GoodIn wsX11_count wsX10_litLamps := goodIn_r _ [41, 27, 42, 29, 30, 31, 25, 32, 33, 113, 114, 115, 116, 117, 118, 121, 122, 123, 124, 125, 126, 127, 128, 129, 130, 131, 132, 133, 134, 135, 136, 137, 138, 139, 140, 141, 142, 143, 144, 145, 146, 147, 148, 149, 150, 151, 152, 153, 154, 155] (by decide +kernel) (by decide +kernel)
set_option maxRecDepth 20000 in
theorem gX11_count_X10_litLamps : GoodIn wsX11_count (wsV RX11 263 RX10 yX10_litLamps wsX10_litLamps) := goodIn_app (goodIn_of _ (by decide +kernel)) ggX11_count_X10_litLamps
theorem dX11_count_0 : decode cX11_count 0 = .ok (.iload_n 1, 1) := by decide +kernel
theorem dX11_count_1 : decode cX11_count 1 = .ok (.tableswitch 127 0 8 #[51, 59, 67, 78, 86, 94, 106, 114, 119], 51) := by decide +kernel
theorem dX11_count_52 : decode cX11_count 52 = .ok (.aload_n 0, 1) := by decide +kernel
theorem dX11_count_53 : decode cX11_count 53 = .ok (.getfield 30, 3) := by decide +kernel
theorem dX11_count_56 : decode cX11_count 56 = .ok (.getfield 179, 3) := by decide +kernel
theorem dX11_count_59 : decode cX11_count 59 = .ok (.ireturn, 1) := by decide +kernel
theorem dX11_count_60 : decode cX11_count 60 = .ok (.aload_n 0, 1) := by decide +kernel
theorem dX11_count_61 : decode cX11_count 61 = .ok (.getfield 30, 3) := by decide +kernel
theorem dX11_count_64 : decode cX11_count 64 = .ok (.getfield 253, 3) := by decide +kernel
theorem dX11_count_67 : decode cX11_count 67 = .ok (.ireturn, 1) := by decide +kernel
theorem dX11_count_68 : decode cX11_count 68 = .ok (.aload_n 0, 1) := by decide +kernel
theorem dX11_count_69 : decode cX11_count 69 = .ok (.getfield 30, 3) := by decide +kernel
theorem dX11_count_72 : decode cX11_count 72 = .ok (.getfield 256, 3) := by decide +kernel
theorem dX11_count_75 : decode cX11_count 75 = .ok (.invokestatic 112, 3) := by decide +kernel
theorem dX11_count_78 : decode cX11_count 78 = .ok (.ireturn, 1) := by decide +kernel
theorem dX11_count_79 : decode cX11_count 79 = .ok (.aload_n 0, 1) := by decide +kernel
theorem dX11_count_80 : decode cX11_count 80 = .ok (.getfield 30, 3) := by decide +kernel
theorem dX11_count_83 : decode cX11_count 83 = .ok (.getfield 92, 3) := by decide +kernel
theorem dX11_count_86 : decode cX11_count 86 = .ok (.ireturn, 1) := by decide +kernel
theorem dX11_count_87 : decode cX11_count 87 = .ok (.aload_n 0, 1) := by decide +kernel
theorem dX11_count_88 : decode cX11_count 88 = .ok (.getfield 30, 3) := by decide +kernel
theorem dX11_count_91 : decode cX11_count 91 = .ok (.invokevirtual 260, 3) := by decide +kernel
theorem dX11_count_94 : decode cX11_count 94 = .ok (.ireturn, 1) := by decide +kernel
theorem dX11_count_95 : decode cX11_count 95 = .ok (.aload_n 0, 1) := by decide +kernel
theorem dX11_count_96 : decode cX11_count 96 = .ok (.getfield 30, 3) := by decide +kernel
theorem dX11_count_99 : decode cX11_count 99 = .ok (.iconst 0, 1) := by decide +kernel
theorem dX11_count_100 : decode cX11_count 100 = .ok (.invokevirtual 170, 3) := by decide +kernel
theorem dX11_count_103 : decode cX11_count 103 = .ok (.invokestatic 112, 3) := by decide +kernel
theorem dX11_count_106 : decode cX11_count 106 = .ok (.ireturn, 1) := by decide +kernel
theorem dX11_count_107 : decode cX11_count 107 = .ok (.aload_n 0, 1) := by decide +kernel
theorem dX11_count_108 : decode cX11_count 108 = .ok (.getfield 30, 3) := by decide +kernel
theorem dX11_count_111 : decode cX11_count 111 = .ok (.invokevirtual 263, 3) := by decide +kernel
theorem dX11_count_114 : decode cX11_count 114 = .ok (.ireturn, 1) := by decide +kernel
theorem dX11_count_115 : decode cX11_count 115 = .ok (.aload_n 0, 1) := by decide +kernel
theorem dX11_count_116 : decode cX11_count 116 = .ok (.getfield 85, 3) := by decide +kernel
theorem dX11_count_119 : decode cX11_count 119 = .ok (.ireturn, 1) := by decide +kernel
theorem dX11_count_120 : decode cX11_count 120 = .ok (.aload_n 0, 1) := by decide +kernel
theorem dX11_count_121 : decode cX11_count 121 = .ok (.getfield 10, 3) := by decide +kernel
theorem dX11_count_124 : decode cX11_count 124 = .ok (.getfield 266, 3) := by decide +kernel
theorem dX11_count_127 : decode cX11_count 127 = .ok (.ireturn, 1) := by decide +kernel
theorem dX11_count_128 : decode cX11_count 128 = .ok (.iload_n 1, 1) := by decide +kernel
theorem dX11_count_129 : decode cX11_count 129 = .ok (.bipush 11, 2) := by decide +kernel
theorem dX11_count_131 : decode cX11_count 131 = .ok (.if_icmp .lt 9, 3) := by decide +kernel
theorem dX11_count_134 : decode cX11_count 134 = .ok (.iload_n 1, 1) := by decide +kernel
theorem dX11_count_135 : decode cX11_count 135 = .ok (.bipush 16, 2) := by decide +kernel
theorem dX11_count_137 : decode cX11_count 137 = .ok (.if_icmp .le 8, 3) := by decide +kernel
theorem dX11_count_140 : decode cX11_count 140 = .ok (.bipush (-9), 2) := by decide +kernel
theorem dX11_count_142 : decode cX11_count 142 = .ok (.goto 12, 3) := by decide +kernel
theorem dX11_count_145 : decode cX11_count 145 = .ok (.aload_n 0, 1) := by decide +kernel
theorem dX11_count_146 : decode cX11_count 146 = .ok (.getfield 20, 3) := by decide +kernel
theorem dX11_count_149 : decode cX11_count 149 = .ok (.iload_n 1, 1) := by decide +kernel
theorem dX11_count_150 : decode cX11_count 150 = .ok (.bipush 10, 2) := by decide +kernel
theorem dX11_count_152 : decode cX11_count 152 = .ok (.isub, 1) := by decide +kernel
theorem dX11_count_153 : decode cX11_count 153 = .ok (.iaload, 1) := by decide +kernel
theorem dX11_count_154 : decode cX11_count 154 = .ok (.ireturn, 1) := by decide +kernel
theorem dX11_refuse_0 : decode cX11_refuse 0 = .ok (.iload_n 1, 1) := by decide +kernel
theorem dX11_refuse_1 : decode cX11_refuse 1 = .ok (.ifCond .ge 24, 3) := by decide +kernel
theorem dX11_refuse_4 : decode cX11_refuse 4 = .ok (.iload_n 1, 1) := by decide +kernel
theorem dX11_refuse_5 : decode cX11_refuse 5 = .ok (.aload_n 0, 1) := by decide +kernel
theorem dX11_refuse_6 : decode cX11_refuse 6 = .ok (.getfield 20, 3) := by decide +kernel
theorem dX11_refuse_9 : decode cX11_refuse 9 = .ok (.arraylength, 1) := by decide +kernel
theorem dX11_refuse_10 : decode cX11_refuse 10 = .ok (.ineg, 1) := by decide +kernel
theorem dX11_refuse_11 : decode cX11_refuse 11 = .ok (.if_icmp .le 14, 3) := by decide +kernel
theorem dX11_refuse_14 : decode cX11_refuse 14 = .ok (.aload_n 0, 1) := by decide +kernel
theorem dX11_refuse_15 : decode cX11_refuse 15 = .ok (.getfield 20, 3) := by decide +kernel
theorem dX11_refuse_18 : decode cX11_refuse 18 = .ok (.iload_n 1, 1) := by decide +kernel
theorem dX11_refuse_19 : decode cX11_refuse 19 = .ok (.ineg, 1) := by decide +kernel
theorem dX11_refuse_20 : decode cX11_refuse 20 = .ok (.dup2, 1) := by decide +kernel
theorem dX11_refuse_21 : decode cX11_refuse 21 = .ok (.iaload, 1) := by decide +kernel
theorem dX11_refuse_22 : decode cX11_refuse 22 = .ok (.iconst 1, 1) := by decide +kernel
theorem dX11_refuse_23 : decode cX11_refuse 23 = .ok (.iadd, 1) := by decide +kernel
theorem dX11_refuse_24 : decode cX11_refuse 24 = .ok (.iastore, 1) := by decide +kernel
theorem dX11_refuse_25 : decode cX11_refuse 25 = .ok (.iload_n 1, 1) := by decide +kernel
theorem dX11_refuse_26 : decode cX11_refuse 26 = .ok (.ireturn, 1) := by decide +kernel
set_option maxRecDepth 20000 in
theorem ggX11_counted_X11_refuse : GoodIn wsX11_counted wsX11_refuse := goodIn_r _ [5, 6, 7, 8, 9, 10, 11, 12, 13, 14] (by decide +kernel) (by decide +kernel)
set_option maxRecDepth 20000 in
theorem gX11_counted_X11_refuse : GoodIn wsX11_counted (wsV RX11 36 RX11 yX11_refuse wsX11_refuse) := goodIn_app (goodIn_of _ (by decide +kernel)) ggX11_counted_X11_refuse
theorem dX11_counted_0 : decode cX11_counted 0 = .ok (.iload_n 1, 1) := by decide +kernel
theorem dX11_counted_1 : decode cX11_counted 1 = .ok (.ifCond .ge 11, 3) := by decide +kernel
theorem dX11_counted_4 : decode cX11_counted 4 = .ok (.aload_n 0, 1) := by decide +kernel
theorem dX11_counted_5 : decode cX11_counted 5 = .ok (.iload_n 1, 1) := by decide +kernel
theorem dX11_counted_6 : decode cX11_counted 6 = .ok (.invokevirtual 36, 3) := by decide +kernel
theorem dX11_counted_9 : decode cX11_counted 9 = .ok (.goto 4, 3) := by decide +kernel
theorem dX11_counted_12 : decode cX11_counted 12 = .ok (.iload_n 1, 1) := by decide +kernel
theorem dX11_counted_13 : decode cX11_counted 13 = .ok (.ireturn, 1) := by decide +kernel
set_option maxRecDepth 20000 in
theorem ggX11_noPersonAt_X10_isPerson : GoodIn wsX11_noPersonAt wsX10_isPerson := goodIn_r _ [6, 7, 20, 21, 22, 23, 24, 25] (by decide +kernel) (by decide +kernel)
set_option maxRecDepth 20000 in
theorem gX11_noPersonAt_X10_isPerson : GoodIn wsX11_noPersonAt (wsV RX11 156 RX10 yX10_isPerson wsX10_isPerson) := goodIn_app (goodIn_of _ (by decide +kernel)) ggX11_noPersonAt_X10_isPerson
set_option maxRecDepth 20000 in
theorem ggX11_noPersonAt_X11_outside : GoodIn wsX11_noPersonAt wsX11_outside := goodIn_r _ [11] (by decide +kernel) (by decide +kernel)
set_option maxRecDepth 20000 in
theorem gX11_noPersonAt_X11_outside : GoodIn wsX11_noPersonAt (va_wsS RX11 143 yX11_outside wsX11_outside) := goodIn_app (goodIn_of _ (by decide +kernel)) ggX11_noPersonAt_X11_outside
theorem dX11_noPersonAt_0 : decode cX11_noPersonAt 0 = .ok (.aload_n 0, 1) := by decide +kernel
theorem dX11_noPersonAt_1 : decode cX11_noPersonAt 1 = .ok (.getfield 30, 3) := by decide +kernel
theorem dX11_noPersonAt_4 : decode cX11_noPersonAt 4 = .ok (.iload_n 1, 1) := by decide +kernel
theorem dX11_noPersonAt_5 : decode cX11_noPersonAt 5 = .ok (.invokevirtual 156, 3) := by decide +kernel
theorem dX11_noPersonAt_8 : decode cX11_noPersonAt 8 = .ok (.ifCond .eq 14, 3) := by decide +kernel
theorem dX11_noPersonAt_11 : decode cX11_noPersonAt 11 = .ok (.iload_n 2, 1) := by decide +kernel
theorem dX11_noPersonAt_12 : decode cX11_noPersonAt 12 = .ok (.iconst 0, 1) := by decide +kernel
theorem dX11_noPersonAt_13 : decode cX11_noPersonAt 13 = .ok (.sipush 9999, 3) := by decide +kernel
theorem dX11_noPersonAt_16 : decode cX11_noPersonAt 16 = .ok (.invokestatic 143, 3) := by decide +kernel
theorem dX11_noPersonAt_19 : decode cX11_noPersonAt 19 = .ok (.goto 4, 3) := by decide +kernel
theorem dX11_noPersonAt_22 : decode cX11_noPersonAt 22 = .ok (.iconst (-1), 1) := by decide +kernel
theorem dX11_noPersonAt_23 : decode cX11_noPersonAt 23 = .ok (.ireturn, 1) := by decide +kernel
theorem dX11_outside_0 : decode cX11_outside 0 = .ok (.iload_n 0, 1) := by decide +kernel
theorem dX11_outside_1 : decode cX11_outside 1 = .ok (.iload_n 1, 1) := by decide +kernel
theorem dX11_outside_2 : decode cX11_outside 2 = .ok (.if_icmp .ge 6, 3) := by decide +kernel
theorem dX11_outside_5 : decode cX11_outside 5 = .ok (.bipush (-4), 2) := by decide +kernel
theorem dX11_outside_7 : decode cX11_outside 7 = .ok (.ireturn, 1) := by decide +kernel
theorem dX11_outside_8 : decode cX11_outside 8 = .ok (.iload_n 0, 1) := by decide +kernel
theorem dX11_outside_9 : decode cX11_outside 9 = .ok (.iload_n 2, 1) := by decide +kernel
theorem dX11_outside_10 : decode cX11_outside 10 = .ok (.if_icmp .le 8, 3) := by decide +kernel
theorem dX11_outside_13 : decode cX11_outside 13 = .ok (.bipush (-6), 2) := by decide +kernel
theorem dX11_outside_15 : decode cX11_outside 15 = .ok (.goto 4, 3) := by decide +kernel
theorem dX11_outside_18 : decode cX11_outside 18 = .ok (.iconst 0, 1) := by decide +kernel
theorem dX11_outside_19 : decode cX11_outside 19 = .ok (.ireturn, 1) := by decide +kernel
theorem dX11_inRowAt_0 : decode cX11_inRowAt 0 = .ok (.iload_n 1, 1) := by decide +kernel
theorem dX11_inRowAt_1 : decode cX11_inRowAt 1 = .ok (.ifCond .lt 21, 3) := by decide +kernel
theorem dX11_inRowAt_4 : decode cX11_inRowAt 4 = .ok (.iload_n 1, 1) := by decide +kernel
theorem dX11_inRowAt_5 : decode cX11_inRowAt 5 = .ok (.aload_n 0, 1) := by decide +kernel
theorem dX11_inRowAt_6 : decode cX11_inRowAt 6 = .ok (.getfield 16, 3) := by decide +kernel
theorem dX11_inRowAt_9 : decode cX11_inRowAt 9 = .ok (.arraylength, 1) := by decide +kernel
theorem dX11_inRowAt_10 : decode cX11_inRowAt 10 = .ok (.if_icmp .ge 12, 3) := by decide +kernel
theorem dX11_inRowAt_13 : decode cX11_inRowAt 13 = .ok (.aload_n 0, 1) := by decide +kernel
theorem dX11_inRowAt_14 : decode cX11_inRowAt 14 = .ok (.getfield 16, 3) := by decide +kernel
theorem dX11_inRowAt_17 : decode cX11_inRowAt 17 = .ok (.iload_n 1, 1) := by decide +kernel
theorem dX11_inRowAt_18 : decode cX11_inRowAt 18 = .ok (.iaload, 1) := by decide +kernel
theorem dX11_inRowAt_19 : decode cX11_inRowAt 19 = .ok (.goto 5, 3) := by decide +kernel
theorem dX11_inRowAt_22 : decode cX11_inRowAt 22 = .ok (.bipush (-9), 2) := by decide +kernel
theorem dX11_inRowAt_24 : decode cX11_inRowAt 24 = .ok (.ireturn, 1) := by decide +kernel
theorem dX11_yes_0 : decode cX11_yes 0 = .ok (.iload_n 0, 1) := by decide +kernel
theorem dX11_yes_1 : decode cX11_yes 1 = .ok (.ifCond .eq 7, 3) := by decide +kernel
theorem dX11_yes_4 : decode cX11_yes 4 = .ok (.iconst 1, 1) := by decide +kernel
theorem dX11_yes_5 : decode cX11_yes 5 = .ok (.goto 4, 3) := by decide +kernel
theorem dX11_yes_8 : decode cX11_yes 8 = .ok (.iconst 0, 1) := by decide +kernel
theorem dX11_yes_9 : decode cX11_yes 9 = .ok (.ireturn, 1) := by decide +kernel
theorem dX12_init_0 : decode cX12_init 0 = .ok (.aload_n 0, 1) := by decide +kernel
theorem dX12_init_1 : decode cX12_init 1 = .ok (.invokespecial 1, 3) := by decide +kernel
theorem dX12_init_4 : decode cX12_init 4 = .ok (.aload_n 0, 1) := by decide +kernel
theorem dX12_init_5 : decode cX12_init 5 = .ok (.bipush 7, 2) := by decide +kernel
theorem dX12_init_7 : decode cX12_init 7 = .ok (.newarray .int, 2) := by decide +kernel
theorem dX12_init_9 : decode cX12_init 9 = .ok (.putfield 7, 3) := by decide +kernel
theorem dX12_init_12 : decode cX12_init 12 = .ok (.aload_n 0, 1) := by decide +kernel
theorem dX12_init_13 : decode cX12_init 13 = .ok (.bipush 36, 2) := by decide +kernel
theorem dX12_init_15 : decode cX12_init 15 = .ok (.newarray .int, 2) := by decide +kernel
theorem dX12_init_17 : decode cX12_init 17 = .ok (.putfield 13, 3) := by decide +kernel
theorem dX12_init_20 : decode cX12_init 20 = .ok (.aload_n 0, 1) := by decide +kernel
theorem dX12_init_21 : decode cX12_init 21 = .ok (.bipush 6, 2) := by decide +kernel
theorem dX12_init_23 : decode cX12_init 23 = .ok (.newarray .int, 2) := by decide +kernel
theorem dX12_init_25 : decode cX12_init 25 = .ok (.putfield 16, 3) := by decide +kernel
theorem dX12_init_28 : decode cX12_init 28 = .ok (.aload_n 0, 1) := by decide +kernel
theorem dX12_init_29 : decode cX12_init 29 = .ok (.bipush 6, 2) := by decide +kernel
theorem dX12_init_31 : decode cX12_init 31 = .ok (.newarray .int, 2) := by decide +kernel
theorem dX12_init_33 : decode cX12_init 33 = .ok (.putfield 19, 3) := by decide +kernel
theorem dX12_init_36 : decode cX12_init 36 = .ok (.aload_n 0, 1) := by decide +kernel
theorem dX12_init_37 : decode cX12_init 37 = .ok (.bipush 6, 2) := by decide +kernel
theorem dX12_init_39 : decode cX12_init 39 = .ok (.newarray .int, 2) := by decide +kernel
theorem dX12_init_41 : decode cX12_init 41 = .ok (.putfield 22, 3) := by decide +kernel
theorem dX12_init_44 : decode cX12_init 44 = .ok (.aload_n 0, 1) := by decide +kernel
theorem dX12_init_45 : decode cX12_init 45 = .ok (.bipush 6, 2) := by decide +kernel
theorem dX12_init_47 : decode cX12_init 47 = .ok (.newarray .int, 2) := by decide +kernel
theorem dX12_init_49 : decode cX12_init 49 = .ok (.putfield 25, 3) := by decide +kernel
theorem dX12_init_52 : decode cX12_init 52 = .ok (.aload_n 0, 1) := by decide +kernel
theorem dX12_init_53 : decode cX12_init 53 = .ok (.bipush 6, 2) := by decide +kernel
theorem dX12_init_55 : decode cX12_init 55 = .ok (.newarray .int, 2) := by decide +kernel
theorem dX12_init_57 : decode cX12_init 57 = .ok (.putfield 28, 3) := by decide +kernel
theorem dX12_init_60 : decode cX12_init 60 = .ok (.aload_n 0, 1) := by decide +kernel
theorem dX12_init_61 : decode cX12_init 61 = .ok (.bipush 54, 2) := by decide +kernel
theorem dX12_init_63 : decode cX12_init 63 = .ok (.newarray .int, 2) := by decide +kernel
theorem dX12_init_65 : decode cX12_init 65 = .ok (.putfield 31, 3) := by decide +kernel
theorem dX12_init_68 : decode cX12_init 68 = .ok (.aload_n 0, 1) := by decide +kernel
theorem dX12_init_69 : decode cX12_init 69 = .ok (.bipush 54, 2) := by decide +kernel
theorem dX12_init_71 : decode cX12_init 71 = .ok (.newarray .int, 2) := by decide +kernel
theorem dX12_init_73 : decode cX12_init 73 = .ok (.putfield 34, 3) := by decide +kernel
theorem dX12_init_76 : decode cX12_init 76 = .ok (.aload_n 0, 1) := by decide +kernel
theorem dX12_init_77 : decode cX12_init 77 = .ok (.bipush 54, 2) := by decide +kernel
theorem dX12_init_79 : decode cX12_init 79 = .ok (.newarray .int, 2) := by decide +kernel
theorem dX12_init_81 : decode cX12_init 81 = .ok (.putfield 37, 3) := by decide +kernel
theorem dX12_init_84 : decode cX12_init 84 = .ok (.aload_n 0, 1) := by decide +kernel
theorem dX12_init_85 : decode cX12_init 85 = .ok (.iconst 4, 1) := by decide +kernel
theorem dX12_init_86 : decode cX12_init 86 = .ok (.newarray .int, 2) := by decide +kernel
theorem dX12_init_88 : decode cX12_init 88 = .ok (.putfield 40, 3) := by decide +kernel
theorem dX12_init_91 : decode cX12_init 91 = .ok (.aload_n 0, 1) := by decide +kernel
theorem dX12_init_92 : decode cX12_init 92 = .ok (.bipush 96, 2) := by decide +kernel
theorem dX12_init_94 : decode cX12_init 94 = .ok (.newarray .int, 2) := by decide +kernel
theorem dX12_init_96 : decode cX12_init 96 = .ok (.putfield 43, 3) := by decide +kernel
theorem dX12_init_99 : decode cX12_init 99 = .ok (.aload_n 0, 1) := by decide +kernel
theorem dX12_init_100 : decode cX12_init 100 = .ok (.bipush 48, 2) := by decide +kernel
theorem dX12_init_102 : decode cX12_init 102 = .ok (.newarray .int, 2) := by decide +kernel
theorem dX12_init_104 : decode cX12_init 104 = .ok (.putfield 46, 3) := by decide +kernel
theorem dX12_init_107 : decode cX12_init 107 = .ok (.aload_n 0, 1) := by decide +kernel
theorem dX12_init_108 : decode cX12_init 108 = .ok (.bipush 48, 2) := by decide +kernel
theorem dX12_init_110 : decode cX12_init 110 = .ok (.newarray .int, 2) := by decide +kernel
theorem dX12_init_112 : decode cX12_init 112 = .ok (.putfield 49, 3) := by decide +kernel
theorem dX12_init_115 : decode cX12_init 115 = .ok (.aload_n 0, 1) := by decide +kernel
theorem dX12_init_116 : decode cX12_init 116 = .ok (.sipush 144, 3) := by decide +kernel
theorem dX12_init_119 : decode cX12_init 119 = .ok (.newarray .int, 2) := by decide +kernel
theorem dX12_init_121 : decode cX12_init 121 = .ok (.putfield 52, 3) := by decide +kernel
theorem dX12_init_124 : decode cX12_init 124 = .ok (.aload_n 0, 1) := by decide +kernel
theorem dX12_init_125 : decode cX12_init 125 = .ok (.sipush 600, 3) := by decide +kernel
theorem dX12_init_128 : decode cX12_init 128 = .ok (.newarray .int, 2) := by decide +kernel
theorem dX12_init_130 : decode cX12_init 130 = .ok (.putfield 55, 3) := by decide +kernel
theorem dX12_init_133 : decode cX12_init 133 = .ok (.aload_n 0, 1) := by decide +kernel
theorem dX12_init_134 : decode cX12_init 134 = .ok (.bipush 36, 2) := by decide +kernel
theorem dX12_init_136 : decode cX12_init 136 = .ok (.newarray .int, 2) := by decide +kernel
theorem dX12_init_138 : decode cX12_init 138 = .ok (.putfield 58, 3) := by decide +kernel
theorem dX12_init_141 : decode cX12_init 141 = .ok (.aload_n 0, 1) := by decide +kernel
theorem dX12_init_142 : decode cX12_init 142 = .ok (.bipush 36, 2) := by decide +kernel
theorem dX12_init_144 : decode cX12_init 144 = .ok (.newarray .int, 2) := by decide +kernel
theorem dX12_init_146 : decode cX12_init 146 = .ok (.putfield 61, 3) := by decide +kernel
theorem dX12_init_149 : decode cX12_init 149 = .ok (.aload_n 0, 1) := by decide +kernel
theorem dX12_init_150 : decode cX12_init 150 = .ok (.bipush 36, 2) := by decide +kernel
theorem dX12_init_152 : decode cX12_init 152 = .ok (.newarray .int, 2) := by decide +kernel
theorem dX12_init_154 : decode cX12_init 154 = .ok (.putfield 64, 3) := by decide +kernel
theorem dX12_init_157 : decode cX12_init 157 = .ok (.aload_n 0, 1) := by decide +kernel
theorem dX12_init_158 : decode cX12_init 158 = .ok (.bipush 36, 2) := by decide +kernel
theorem dX12_init_160 : decode cX12_init 160 = .ok (.newarray .int, 2) := by decide +kernel
theorem dX12_init_162 : decode cX12_init 162 = .ok (.putfield 67, 3) := by decide +kernel
theorem dX12_init_165 : decode cX12_init 165 = .ok (.aload_n 0, 1) := by decide +kernel
theorem dX12_init_166 : decode cX12_init 166 = .ok (.bipush 36, 2) := by decide +kernel
theorem dX12_init_168 : decode cX12_init 168 = .ok (.newarray .int, 2) := by decide +kernel
theorem dX12_init_170 : decode cX12_init 170 = .ok (.putfield 70, 3) := by decide +kernel
theorem dX12_init_173 : decode cX12_init 173 = .ok (.aload_n 0, 1) := by decide +kernel
theorem dX12_init_174 : decode cX12_init 174 = .ok (.bipush 12, 2) := by decide +kernel
theorem dX12_init_176 : decode cX12_init 176 = .ok (.newarray .int, 2) := by decide +kernel
theorem dX12_init_178 : decode cX12_init 178 = .ok (.putfield 73, 3) := by decide +kernel
theorem dX12_init_181 : decode cX12_init 181 = .ok (.aload_n 0, 1) := by decide +kernel
theorem dX12_init_182 : decode cX12_init 182 = .ok (.iconst 0, 1) := by decide +kernel
theorem dX12_init_183 : decode cX12_init 183 = .ok (.putfield 76, 3) := by decide +kernel
theorem dX12_init_186 : decode cX12_init 186 = .ok (.return_, 1) := by decide +kernel
theorem dX12_no_0 : decode cX12_no 0 = .ok (.aload_n 0, 1) := by decide +kernel
theorem dX12_no_1 : decode cX12_no 1 = .ok (.getfield 7, 3) := by decide +kernel
theorem dX12_no_4 : decode cX12_no 4 = .ok (.iload_n 1, 1) := by decide +kernel
theorem dX12_no_5 : decode cX12_no 5 = .ok (.ineg, 1) := by decide +kernel
theorem dX12_no_6 : decode cX12_no 6 = .ok (.dup2, 1) := by decide +kernel
theorem dX12_no_7 : decode cX12_no 7 = .ok (.iaload, 1) := by decide +kernel
theorem dX12_no_8 : decode cX12_no 8 = .ok (.iconst 1, 1) := by decide +kernel
theorem dX12_no_9 : decode cX12_no 9 = .ok (.iadd, 1) := by decide +kernel
theorem dX12_no_10 : decode cX12_no 10 = .ok (.iastore, 1) := by decide +kernel
theorem dX12_no_11 : decode cX12_no 11 = .ok (.iload_n 1, 1) := by decide +kernel
theorem dX12_no_12 : decode cX12_no 12 = .ok (.ireturn, 1) := by decide +kernel
theorem dX12_lower_0 : decode cX12_lower 0 = .ok (.aload_n 0, 1) := by decide +kernel
theorem dX12_lower_1 : decode cX12_lower 1 = .ok (.getfield 7, 3) := by decide +kernel
theorem dX12_lower_4 : decode cX12_lower 4 = .ok (.iload_n 1, 1) := by decide +kernel
theorem dX12_lower_5 : decode cX12_lower 5 = .ok (.ineg, 1) := by decide +kernel
theorem dX12_lower_6 : decode cX12_lower 6 = .ok (.dup2, 1) := by decide +kernel
theorem dX12_lower_7 : decode cX12_lower 7 = .ok (.iaload, 1) := by decide +kernel
theorem dX12_lower_8 : decode cX12_lower 8 = .ok (.iconst 1, 1) := by decide +kernel
theorem dX12_lower_9 : decode cX12_lower 9 = .ok (.iadd, 1) := by decide +kernel
theorem dX12_lower_10 : decode cX12_lower 10 = .ok (.iastore, 1) := by decide +kernel
theorem dX12_lower_11 : decode cX12_lower 11 = .ok (.ldc 80, 2) := by decide +kernel
theorem dX12_lower_13 : decode cX12_lower 13 = .ok (.iload_n 1, 1) := by decide +kernel
theorem dX12_lower_14 : decode cX12_lower 14 = .ok (.isub, 1) := by decide +kernel
theorem dX12_lower_15 : decode cX12_lower 15 = .ok (.ireturn, 1) := by decide +kernel
theorem dX12_isIn_0 : decode cX12_isIn 0 = .ok (.iload_n 0, 1) := by decide +kernel
theorem dX12_isIn_1 : decode cX12_isIn 1 = .ok (.iload_n 1, 1) := by decide +kernel
theorem dX12_isIn_2 : decode cX12_isIn 2 = .ok (.if_icmp .lt 12, 3) := by decide +kernel
theorem dX12_isIn_5 : decode cX12_isIn 5 = .ok (.iload_n 0, 1) := by decide +kernel
theorem dX12_isIn_6 : decode cX12_isIn 6 = .ok (.iload_n 2, 1) := by decide +kernel
theorem dX12_isIn_7 : decode cX12_isIn 7 = .ok (.if_icmp .gt 7, 3) := by decide +kernel
theorem dX12_isIn_10 : decode cX12_isIn 10 = .ok (.iconst 1, 1) := by decide +kernel
theorem dX12_isIn_11 : decode cX12_isIn 11 = .ok (.goto 4, 3) := by decide +kernel
theorem dX12_isIn_14 : decode cX12_isIn 14 = .ok (.iconst 0, 1) := by decide +kernel
theorem dX12_isIn_15 : decode cX12_isIn 15 = .ok (.ireturn, 1) := by decide +kernel
theorem dX12_bound_0 : decode cX12_bound 0 = .ok (.iload_n 0, 1) := by decide +kernel
theorem dX12_bound_1 : decode cX12_bound 1 = .ok (.iload_n 1, 1) := by decide +kernel
theorem dX12_bound_2 : decode cX12_bound 2 = .ok (.if_icmp .ge 8, 3) := by decide +kernel
theorem dX12_bound_5 : decode cX12_bound 5 = .ok (.bipush (-4), 2) := by decide +kernel
theorem dX12_bound_7 : decode cX12_bound 7 = .ok (.goto 14, 3) := by decide +kernel
theorem dX12_bound_10 : decode cX12_bound 10 = .ok (.iload_n 0, 1) := by decide +kernel
theorem dX12_bound_11 : decode cX12_bound 11 = .ok (.iload_n 2, 1) := by decide +kernel
theorem dX12_bound_12 : decode cX12_bound 12 = .ok (.if_icmp .le 8, 3) := by decide +kernel
theorem dX12_bound_15 : decode cX12_bound 15 = .ok (.bipush (-6), 2) := by decide +kernel
theorem dX12_bound_17 : decode cX12_bound 17 = .ok (.goto 4, 3) := by decide +kernel
theorem dX12_bound_20 : decode cX12_bound 20 = .ok (.iconst 0, 1) := by decide +kernel
theorem dX12_bound_21 : decode cX12_bound 21 = .ok (.ireturn, 1) := by decide +kernel
theorem dX12_has_0 : decode cX12_has 0 = .ok (.iload_n 0, 1) := by decide +kernel
theorem dX12_has_1 : decode cX12_has 1 = .ok (.iload_n 1, 1) := by decide +kernel
theorem dX12_has_2 : decode cX12_has 2 = .ok (.ishr, 1) := by decide +kernel
theorem dX12_has_3 : decode cX12_has 3 = .ok (.iconst 1, 1) := by decide +kernel
theorem dX12_has_4 : decode cX12_has 4 = .ok (.iand, 1) := by decide +kernel
theorem dX12_has_5 : decode cX12_has 5 = .ok (.iconst 1, 1) := by decide +kernel
theorem dX12_has_6 : decode cX12_has 6 = .ok (.if_icmp .ne 7, 3) := by decide +kernel
theorem dX12_has_9 : decode cX12_has 9 = .ok (.iconst 1, 1) := by decide +kernel
theorem dX12_has_10 : decode cX12_has 10 = .ok (.goto 4, 3) := by decide +kernel
theorem dX12_has_13 : decode cX12_has 13 = .ok (.iconst 0, 1) := by decide +kernel
theorem dX12_has_14 : decode cX12_has 14 = .ok (.ireturn, 1) := by decide +kernel
theorem dX12_bits_0 : decode cX12_bits 0 = .ok (.iconst 0, 1) := by decide +kernel
theorem dX12_bits_1 : decode cX12_bits 1 = .ok (.istore_n 1, 1) := by decide +kernel
theorem dX12_bits_2 : decode cX12_bits 2 = .ok (.iconst 0, 1) := by decide +kernel
theorem dX12_bits_3 : decode cX12_bits 3 = .ok (.istore_n 2, 1) := by decide +kernel
theorem dX12_bits_4 : decode cX12_bits 4 = .ok (.iload_n 2, 1) := by decide +kernel
theorem dX12_bits_5 : decode cX12_bits 5 = .ok (.bipush 31, 2) := by decide +kernel
theorem dX12_bits_7 : decode cX12_bits 7 = .ok (.if_icmp .ge 17, 3) := by decide +kernel
theorem dX12_bits_10 : decode cX12_bits 10 = .ok (.iload_n 1, 1) := by decide +kernel
theorem dX12_bits_11 : decode cX12_bits 11 = .ok (.iload_n 0, 1) := by decide +kernel
theorem dX12_bits_12 : decode cX12_bits 12 = .ok (.iload_n 2, 1) := by decide +kernel
theorem dX12_bits_13 : decode cX12_bits 13 = .ok (.ishr, 1) := by decide +kernel
theorem dX12_bits_14 : decode cX12_bits 14 = .ok (.iconst 1, 1) := by decide +kernel
theorem dX12_bits_15 : decode cX12_bits 15 = .ok (.iand, 1) := by decide +kernel
theorem dX12_bits_16 : decode cX12_bits 16 = .ok (.iadd, 1) := by decide +kernel
theorem dX12_bits_17 : decode cX12_bits 17 = .ok (.istore_n 1, 1) := by decide +kernel
theorem dX12_bits_18 : decode cX12_bits 18 = .ok (.iinc 2 1, 3) := by decide +kernel
theorem dX12_bits_21 : decode cX12_bits 21 = .ok (.goto (-17), 3) := by decide +kernel
theorem dX12_bits_24 : decode cX12_bits 24 = .ok (.iload_n 1, 1) := by decide +kernel
theorem dX12_bits_25 : decode cX12_bits 25 = .ok (.ireturn, 1) := by decide +kernel
theorem dX12_isCell_0 : decode cX12_isCell 0 = .ok (.iload_n 0, 1) := by decide +kernel
theorem dX12_isCell_1 : decode cX12_isCell 1 = .ok (.ifCond .lt 13, 3) := by decide +kernel
theorem dX12_isCell_4 : decode cX12_isCell 4 = .ok (.iload_n 0, 1) := by decide +kernel
theorem dX12_isCell_5 : decode cX12_isCell 5 = .ok (.bipush 36, 2) := by decide +kernel
theorem dX12_isCell_7 : decode cX12_isCell 7 = .ok (.if_icmp .ge 7, 3) := by decide +kernel
theorem dX12_isCell_10 : decode cX12_isCell 10 = .ok (.iconst 1, 1) := by decide +kernel
theorem dX12_isCell_11 : decode cX12_isCell 11 = .ok (.goto 4, 3) := by decide +kernel
theorem dX12_isCell_14 : decode cX12_isCell 14 = .ok (.iconst 0, 1) := by decide +kernel
theorem dX12_isCell_15 : decode cX12_isCell 15 = .ok (.ireturn, 1) := by decide +kernel
theorem dX12_isLamp_0 : decode cX12_isLamp 0 = .ok (.iload_n 1, 1) := by decide +kernel
theorem dX12_isLamp_1 : decode cX12_isLamp 1 = .ok (.ifCond .lt 15, 3) := by decide +kernel
theorem dX12_isLamp_4 : decode cX12_isLamp 4 = .ok (.iload_n 1, 1) := by decide +kernel
theorem dX12_isLamp_5 : decode cX12_isLamp 5 = .ok (.aload_n 0, 1) := by decide +kernel
theorem dX12_isLamp_6 : decode cX12_isLamp 6 = .ok (.getfield 76, 3) := by decide +kernel
theorem dX12_isLamp_9 : decode cX12_isLamp 9 = .ok (.if_icmp .ge 7, 3) := by decide +kernel
theorem dX12_isLamp_12 : decode cX12_isLamp 12 = .ok (.iconst 1, 1) := by decide +kernel
theorem dX12_isLamp_13 : decode cX12_isLamp 13 = .ok (.goto 4, 3) := by decide +kernel
theorem dX12_isLamp_16 : decode cX12_isLamp 16 = .ok (.iconst 0, 1) := by decide +kernel
theorem dX12_isLamp_17 : decode cX12_isLamp 17 = .ok (.ireturn, 1) := by decide +kernel
theorem dX12_isPerson_0 : decode cX12_isPerson 0 = .ok (.iload_n 1, 1) := by decide +kernel
theorem dX12_isPerson_1 : decode cX12_isPerson 1 = .ok (.ifCond .lt 15, 3) := by decide +kernel
theorem dX12_isPerson_4 : decode cX12_isPerson 4 = .ok (.iload_n 1, 1) := by decide +kernel
theorem dX12_isPerson_5 : decode cX12_isPerson 5 = .ok (.aload_n 0, 1) := by decide +kernel
theorem dX12_isPerson_6 : decode cX12_isPerson 6 = .ok (.getfield 81, 3) := by decide +kernel
theorem dX12_isPerson_9 : decode cX12_isPerson 9 = .ok (.if_icmp .ge 7, 3) := by decide +kernel
theorem dX12_isPerson_12 : decode cX12_isPerson 12 = .ok (.iconst 1, 1) := by decide +kernel
theorem dX12_isPerson_13 : decode cX12_isPerson 13 = .ok (.goto 4, 3) := by decide +kernel
theorem dX12_isPerson_16 : decode cX12_isPerson 16 = .ok (.iconst 0, 1) := by decide +kernel
theorem dX12_isPerson_17 : decode cX12_isPerson 17 = .ok (.ireturn, 1) := by decide +kernel
set_option maxRecDepth 20000 in
theorem ggX12_letter_X12_bound : GoodIn wsX12_letter wsX12_bound := goodIn_r _ [6] (by decide +kernel) (by decide +kernel)
set_option maxRecDepth 20000 in
theorem gX12_letter_X12_bound : GoodIn wsX12_letter (va_wsS RX12 84 yX12_bound wsX12_bound) := goodIn_app (goodIn_of _ (by decide +kernel)) ggX12_letter_X12_bound
set_option maxRecDepth 20000 in
theorem ggX12_letter_X12_no : GoodIn wsX12_letter wsX12_no := goodIn_r _ [10, 11, 12, 13, 14, 15, 16, 17, 18, 19, 20, 21, 22, 23, 24, 25, 26, 27, 28, 29, 30, 31, 32, 33, 34, 35, 36, 37, 38, 39, 40, 41, 42, 43, 44] (by decide +kernel) (by decide +kernel)
set_option maxRecDepth 20000 in
theorem gX12_letter_X12_no : GoodIn wsX12_letter (wsV RX12 91 RX12 yX12_no wsX12_no) := goodIn_app (goodIn_of _ (by decide +kernel)) ggX12_letter_X12_no
theorem dX12_letter_0 : decode cX12_letter 0 = .ok (.iload_n 1, 1) := by decide +kernel
theorem dX12_letter_1 : decode cX12_letter 1 = .ok (.iconst 0, 1) := by decide +kernel
theorem dX12_letter_2 : decode cX12_letter 2 = .ok (.sipush 255, 3) := by decide +kernel
theorem dX12_letter_5 : decode cX12_letter 5 = .ok (.invokestatic 84, 3) := by decide +kernel
theorem dX12_letter_8 : decode cX12_letter 8 = .ok (.istore_n 2, 1) := by decide +kernel
theorem dX12_letter_9 : decode cX12_letter 9 = .ok (.iload_n 2, 1) := by decide +kernel
theorem dX12_letter_10 : decode cX12_letter 10 = .ok (.ifCond .ne 15, 3) := by decide +kernel
theorem dX12_letter_13 : decode cX12_letter 13 = .ok (.aload_n 0, 1) := by decide +kernel
theorem dX12_letter_14 : decode cX12_letter 14 = .ok (.getfield 88, 3) := by decide +kernel
theorem dX12_letter_17 : decode cX12_letter 17 = .ok (.bipush 96, 2) := by decide +kernel
theorem dX12_letter_19 : decode cX12_letter 19 = .ok (.if_icmp .ne 6, 3) := by decide +kernel
theorem dX12_letter_22 : decode cX12_letter 22 = .ok (.bipush (-6), 2) := by decide +kernel
theorem dX12_letter_24 : decode cX12_letter 24 = .ok (.istore_n 2, 1) := by decide +kernel
theorem dX12_letter_25 : decode cX12_letter 25 = .ok (.iload_n 2, 1) := by decide +kernel
theorem dX12_letter_26 : decode cX12_letter 26 = .ok (.ifCond .eq 9, 3) := by decide +kernel
theorem dX12_letter_29 : decode cX12_letter 29 = .ok (.aload_n 0, 1) := by decide +kernel
theorem dX12_letter_30 : decode cX12_letter 30 = .ok (.iload_n 2, 1) := by decide +kernel
theorem dX12_letter_31 : decode cX12_letter 31 = .ok (.invokevirtual 91, 3) := by decide +kernel
theorem dX12_letter_34 : decode cX12_letter 34 = .ok (.ireturn, 1) := by decide +kernel
theorem dX12_letter_35 : decode cX12_letter 35 = .ok (.aload_n 0, 1) := by decide +kernel
theorem dX12_letter_36 : decode cX12_letter 36 = .ok (.getfield 43, 3) := by decide +kernel
theorem dX12_letter_39 : decode cX12_letter 39 = .ok (.aload_n 0, 1) := by decide +kernel
theorem dX12_letter_40 : decode cX12_letter 40 = .ok (.getfield 88, 3) := by decide +kernel
theorem dX12_letter_43 : decode cX12_letter 43 = .ok (.iload_n 1, 1) := by decide +kernel
theorem dX12_letter_44 : decode cX12_letter 44 = .ok (.iastore, 1) := by decide +kernel
theorem dX12_letter_45 : decode cX12_letter 45 = .ok (.aload_n 0, 1) := by decide +kernel
theorem dX12_letter_46 : decode cX12_letter 46 = .ok (.dup, 1) := by decide +kernel
theorem dX12_letter_47 : decode cX12_letter 47 = .ok (.getfield 88, 3) := by decide +kernel
theorem dX12_letter_50 : decode cX12_letter 50 = .ok (.iconst 1, 1) := by decide +kernel
theorem dX12_letter_51 : decode cX12_letter 51 = .ok (.iadd, 1) := by decide +kernel
theorem dX12_letter_52 : decode cX12_letter 52 = .ok (.putfield 88, 3) := by decide +kernel
theorem dX12_letter_55 : decode cX12_letter 55 = .ok (.aload_n 0, 1) := by decide +kernel
theorem dX12_letter_56 : decode cX12_letter 56 = .ok (.getfield 88, 3) := by decide +kernel
theorem dX12_letter_59 : decode cX12_letter 59 = .ok (.ireturn, 1) := by decide +kernel
theorem dX12_signAt_0 : decode cX12_signAt 0 = .ok (.aload_n 0, 1) := by decide +kernel
theorem dX12_signAt_1 : decode cX12_signAt 1 = .ok (.getfield 95, 3) := by decide +kernel
theorem dX12_signAt_4 : decode cX12_signAt 4 = .ok (.aload_n 0, 1) := by decide +kernel
theorem dX12_signAt_5 : decode cX12_signAt 5 = .ok (.getfield 88, 3) := by decide +kernel
theorem dX12_signAt_8 : decode cX12_signAt 8 = .ok (.if_icmp .ge 15, 3) := by decide +kernel
theorem dX12_signAt_11 : decode cX12_signAt 11 = .ok (.aload_n 0, 1) := by decide +kernel
theorem dX12_signAt_12 : decode cX12_signAt 12 = .ok (.getfield 43, 3) := by decide +kernel
theorem dX12_signAt_15 : decode cX12_signAt 15 = .ok (.aload_n 0, 1) := by decide +kernel
theorem dX12_signAt_16 : decode cX12_signAt 16 = .ok (.getfield 95, 3) := by decide +kernel
theorem dX12_signAt_19 : decode cX12_signAt 19 = .ok (.iaload, 1) := by decide +kernel
theorem dX12_signAt_20 : decode cX12_signAt 20 = .ok (.goto 4, 3) := by decide +kernel
theorem dX12_signAt_23 : decode cX12_signAt 23 = .ok (.iconst (-1), 1) := by decide +kernel
theorem dX12_signAt_24 : decode cX12_signAt 24 = .ok (.ireturn, 1) := by decide +kernel
set_option maxRecDepth 20000 in
theorem ggX12_readsDigits_X12_signAt : GoodIn wsX12_readsDigits wsX12_signAt := goodIn_r _ [7, 1, 8, 9, 13, 14, 15, 16, 17, 18, 19, 20, 21, 22, 23, 24, 25, 26, 27, 28, 29, 30, 31, 32, 33, 34, 35, 36, 37, 38, 39, 40, 41, 42, 43, 44, 45] (by decide +kernel) (by decide +kernel)
set_option maxRecDepth 20000 in
theorem gX12_readsDigits_X12_signAt : GoodIn wsX12_readsDigits (wsV RX12 98 RX12 yX12_signAt wsX12_signAt) := goodIn_app (goodIn_of _ (by decide +kernel)) ggX12_readsDigits_X12_signAt
set_option maxRecDepth 20000 in
theorem ggX12_readsDigits_X12_isIn : GoodIn wsX12_readsDigits wsX12_isIn := goodIn_r _ [12] (by decide +kernel) (by decide +kernel)
set_option maxRecDepth 20000 in
theorem gX12_readsDigits_X12_isIn : GoodIn wsX12_readsDigits (va_wsS RX12 102 yX12_isIn wsX12_isIn) := goodIn_app (goodIn_of _ (by decide +kernel)) ggX12_readsDigits_X12_isIn
theorem dX12_readsDigits_0 : decode cX12_readsDigits 0 = .ok (.iconst 0, 1) := by decide +kernel
theorem dX12_readsDigits_1 : decode cX12_readsDigits 1 = .ok (.istore_n 3, 1) := by decide +kernel
theorem dX12_readsDigits_2 : decode cX12_readsDigits 2 = .ok (.iconst 0, 1) := by decide +kernel
theorem dX12_readsDigits_3 : decode cX12_readsDigits 3 = .ok (.istore 4, 2) := by decide +kernel
theorem dX12_readsDigits_5 : decode cX12_readsDigits 5 = .ok (.iload 4, 2) := by decide +kernel
theorem dX12_readsDigits_7 : decode cX12_readsDigits 7 = .ok (.iload_n 2, 1) := by decide +kernel
theorem dX12_readsDigits_8 : decode cX12_readsDigits 8 = .ok (.if_icmp .ge 48, 3) := by decide +kernel
theorem dX12_readsDigits_11 : decode cX12_readsDigits 11 = .ok (.aload_n 0, 1) := by decide +kernel
theorem dX12_readsDigits_12 : decode cX12_readsDigits 12 = .ok (.invokevirtual 98, 3) := by decide +kernel
theorem dX12_readsDigits_15 : decode cX12_readsDigits 15 = .ok (.bipush 48, 2) := by decide +kernel
theorem dX12_readsDigits_17 : decode cX12_readsDigits 17 = .ok (.bipush 57, 2) := by decide +kernel
theorem dX12_readsDigits_19 : decode cX12_readsDigits 19 = .ok (.invokestatic 102, 3) := by decide +kernel
theorem dX12_readsDigits_22 : decode cX12_readsDigits 22 = .ok (.ifCond .ne 5, 3) := by decide +kernel
theorem dX12_readsDigits_25 : decode cX12_readsDigits 25 = .ok (.iconst 0, 1) := by decide +kernel
theorem dX12_readsDigits_26 : decode cX12_readsDigits 26 = .ok (.ireturn, 1) := by decide +kernel
theorem dX12_readsDigits_27 : decode cX12_readsDigits 27 = .ok (.bipush 10, 2) := by decide +kernel
theorem dX12_readsDigits_29 : decode cX12_readsDigits 29 = .ok (.iload_n 3, 1) := by decide +kernel
theorem dX12_readsDigits_30 : decode cX12_readsDigits 30 = .ok (.imul, 1) := by decide +kernel
theorem dX12_readsDigits_31 : decode cX12_readsDigits 31 = .ok (.aload_n 0, 1) := by decide +kernel
theorem dX12_readsDigits_32 : decode cX12_readsDigits 32 = .ok (.invokevirtual 98, 3) := by decide +kernel
theorem dX12_readsDigits_35 : decode cX12_readsDigits 35 = .ok (.iadd, 1) := by decide +kernel
theorem dX12_readsDigits_36 : decode cX12_readsDigits 36 = .ok (.bipush 48, 2) := by decide +kernel
theorem dX12_readsDigits_38 : decode cX12_readsDigits 38 = .ok (.isub, 1) := by decide +kernel
theorem dX12_readsDigits_39 : decode cX12_readsDigits 39 = .ok (.istore_n 3, 1) := by decide +kernel
theorem dX12_readsDigits_40 : decode cX12_readsDigits 40 = .ok (.aload_n 0, 1) := by decide +kernel
theorem dX12_readsDigits_41 : decode cX12_readsDigits 41 = .ok (.dup, 1) := by decide +kernel
theorem dX12_readsDigits_42 : decode cX12_readsDigits 42 = .ok (.getfield 95, 3) := by decide +kernel
theorem dX12_readsDigits_45 : decode cX12_readsDigits 45 = .ok (.iconst 1, 1) := by decide +kernel
theorem dX12_readsDigits_46 : decode cX12_readsDigits 46 = .ok (.iadd, 1) := by decide +kernel
theorem dX12_readsDigits_47 : decode cX12_readsDigits 47 = .ok (.putfield 95, 3) := by decide +kernel
theorem dX12_readsDigits_50 : decode cX12_readsDigits 50 = .ok (.iinc 4 1, 3) := by decide +kernel
theorem dX12_readsDigits_53 : decode cX12_readsDigits 53 = .ok (.goto (-48), 3) := by decide +kernel
theorem dX12_readsDigits_56 : decode cX12_readsDigits 56 = .ok (.aload_n 0, 1) := by decide +kernel
theorem dX12_readsDigits_57 : decode cX12_readsDigits 57 = .ok (.getfield 52, 3) := by decide +kernel
theorem dX12_readsDigits_60 : decode cX12_readsDigits 60 = .ok (.iload_n 1, 1) := by decide +kernel
theorem dX12_readsDigits_61 : decode cX12_readsDigits 61 = .ok (.iload_n 3, 1) := by decide +kernel
theorem dX12_readsDigits_62 : decode cX12_readsDigits 62 = .ok (.iastore, 1) := by decide +kernel
theorem dX12_readsDigits_63 : decode cX12_readsDigits 63 = .ok (.iconst 1, 1) := by decide +kernel
theorem dX12_readsDigits_64 : decode cX12_readsDigits 64 = .ok (.ireturn, 1) := by decide +kernel
theorem dX12_kindOf_0 : decode cX12_kindOf 0 = .ok (.iload_n 0, 1) := by decide +kernel
theorem dX12_kindOf_1 : decode cX12_kindOf 1 = .ok (.tableswitch 82 99 111 #[73, 69, 82, 79, 82, 82, 82, 82, 75, 67, 71, 82, 77], 67) := by decide +kernel
theorem dX12_kindOf_68 : decode cX12_kindOf 68 = .ok (.iconst 0, 1) := by decide +kernel
theorem dX12_kindOf_69 : decode cX12_kindOf 69 = .ok (.ireturn, 1) := by decide +kernel
theorem dX12_kindOf_70 : decode cX12_kindOf 70 = .ok (.iconst 1, 1) := by decide +kernel
theorem dX12_kindOf_71 : decode cX12_kindOf 71 = .ok (.ireturn, 1) := by decide +kernel
theorem dX12_kindOf_72 : decode cX12_kindOf 72 = .ok (.iconst 2, 1) := by decide +kernel
theorem dX12_kindOf_73 : decode cX12_kindOf 73 = .ok (.ireturn, 1) := by decide +kernel
theorem dX12_kindOf_74 : decode cX12_kindOf 74 = .ok (.iconst 3, 1) := by decide +kernel
theorem dX12_kindOf_75 : decode cX12_kindOf 75 = .ok (.ireturn, 1) := by decide +kernel
theorem dX12_kindOf_76 : decode cX12_kindOf 76 = .ok (.iconst 4, 1) := by decide +kernel
theorem dX12_kindOf_77 : decode cX12_kindOf 77 = .ok (.ireturn, 1) := by decide +kernel
theorem dX12_kindOf_78 : decode cX12_kindOf 78 = .ok (.iconst 5, 1) := by decide +kernel
theorem dX12_kindOf_79 : decode cX12_kindOf 79 = .ok (.ireturn, 1) := by decide +kernel
theorem dX12_kindOf_80 : decode cX12_kindOf 80 = .ok (.bipush 6, 2) := by decide +kernel
theorem dX12_kindOf_82 : decode cX12_kindOf 82 = .ok (.ireturn, 1) := by decide +kernel
theorem dX12_kindOf_83 : decode cX12_kindOf 83 = .ok (.iconst (-1), 1) := by decide +kernel
theorem dX12_kindOf_84 : decode cX12_kindOf 84 = .ok (.ireturn, 1) := by decide +kernel
set_option maxRecDepth 20000 in
theorem ggX12_readsLamp_X12_signAt : GoodIn wsX12_readsLamp wsX12_signAt := goodIn_r _ [7, 2, 8, 9, 20, 21, 22, 23, 24, 25, 26, 27, 28, 29, 30, 31, 32, 33, 34, 35, 36, 37, 38, 39, 40, 41, 42, 43, 44, 45, 46, 47, 48, 49, 50, 51, 52] (by decide +kernel) (by decide +kernel)
set_option maxRecDepth 20000 in
theorem gX12_readsLamp_X12_signAt : GoodIn wsX12_readsLamp (wsV RX12 98 RX12 yX12_signAt wsX12_signAt) := goodIn_app (goodIn_of _ (by decide +kernel)) ggX12_readsLamp_X12_signAt
set_option maxRecDepth 20000 in
theorem ggX12_readsLamp_X12_kindOf : GoodIn wsX12_readsLamp wsX12_kindOf := goodIn_r _ [12] (by decide +kernel) (by decide +kernel)
set_option maxRecDepth 20000 in
theorem gX12_readsLamp_X12_kindOf : GoodIn wsX12_readsLamp (va_wsS RX12 106 yX12_kindOf wsX12_kindOf) := goodIn_app (goodIn_of _ (by decide +kernel)) ggX12_readsLamp_X12_kindOf
set_option maxRecDepth 20000 in
theorem ggX12_readsLamp_X12_readsDigits : GoodIn wsX12_readsLamp wsX12_readsDigits := goodIn_r _ [16, 2, 1, 3, 4, 5, 6, 7, 8, 9, 17, 18, 19, 20, 21, 22, 23, 24, 25, 26, 27, 28, 29, 30, 31, 32, 33, 34, 35, 36, 37, 38, 39, 40, 41, 42, 43, 44, 45, 46, 47, 48, 49, 50, 51, 52] (by decide +kernel) (by decide +kernel)
set_option maxRecDepth 20000 in
theorem gX12_readsLamp_X12_readsDigits : GoodIn wsX12_readsLamp (wsV RX12 109 RX12 yX12_readsDigits wsX12_readsDigits) := goodIn_app (goodIn_of _ (by decide +kernel)) ggX12_readsLamp_X12_readsDigits
theorem dX12_readsLamp_0 : decode cX12_readsLamp 0 = .ok (.aload_n 0, 1) := by decide +kernel
theorem dX12_readsLamp_1 : decode cX12_readsLamp 1 = .ok (.getfield 52, 3) := by decide +kernel
theorem dX12_readsLamp_4 : decode cX12_readsLamp 4 = .ok (.iload_n 1, 1) := by decide +kernel
theorem dX12_readsLamp_5 : decode cX12_readsLamp 5 = .ok (.aload_n 0, 1) := by decide +kernel
theorem dX12_readsLamp_6 : decode cX12_readsLamp 6 = .ok (.invokevirtual 98, 3) := by decide +kernel
theorem dX12_readsLamp_9 : decode cX12_readsLamp 9 = .ok (.invokestatic 106, 3) := by decide +kernel
theorem dX12_readsLamp_12 : decode cX12_readsLamp 12 = .ok (.iastore, 1) := by decide +kernel
theorem dX12_readsLamp_13 : decode cX12_readsLamp 13 = .ok (.aload_n 0, 1) := by decide +kernel
theorem dX12_readsLamp_14 : decode cX12_readsLamp 14 = .ok (.getfield 52, 3) := by decide +kernel
theorem dX12_readsLamp_17 : decode cX12_readsLamp 17 = .ok (.iload_n 1, 1) := by decide +kernel
theorem dX12_readsLamp_18 : decode cX12_readsLamp 18 = .ok (.iaload, 1) := by decide +kernel
theorem dX12_readsLamp_19 : decode cX12_readsLamp 19 = .ok (.ifCond .ge 5, 3) := by decide +kernel
theorem dX12_readsLamp_22 : decode cX12_readsLamp 22 = .ok (.iconst 0, 1) := by decide +kernel
theorem dX12_readsLamp_23 : decode cX12_readsLamp 23 = .ok (.ireturn, 1) := by decide +kernel
theorem dX12_readsLamp_24 : decode cX12_readsLamp 24 = .ok (.aload_n 0, 1) := by decide +kernel
theorem dX12_readsLamp_25 : decode cX12_readsLamp 25 = .ok (.dup, 1) := by decide +kernel
theorem dX12_readsLamp_26 : decode cX12_readsLamp 26 = .ok (.getfield 95, 3) := by decide +kernel
theorem dX12_readsLamp_29 : decode cX12_readsLamp 29 = .ok (.iconst 1, 1) := by decide +kernel
theorem dX12_readsLamp_30 : decode cX12_readsLamp 30 = .ok (.iadd, 1) := by decide +kernel
theorem dX12_readsLamp_31 : decode cX12_readsLamp 31 = .ok (.putfield 95, 3) := by decide +kernel
theorem dX12_readsLamp_34 : decode cX12_readsLamp 34 = .ok (.aload_n 0, 1) := by decide +kernel
theorem dX12_readsLamp_35 : decode cX12_readsLamp 35 = .ok (.iload_n 1, 1) := by decide +kernel
theorem dX12_readsLamp_36 : decode cX12_readsLamp 36 = .ok (.iconst 1, 1) := by decide +kernel
theorem dX12_readsLamp_37 : decode cX12_readsLamp 37 = .ok (.iadd, 1) := by decide +kernel
theorem dX12_readsLamp_38 : decode cX12_readsLamp 38 = .ok (.iconst 2, 1) := by decide +kernel
theorem dX12_readsLamp_39 : decode cX12_readsLamp 39 = .ok (.invokevirtual 109, 3) := by decide +kernel
theorem dX12_readsLamp_42 : decode cX12_readsLamp 42 = .ok (.ifCond .eq 18, 3) := by decide +kernel
theorem dX12_readsLamp_45 : decode cX12_readsLamp 45 = .ok (.aload_n 0, 1) := by decide +kernel
theorem dX12_readsLamp_46 : decode cX12_readsLamp 46 = .ok (.iload_n 1, 1) := by decide +kernel
theorem dX12_readsLamp_47 : decode cX12_readsLamp 47 = .ok (.iconst 2, 1) := by decide +kernel
theorem dX12_readsLamp_48 : decode cX12_readsLamp 48 = .ok (.iadd, 1) := by decide +kernel
theorem dX12_readsLamp_49 : decode cX12_readsLamp 49 = .ok (.iconst 1, 1) := by decide +kernel
theorem dX12_readsLamp_50 : decode cX12_readsLamp 50 = .ok (.invokevirtual 109, 3) := by decide +kernel
theorem dX12_readsLamp_53 : decode cX12_readsLamp 53 = .ok (.ifCond .eq 7, 3) := by decide +kernel
theorem dX12_readsLamp_56 : decode cX12_readsLamp 56 = .ok (.iconst 1, 1) := by decide +kernel
theorem dX12_readsLamp_57 : decode cX12_readsLamp 57 = .ok (.goto 4, 3) := by decide +kernel
theorem dX12_readsLamp_60 : decode cX12_readsLamp 60 = .ok (.iconst 0, 1) := by decide +kernel
theorem dX12_readsLamp_61 : decode cX12_readsLamp 61 = .ok (.ireturn, 1) := by decide +kernel
set_option maxRecDepth 20000 in
theorem ggX12_readsAll_X12_readsLamp : GoodIn wsX12_readsAll wsX12_readsLamp := goodIn_r _ [5, 6, 7, 8, 9, 10, 4, 11, 12, 13, 14, 15, 16, 17, 18, 19, 20, 21, 22, 23, 24, 25, 26, 27, 28, 29, 30, 31, 32, 33, 34, 35, 36, 37, 38, 39, 40, 41, 42, 43, 44, 45, 46, 47, 48, 49, 50, 51, 52, 53, 54, 55, 56] (by decide +kernel) (by decide +kernel)
set_option maxRecDepth 20000 in
theorem gX12_readsAll_X12_readsLamp : GoodIn wsX12_readsAll (wsV RX12 113 RX12 yX12_readsLamp wsX12_readsLamp) := goodIn_app (goodIn_of _ (by decide +kernel)) ggX12_readsAll_X12_readsLamp
set_option maxRecDepth 20000 in
theorem ggX12_readsAll_X12_readsDigits : GoodIn wsX12_readsAll wsX12_readsDigits := goodIn_r _ [20, 7, 6, 8, 9, 10, 4, 11, 12, 13, 21, 22, 23, 24, 25, 26, 27, 28, 29, 30, 31, 32, 33, 34, 35, 36, 37, 38, 39, 40, 41, 42, 43, 44, 45, 46, 47, 48, 49, 50, 51, 52, 53, 54, 55, 56] (by decide +kernel) (by decide +kernel)
set_option maxRecDepth 20000 in
theorem gX12_readsAll_X12_readsDigits : GoodIn wsX12_readsAll (wsV RX12 109 RX12 yX12_readsDigits wsX12_readsDigits) := goodIn_app (goodIn_of _ (by decide +kernel)) ggX12_readsAll_X12_readsDigits
theorem dX12_readsAll_0 : decode cX12_readsAll 0 = .ok (.iload_n 1, 1) := by decide +kernel
theorem dX12_readsAll_1 : decode cX12_readsAll 1 = .ok (.lookupswitch 82 #[(103, 56), (108, 43), (112, 49), (119, 49)], 43) := by decide +kernel
theorem dX12_readsAll_44 : decode cX12_readsAll 44 = .ok (.aload_n 0, 1) := by decide +kernel
theorem dX12_readsAll_45 : decode cX12_readsAll 45 = .ok (.iload_n 2, 1) := by decide +kernel
theorem dX12_readsAll_46 : decode cX12_readsAll 46 = .ok (.invokevirtual 113, 3) := by decide +kernel
theorem dX12_readsAll_49 : decode cX12_readsAll 49 = .ok (.ireturn, 1) := by decide +kernel
theorem dX12_readsAll_50 : decode cX12_readsAll 50 = .ok (.aload_n 0, 1) := by decide +kernel
theorem dX12_readsAll_51 : decode cX12_readsAll 51 = .ok (.iload_n 2, 1) := by decide +kernel
theorem dX12_readsAll_52 : decode cX12_readsAll 52 = .ok (.iconst 2, 1) := by decide +kernel
theorem dX12_readsAll_53 : decode cX12_readsAll 53 = .ok (.invokevirtual 109, 3) := by decide +kernel
theorem dX12_readsAll_56 : decode cX12_readsAll 56 = .ok (.ireturn, 1) := by decide +kernel
theorem dX12_readsAll_57 : decode cX12_readsAll 57 = .ok (.aload_n 0, 1) := by decide +kernel
theorem dX12_readsAll_58 : decode cX12_readsAll 58 = .ok (.iload_n 2, 1) := by decide +kernel
theorem dX12_readsAll_59 : decode cX12_readsAll 59 = .ok (.iconst 1, 1) := by decide +kernel
theorem dX12_readsAll_60 : decode cX12_readsAll 60 = .ok (.invokevirtual 109, 3) := by decide +kernel
theorem dX12_readsAll_63 : decode cX12_readsAll 63 = .ok (.ifCond .eq 18, 3) := by decide +kernel
theorem dX12_readsAll_66 : decode cX12_readsAll 66 = .ok (.aload_n 0, 1) := by decide +kernel
theorem dX12_readsAll_67 : decode cX12_readsAll 67 = .ok (.iload_n 2, 1) := by decide +kernel
theorem dX12_readsAll_68 : decode cX12_readsAll 68 = .ok (.iconst 1, 1) := by decide +kernel
theorem dX12_readsAll_69 : decode cX12_readsAll 69 = .ok (.iadd, 1) := by decide +kernel
theorem dX12_readsAll_70 : decode cX12_readsAll 70 = .ok (.iconst 2, 1) := by decide +kernel
theorem dX12_readsAll_71 : decode cX12_readsAll 71 = .ok (.invokevirtual 109, 3) := by decide +kernel
theorem dX12_readsAll_74 : decode cX12_readsAll 74 = .ok (.ifCond .eq 7, 3) := by decide +kernel
theorem dX12_readsAll_77 : decode cX12_readsAll 77 = .ok (.iconst 1, 1) := by decide +kernel
theorem dX12_readsAll_78 : decode cX12_readsAll 78 = .ok (.goto 4, 3) := by decide +kernel
theorem dX12_readsAll_81 : decode cX12_readsAll 81 = .ok (.iconst 0, 1) := by decide +kernel
theorem dX12_readsAll_82 : decode cX12_readsAll 82 = .ok (.ireturn, 1) := by decide +kernel
theorem dX12_readsAll_83 : decode cX12_readsAll 83 = .ok (.aload_n 0, 1) := by decide +kernel
theorem dX12_readsAll_84 : decode cX12_readsAll 84 = .ok (.iload_n 2, 1) := by decide +kernel
theorem dX12_readsAll_85 : decode cX12_readsAll 85 = .ok (.iconst 1, 1) := by decide +kernel
theorem dX12_readsAll_86 : decode cX12_readsAll 86 = .ok (.invokevirtual 109, 3) := by decide +kernel
theorem dX12_readsAll_89 : decode cX12_readsAll 89 = .ok (.ireturn, 1) := by decide +kernel
set_option maxRecDepth 20000 in
theorem ggX12_statement_X12_signAt : GoodIn wsX12_statement wsX12_signAt := goodIn_r _ [9, 4, 10, 11, 31, 32, 33, 34, 35, 36, 37, 38, 39, 40, 41, 42, 43, 44, 45, 46, 47, 48, 49, 50, 51, 52, 53, 54, 55, 56, 57, 58, 59, 60, 61, 62, 63] (by decide +kernel) (by decide +kernel)
set_option maxRecDepth 20000 in
theorem gX12_statement_X12_signAt : GoodIn wsX12_statement (wsV RX12 98 RX12 yX12_signAt wsX12_signAt) := goodIn_app (goodIn_of _ (by decide +kernel)) ggX12_statement_X12_signAt
set_option maxRecDepth 20000 in
theorem ggX12_statement_X12_readsAll : GoodIn wsX12_statement wsX12_readsAll := goodIn_r _ [15, 16, 17, 18, 8, 19, 20, 4, 5, 6, 7, 9, 10, 11, 21, 22, 23, 24, 25, 26, 27, 28, 29, 30, 31, 32, 33, 34, 35, 36, 37, 38, 39, 40, 41, 42, 43, 44, 45, 46, 47, 48, 49, 50, 51, 52, 53, 54, 55, 56, 57, 58, 59, 60, 61, 62, 63] (by decide +kernel) (by decide +kernel)
set_option maxRecDepth 20000 in
theorem gX12_statement_X12_readsAll : GoodIn wsX12_statement (wsV RX12 120 RX12 yX12_readsAll wsX12_readsAll) := goodIn_app (goodIn_of _ (by decide +kernel)) ggX12_statement_X12_readsAll
theorem dX12_statement_0 : decode cX12_statement 0 = .ok (.aload_n 0, 1) := by decide +kernel
theorem dX12_statement_1 : decode cX12_statement 1 = .ok (.invokevirtual 98, 3) := by decide +kernel
theorem dX12_statement_4 : decode cX12_statement 4 = .ok (.istore_n 1, 1) := by decide +kernel
theorem dX12_statement_5 : decode cX12_statement 5 = .ok (.iload_n 1, 1) := by decide +kernel
theorem dX12_statement_6 : decode cX12_statement 6 = .ok (.bipush 108, 2) := by decide +kernel
theorem dX12_statement_8 : decode cX12_statement 8 = .ok (.if_icmp .eq 35, 3) := by decide +kernel
theorem dX12_statement_11 : decode cX12_statement 11 = .ok (.iload_n 1, 1) := by decide +kernel
theorem dX12_statement_12 : decode cX12_statement 12 = .ok (.bipush 119, 2) := by decide +kernel
theorem dX12_statement_14 : decode cX12_statement 14 = .ok (.if_icmp .eq 29, 3) := by decide +kernel
theorem dX12_statement_17 : decode cX12_statement 17 = .ok (.iload_n 1, 1) := by decide +kernel
theorem dX12_statement_18 : decode cX12_statement 18 = .ok (.bipush 112, 2) := by decide +kernel
theorem dX12_statement_20 : decode cX12_statement 20 = .ok (.if_icmp .eq 23, 3) := by decide +kernel
theorem dX12_statement_23 : decode cX12_statement 23 = .ok (.iload_n 1, 1) := by decide +kernel
theorem dX12_statement_24 : decode cX12_statement 24 = .ok (.bipush 103, 2) := by decide +kernel
theorem dX12_statement_26 : decode cX12_statement 26 = .ok (.if_icmp .eq 17, 3) := by decide +kernel
theorem dX12_statement_29 : decode cX12_statement 29 = .ok (.iload_n 1, 1) := by decide +kernel
theorem dX12_statement_30 : decode cX12_statement 30 = .ok (.bipush 115, 2) := by decide +kernel
theorem dX12_statement_32 : decode cX12_statement 32 = .ok (.if_icmp .eq 11, 3) := by decide +kernel
theorem dX12_statement_35 : decode cX12_statement 35 = .ok (.iload_n 1, 1) := by decide +kernel
theorem dX12_statement_36 : decode cX12_statement 36 = .ok (.bipush 98, 2) := by decide +kernel
theorem dX12_statement_38 : decode cX12_statement 38 = .ok (.if_icmp .eq 5, 3) := by decide +kernel
theorem dX12_statement_41 : decode cX12_statement 41 = .ok (.iconst 0, 1) := by decide +kernel
theorem dX12_statement_42 : decode cX12_statement 42 = .ok (.ireturn, 1) := by decide +kernel
theorem dX12_statement_43 : decode cX12_statement 43 = .ok (.aload_n 0, 1) := by decide +kernel
theorem dX12_statement_44 : decode cX12_statement 44 = .ok (.getfield 46, 3) := by decide +kernel
theorem dX12_statement_47 : decode cX12_statement 47 = .ok (.aload_n 0, 1) := by decide +kernel
theorem dX12_statement_48 : decode cX12_statement 48 = .ok (.getfield 117, 3) := by decide +kernel
theorem dX12_statement_51 : decode cX12_statement 51 = .ok (.iload_n 1, 1) := by decide +kernel
theorem dX12_statement_52 : decode cX12_statement 52 = .ok (.iastore, 1) := by decide +kernel
theorem dX12_statement_53 : decode cX12_statement 53 = .ok (.aload_n 0, 1) := by decide +kernel
theorem dX12_statement_54 : decode cX12_statement 54 = .ok (.getfield 49, 3) := by decide +kernel
theorem dX12_statement_57 : decode cX12_statement 57 = .ok (.aload_n 0, 1) := by decide +kernel
theorem dX12_statement_58 : decode cX12_statement 58 = .ok (.getfield 117, 3) := by decide +kernel
theorem dX12_statement_61 : decode cX12_statement 61 = .ok (.aload_n 0, 1) := by decide +kernel
theorem dX12_statement_62 : decode cX12_statement 62 = .ok (.getfield 95, 3) := by decide +kernel
theorem dX12_statement_65 : decode cX12_statement 65 = .ok (.iastore, 1) := by decide +kernel
theorem dX12_statement_66 : decode cX12_statement 66 = .ok (.aload_n 0, 1) := by decide +kernel
theorem dX12_statement_67 : decode cX12_statement 67 = .ok (.dup, 1) := by decide +kernel
theorem dX12_statement_68 : decode cX12_statement 68 = .ok (.getfield 95, 3) := by decide +kernel
theorem dX12_statement_71 : decode cX12_statement 71 = .ok (.iconst 1, 1) := by decide +kernel
theorem dX12_statement_72 : decode cX12_statement 72 = .ok (.iadd, 1) := by decide +kernel
theorem dX12_statement_73 : decode cX12_statement 73 = .ok (.putfield 95, 3) := by decide +kernel
theorem dX12_statement_76 : decode cX12_statement 76 = .ok (.aload_n 0, 1) := by decide +kernel
theorem dX12_statement_77 : decode cX12_statement 77 = .ok (.iload_n 1, 1) := by decide +kernel
theorem dX12_statement_78 : decode cX12_statement 78 = .ok (.iconst 3, 1) := by decide +kernel
theorem dX12_statement_79 : decode cX12_statement 79 = .ok (.aload_n 0, 1) := by decide +kernel
theorem dX12_statement_80 : decode cX12_statement 80 = .ok (.getfield 117, 3) := by decide +kernel
theorem dX12_statement_83 : decode cX12_statement 83 = .ok (.imul, 1) := by decide +kernel
theorem dX12_statement_84 : decode cX12_statement 84 = .ok (.invokevirtual 120, 3) := by decide +kernel
theorem dX12_statement_87 : decode cX12_statement 87 = .ok (.ifCond .eq 12, 3) := by decide +kernel
theorem dX12_statement_90 : decode cX12_statement 90 = .ok (.aload_n 0, 1) := by decide +kernel
theorem dX12_statement_91 : decode cX12_statement 91 = .ok (.invokevirtual 98, 3) := by decide +kernel
theorem dX12_statement_94 : decode cX12_statement 94 = .ok (.bipush 59, 2) := by decide +kernel
theorem dX12_statement_96 : decode cX12_statement 96 = .ok (.if_icmp .eq 5, 3) := by decide +kernel
theorem dX12_statement_99 : decode cX12_statement 99 = .ok (.iconst 0, 1) := by decide +kernel
theorem dX12_statement_100 : decode cX12_statement 100 = .ok (.ireturn, 1) := by decide +kernel
theorem dX12_statement_101 : decode cX12_statement 101 = .ok (.aload_n 0, 1) := by decide +kernel
theorem dX12_statement_102 : decode cX12_statement 102 = .ok (.dup, 1) := by decide +kernel
theorem dX12_statement_103 : decode cX12_statement 103 = .ok (.getfield 95, 3) := by decide +kernel
theorem dX12_statement_106 : decode cX12_statement 106 = .ok (.iconst 1, 1) := by decide +kernel
theorem dX12_statement_107 : decode cX12_statement 107 = .ok (.iadd, 1) := by decide +kernel
theorem dX12_statement_108 : decode cX12_statement 108 = .ok (.putfield 95, 3) := by decide +kernel
theorem dX12_statement_111 : decode cX12_statement 111 = .ok (.iconst 1, 1) := by decide +kernel
theorem dX12_statement_112 : decode cX12_statement 112 = .ok (.ireturn, 1) := by decide +kernel
set_option maxRecDepth 20000 in
theorem ggX12_comesLamp_X12_isCell : GoodIn wsX12_comesLamp wsX12_isCell := goodIn_r _ [11] (by decide +kernel) (by decide +kernel)
set_option maxRecDepth 20000 in
theorem gX12_comesLamp_X12_isCell : GoodIn wsX12_comesLamp (va_wsS RX12 123 yX12_isCell wsX12_isCell) := goodIn_app (goodIn_of _ (by decide +kernel)) ggX12_comesLamp_X12_isCell
theorem dX12_comesLamp_0 : decode cX12_comesLamp 0 = .ok (.aload_n 0, 1) := by decide +kernel
theorem dX12_comesLamp_1 : decode cX12_comesLamp 1 = .ok (.getfield 52, 3) := by decide +kernel
theorem dX12_comesLamp_4 : decode cX12_comesLamp 4 = .ok (.iload_n 1, 1) := by decide +kernel
theorem dX12_comesLamp_5 : decode cX12_comesLamp 5 = .ok (.iconst 1, 1) := by decide +kernel
theorem dX12_comesLamp_6 : decode cX12_comesLamp 6 = .ok (.iadd, 1) := by decide +kernel
theorem dX12_comesLamp_7 : decode cX12_comesLamp 7 = .ok (.iaload, 1) := by decide +kernel
theorem dX12_comesLamp_8 : decode cX12_comesLamp 8 = .ok (.invokestatic 123, 3) := by decide +kernel
theorem dX12_comesLamp_11 : decode cX12_comesLamp 11 = .ok (.ifCond .eq 24, 3) := by decide +kernel
theorem dX12_comesLamp_14 : decode cX12_comesLamp 14 = .ok (.aload_n 0, 1) := by decide +kernel
theorem dX12_comesLamp_15 : decode cX12_comesLamp 15 = .ok (.getfield 52, 3) := by decide +kernel
theorem dX12_comesLamp_18 : decode cX12_comesLamp 18 = .ok (.iload_n 1, 1) := by decide +kernel
theorem dX12_comesLamp_19 : decode cX12_comesLamp 19 = .ok (.iconst 2, 1) := by decide +kernel
theorem dX12_comesLamp_20 : decode cX12_comesLamp 20 = .ok (.iadd, 1) := by decide +kernel
theorem dX12_comesLamp_21 : decode cX12_comesLamp 21 = .ok (.iaload, 1) := by decide +kernel
theorem dX12_comesLamp_22 : decode cX12_comesLamp 22 = .ok (.iconst 5, 1) := by decide +kernel
theorem dX12_comesLamp_23 : decode cX12_comesLamp 23 = .ok (.if_icmp .gt 12, 3) := by decide +kernel
theorem dX12_comesLamp_26 : decode cX12_comesLamp 26 = .ok (.aload_n 0, 1) := by decide +kernel
theorem dX12_comesLamp_27 : decode cX12_comesLamp 27 = .ok (.getfield 76, 3) := by decide +kernel
theorem dX12_comesLamp_30 : decode cX12_comesLamp 30 = .ok (.bipush 6, 2) := by decide +kernel
theorem dX12_comesLamp_32 : decode cX12_comesLamp 32 = .ok (.if_icmp .ne 5, 3) := by decide +kernel
theorem dX12_comesLamp_35 : decode cX12_comesLamp 35 = .ok (.iconst 0, 1) := by decide +kernel
theorem dX12_comesLamp_36 : decode cX12_comesLamp 36 = .ok (.ireturn, 1) := by decide +kernel
theorem dX12_comesLamp_37 : decode cX12_comesLamp 37 = .ok (.aload_n 0, 1) := by decide +kernel
theorem dX12_comesLamp_38 : decode cX12_comesLamp 38 = .ok (.getfield 16, 3) := by decide +kernel
theorem dX12_comesLamp_41 : decode cX12_comesLamp 41 = .ok (.aload_n 0, 1) := by decide +kernel
theorem dX12_comesLamp_42 : decode cX12_comesLamp 42 = .ok (.getfield 76, 3) := by decide +kernel
theorem dX12_comesLamp_45 : decode cX12_comesLamp 45 = .ok (.aload_n 0, 1) := by decide +kernel
theorem dX12_comesLamp_46 : decode cX12_comesLamp 46 = .ok (.getfield 52, 3) := by decide +kernel
theorem dX12_comesLamp_49 : decode cX12_comesLamp 49 = .ok (.iload_n 1, 1) := by decide +kernel
theorem dX12_comesLamp_50 : decode cX12_comesLamp 50 = .ok (.iaload, 1) := by decide +kernel
theorem dX12_comesLamp_51 : decode cX12_comesLamp 51 = .ok (.iastore, 1) := by decide +kernel
theorem dX12_comesLamp_52 : decode cX12_comesLamp 52 = .ok (.aload_n 0, 1) := by decide +kernel
theorem dX12_comesLamp_53 : decode cX12_comesLamp 53 = .ok (.getfield 19, 3) := by decide +kernel
theorem dX12_comesLamp_56 : decode cX12_comesLamp 56 = .ok (.aload_n 0, 1) := by decide +kernel
theorem dX12_comesLamp_57 : decode cX12_comesLamp 57 = .ok (.getfield 76, 3) := by decide +kernel
theorem dX12_comesLamp_60 : decode cX12_comesLamp 60 = .ok (.aload_n 0, 1) := by decide +kernel
theorem dX12_comesLamp_61 : decode cX12_comesLamp 61 = .ok (.getfield 52, 3) := by decide +kernel
theorem dX12_comesLamp_64 : decode cX12_comesLamp 64 = .ok (.iload_n 1, 1) := by decide +kernel
theorem dX12_comesLamp_65 : decode cX12_comesLamp 65 = .ok (.iconst 1, 1) := by decide +kernel
theorem dX12_comesLamp_66 : decode cX12_comesLamp 66 = .ok (.iadd, 1) := by decide +kernel
theorem dX12_comesLamp_67 : decode cX12_comesLamp 67 = .ok (.iaload, 1) := by decide +kernel
theorem dX12_comesLamp_68 : decode cX12_comesLamp 68 = .ok (.iastore, 1) := by decide +kernel
theorem dX12_comesLamp_69 : decode cX12_comesLamp 69 = .ok (.aload_n 0, 1) := by decide +kernel
theorem dX12_comesLamp_70 : decode cX12_comesLamp 70 = .ok (.getfield 22, 3) := by decide +kernel
theorem dX12_comesLamp_73 : decode cX12_comesLamp 73 = .ok (.aload_n 0, 1) := by decide +kernel
theorem dX12_comesLamp_74 : decode cX12_comesLamp 74 = .ok (.getfield 76, 3) := by decide +kernel
theorem dX12_comesLamp_77 : decode cX12_comesLamp 77 = .ok (.aload_n 0, 1) := by decide +kernel
theorem dX12_comesLamp_78 : decode cX12_comesLamp 78 = .ok (.getfield 52, 3) := by decide +kernel
theorem dX12_comesLamp_81 : decode cX12_comesLamp 81 = .ok (.iload_n 1, 1) := by decide +kernel
theorem dX12_comesLamp_82 : decode cX12_comesLamp 82 = .ok (.iconst 2, 1) := by decide +kernel
theorem dX12_comesLamp_83 : decode cX12_comesLamp 83 = .ok (.iadd, 1) := by decide +kernel
theorem dX12_comesLamp_84 : decode cX12_comesLamp 84 = .ok (.iaload, 1) := by decide +kernel
theorem dX12_comesLamp_85 : decode cX12_comesLamp 85 = .ok (.iastore, 1) := by decide +kernel
theorem dX12_comesLamp_86 : decode cX12_comesLamp 86 = .ok (.aload_n 0, 1) := by decide +kernel
theorem dX12_comesLamp_87 : decode cX12_comesLamp 87 = .ok (.getfield 25, 3) := by decide +kernel
theorem dX12_comesLamp_90 : decode cX12_comesLamp 90 = .ok (.aload_n 0, 1) := by decide +kernel
theorem dX12_comesLamp_91 : decode cX12_comesLamp 91 = .ok (.getfield 76, 3) := by decide +kernel
theorem dX12_comesLamp_94 : decode cX12_comesLamp 94 = .ok (.iconst 1, 1) := by decide +kernel
theorem dX12_comesLamp_95 : decode cX12_comesLamp 95 = .ok (.iastore, 1) := by decide +kernel
theorem dX12_comesLamp_96 : decode cX12_comesLamp 96 = .ok (.aload_n 0, 1) := by decide +kernel
theorem dX12_comesLamp_97 : decode cX12_comesLamp 97 = .ok (.getfield 28, 3) := by decide +kernel
theorem dX12_comesLamp_100 : decode cX12_comesLamp 100 = .ok (.aload_n 0, 1) := by decide +kernel
theorem dX12_comesLamp_101 : decode cX12_comesLamp 101 = .ok (.getfield 76, 3) := by decide +kernel
theorem dX12_comesLamp_104 : decode cX12_comesLamp 104 = .ok (.iconst 0, 1) := by decide +kernel
theorem dX12_comesLamp_105 : decode cX12_comesLamp 105 = .ok (.iastore, 1) := by decide +kernel
theorem dX12_comesLamp_106 : decode cX12_comesLamp 106 = .ok (.aload_n 0, 1) := by decide +kernel
theorem dX12_comesLamp_107 : decode cX12_comesLamp 107 = .ok (.dup, 1) := by decide +kernel
theorem dX12_comesLamp_108 : decode cX12_comesLamp 108 = .ok (.getfield 76, 3) := by decide +kernel
theorem dX12_comesLamp_111 : decode cX12_comesLamp 111 = .ok (.iconst 1, 1) := by decide +kernel
theorem dX12_comesLamp_112 : decode cX12_comesLamp 112 = .ok (.iadd, 1) := by decide +kernel
theorem dX12_comesLamp_113 : decode cX12_comesLamp 113 = .ok (.putfield 76, 3) := by decide +kernel
theorem dX12_comesLamp_116 : decode cX12_comesLamp 116 = .ok (.iconst 1, 1) := by decide +kernel
theorem dX12_comesLamp_117 : decode cX12_comesLamp 117 = .ok (.ireturn, 1) := by decide +kernel
set_option maxRecDepth 20000 in
theorem ggX12_notWall_X12_isCell : GoodIn wsX12_notWall wsX12_isCell := goodIn_r _ [5] (by decide +kernel) (by decide +kernel)
set_option maxRecDepth 20000 in
theorem gX12_notWall_X12_isCell : GoodIn wsX12_notWall (va_wsS RX12 123 yX12_isCell wsX12_isCell) := goodIn_app (goodIn_of _ (by decide +kernel)) ggX12_notWall_X12_isCell
set_option maxRecDepth 20000 in
theorem ggX12_notWall_X12_isSomebodyAt : GoodIn wsX12_notWall wsX12_isSomebodyAt := goodIn_r _ [9, 10, 11, 16, 17, 18, 19, 20, 21, 22, 23, 24, 25, 26, 27, 28, 29, 30, 31, 32, 33, 34, 35, 36, 37, 38, 39, 40, 41, 42, 43, 44, 45, 46, 47, 48] (by decide +kernel) (by decide +kernel)
set_option maxRecDepth 20000 in
theorem gX12_notWall_X12_isSomebodyAt : GoodIn wsX12_notWall (wsV RX12 126 RX12 yX12_isSomebodyAt wsX12_isSomebodyAt) := goodIn_app (goodIn_of _ (by decide +kernel)) ggX12_notWall_X12_isSomebodyAt
set_option maxRecDepth 20000 in
theorem ggX12_notWall_X12_wallMany : GoodIn wsX12_notWall wsX12_wallMany := goodIn_r _ [15, 1, 16, 17, 18, 19, 20, 21, 22, 23, 24, 25, 26, 27, 28, 29, 30, 31, 32, 33, 34, 35, 36, 37, 38, 39, 40, 41, 42, 43, 44, 45, 46, 47, 48] (by decide +kernel) (by decide +kernel)
set_option maxRecDepth 20000 in
theorem gX12_notWall_X12_wallMany : GoodIn wsX12_notWall (wsV RX12 129 RX12 yX12_wallMany wsX12_wallMany) := goodIn_app (goodIn_of _ (by decide +kernel)) ggX12_notWall_X12_wallMany
theorem dX12_notWall_0 : decode cX12_notWall 0 = .ok (.iload_n 1, 1) := by decide +kernel
theorem dX12_notWall_1 : decode cX12_notWall 1 = .ok (.invokestatic 123, 3) := by decide +kernel
theorem dX12_notWall_4 : decode cX12_notWall 4 = .ok (.ifCond .ne 7, 3) := by decide +kernel
theorem dX12_notWall_7 : decode cX12_notWall 7 = .ok (.iconst (-1), 1) := by decide +kernel
theorem dX12_notWall_8 : decode cX12_notWall 8 = .ok (.goto 40, 3) := by decide +kernel
theorem dX12_notWall_11 : decode cX12_notWall 11 = .ok (.aload_n 0, 1) := by decide +kernel
theorem dX12_notWall_12 : decode cX12_notWall 12 = .ok (.iload_n 1, 1) := by decide +kernel
theorem dX12_notWall_13 : decode cX12_notWall 13 = .ok (.invokevirtual 126, 3) := by decide +kernel
theorem dX12_notWall_16 : decode cX12_notWall 16 = .ok (.ifCond .eq 8, 3) := by decide +kernel
theorem dX12_notWall_19 : decode cX12_notWall 19 = .ok (.bipush (-3), 2) := by decide +kernel
theorem dX12_notWall_21 : decode cX12_notWall 21 = .ok (.goto 27, 3) := by decide +kernel
theorem dX12_notWall_24 : decode cX12_notWall 24 = .ok (.aload_n 0, 1) := by decide +kernel
theorem dX12_notWall_25 : decode cX12_notWall 25 = .ok (.getfield 13, 3) := by decide +kernel
theorem dX12_notWall_28 : decode cX12_notWall 28 = .ok (.iload_n 1, 1) := by decide +kernel
theorem dX12_notWall_29 : decode cX12_notWall 29 = .ok (.iaload, 1) := by decide +kernel
theorem dX12_notWall_30 : decode cX12_notWall 30 = .ok (.ifCond .ne 17, 3) := by decide +kernel
theorem dX12_notWall_33 : decode cX12_notWall 33 = .ok (.aload_n 0, 1) := by decide +kernel
theorem dX12_notWall_34 : decode cX12_notWall 34 = .ok (.invokevirtual 129, 3) := by decide +kernel
theorem dX12_notWall_37 : decode cX12_notWall 37 = .ok (.bipush 18, 2) := by decide +kernel
theorem dX12_notWall_39 : decode cX12_notWall 39 = .ok (.if_icmp .ne 8, 3) := by decide +kernel
theorem dX12_notWall_42 : decode cX12_notWall 42 = .ok (.bipush (-6), 2) := by decide +kernel
theorem dX12_notWall_44 : decode cX12_notWall 44 = .ok (.goto 4, 3) := by decide +kernel
theorem dX12_notWall_47 : decode cX12_notWall 47 = .ok (.iconst 0, 1) := by decide +kernel
theorem dX12_notWall_48 : decode cX12_notWall 48 = .ok (.ireturn, 1) := by decide +kernel
set_option maxRecDepth 20000 in
theorem ggX12_notPerson_X12_isCell : GoodIn wsX12_notPerson wsX12_isCell := goodIn_r _ [6] (by decide +kernel) (by decide +kernel)
set_option maxRecDepth 20000 in
theorem gX12_notPerson_X12_isCell : GoodIn wsX12_notPerson (va_wsS RX12 123 yX12_isCell wsX12_isCell) := goodIn_app (goodIn_of _ (by decide +kernel)) ggX12_notPerson_X12_isCell
theorem dX12_notPerson_0 : decode cX12_notPerson 0 = .ok (.iload_n 1, 1) := by decide +kernel
theorem dX12_notPerson_1 : decode cX12_notPerson 1 = .ok (.invokestatic 123, 3) := by decide +kernel
theorem dX12_notPerson_4 : decode cX12_notPerson 4 = .ok (.ifCond .ne 7, 3) := by decide +kernel
theorem dX12_notPerson_7 : decode cX12_notPerson 7 = .ok (.iconst (-1), 1) := by decide +kernel
theorem dX12_notPerson_8 : decode cX12_notPerson 8 = .ok (.goto 32, 3) := by decide +kernel
theorem dX12_notPerson_11 : decode cX12_notPerson 11 = .ok (.aload_n 0, 1) := by decide +kernel
theorem dX12_notPerson_12 : decode cX12_notPerson 12 = .ok (.getfield 13, 3) := by decide +kernel
theorem dX12_notPerson_15 : decode cX12_notPerson 15 = .ok (.iload_n 1, 1) := by decide +kernel
theorem dX12_notPerson_16 : decode cX12_notPerson 16 = .ok (.iaload, 1) := by decide +kernel
theorem dX12_notPerson_17 : decode cX12_notPerson 17 = .ok (.iconst 1, 1) := by decide +kernel
theorem dX12_notPerson_18 : decode cX12_notPerson 18 = .ok (.if_icmp .ne 8, 3) := by decide +kernel
theorem dX12_notPerson_21 : decode cX12_notPerson 21 = .ok (.bipush (-3), 2) := by decide +kernel
theorem dX12_notPerson_23 : decode cX12_notPerson 23 = .ok (.goto 17, 3) := by decide +kernel
theorem dX12_notPerson_26 : decode cX12_notPerson 26 = .ok (.aload_n 0, 1) := by decide +kernel
theorem dX12_notPerson_27 : decode cX12_notPerson 27 = .ok (.getfield 81, 3) := by decide +kernel
theorem dX12_notPerson_30 : decode cX12_notPerson 30 = .ok (.iconst 4, 1) := by decide +kernel
theorem dX12_notPerson_31 : decode cX12_notPerson 31 = .ok (.if_icmp .ne 8, 3) := by decide +kernel
theorem dX12_notPerson_34 : decode cX12_notPerson 34 = .ok (.bipush (-6), 2) := by decide +kernel
theorem dX12_notPerson_36 : decode cX12_notPerson 36 = .ok (.goto 4, 3) := by decide +kernel
theorem dX12_notPerson_39 : decode cX12_notPerson 39 = .ok (.iconst 0, 1) := by decide +kernel
theorem dX12_notPerson_40 : decode cX12_notPerson 40 = .ok (.ireturn, 1) := by decide +kernel
set_option maxRecDepth 20000 in
theorem ggX12_notGo_X12_isPerson : GoodIn wsX12_notGo wsX12_isPerson := goodIn_r _ [7, 8, 36, 37, 38, 39, 40, 41, 42, 43, 44, 45, 46, 47, 48, 49, 50, 51, 52, 53, 54, 55, 56, 57, 58, 59, 60, 61, 62, 63, 64, 65, 66, 67, 68] (by decide +kernel) (by decide +kernel)
set_option maxRecDepth 20000 in
theorem gX12_notGo_X12_isPerson : GoodIn wsX12_notGo (wsV RX12 132 RX12 yX12_isPerson wsX12_isPerson) := goodIn_app (goodIn_of _ (by decide +kernel)) ggX12_notGo_X12_isPerson
set_option maxRecDepth 20000 in
theorem ggX12_notGo_X12_isCell : GoodIn wsX12_notGo wsX12_isCell := goodIn_r _ [11] (by decide +kernel) (by decide +kernel)
set_option maxRecDepth 20000 in
theorem gX12_notGo_X12_isCell : GoodIn wsX12_notGo (va_wsS RX12 123 yX12_isCell wsX12_isCell) := goodIn_app (goodIn_of _ (by decide +kernel)) ggX12_notGo_X12_isCell
set_option maxRecDepth 20000 in
theorem ggX12_notGo_X12_stepsOf : GoodIn wsX12_notGo wsX12_stepsOf := goodIn_r _ [15, 16, 17, 18, 19, 6, 20, 21, 22, 23, 24, 25, 26, 27, 28, 29, 30, 31, 32, 33, 34, 35, 36, 37, 38, 39, 40, 41, 42, 43, 44, 45, 46, 47, 48, 49, 50, 51, 52, 53, 54, 55, 56, 57, 58, 59, 60, 61, 62, 63, 64, 65, 66, 67, 68] (by decide +kernel) (by decide +kernel)
set_option maxRecDepth 20000 in
theorem gX12_notGo_X12_stepsOf : GoodIn wsX12_notGo (wsV RX12 135 RX12 yX12_stepsOf wsX12_stepsOf) := goodIn_app (goodIn_of _ (by decide +kernel)) ggX12_notGo_X12_stepsOf
theorem dX12_notGo_0 : decode cX12_notGo 0 = .ok (.aload_n 0, 1) := by decide +kernel
theorem dX12_notGo_1 : decode cX12_notGo 1 = .ok (.iload_n 1, 1) := by decide +kernel
theorem dX12_notGo_2 : decode cX12_notGo 2 = .ok (.invokevirtual 132, 3) := by decide +kernel
theorem dX12_notGo_5 : decode cX12_notGo 5 = .ok (.ifCond .eq 10, 3) := by decide +kernel
theorem dX12_notGo_8 : decode cX12_notGo 8 = .ok (.iload_n 2, 1) := by decide +kernel
theorem dX12_notGo_9 : decode cX12_notGo 9 = .ok (.invokestatic 123, 3) := by decide +kernel
theorem dX12_notGo_12 : decode cX12_notGo 12 = .ok (.ifCond .ne 5, 3) := by decide +kernel
theorem dX12_notGo_15 : decode cX12_notGo 15 = .ok (.iconst (-1), 1) := by decide +kernel
theorem dX12_notGo_16 : decode cX12_notGo 16 = .ok (.ireturn, 1) := by decide +kernel
theorem dX12_notGo_17 : decode cX12_notGo 17 = .ok (.aload_n 0, 1) := by decide +kernel
theorem dX12_notGo_18 : decode cX12_notGo 18 = .ok (.aload_n 0, 1) := by decide +kernel
theorem dX12_notGo_19 : decode cX12_notGo 19 = .ok (.getfield 40, 3) := by decide +kernel
theorem dX12_notGo_22 : decode cX12_notGo 22 = .ok (.iload_n 1, 1) := by decide +kernel
theorem dX12_notGo_23 : decode cX12_notGo 23 = .ok (.iaload, 1) := by decide +kernel
theorem dX12_notGo_24 : decode cX12_notGo 24 = .ok (.iload_n 2, 1) := by decide +kernel
theorem dX12_notGo_25 : decode cX12_notGo 25 = .ok (.invokevirtual 135, 3) := by decide +kernel
theorem dX12_notGo_28 : decode cX12_notGo 28 = .ok (.istore_n 3, 1) := by decide +kernel
theorem dX12_notGo_29 : decode cX12_notGo 29 = .ok (.iload_n 3, 1) := by decide +kernel
theorem dX12_notGo_30 : decode cX12_notGo 30 = .ok (.ifCond .ge 8, 3) := by decide +kernel
theorem dX12_notGo_33 : decode cX12_notGo 33 = .ok (.bipush (-3), 2) := by decide +kernel
theorem dX12_notGo_35 : decode cX12_notGo 35 = .ok (.goto 21, 3) := by decide +kernel
theorem dX12_notGo_38 : decode cX12_notGo 38 = .ok (.aload_n 0, 1) := by decide +kernel
theorem dX12_notGo_39 : decode cX12_notGo 39 = .ok (.getfield 139, 3) := by decide +kernel
theorem dX12_notGo_42 : decode cX12_notGo 42 = .ok (.iload_n 3, 1) := by decide +kernel
theorem dX12_notGo_43 : decode cX12_notGo 43 = .ok (.iadd, 1) := by decide +kernel
theorem dX12_notGo_44 : decode cX12_notGo 44 = .ok (.sipush 9999, 3) := by decide +kernel
theorem dX12_notGo_47 : decode cX12_notGo 47 = .ok (.if_icmp .le 8, 3) := by decide +kernel
theorem dX12_notGo_50 : decode cX12_notGo 50 = .ok (.bipush (-6), 2) := by decide +kernel
theorem dX12_notGo_52 : decode cX12_notGo 52 = .ok (.goto 4, 3) := by decide +kernel
theorem dX12_notGo_55 : decode cX12_notGo 55 = .ok (.iconst 0, 1) := by decide +kernel
theorem dX12_notGo_56 : decode cX12_notGo 56 = .ok (.ireturn, 1) := by decide +kernel
set_option maxRecDepth 20000 in
theorem ggX12_comes_X12_comesLamp : GoodIn wsX12_comes wsX12_comesLamp := goodIn_r _ [12, 1, 13, 14, 15, 16, 6, 7, 17, 18, 11, 19, 113, 114, 115, 116, 117, 118, 119, 120, 121, 122, 123, 124, 125, 126, 127, 128, 129, 130, 131, 132, 133, 134, 135, 136, 137, 138, 139, 140, 141, 142, 143, 144, 145] (by decide +kernel) (by decide +kernel)
set_option maxRecDepth 20000 in
theorem gX12_comes_X12_comesLamp : GoodIn wsX12_comes (wsV RX12 142 RX12 yX12_comesLamp wsX12_comesLamp) := goodIn_app (goodIn_of _ (by decide +kernel)) ggX12_comes_X12_comesLamp
set_option maxRecDepth 20000 in
theorem ggX12_comes_X12_notWall : GoodIn wsX12_comes wsX12_notWall := goodIn_r _ [23, 3, 17, 18, 11, 19, 24, 25, 26, 27, 5, 4, 28, 29, 30, 31, 113, 114, 115, 116, 117, 118, 119, 120, 121, 122, 123, 124, 125, 126, 127, 128, 129, 130, 131, 132, 133, 134, 135, 136, 137, 138, 139, 140, 141, 142, 143, 144, 145] (by decide +kernel) (by decide +kernel)
set_option maxRecDepth 20000 in
theorem gX12_comes_X12_notWall : GoodIn wsX12_comes (wsV RX12 145 RX12 yX12_notWall wsX12_notWall) := goodIn_app (goodIn_of _ (by decide +kernel)) ggX12_comes_X12_notWall
set_option maxRecDepth 20000 in
theorem ggX12_comes_X12_notPerson : GoodIn wsX12_comes wsX12_notPerson := goodIn_r _ [35, 3, 5, 17, 18, 11, 19, 113, 114, 115, 116, 117, 118, 119, 120, 121, 122, 123, 124, 125, 126, 127, 128, 129, 130, 131, 132, 133, 134, 135, 136, 137, 138, 139, 140, 141, 142, 143, 144, 145] (by decide +kernel) (by decide +kernel)
set_option maxRecDepth 20000 in
theorem gX12_comes_X12_notPerson : GoodIn wsX12_comes (wsV RX12 148 RX12 yX12_notPerson wsX12_notPerson) := goodIn_app (goodIn_of _ (by decide +kernel)) ggX12_comes_X12_notPerson
set_option maxRecDepth 20000 in
theorem ggX12_comes_X12_notGo : GoodIn wsX12_comes wsX12_notGo := goodIn_r _ [39, 4, 40, 41, 42, 43, 11, 44, 5, 17, 18, 19, 45, 46, 47, 48, 49, 50, 51, 52, 53, 54, 3, 55, 56, 57, 58, 59, 60, 61, 62, 63, 64, 65, 66, 67, 113, 114, 115, 116, 117, 118, 119, 120, 121, 122, 123, 124, 125, 126, 127, 128, 129, 130, 131, 132, 133, 134, 135, 136, 137, 138, 139, 140, 141, 142, 143, 144, 145] (by decide +kernel) (by decide +kernel)
set_option maxRecDepth 20000 in
theorem gX12_comes_X12_notGo : GoodIn wsX12_comes (wsV RX12 151 RX12 yX12_notGo wsX12_notGo) := goodIn_app (goodIn_of _ (by decide +kernel)) ggX12_comes_X12_notGo
set_option maxRecDepth 20000 in
theorem ggX12_comes_X12_goesTo : GoodIn wsX12_comes wsX12_goesTo := goodIn_r _ [71, 4, 49, 50, 51, 52, 11, 53, 54, 3, 55, 56, 57, 58, 59, 60, 61, 62, 63, 64, 65, 66, 67, 72, 73, 74, 75, 40, 13, 6, 76, 77, 78, 79, 80, 16, 81, 82, 83, 84, 15, 14, 5, 85, 86, 87, 88, 89, 90, 91, 92, 93, 94, 95, 7, 96, 97, 98, 99, 100, 101, 102, 103, 104, 105, 106, 107, 108, 113, 114, 115, 116, 117, 118, 119, 120, 121, 122, 123, 124, 125, 126, 127, 128, 129, 130, 131, 132, 133, 134, 135, 136, 137, 138, 139, 140, 141, 142, 143, 144, 145] (by decide +kernel) (by decide +kernel)
set_option maxRecDepth 20000 in
theorem gX12_comes_X12_goesTo : GoodIn wsX12_comes (wsV RX12 154 RX12 yX12_goesTo wsX12_goesTo) := goodIn_app (goodIn_of _ (by decide +kernel)) ggX12_comes_X12_goesTo
set_option maxRecDepth 20000 in
theorem ggX12_comes_X12_isLamp : GoodIn wsX12_comes wsX12_isLamp := goodIn_r _ [112, 13, 113, 114, 115, 116, 117, 118, 119, 120, 121, 122, 123, 124, 125, 126, 127, 128, 129, 130, 131, 132, 133, 134, 135, 136, 137, 138, 139, 140, 141, 142, 143, 144, 145] (by decide +kernel) (by decide +kernel)
set_option maxRecDepth 20000 in
theorem gX12_comes_X12_isLamp : GoodIn wsX12_comes (wsV RX12 157 RX12 yX12_isLamp wsX12_isLamp) := goodIn_app (goodIn_of _ (by decide +kernel)) ggX12_comes_X12_isLamp
theorem dX12_comes_0 : decode cX12_comes 0 = .ok (.iconst 3, 1) := by decide +kernel
theorem dX12_comes_1 : decode cX12_comes 1 = .ok (.iload_n 1, 1) := by decide +kernel
theorem dX12_comes_2 : decode cX12_comes 2 = .ok (.imul, 1) := by decide +kernel
theorem dX12_comes_3 : decode cX12_comes 3 = .ok (.istore_n 2, 1) := by decide +kernel
theorem dX12_comes_4 : decode cX12_comes 4 = .ok (.aload_n 0, 1) := by decide +kernel
theorem dX12_comes_5 : decode cX12_comes 5 = .ok (.getfield 52, 3) := by decide +kernel
theorem dX12_comes_8 : decode cX12_comes 8 = .ok (.iload_n 2, 1) := by decide +kernel
theorem dX12_comes_9 : decode cX12_comes 9 = .ok (.iaload, 1) := by decide +kernel
theorem dX12_comes_10 : decode cX12_comes 10 = .ok (.istore_n 3, 1) := by decide +kernel
theorem dX12_comes_11 : decode cX12_comes 11 = .ok (.aload_n 0, 1) := by decide +kernel
theorem dX12_comes_12 : decode cX12_comes 12 = .ok (.getfield 46, 3) := by decide +kernel
theorem dX12_comes_15 : decode cX12_comes 15 = .ok (.iload_n 1, 1) := by decide +kernel
theorem dX12_comes_16 : decode cX12_comes 16 = .ok (.iaload, 1) := by decide +kernel
theorem dX12_comes_17 : decode cX12_comes 17 = .ok (.lookupswitch 175 #[(103, 115), (108, 51), (112, 83), (115, 149), (119, 57)], 51) := by decide +kernel
theorem dX12_comes_68 : decode cX12_comes 68 = .ok (.aload_n 0, 1) := by decide +kernel
theorem dX12_comes_69 : decode cX12_comes 69 = .ok (.iload_n 2, 1) := by decide +kernel
theorem dX12_comes_70 : decode cX12_comes 70 = .ok (.invokevirtual 142, 3) := by decide +kernel
theorem dX12_comes_73 : decode cX12_comes 73 = .ok (.ireturn, 1) := by decide +kernel
theorem dX12_comes_74 : decode cX12_comes 74 = .ok (.aload_n 0, 1) := by decide +kernel
theorem dX12_comes_75 : decode cX12_comes 75 = .ok (.iload_n 3, 1) := by decide +kernel
theorem dX12_comes_76 : decode cX12_comes 76 = .ok (.invokevirtual 145, 3) := by decide +kernel
theorem dX12_comes_79 : decode cX12_comes 79 = .ok (.ifCond .eq 5, 3) := by decide +kernel
theorem dX12_comes_82 : decode cX12_comes 82 = .ok (.iconst 0, 1) := by decide +kernel
theorem dX12_comes_83 : decode cX12_comes 83 = .ok (.ireturn, 1) := by decide +kernel
theorem dX12_comes_84 : decode cX12_comes 84 = .ok (.aload_n 0, 1) := by decide +kernel
theorem dX12_comes_85 : decode cX12_comes 85 = .ok (.getfield 13, 3) := by decide +kernel
theorem dX12_comes_88 : decode cX12_comes 88 = .ok (.iload_n 3, 1) := by decide +kernel
theorem dX12_comes_89 : decode cX12_comes 89 = .ok (.iconst 1, 1) := by decide +kernel
theorem dX12_comes_90 : decode cX12_comes 90 = .ok (.aload_n 0, 1) := by decide +kernel
theorem dX12_comes_91 : decode cX12_comes 91 = .ok (.getfield 13, 3) := by decide +kernel
theorem dX12_comes_94 : decode cX12_comes 94 = .ok (.iload_n 3, 1) := by decide +kernel
theorem dX12_comes_95 : decode cX12_comes 95 = .ok (.iaload, 1) := by decide +kernel
theorem dX12_comes_96 : decode cX12_comes 96 = .ok (.isub, 1) := by decide +kernel
theorem dX12_comes_97 : decode cX12_comes 97 = .ok (.iastore, 1) := by decide +kernel
theorem dX12_comes_98 : decode cX12_comes 98 = .ok (.iconst 1, 1) := by decide +kernel
theorem dX12_comes_99 : decode cX12_comes 99 = .ok (.ireturn, 1) := by decide +kernel
theorem dX12_comes_100 : decode cX12_comes 100 = .ok (.aload_n 0, 1) := by decide +kernel
theorem dX12_comes_101 : decode cX12_comes 101 = .ok (.iload_n 3, 1) := by decide +kernel
theorem dX12_comes_102 : decode cX12_comes 102 = .ok (.invokevirtual 148, 3) := by decide +kernel
theorem dX12_comes_105 : decode cX12_comes 105 = .ok (.ifCond .eq 5, 3) := by decide +kernel
theorem dX12_comes_108 : decode cX12_comes 108 = .ok (.iconst 0, 1) := by decide +kernel
theorem dX12_comes_109 : decode cX12_comes 109 = .ok (.ireturn, 1) := by decide +kernel
theorem dX12_comes_110 : decode cX12_comes 110 = .ok (.aload_n 0, 1) := by decide +kernel
theorem dX12_comes_111 : decode cX12_comes 111 = .ok (.getfield 40, 3) := by decide +kernel
theorem dX12_comes_114 : decode cX12_comes 114 = .ok (.aload_n 0, 1) := by decide +kernel
theorem dX12_comes_115 : decode cX12_comes 115 = .ok (.getfield 81, 3) := by decide +kernel
theorem dX12_comes_118 : decode cX12_comes 118 = .ok (.iload_n 3, 1) := by decide +kernel
theorem dX12_comes_119 : decode cX12_comes 119 = .ok (.iastore, 1) := by decide +kernel
theorem dX12_comes_120 : decode cX12_comes 120 = .ok (.aload_n 0, 1) := by decide +kernel
theorem dX12_comes_121 : decode cX12_comes 121 = .ok (.dup, 1) := by decide +kernel
theorem dX12_comes_122 : decode cX12_comes 122 = .ok (.getfield 81, 3) := by decide +kernel
theorem dX12_comes_125 : decode cX12_comes 125 = .ok (.iconst 1, 1) := by decide +kernel
theorem dX12_comes_126 : decode cX12_comes 126 = .ok (.iadd, 1) := by decide +kernel
theorem dX12_comes_127 : decode cX12_comes 127 = .ok (.putfield 81, 3) := by decide +kernel
theorem dX12_comes_130 : decode cX12_comes 130 = .ok (.iconst 1, 1) := by decide +kernel
theorem dX12_comes_131 : decode cX12_comes 131 = .ok (.ireturn, 1) := by decide +kernel
theorem dX12_comes_132 : decode cX12_comes 132 = .ok (.aload_n 0, 1) := by decide +kernel
theorem dX12_comes_133 : decode cX12_comes 133 = .ok (.iload_n 3, 1) := by decide +kernel
theorem dX12_comes_134 : decode cX12_comes 134 = .ok (.aload_n 0, 1) := by decide +kernel
theorem dX12_comes_135 : decode cX12_comes 135 = .ok (.getfield 52, 3) := by decide +kernel
theorem dX12_comes_138 : decode cX12_comes 138 = .ok (.iload_n 2, 1) := by decide +kernel
theorem dX12_comes_139 : decode cX12_comes 139 = .ok (.iconst 1, 1) := by decide +kernel
theorem dX12_comes_140 : decode cX12_comes 140 = .ok (.iadd, 1) := by decide +kernel
theorem dX12_comes_141 : decode cX12_comes 141 = .ok (.iaload, 1) := by decide +kernel
theorem dX12_comes_142 : decode cX12_comes 142 = .ok (.invokevirtual 151, 3) := by decide +kernel
theorem dX12_comes_145 : decode cX12_comes 145 = .ok (.ifCond .eq 5, 3) := by decide +kernel
theorem dX12_comes_148 : decode cX12_comes 148 = .ok (.iconst 0, 1) := by decide +kernel
theorem dX12_comes_149 : decode cX12_comes 149 = .ok (.ireturn, 1) := by decide +kernel
theorem dX12_comes_150 : decode cX12_comes 150 = .ok (.aload_n 0, 1) := by decide +kernel
theorem dX12_comes_151 : decode cX12_comes 151 = .ok (.iload_n 3, 1) := by decide +kernel
theorem dX12_comes_152 : decode cX12_comes 152 = .ok (.aload_n 0, 1) := by decide +kernel
theorem dX12_comes_153 : decode cX12_comes 153 = .ok (.getfield 52, 3) := by decide +kernel
theorem dX12_comes_156 : decode cX12_comes 156 = .ok (.iload_n 2, 1) := by decide +kernel
theorem dX12_comes_157 : decode cX12_comes 157 = .ok (.iconst 1, 1) := by decide +kernel
theorem dX12_comes_158 : decode cX12_comes 158 = .ok (.iadd, 1) := by decide +kernel
theorem dX12_comes_159 : decode cX12_comes 159 = .ok (.iaload, 1) := by decide +kernel
