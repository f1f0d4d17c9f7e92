theorem dX11_light_25 : decode cX11_light 25 = .ok (.if_icmp .eq 10, 3) := by decide +kernel
theorem dX11_light_28 : decode cX11_light 28 = .ok (.aload_n 0, 1) := by decide +kernel
theorem dX11_light_29 : decode cX11_light 29 = .ok (.bipush (-2), 2) := by decide +kernel
theorem dX11_light_31 : decode cX11_light 31 = .ok (.invokevirtual 36, 3) := by decide +kernel
theorem dX11_light_34 : decode cX11_light 34 = .ok (.ireturn, 1) := by decide +kernel
theorem dX11_light_35 : decode cX11_light 35 = .ok (.aload_n 3, 1) := by decide +kernel
theorem dX11_light_36 : decode cX11_light 36 = .ok (.getfield 75, 3) := by decide +kernel
theorem dX11_light_39 : decode cX11_light 39 = .ok (.invokestatic 81, 3) := by decide +kernel
theorem dX11_light_42 : decode cX11_light 42 = .ok (.istore 4, 2) := by decide +kernel
theorem dX11_light_44 : decode cX11_light 44 = .ok (.aload_n 3, 1) := by decide +kernel
theorem dX11_light_45 : decode cX11_light 45 = .ok (.iload_n 2, 1) := by decide +kernel
theorem dX11_light_46 : decode cX11_light 46 = .ok (.iconst 1, 1) := by decide +kernel
theorem dX11_light_47 : decode cX11_light 47 = .ok (.if_icmp .ne 7, 3) := by decide +kernel
theorem dX11_light_50 : decode cX11_light 50 = .ok (.iconst 1, 1) := by decide +kernel
theorem dX11_light_51 : decode cX11_light 51 = .ok (.goto 4, 3) := by decide +kernel
theorem dX11_light_54 : decode cX11_light 54 = .ok (.iconst 0, 1) := by decide +kernel
theorem dX11_light_55 : decode cX11_light 55 = .ok (.putfield 75, 3) := by decide +kernel
theorem dX11_light_58 : decode cX11_light 58 = .ok (.iload 4, 2) := by decide +kernel
theorem dX11_light_60 : decode cX11_light 60 = .ok (.ireturn, 1) := by decide +kernel
set_option maxRecDepth 20000 in
theorem ggX11_row_X11_refuse : GoodIn wsX11_row wsX11_refuse := goodIn_r _ [7, 8, 9, 10, 11, 12, 13, 14, 15, 16] (by decide +kernel) (by decide +kernel)
set_option maxRecDepth 20000 in
theorem gX11_row_X11_refuse : GoodIn wsX11_row (wsV RX11 36 RX11 yX11_refuse wsX11_refuse) := goodIn_app (goodIn_of _ (by decide +kernel)) ggX11_row_X11_refuse
theorem dX11_row_0 : decode cX11_row 0 = .ok (.iload_n 1, 1) := by decide +kernel
theorem dX11_row_1 : decode cX11_row 1 = .ok (.ifCond .ge 10, 3) := by decide +kernel
theorem dX11_row_4 : decode cX11_row 4 = .ok (.aload_n 0, 1) := by decide +kernel
theorem dX11_row_5 : decode cX11_row 5 = .ok (.bipush (-4), 2) := by decide +kernel
theorem dX11_row_7 : decode cX11_row 7 = .ok (.invokevirtual 36, 3) := by decide +kernel
theorem dX11_row_10 : decode cX11_row 10 = .ok (.ireturn, 1) := by decide +kernel
theorem dX11_row_11 : decode cX11_row 11 = .ok (.iload_n 1, 1) := by decide +kernel
theorem dX11_row_12 : decode cX11_row 12 = .ok (.bipush 99, 2) := by decide +kernel
theorem dX11_row_14 : decode cX11_row 14 = .ok (.if_icmp .gt 22, 3) := by decide +kernel
theorem dX11_row_17 : decode cX11_row 17 = .ok (.aload_n 0, 1) := by decide +kernel
theorem dX11_row_18 : decode cX11_row 18 = .ok (.getfield 85, 3) := by decide +kernel
theorem dX11_row_21 : decode cX11_row 21 = .ok (.ifCond .lt 15, 3) := by decide +kernel
theorem dX11_row_24 : decode cX11_row 24 = .ok (.aload_n 0, 1) := by decide +kernel
theorem dX11_row_25 : decode cX11_row 25 = .ok (.getfield 85, 3) := by decide +kernel
theorem dX11_row_28 : decode cX11_row 28 = .ok (.aload_n 0, 1) := by decide +kernel
theorem dX11_row_29 : decode cX11_row 29 = .ok (.getfield 16, 3) := by decide +kernel
theorem dX11_row_32 : decode cX11_row 32 = .ok (.arraylength, 1) := by decide +kernel
theorem dX11_row_33 : decode cX11_row 33 = .ok (.if_icmp .lt 10, 3) := by decide +kernel
theorem dX11_row_36 : decode cX11_row 36 = .ok (.aload_n 0, 1) := by decide +kernel
theorem dX11_row_37 : decode cX11_row 37 = .ok (.bipush (-6), 2) := by decide +kernel
theorem dX11_row_39 : decode cX11_row 39 = .ok (.invokevirtual 36, 3) := by decide +kernel
theorem dX11_row_42 : decode cX11_row 42 = .ok (.ireturn, 1) := by decide +kernel
theorem dX11_row_43 : decode cX11_row 43 = .ok (.aload_n 0, 1) := by decide +kernel
theorem dX11_row_44 : decode cX11_row 44 = .ok (.getfield 16, 3) := by decide +kernel
theorem dX11_row_47 : decode cX11_row 47 = .ok (.aload_n 0, 1) := by decide +kernel
theorem dX11_row_48 : decode cX11_row 48 = .ok (.getfield 85, 3) := by decide +kernel
theorem dX11_row_51 : decode cX11_row 51 = .ok (.iload_n 1, 1) := by decide +kernel
theorem dX11_row_52 : decode cX11_row 52 = .ok (.iastore, 1) := by decide +kernel
theorem dX11_row_53 : decode cX11_row 53 = .ok (.aload_n 0, 1) := by decide +kernel
theorem dX11_row_54 : decode cX11_row 54 = .ok (.dup, 1) := by decide +kernel
theorem dX11_row_55 : decode cX11_row 55 = .ok (.getfield 85, 3) := by decide +kernel
theorem dX11_row_58 : decode cX11_row 58 = .ok (.iconst 1, 1) := by decide +kernel
theorem dX11_row_59 : decode cX11_row 59 = .ok (.iadd, 1) := by decide +kernel
theorem dX11_row_60 : decode cX11_row 60 = .ok (.putfield 85, 3) := by decide +kernel
theorem dX11_row_63 : decode cX11_row 63 = .ok (.aload_n 0, 1) := by decide +kernel
theorem dX11_row_64 : decode cX11_row 64 = .ok (.getfield 85, 3) := by decide +kernel
theorem dX11_row_67 : decode cX11_row 67 = .ok (.ireturn, 1) := by decide +kernel
set_option maxRecDepth 20000 in
theorem ggX11_image_X10_become : GoodIn wsX11_image wsX10_become := goodIn_r _ [9, 10, 11, 12, 13, 14, 15, 16, 17, 18, 8, 19, 20, 21, 22, 23, 24, 25, 26, 27, 28, 29, 30, 31, 32, 33, 34, 35, 36, 37, 38, 39, 40, 41, 42, 43, 44, 45, 46, 47, 48, 49, 50, 51, 52, 53, 54, 55, 56, 57, 58, 59, 60, 61, 62, 63, 64, 65, 66, 67, 68, 69, 70, 71, 72, 73, 74, 75, 76, 77, 78, 79, 80, 81, 82, 83, 84, 85, 86, 87, 88, 89, 90, 91, 92, 93, 94, 95, 96, 97, 98, 99, 100, 101, 102, 103, 104, 105, 106, 107, 108, 117, 118, 119, 120, 121, 122, 123, 124, 125, 126, 127, 128, 129, 130, 131, 132, 133, 134, 135, 136, 137, 138, 139, 140, 141, 142, 143, 144, 145, 146, 147, 148, 149, 150, 151, 152, 153, 154, 155, 156, 157] (by decide +kernel) (by decide +kernel)
set_option maxRecDepth 20000 in
theorem gX11_image_X10_become : GoodIn wsX11_image (wsV RX11 47 RX10 yX10_become wsX10_become) := goodIn_app (goodIn_of _ (by decide +kernel)) ggX11_image_X10_become
theorem dX11_image_0 : decode cX11_image 0 = .ok (.aload_n 0, 1) := by decide +kernel
theorem dX11_image_1 : decode cX11_image 1 = .ok (.getfield 26, 3) := by decide +kernel
theorem dX11_image_4 : decode cX11_image 4 = .ok (.aload_n 0, 1) := by decide +kernel
theorem dX11_image_5 : decode cX11_image 5 = .ok (.getfield 30, 3) := by decide +kernel
theorem dX11_image_8 : decode cX11_image 8 = .ok (.invokevirtual 47, 3) := by decide +kernel
theorem dX11_image_11 : decode cX11_image 11 = .ok (.aload_n 0, 1) := by decide +kernel
theorem dX11_image_12 : decode cX11_image 12 = .ok (.iconst 1, 1) := by decide +kernel
theorem dX11_image_13 : decode cX11_image 13 = .ok (.putfield 89, 3) := by decide +kernel
theorem dX11_image_16 : decode cX11_image 16 = .ok (.aload_n 0, 1) := by decide +kernel
theorem dX11_image_17 : decode cX11_image 17 = .ok (.getfield 30, 3) := by decide +kernel
theorem dX11_image_20 : decode cX11_image 20 = .ok (.getfield 92, 3) := by decide +kernel
theorem dX11_image_23 : decode cX11_image 23 = .ok (.ireturn, 1) := by decide +kernel
set_option maxRecDepth 20000 in
theorem ggX11_on_X11_refuse : GoodIn wsX11_on wsX11_refuse := goodIn_r _ [9, 10, 115, 116, 117, 118, 119, 120, 121, 122] (by decide +kernel) (by decide +kernel)
set_option maxRecDepth 20000 in
theorem gX11_on_X11_refuse : GoodIn wsX11_on (wsV RX11 36 RX11 yX11_refuse wsX11_refuse) := goodIn_app (goodIn_of _ (by decide +kernel)) ggX11_on_X11_refuse
set_option maxRecDepth 20000 in
theorem ggX11_on_X10_become : GoodIn wsX11_on wsX10_become := goodIn_r _ [15, 16, 17, 18, 19, 20, 21, 22, 23, 24, 14, 25, 26, 27, 28, 29, 30, 31, 32, 33, 34, 35, 36, 37, 38, 39, 40, 41, 42, 43, 44, 45, 46, 47, 48, 49, 50, 51, 52, 53, 54, 55, 56, 57, 58, 59, 60, 61, 62, 63, 64, 65, 66, 67, 68, 69, 70, 71, 72, 73, 74, 75, 76, 77, 78, 79, 80, 81, 82, 83, 84, 85, 86, 87, 88, 89, 90, 91, 92, 93, 94, 95, 96, 97, 98, 99, 100, 101, 102, 103, 104, 105, 106, 107, 108, 109, 110, 111, 112, 113, 114, 123, 124, 125, 126, 127, 128, 129, 130, 131, 132, 133, 134, 135, 136, 137, 138, 139, 140, 141, 142, 143, 144, 145, 146, 147, 148, 149, 150, 151, 152, 153, 154, 155, 156, 157, 158, 159, 160, 161, 162, 163] (by decide +kernel) (by decide +kernel)
set_option maxRecDepth 20000 in
theorem gX11_on_X10_become : GoodIn wsX11_on (wsV RX11 47 RX10 yX10_become wsX10_become) := goodIn_app (goodIn_of _ (by decide +kernel)) ggX11_on_X10_become
theorem dX11_on_0 : decode cX11_on 0 = .ok (.aload_n 0, 1) := by decide +kernel
theorem dX11_on_1 : decode cX11_on 1 = .ok (.getfield 89, 3) := by decide +kernel
theorem dX11_on_4 : decode cX11_on 4 = .ok (.ifCond .ne 10, 3) := by decide +kernel
theorem dX11_on_7 : decode cX11_on 7 = .ok (.aload_n 0, 1) := by decide +kernel
theorem dX11_on_8 : decode cX11_on 8 = .ok (.bipush (-3), 2) := by decide +kernel
theorem dX11_on_10 : decode cX11_on 10 = .ok (.invokevirtual 36, 3) := by decide +kernel
theorem dX11_on_13 : decode cX11_on 13 = .ok (.ireturn, 1) := by decide +kernel
theorem dX11_on_14 : decode cX11_on 14 = .ok (.aload_n 0, 1) := by decide +kernel
theorem dX11_on_15 : decode cX11_on 15 = .ok (.getfield 30, 3) := by decide +kernel
theorem dX11_on_18 : decode cX11_on 18 = .ok (.aload_n 0, 1) := by decide +kernel
theorem dX11_on_19 : decode cX11_on 19 = .ok (.getfield 26, 3) := by decide +kernel
theorem dX11_on_22 : decode cX11_on 22 = .ok (.invokevirtual 47, 3) := by decide +kernel
theorem dX11_on_25 : decode cX11_on 25 = .ok (.aload_n 0, 1) := by decide +kernel
theorem dX11_on_26 : decode cX11_on 26 = .ok (.getfield 30, 3) := by decide +kernel
theorem dX11_on_29 : decode cX11_on 29 = .ok (.getfield 92, 3) := by decide +kernel
theorem dX11_on_32 : decode cX11_on 32 = .ok (.ireturn, 1) := by decide +kernel
set_option maxRecDepth 20000 in
theorem ggX11_lamp_X10_lampAt : GoodIn wsX11_lamp wsX10_lampAt := goodIn_r _ [9, 10, 11, 165, 166, 167, 168, 169, 170] (by decide +kernel) (by decide +kernel)
set_option maxRecDepth 20000 in
theorem gX11_lamp_X10_lampAt : GoodIn wsX11_lamp (wsV RX11 71 RX10 yX10_lampAt wsX10_lampAt) := goodIn_app (goodIn_of _ (by decide +kernel)) ggX11_lamp_X10_lampAt
set_option maxRecDepth 20000 in
theorem ggX11_lamp_X11_refuse : GoodIn wsX11_lamp wsX11_refuse := goodIn_r _ [16, 17, 122, 123, 124, 125, 126, 127, 128, 129] (by decide +kernel) (by decide +kernel)
set_option maxRecDepth 20000 in
theorem gX11_lamp_X11_refuse : GoodIn wsX11_lamp (wsV RX11 36 RX11 yX11_refuse wsX11_refuse) := goodIn_app (goodIn_of _ (by decide +kernel)) ggX11_lamp_X11_refuse
set_option maxRecDepth 20000 in
theorem ggX11_lamp_X0_kind : GoodIn wsX11_lamp wsX0_kind := goodIn_r _ [24] (by decide +kernel) (by decide +kernel)
set_option maxRecDepth 20000 in
theorem gX11_lamp_X0_kind_u95X0 : GoodIn wsX11_lamp (va_wsO RX11 95 RX0 "LampsThatRemember$Lamp" ⟨"LampsThatRemember$Lamp", "kind", "()I"⟩ yX0_kind wsX0_kind) := goodIn_app (goodIn_of _ (by decide +kernel)) ggX11_lamp_X0_kind
set_option maxRecDepth 20000 in
theorem ggX11_lamp_X1_kind : GoodIn wsX11_lamp wsX1_kind := goodIn_r _ [29] (by decide +kernel) (by decide +kernel)
set_option maxRecDepth 20000 in
theorem gX11_lamp_X1_kind_u95X1 : GoodIn wsX11_lamp (va_wsO RX11 95 RX1 "LampsThatRemember$Lamp" ⟨"LampsThatRemember$Lamp", "kind", "()I"⟩ yX1_kind wsX1_kind) := goodIn_app (goodIn_of _ (by decide +kernel)) ggX11_lamp_X1_kind
set_option maxRecDepth 20000 in
theorem ggX11_lamp_X3_kind : GoodIn wsX11_lamp wsX3_kind := goodIn_r _ [33] (by decide +kernel) (by decide +kernel)
set_option maxRecDepth 20000 in
theorem gX11_lamp_X3_kind_u95X3 : GoodIn wsX11_lamp (va_wsO RX11 95 RX3 "LampsThatRemember$Lamp" ⟨"LampsThatRemember$Lamp", "kind", "()I"⟩ yX3_kind wsX3_kind) := goodIn_app (goodIn_of _ (by decide +kernel)) ggX11_lamp_X3_kind
set_option maxRecDepth 20000 in
theorem ggX11_lamp_X4_kind : GoodIn wsX11_lamp wsX4_kind := goodIn_r _ [37] (by decide +kernel) (by decide +kernel)
set_option maxRecDepth 20000 in
theorem gX11_lamp_X4_kind_u95X4 : GoodIn wsX11_lamp (va_wsO RX11 95 RX4 "LampsThatRemember$Lamp" ⟨"LampsThatRemember$Lamp", "kind", "()I"⟩ yX4_kind wsX4_kind) := goodIn_app (goodIn_of _ (by decide +kernel)) ggX11_lamp_X4_kind
set_option maxRecDepth 20000 in
theorem ggX11_lamp_X5_kind : GoodIn wsX11_lamp wsX5_kind := goodIn_r _ [25] (by decide +kernel) (by decide +kernel)
set_option maxRecDepth 20000 in
theorem gX11_lamp_X5_kind : GoodIn wsX11_lamp (wsV RX11 95 RX5 yX5_kind wsX5_kind) := goodIn_app (goodIn_of _ (by decide +kernel)) ggX11_lamp_X5_kind
set_option maxRecDepth 20000 in
theorem ggX11_lamp_X7_kind : GoodIn wsX11_lamp wsX7_kind := goodIn_r _ [45] (by decide +kernel) (by decide +kernel)
set_option maxRecDepth 20000 in
theorem gX11_lamp_X7_kind_u95X7 : GoodIn wsX11_lamp (va_wsO RX11 95 RX7 "LampsThatRemember$Lamp" ⟨"LampsThatRemember$Lamp", "kind", "()I"⟩ yX7_kind wsX7_kind) := goodIn_app (goodIn_of _ (by decide +kernel)) ggX11_lamp_X7_kind
set_option maxRecDepth 20000 in
theorem ggX11_lamp_X8_kind : GoodIn wsX11_lamp wsX8_kind := goodIn_r _ [49] (by decide +kernel) (by decide +kernel)
set_option maxRecDepth 20000 in
theorem gX11_lamp_X8_kind_u95X8 : GoodIn wsX11_lamp (va_wsO RX11 95 RX8 "LampsThatRemember$Lamp" ⟨"LampsThatRemember$Lamp", "kind", "()I"⟩ yX8_kind wsX8_kind) := goodIn_app (goodIn_of _ (by decide +kernel)) ggX11_lamp_X8_kind
set_option maxRecDepth 20000 in
theorem ggX11_lamp_X5_cellNow : GoodIn wsX11_lamp wsX5_cellNow := goodIn_r _ [54, 55, 130, 131, 132, 133, 134, 135, 136, 137, 138, 139, 140, 141, 142, 143, 144, 145, 146, 147, 148, 149, 150, 151, 152, 153, 154, 155, 156, 157, 158, 159, 160, 161, 162, 163, 164] (by decide +kernel) (by decide +kernel)
set_option maxRecDepth 20000 in
theorem gX11_lamp_X5_cellNow_u99X0 : GoodIn wsX11_lamp (va_wsU RX11 99 RX0 "LampsThatRemember$Lamp" ⟨"LampsThatRemember$Lamp", "cellNow", "(LLampsThatRemember$Town;)I"⟩ yX5_cellNow wsX5_cellNow) := goodIn_app (goodIn_of _ (by decide +kernel)) ggX11_lamp_X5_cellNow
set_option maxRecDepth 20000 in
theorem ggX11_lamp_X1_cellNow : GoodIn wsX11_lamp wsX1_cellNow := goodIn_r _ [59, 60, 61, 62, 63, 64, 8, 65, 66, 67, 130, 131, 132, 133, 134, 135, 136, 137, 138, 139, 140, 141, 142, 143, 144, 145, 146, 147, 148, 149, 150, 151, 152, 153, 154, 155, 156, 157, 158, 159, 160, 161, 162, 163, 164, 165, 166, 167, 168, 169, 170] (by decide +kernel) (by decide +kernel)
set_option maxRecDepth 20000 in
theorem gX11_lamp_X1_cellNow_u99X1 : GoodIn wsX11_lamp (va_wsO RX11 99 RX1 "LampsThatRemember$Lamp" ⟨"LampsThatRemember$Lamp", "cellNow", "(LLampsThatRemember$Town;)I"⟩ yX1_cellNow wsX1_cellNow) := goodIn_app (goodIn_of _ (by decide +kernel)) ggX11_lamp_X1_cellNow
set_option maxRecDepth 20000 in
theorem gX11_lamp_X5_cellNow_u99X3 : GoodIn wsX11_lamp (va_wsU RX11 99 RX3 "LampsThatRemember$Lamp" ⟨"LampsThatRemember$Lamp", "cellNow", "(LLampsThatRemember$Town;)I"⟩ yX5_cellNow wsX5_cellNow) := goodIn_app (goodIn_of _ (by decide +kernel)) ggX11_lamp_X5_cellNow
set_option maxRecDepth 20000 in
theorem gX11_lamp_X5_cellNow_u99X4 : GoodIn wsX11_lamp (va_wsU RX11 99 RX4 "LampsThatRemember$Lamp" ⟨"LampsThatRemember$Lamp", "cellNow", "(LLampsThatRemember$Town;)I"⟩ yX5_cellNow wsX5_cellNow) := goodIn_app (goodIn_of _ (by decide +kernel)) ggX11_lamp_X5_cellNow
set_option maxRecDepth 20000 in
theorem gX11_lamp_X5_cellNow : GoodIn wsX11_lamp (wsV RX11 99 RX5 yX5_cellNow wsX5_cellNow) := goodIn_app (goodIn_of _ (by decide +kernel)) ggX11_lamp_X5_cellNow
set_option maxRecDepth 20000 in
theorem gX11_lamp_X5_cellNow_u99X7 : GoodIn wsX11_lamp (va_wsU RX11 99 RX7 "LampsThatRemember$Lamp" ⟨"LampsThatRemember$Lamp", "cellNow", "(LLampsThatRemember$Town;)I"⟩ yX5_cellNow wsX5_cellNow) := goodIn_app (goodIn_of _ (by decide +kernel)) ggX11_lamp_X5_cellNow
set_option maxRecDepth 20000 in
theorem gX11_lamp_X5_cellNow_u99X8 : GoodIn wsX11_lamp (va_wsU RX11 99 RX8 "LampsThatRemember$Lamp" ⟨"LampsThatRemember$Lamp", "cellNow", "(LLampsThatRemember$Town;)I"⟩ yX5_cellNow wsX5_cellNow) := goodIn_app (goodIn_of _ (by decide +kernel)) ggX11_lamp_X5_cellNow
set_option maxRecDepth 20000 in
theorem ggX11_lamp_X11_yes : GoodIn wsX11_lamp wsX11_yes := goodIn_r _ [76] (by decide +kernel) (by decide +kernel)
set_option maxRecDepth 20000 in
theorem gX11_lamp_X11_yes : GoodIn wsX11_lamp (va_wsS RX11 81 yX11_yes wsX11_yes) := goodIn_app (goodIn_of _ (by decide +kernel)) ggX11_lamp_X11_yes
set_option maxRecDepth 20000 in
theorem ggX11_lamp_X5_glow : GoodIn wsX11_lamp wsX5_glow := goodIn_r _ [81, 82, 83, 51, 52, 53, 41, 54, 55, 56, 57, 58, 28, 59, 60, 61, 62, 63, 64, 8, 65, 66, 67, 68, 69, 84, 71, 72, 73, 85, 86, 87, 88, 89, 90, 91, 92, 93, 94, 95, 96, 97, 98, 99, 100, 101, 102, 103, 130, 131, 132, 133, 134, 135, 136, 137, 138, 139, 140, 141, 142, 143, 144, 145, 146, 147, 148, 149, 150, 151, 152, 153, 154, 155, 156, 157, 158, 159, 160, 161, 162, 163, 164, 165, 166, 167, 168, 169, 170] (by decide +kernel) (by decide +kernel)
set_option maxRecDepth 20000 in
theorem gX11_lamp_X5_glow_u108X0 : GoodIn wsX11_lamp (va_wsU RX11 108 RX0 "LampsThatRemember$Lamp" ⟨"LampsThatRemember$Lamp", "glow", "(LLampsThatRemember$Town;)J"⟩ yX5_glow wsX5_glow) := goodIn_app (goodIn_of _ (by decide +kernel)) ggX11_lamp_X5_glow
set_option maxRecDepth 20000 in
theorem gX11_lamp_X5_glow_u108X1 : GoodIn wsX11_lamp (va_wsU RX11 108 RX1 "LampsThatRemember$Lamp" ⟨"LampsThatRemember$Lamp", "glow", "(LLampsThatRemember$Town;)J"⟩ yX5_glow wsX5_glow) := goodIn_app (goodIn_of _ (by decide +kernel)) ggX11_lamp_X5_glow
set_option maxRecDepth 20000 in
theorem gX11_lamp_X5_glow_u108X3 : GoodIn wsX11_lamp (va_wsU RX11 108 RX3 "LampsThatRemember$Lamp" ⟨"LampsThatRemember$Lamp", "glow", "(LLampsThatRemember$Town;)J"⟩ yX5_glow wsX5_glow) := goodIn_app (goodIn_of _ (by decide +kernel)) ggX11_lamp_X5_glow
set_option maxRecDepth 20000 in
theorem gX11_lamp_X5_glow_u108X4 : GoodIn wsX11_lamp (va_wsU RX11 108 RX4 "LampsThatRemember$Lamp" ⟨"LampsThatRemember$Lamp", "glow", "(LLampsThatRemember$Town;)J"⟩ yX5_glow wsX5_glow) := goodIn_app (goodIn_of _ (by decide +kernel)) ggX11_lamp_X5_glow
set_option maxRecDepth 20000 in
theorem gX11_lamp_X5_glow : GoodIn wsX11_lamp (wsV RX11 108 RX5 yX5_glow wsX5_glow) := goodIn_app (goodIn_of _ (by decide +kernel)) ggX11_lamp_X5_glow
set_option maxRecDepth 20000 in
theorem gX11_lamp_X5_glow_u108X7 : GoodIn wsX11_lamp (va_wsU RX11 108 RX7 "LampsThatRemember$Lamp" ⟨"LampsThatRemember$Lamp", "glow", "(LLampsThatRemember$Town;)J"⟩ yX5_glow wsX5_glow) := goodIn_app (goodIn_of _ (by decide +kernel)) ggX11_lamp_X5_glow
set_option maxRecDepth 20000 in
theorem gX11_lamp_X5_glow_u108X8 : GoodIn wsX11_lamp (va_wsU RX11 108 RX8 "LampsThatRemember$Lamp" ⟨"LampsThatRemember$Lamp", "glow", "(LLampsThatRemember$Town;)J"⟩ yX5_glow wsX5_glow) := goodIn_app (goodIn_of _ (by decide +kernel)) ggX11_lamp_X5_glow
set_option maxRecDepth 20000 in
theorem ggX11_lamp_X2_howMany : GoodIn wsX11_lamp wsX2_howMany := goodIn_r _ [113, 114, 115, 116, 117, 118, 119, 120, 121] (by decide +kernel) (by decide +kernel)
set_option maxRecDepth 20000 in
theorem gX11_lamp_X2_howMany : GoodIn wsX11_lamp (va_wsS RX11 112 yX2_howMany wsX2_howMany) := goodIn_app (goodIn_of _ (by decide +kernel)) ggX11_lamp_X2_howMany
theorem dX11_lamp_0 : decode cX11_lamp 0 = .ok (.aload_n 0, 1) := by decide +kernel
theorem dX11_lamp_1 : decode cX11_lamp 1 = .ok (.getfield 30, 3) := by decide +kernel
theorem dX11_lamp_4 : decode cX11_lamp 4 = .ok (.iload_n 1, 1) := by decide +kernel
theorem dX11_lamp_5 : decode cX11_lamp 5 = .ok (.invokevirtual 71, 3) := by decide +kernel
theorem dX11_lamp_8 : decode cX11_lamp 8 = .ok (.astore_n 3, 1) := by decide +kernel
theorem dX11_lamp_9 : decode cX11_lamp 9 = .ok (.aload_n 3, 1) := by decide +kernel
theorem dX11_lamp_10 : decode cX11_lamp 10 = .ok (.ifnonnull 9, 3) := by decide +kernel
theorem dX11_lamp_13 : decode cX11_lamp 13 = .ok (.aload_n 0, 1) := by decide +kernel
theorem dX11_lamp_14 : decode cX11_lamp 14 = .ok (.iconst (-1), 1) := by decide +kernel
theorem dX11_lamp_15 : decode cX11_lamp 15 = .ok (.invokevirtual 36, 3) := by decide +kernel
theorem dX11_lamp_18 : decode cX11_lamp 18 = .ok (.ireturn, 1) := by decide +kernel
theorem dX11_lamp_19 : decode cX11_lamp 19 = .ok (.iload_n 2, 1) := by decide +kernel
theorem dX11_lamp_20 : decode cX11_lamp 20 = .ok (.tableswitch 84 0 5 #[40, 45, 54, 59, 67, 72], 40) := by decide +kernel
theorem dX11_lamp_60 : decode cX11_lamp 60 = .ok (.aload_n 3, 1) := by decide +kernel
theorem dX11_lamp_61 : decode cX11_lamp 61 = .ok (.invokevirtual 95, 3) := by decide +kernel
theorem dX11_lamp_64 : decode cX11_lamp 64 = .ok (.ireturn, 1) := by decide +kernel
theorem dX11_lamp_65 : decode cX11_lamp 65 = .ok (.aload_n 3, 1) := by decide +kernel
theorem dX11_lamp_66 : decode cX11_lamp 66 = .ok (.aload_n 0, 1) := by decide +kernel
theorem dX11_lamp_67 : decode cX11_lamp 67 = .ok (.getfield 30, 3) := by decide +kernel
theorem dX11_lamp_70 : decode cX11_lamp 70 = .ok (.invokevirtual 99, 3) := by decide +kernel
theorem dX11_lamp_73 : decode cX11_lamp 73 = .ok (.ireturn, 1) := by decide +kernel
theorem dX11_lamp_74 : decode cX11_lamp 74 = .ok (.aload_n 3, 1) := by decide +kernel
theorem dX11_lamp_75 : decode cX11_lamp 75 = .ok (.getfield 102, 3) := by decide +kernel
theorem dX11_lamp_78 : decode cX11_lamp 78 = .ok (.ireturn, 1) := by decide +kernel
theorem dX11_lamp_79 : decode cX11_lamp 79 = .ok (.aload_n 3, 1) := by decide +kernel
theorem dX11_lamp_80 : decode cX11_lamp 80 = .ok (.getfield 75, 3) := by decide +kernel
theorem dX11_lamp_83 : decode cX11_lamp 83 = .ok (.invokestatic 81, 3) := by decide +kernel
theorem dX11_lamp_86 : decode cX11_lamp 86 = .ok (.ireturn, 1) := by decide +kernel
theorem dX11_lamp_87 : decode cX11_lamp 87 = .ok (.aload_n 3, 1) := by decide +kernel
theorem dX11_lamp_88 : decode cX11_lamp 88 = .ok (.getfield 105, 3) := by decide +kernel
theorem dX11_lamp_91 : decode cX11_lamp 91 = .ok (.ireturn, 1) := by decide +kernel
theorem dX11_lamp_92 : decode cX11_lamp 92 = .ok (.aload_n 3, 1) := by decide +kernel
theorem dX11_lamp_93 : decode cX11_lamp 93 = .ok (.aload_n 0, 1) := by decide +kernel
theorem dX11_lamp_94 : decode cX11_lamp 94 = .ok (.getfield 30, 3) := by decide +kernel
theorem dX11_lamp_97 : decode cX11_lamp 97 = .ok (.invokevirtual 108, 3) := by decide +kernel
theorem dX11_lamp_100 : decode cX11_lamp 100 = .ok (.invokestatic 112, 3) := by decide +kernel
theorem dX11_lamp_103 : decode cX11_lamp 103 = .ok (.ireturn, 1) := by decide +kernel
theorem dX11_lamp_104 : decode cX11_lamp 104 = .ok (.aload_n 0, 1) := by decide +kernel
theorem dX11_lamp_105 : decode cX11_lamp 105 = .ok (.bipush (-2), 2) := by decide +kernel
theorem dX11_lamp_107 : decode cX11_lamp 107 = .ok (.invokevirtual 36, 3) := by decide +kernel
theorem dX11_lamp_110 : decode cX11_lamp 110 = .ok (.ireturn, 1) := by decide +kernel
set_option maxRecDepth 20000 in
theorem ggX11_lights_X10_lampAt : GoodIn wsX11_lights wsX10_lampAt := goodIn_r _ [6, 7, 8, 90, 91, 92, 93, 94, 95] (by decide +kernel) (by decide +kernel)
set_option maxRecDepth 20000 in
theorem gX11_lights_X10_lampAt : GoodIn wsX11_lights (wsV RX11 71 RX10 yX10_lampAt wsX10_lampAt) := goodIn_app (goodIn_of _ (by decide +kernel)) ggX11_lights_X10_lampAt
set_option maxRecDepth 20000 in
theorem ggX11_lights_X2_isOne : GoodIn wsX11_lights wsX2_isOne := goodIn_r _ [12] (by decide +kernel) (by decide +kernel)
set_option maxRecDepth 20000 in
theorem gX11_lights_X2_isOne : GoodIn wsX11_lights (va_wsS RX11 118 yX2_isOne wsX2_isOne) := goodIn_app (goodIn_of _ (by decide +kernel)) ggX11_lights_X2_isOne
set_option maxRecDepth 20000 in
theorem ggX11_lights_X11_refuse : GoodIn wsX11_lights wsX11_refuse := goodIn_r _ [17, 18, 82, 83, 84, 85, 86, 87, 88, 89] (by decide +kernel) (by decide +kernel)
set_option maxRecDepth 20000 in
theorem gX11_lights_X11_refuse : GoodIn wsX11_lights (wsV RX11 36 RX11 yX11_refuse wsX11_refuse) := goodIn_app (goodIn_of _ (by decide +kernel)) ggX11_lights_X11_refuse
set_option maxRecDepth 20000 in
theorem ggX11_lights_X5_glow : GoodIn wsX11_lights wsX5_glow := goodIn_r _ [24, 25, 26, 27, 28, 29, 23, 30, 31, 32, 33, 34, 35, 36, 37, 38, 39, 40, 41, 5, 42, 43, 44, 45, 46, 47, 48, 49, 50, 51, 52, 53, 54, 55, 56, 57, 58, 59, 11, 60, 61, 62, 63, 64, 65, 66, 67, 68, 96, 97, 98, 99, 100, 101, 102, 103, 104, 105, 106, 107, 108, 109, 110, 111, 112, 113, 114, 115, 116, 117, 118, 119, 120, 121, 122, 123, 124, 125, 126, 127, 128, 129, 130, 90, 91, 92, 93, 94, 95] (by decide +kernel) (by decide +kernel)
set_option maxRecDepth 20000 in
theorem gX11_lights_X5_glow_u108X0 : GoodIn wsX11_lights (va_wsU RX11 108 RX0 "LampsThatRemember$Lamp" ⟨"LampsThatRemember$Lamp", "glow", "(LLampsThatRemember$Town;)J"⟩ yX5_glow wsX5_glow) := goodIn_app (goodIn_of _ (by decide +kernel)) ggX11_lights_X5_glow
set_option maxRecDepth 20000 in
theorem gX11_lights_X5_glow_u108X1 : GoodIn wsX11_lights (va_wsU RX11 108 RX1 "LampsThatRemember$Lamp" ⟨"LampsThatRemember$Lamp", "glow", "(LLampsThatRemember$Town;)J"⟩ yX5_glow wsX5_glow) := goodIn_app (goodIn_of _ (by decide +kernel)) ggX11_lights_X5_glow
set_option maxRecDepth 20000 in
theorem gX11_lights_X5_glow_u108X3 : GoodIn wsX11_lights (va_wsU RX11 108 RX3 "LampsThatRemember$Lamp" ⟨"LampsThatRemember$Lamp", "glow", "(LLampsThatRemember$Town;)J"⟩ yX5_glow wsX5_glow) := goodIn_app (goodIn_of _ (by decide +kernel)) ggX11_lights_X5_glow
set_option maxRecDepth 20000 in
theorem gX11_lights_X5_glow_u108X4 : GoodIn wsX11_lights (va_wsU RX11 108 RX4 "LampsThatRemember$Lamp" ⟨"LampsThatRemember$Lamp", "glow", "(LLampsThatRemember$Town;)J"⟩ yX5_glow wsX5_glow) := goodIn_app (goodIn_of _ (by decide +kernel)) ggX11_lights_X5_glow
set_option maxRecDepth 20000 in
theorem gX11_lights_X5_glow : GoodIn wsX11_lights (wsV RX11 108 RX5 yX5_glow wsX5_glow) := goodIn_app (goodIn_of _ (by decide +kernel)) ggX11_lights_X5_glow
set_option maxRecDepth 20000 in
theorem gX11_lights_X5_glow_u108X7 : GoodIn wsX11_lights (va_wsU RX11 108 RX7 "LampsThatRemember$Lamp" ⟨"LampsThatRemember$Lamp", "glow", "(LLampsThatRemember$Town;)J"⟩ yX5_glow wsX5_glow) := goodIn_app (goodIn_of _ (by decide +kernel)) ggX11_lights_X5_glow
set_option maxRecDepth 20000 in
theorem gX11_lights_X5_glow_u108X8 : GoodIn wsX11_lights (va_wsU RX11 108 RX8 "LampsThatRemember$Lamp" ⟨"LampsThatRemember$Lamp", "glow", "(LLampsThatRemember$Town;)J"⟩ yX5_glow wsX5_glow) := goodIn_app (goodIn_of _ (by decide +kernel)) ggX11_lights_X5_glow
set_option maxRecDepth 20000 in
theorem ggX11_lights_X2_has : GoodIn wsX11_lights wsX2_has := goodIn_r _ [78, 61, 62, 11, 63] (by decide +kernel) (by decide +kernel)
set_option maxRecDepth 20000 in
theorem gX11_lights_X2_has : GoodIn wsX11_lights (va_wsS RX11 122 yX2_has wsX2_has) := goodIn_app (goodIn_of _ (by decide +kernel)) ggX11_lights_X2_has
set_option maxRecDepth 20000 in
theorem ggX11_lights_X11_yes : GoodIn wsX11_lights wsX11_yes := goodIn_r _ [81] (by decide +kernel) (by decide +kernel)
set_option maxRecDepth 20000 in
theorem gX11_lights_X11_yes : GoodIn wsX11_lights (va_wsS RX11 81 yX11_yes wsX11_yes) := goodIn_app (goodIn_of _ (by decide +kernel)) ggX11_lights_X11_yes
theorem dX11_lights_0 : decode cX11_lights 0 = .ok (.aload_n 0, 1) := by decide +kernel
theorem dX11_lights_1 : decode cX11_lights 1 = .ok (.getfield 30, 3) := by decide +kernel
theorem dX11_lights_4 : decode cX11_lights 4 = .ok (.iload_n 1, 1) := by decide +kernel
theorem dX11_lights_5 : decode cX11_lights 5 = .ok (.invokevirtual 71, 3) := by decide +kernel
theorem dX11_lights_8 : decode cX11_lights 8 = .ok (.astore_n 3, 1) := by decide +kernel
theorem dX11_lights_9 : decode cX11_lights 9 = .ok (.aload_n 3, 1) := by decide +kernel
theorem dX11_lights_10 : decode cX11_lights 10 = .ok (.ifnull 10, 3) := by decide +kernel
theorem dX11_lights_13 : decode cX11_lights 13 = .ok (.iload_n 2, 1) := by decide +kernel
theorem dX11_lights_14 : decode cX11_lights 14 = .ok (.invokestatic 118, 3) := by decide +kernel
theorem dX11_lights_17 : decode cX11_lights 17 = .ok (.ifCond .ne 9, 3) := by decide +kernel
theorem dX11_lights_20 : decode cX11_lights 20 = .ok (.aload_n 0, 1) := by decide +kernel
theorem dX11_lights_21 : decode cX11_lights 21 = .ok (.iconst (-1), 1) := by decide +kernel
theorem dX11_lights_22 : decode cX11_lights 22 = .ok (.invokevirtual 36, 3) := by decide +kernel
theorem dX11_lights_25 : decode cX11_lights 25 = .ok (.ireturn, 1) := by decide +kernel
theorem dX11_lights_26 : decode cX11_lights 26 = .ok (.aload_n 3, 1) := by decide +kernel
theorem dX11_lights_27 : decode cX11_lights 27 = .ok (.aload_n 0, 1) := by decide +kernel
theorem dX11_lights_28 : decode cX11_lights 28 = .ok (.getfield 30, 3) := by decide +kernel
theorem dX11_lights_31 : decode cX11_lights 31 = .ok (.invokevirtual 108, 3) := by decide +kernel
theorem dX11_lights_34 : decode cX11_lights 34 = .ok (.iload_n 2, 1) := by decide +kernel
theorem dX11_lights_35 : decode cX11_lights 35 = .ok (.invokestatic 122, 3) := by decide +kernel
theorem dX11_lights_38 : decode cX11_lights 38 = .ok (.invokestatic 81, 3) := by decide +kernel
theorem dX11_lights_41 : decode cX11_lights 41 = .ok (.ireturn, 1) := by decide +kernel
set_option maxRecDepth 20000 in
theorem ggX11_shown_X10_lampAt : GoodIn wsX11_shown wsX10_lampAt := goodIn_r _ [7, 8, 9, 112, 113, 114, 115, 116, 117] (by decide +kernel) (by decide +kernel)
set_option maxRecDepth 20000 in
theorem gX11_shown_X10_lampAt : GoodIn wsX11_shown (wsV RX11 71 RX10 yX10_lampAt wsX10_lampAt) := goodIn_app (goodIn_of _ (by decide +kernel)) ggX11_shown_X10_lampAt
set_option maxRecDepth 20000 in
theorem ggX11_shown_X11_refuse : GoodIn wsX11_shown wsX11_refuse := goodIn_r _ [14, 15, 69, 70, 71, 72, 73, 74, 75, 76] (by decide +kernel) (by decide +kernel)
set_option maxRecDepth 20000 in
theorem gX11_shown_X11_refuse : GoodIn wsX11_shown (wsV RX11 36 RX11 yX11_refuse wsX11_refuse) := goodIn_app (goodIn_of _ (by decide +kernel)) ggX11_shown_X11_refuse
set_option maxRecDepth 20000 in
theorem ggX11_shown_X5_sceneShown : GoodIn wsX11_shown wsX5_sceneShown := goodIn_r _ [21, 22, 23, 24, 25, 26, 20, 27, 28, 29, 30, 31, 32, 33, 34, 35, 36, 37, 38, 39, 40, 41, 42, 43, 44, 45, 46, 47, 48, 49, 50, 51, 77, 78, 79, 80, 81, 82, 83, 84, 85, 86, 87, 88, 89, 90, 91, 92, 93, 94, 95, 96, 97, 98, 99, 100, 101, 102, 103, 104, 105, 106, 107, 108, 109, 110, 111] (by decide +kernel) (by decide +kernel)
set_option maxRecDepth 20000 in
theorem gX11_shown_X5_sceneShown_u126X0 : GoodIn wsX11_shown (va_wsU RX11 126 RX0 "LampsThatRemember$Lamp" ⟨"LampsThatRemember$Lamp", "sceneShown", "(I)I"⟩ yX5_sceneShown wsX5_sceneShown) := goodIn_app (goodIn_of _ (by decide +kernel)) ggX11_shown_X5_sceneShown
set_option maxRecDepth 20000 in
theorem gX11_shown_X5_sceneShown_u126X1 : GoodIn wsX11_shown (va_wsU RX11 126 RX1 "LampsThatRemember$Lamp" ⟨"LampsThatRemember$Lamp", "sceneShown", "(I)I"⟩ yX5_sceneShown wsX5_sceneShown) := goodIn_app (goodIn_of _ (by decide +kernel)) ggX11_shown_X5_sceneShown
set_option maxRecDepth 20000 in
theorem gX11_shown_X5_sceneShown_u126X3 : GoodIn wsX11_shown (va_wsU RX11 126 RX3 "LampsThatRemember$Lamp" ⟨"LampsThatRemember$Lamp", "sceneShown", "(I)I"⟩ yX5_sceneShown wsX5_sceneShown) := goodIn_app (goodIn_of _ (by decide +kernel)) ggX11_shown_X5_sceneShown
set_option maxRecDepth 20000 in
theorem gX11_shown_X5_sceneShown_u126X4 : GoodIn wsX11_shown (va_wsU RX11 126 RX4 "LampsThatRemember$Lamp" ⟨"LampsThatRemember$Lamp", "sceneShown", "(I)I"⟩ yX5_sceneShown wsX5_sceneShown) := goodIn_app (goodIn_of _ (by decide +kernel)) ggX11_shown_X5_sceneShown
set_option maxRecDepth 20000 in
theorem gX11_shown_X5_sceneShown : GoodIn wsX11_shown (wsV RX11 126 RX5 yX5_sceneShown wsX5_sceneShown) := goodIn_app (goodIn_of _ (by decide +kernel)) ggX11_shown_X5_sceneShown
set_option maxRecDepth 20000 in
theorem gX11_shown_X5_sceneShown_u126X7 : GoodIn wsX11_shown (va_wsU RX11 126 RX7 "LampsThatRemember$Lamp" ⟨"LampsThatRemember$Lamp", "sceneShown", "(I)I"⟩ yX5_sceneShown wsX5_sceneShown) := goodIn_app (goodIn_of _ (by decide +kernel)) ggX11_shown_X5_sceneShown
set_option maxRecDepth 20000 in
theorem gX11_shown_X5_sceneShown_u126X8 : GoodIn wsX11_shown (va_wsU RX11 126 RX8 "LampsThatRemember$Lamp" ⟨"LampsThatRemember$Lamp", "sceneShown", "(I)I"⟩ yX5_sceneShown wsX5_sceneShown) := goodIn_app (goodIn_of _ (by decide +kernel)) ggX11_shown_X5_sceneShown
set_option maxRecDepth 20000 in
theorem ggX11_shown_X9_whoIn : GoodIn wsX11_shown wsX9_whoIn := goodIn_r _ [62] (by decide +kernel) (by decide +kernel)
set_option maxRecDepth 20000 in
theorem gX11_shown_X9_whoIn : GoodIn wsX11_shown (va_wsS RX11 129 yX9_whoIn wsX9_whoIn) := goodIn_app (goodIn_of _ (by decide +kernel)) ggX11_shown_X9_whoIn
set_option maxRecDepth 20000 in
theorem ggX11_shown_X9_cellIn : GoodIn wsX11_shown wsX9_cellIn := goodIn_r _ [65] (by decide +kernel) (by decide +kernel)
set_option maxRecDepth 20000 in
theorem gX11_shown_X9_cellIn : GoodIn wsX11_shown (va_wsS RX11 134 yX9_cellIn wsX9_cellIn) := goodIn_app (goodIn_of _ (by decide +kernel)) ggX11_shown_X9_cellIn
set_option maxRecDepth 20000 in
theorem ggX11_shown_X9_minuteIn : GoodIn wsX11_shown wsX9_minuteIn := goodIn_r _ [68] (by decide +kernel) (by decide +kernel)
set_option maxRecDepth 20000 in
theorem gX11_shown_X9_minuteIn : GoodIn wsX11_shown (va_wsS RX11 137 yX9_minuteIn wsX9_minuteIn) := goodIn_app (goodIn_of _ (by decide +kernel)) ggX11_shown_X9_minuteIn
theorem dX11_shown_0 : decode cX11_shown 0 = .ok (.aload_n 0, 1) := by decide +kernel
theorem dX11_shown_1 : decode cX11_shown 1 = .ok (.getfield 30, 3) := by decide +kernel
theorem dX11_shown_4 : decode cX11_shown 4 = .ok (.iload_n 1, 1) := by decide +kernel
theorem dX11_shown_5 : decode cX11_shown 5 = .ok (.invokevirtual 71, 3) := by decide +kernel
theorem dX11_shown_8 : decode cX11_shown 8 = .ok (.astore 4, 2) := by decide +kernel
theorem dX11_shown_10 : decode cX11_shown 10 = .ok (.aload 4, 2) := by decide +kernel
theorem dX11_shown_12 : decode cX11_shown 12 = .ok (.ifnull 16, 3) := by decide +kernel
theorem dX11_shown_15 : decode cX11_shown 15 = .ok (.iload_n 2, 1) := by decide +kernel
theorem dX11_shown_16 : decode cX11_shown 16 = .ok (.ifCond .lt 12, 3) := by decide +kernel
theorem dX11_shown_19 : decode cX11_shown 19 = .ok (.iload_n 2, 1) := by decide +kernel
theorem dX11_shown_20 : decode cX11_shown 20 = .ok (.aload 4, 2) := by decide +kernel
theorem dX11_shown_22 : decode cX11_shown 22 = .ok (.getfield 105, 3) := by decide +kernel
theorem dX11_shown_25 : decode cX11_shown 25 = .ok (.if_icmp .lt 9, 3) := by decide +kernel
theorem dX11_shown_28 : decode cX11_shown 28 = .ok (.aload_n 0, 1) := by decide +kernel
theorem dX11_shown_29 : decode cX11_shown 29 = .ok (.iconst (-1), 1) := by decide +kernel
theorem dX11_shown_30 : decode cX11_shown 30 = .ok (.invokevirtual 36, 3) := by decide +kernel
theorem dX11_shown_33 : decode cX11_shown 33 = .ok (.ireturn, 1) := by decide +kernel
theorem dX11_shown_34 : decode cX11_shown 34 = .ok (.aload 4, 2) := by decide +kernel
theorem dX11_shown_36 : decode cX11_shown 36 = .ok (.iload_n 2, 1) := by decide +kernel
theorem dX11_shown_37 : decode cX11_shown 37 = .ok (.invokevirtual 126, 3) := by decide +kernel
theorem dX11_shown_40 : decode cX11_shown 40 = .ok (.istore 5, 2) := by decide +kernel
theorem dX11_shown_42 : decode cX11_shown 42 = .ok (.iload_n 3, 1) := by decide +kernel
theorem dX11_shown_43 : decode cX11_shown 43 = .ok (.tableswitch 43 0 2 #[25, 31, 37], 25) := by decide +kernel
theorem dX11_shown_68 : decode cX11_shown 68 = .ok (.iload 5, 2) := by decide +kernel
theorem dX11_shown_70 : decode cX11_shown 70 = .ok (.invokestatic 129, 3) := by decide +kernel
theorem dX11_shown_73 : decode cX11_shown 73 = .ok (.ireturn, 1) := by decide +kernel
theorem dX11_shown_74 : decode cX11_shown 74 = .ok (.iload 5, 2) := by decide +kernel
theorem dX11_shown_76 : decode cX11_shown 76 = .ok (.invokestatic 134, 3) := by decide +kernel
theorem dX11_shown_79 : decode cX11_shown 79 = .ok (.ireturn, 1) := by decide +kernel
theorem dX11_shown_80 : decode cX11_shown 80 = .ok (.iload 5, 2) := by decide +kernel
theorem dX11_shown_82 : decode cX11_shown 82 = .ok (.invokestatic 137, 3) := by decide +kernel
theorem dX11_shown_85 : decode cX11_shown 85 = .ok (.ireturn, 1) := by decide +kernel
theorem dX11_shown_86 : decode cX11_shown 86 = .ok (.aload_n 0, 1) := by decide +kernel
theorem dX11_shown_87 : decode cX11_shown 87 = .ok (.bipush (-2), 2) := by decide +kernel
theorem dX11_shown_89 : decode cX11_shown 89 = .ok (.invokevirtual 36, 3) := by decide +kernel
theorem dX11_shown_92 : decode cX11_shown 92 = .ok (.ireturn, 1) := by decide +kernel
set_option maxRecDepth 20000 in
theorem ggX11_seen_X10_lampAt : GoodIn wsX11_seen wsX10_lampAt := goodIn_r _ [6, 7, 8, 54, 55, 56, 57, 58, 59] (by decide +kernel) (by decide +kernel)
set_option maxRecDepth 20000 in
theorem gX11_seen_X10_lampAt : GoodIn wsX11_seen (wsV RX11 71 RX10 yX10_lampAt wsX10_lampAt) := goodIn_app (goodIn_of _ (by decide +kernel)) ggX11_seen_X10_lampAt
set_option maxRecDepth 20000 in
theorem ggX11_seen_X11_refuse : GoodIn wsX11_seen wsX11_refuse := goodIn_r _ [13, 14, 46, 47, 48, 49, 50, 51, 52, 53] (by decide +kernel) (by decide +kernel)
set_option maxRecDepth 20000 in
theorem gX11_seen_X11_refuse : GoodIn wsX11_seen (wsV RX11 36 RX11 yX11_refuse wsX11_refuse) := goodIn_app (goodIn_of _ (by decide +kernel)) ggX11_seen_X11_refuse
set_option maxRecDepth 20000 in
theorem ggX11_seen_X5_everSeen : GoodIn wsX11_seen wsX5_everSeen := goodIn_r _ [20, 21, 22, 23, 24, 25, 19, 26, 27, 28, 29, 30, 31, 32, 33, 34, 35, 36, 37, 38, 60, 61, 62, 63, 64, 65, 66, 67, 68, 69, 70, 71, 72, 73, 74, 75, 76, 77, 78, 79, 80, 81, 82, 83, 84, 85, 86, 87, 88, 89, 90, 91, 92, 93, 94] (by decide +kernel) (by decide +kernel)
set_option maxRecDepth 20000 in
theorem gX11_seen_X5_everSeen_u140X0 : GoodIn wsX11_seen (va_wsU RX11 140 RX0 "LampsThatRemember$Lamp" ⟨"LampsThatRemember$Lamp", "everSeen", "()I"⟩ yX5_everSeen wsX5_everSeen) := goodIn_app (goodIn_of _ (by decide +kernel)) ggX11_seen_X5_everSeen
set_option maxRecDepth 20000 in
theorem gX11_seen_X5_everSeen_u140X1 : GoodIn wsX11_seen (va_wsU RX11 140 RX1 "LampsThatRemember$Lamp" ⟨"LampsThatRemember$Lamp", "everSeen", "()I"⟩ yX5_everSeen wsX5_everSeen) := goodIn_app (goodIn_of _ (by decide +kernel)) ggX11_seen_X5_everSeen
set_option maxRecDepth 20000 in
theorem gX11_seen_X5_everSeen_u140X3 : GoodIn wsX11_seen (va_wsU RX11 140 RX3 "LampsThatRemember$Lamp" ⟨"LampsThatRemember$Lamp", "everSeen", "()I"⟩ yX5_everSeen wsX5_everSeen) := goodIn_app (goodIn_of _ (by decide +kernel)) ggX11_seen_X5_everSeen
set_option maxRecDepth 20000 in
theorem gX11_seen_X5_everSeen_u140X4 : GoodIn wsX11_seen (va_wsU RX11 140 RX4 "LampsThatRemember$Lamp" ⟨"LampsThatRemember$Lamp", "everSeen", "()I"⟩ yX5_everSeen wsX5_everSeen) := goodIn_app (goodIn_of _ (by decide +kernel)) ggX11_seen_X5_everSeen
set_option maxRecDepth 20000 in
theorem gX11_seen_X5_everSeen : GoodIn wsX11_seen (wsV RX11 140 RX5 yX5_everSeen wsX5_everSeen) := goodIn_app (goodIn_of _ (by decide +kernel)) ggX11_seen_X5_everSeen
set_option maxRecDepth 20000 in
theorem gX11_seen_X5_everSeen_u140X7 : GoodIn wsX11_seen (va_wsU RX11 140 RX7 "LampsThatRemember$Lamp" ⟨"LampsThatRemember$Lamp", "everSeen", "()I"⟩ yX5_everSeen wsX5_everSeen) := goodIn_app (goodIn_of _ (by decide +kernel)) ggX11_seen_X5_everSeen
set_option maxRecDepth 20000 in
theorem gX11_seen_X5_everSeen_u140X8 : GoodIn wsX11_seen (va_wsU RX11 140 RX8 "LampsThatRemember$Lamp" ⟨"LampsThatRemember$Lamp", "everSeen", "()I"⟩ yX5_everSeen wsX5_everSeen) := goodIn_app (goodIn_of _ (by decide +kernel)) ggX11_seen_X5_everSeen
theorem dX11_seen_0 : decode cX11_seen 0 = .ok (.aload_n 0, 1) := by decide +kernel
theorem dX11_seen_1 : decode cX11_seen 1 = .ok (.getfield 30, 3) := by decide +kernel
theorem dX11_seen_4 : decode cX11_seen 4 = .ok (.iload_n 1, 1) := by decide +kernel
theorem dX11_seen_5 : decode cX11_seen 5 = .ok (.invokevirtual 71, 3) := by decide +kernel
theorem dX11_seen_8 : decode cX11_seen 8 = .ok (.astore_n 2, 1) := by decide +kernel
theorem dX11_seen_9 : decode cX11_seen 9 = .ok (.aload_n 2, 1) := by decide +kernel
theorem dX11_seen_10 : decode cX11_seen 10 = .ok (.ifnonnull 11, 3) := by decide +kernel
theorem dX11_seen_13 : decode cX11_seen 13 = .ok (.aload_n 0, 1) := by decide +kernel
theorem dX11_seen_14 : decode cX11_seen 14 = .ok (.iconst (-1), 1) := by decide +kernel
theorem dX11_seen_15 : decode cX11_seen 15 = .ok (.invokevirtual 36, 3) := by decide +kernel
theorem dX11_seen_18 : decode cX11_seen 18 = .ok (.goto 7, 3) := by decide +kernel
theorem dX11_seen_21 : decode cX11_seen 21 = .ok (.aload_n 2, 1) := by decide +kernel
theorem dX11_seen_22 : decode cX11_seen 22 = .ok (.invokevirtual 140, 3) := by decide +kernel
theorem dX11_seen_25 : decode cX11_seen 25 = .ok (.ireturn, 1) := by decide +kernel
set_option maxRecDepth 20000 in
theorem ggX11_forget_X10_lampAt : GoodIn wsX11_forget wsX10_lampAt := goodIn_r _ [7, 8, 9, 112, 113, 114, 115, 116, 117] (by decide +kernel) (by decide +kernel)
set_option maxRecDepth 20000 in
theorem gX11_forget_X10_lampAt : GoodIn wsX11_forget (wsV RX11 71 RX10 yX10_lampAt wsX10_lampAt) := goodIn_app (goodIn_of _ (by decide +kernel)) ggX11_forget_X10_lampAt
set_option maxRecDepth 20000 in
theorem ggX11_forget_X11_refuse : GoodIn wsX11_forget wsX11_refuse := goodIn_r _ [14, 15, 69, 70, 71, 72, 73, 74, 75, 76] (by decide +kernel) (by decide +kernel)
set_option maxRecDepth 20000 in
theorem gX11_forget_X11_refuse : GoodIn wsX11_forget (wsV RX11 36 RX11 yX11_refuse wsX11_refuse) := goodIn_app (goodIn_of _ (by decide +kernel)) ggX11_forget_X11_refuse
set_option maxRecDepth 20000 in
theorem ggX11_forget_X11_outside : GoodIn wsX11_forget wsX11_outside := goodIn_r _ [18] (by decide +kernel) (by decide +kernel)
set_option maxRecDepth 20000 in
theorem gX11_forget_X11_outside : GoodIn wsX11_forget (va_wsS RX11 143 yX11_outside wsX11_outside) := goodIn_app (goodIn_of _ (by decide +kernel)) ggX11_forget_X11_outside
set_option maxRecDepth 20000 in
theorem ggX11_forget_X5_placeOfMinute : GoodIn wsX11_forget wsX5_placeOfMinute := goodIn_r _ [24, 25, 26, 27, 28, 29, 23, 30, 31, 32, 33, 34, 35, 36, 37, 38, 39, 40, 41, 42, 77, 78, 79, 80, 81, 82, 83, 84, 85, 86, 87, 88, 89, 90, 91, 92, 93, 94, 95, 96, 97, 98, 99, 100, 101, 102, 103, 104, 105, 106, 107, 108, 109, 110, 111] (by decide +kernel) (by decide +kernel)
set_option maxRecDepth 20000 in
theorem gX11_forget_X5_placeOfMinute_u147X0 : GoodIn wsX11_forget (va_wsU RX11 147 RX0 "LampsThatRemember$Lamp" ⟨"LampsThatRemember$Lamp", "placeOfMinute", "(I)I"⟩ yX5_placeOfMinute wsX5_placeOfMinute) := goodIn_app (goodIn_of _ (by decide +kernel)) ggX11_forget_X5_placeOfMinute
set_option maxRecDepth 20000 in
theorem gX11_forget_X5_placeOfMinute_u147X1 : GoodIn wsX11_forget (va_wsU RX11 147 RX1 "LampsThatRemember$Lamp" ⟨"LampsThatRemember$Lamp", "placeOfMinute", "(I)I"⟩ yX5_placeOfMinute wsX5_placeOfMinute) := goodIn_app (goodIn_of _ (by decide +kernel)) ggX11_forget_X5_placeOfMinute
set_option maxRecDepth 20000 in
theorem gX11_forget_X5_placeOfMinute_u147X3 : GoodIn wsX11_forget (va_wsU RX11 147 RX3 "LampsThatRemember$Lamp" ⟨"LampsThatRemember$Lamp", "placeOfMinute", "(I)I"⟩ yX5_placeOfMinute wsX5_placeOfMinute) := goodIn_app (goodIn_of _ (by decide +kernel)) ggX11_forget_X5_placeOfMinute
set_option maxRecDepth 20000 in
theorem gX11_forget_X5_placeOfMinute_u147X4 : GoodIn wsX11_forget (va_wsU RX11 147 RX4 "LampsThatRemember$Lamp" ⟨"LampsThatRemember$Lamp", "placeOfMinute", "(I)I"⟩ yX5_placeOfMinute wsX5_placeOfMinute) := goodIn_app (goodIn_of _ (by decide +kernel)) ggX11_forget_X5_placeOfMinute
set_option maxRecDepth 20000 in
theorem gX11_forget_X5_placeOfMinute : GoodIn wsX11_forget (wsV RX11 147 RX5 yX5_placeOfMinute wsX5_placeOfMinute) := goodIn_app (goodIn_of _ (by decide +kernel)) ggX11_forget_X5_placeOfMinute
set_option maxRecDepth 20000 in
theorem gX11_forget_X5_placeOfMinute_u147X7 : GoodIn wsX11_forget (va_wsU RX11 147 RX7 "LampsThatRemember$Lamp" ⟨"LampsThatRemember$Lamp", "placeOfMinute", "(I)I"⟩ yX5_placeOfMinute wsX5_placeOfMinute) := goodIn_app (goodIn_of _ (by decide +kernel)) ggX11_forget_X5_placeOfMinute
set_option maxRecDepth 20000 in
theorem gX11_forget_X5_placeOfMinute_u147X8 : GoodIn wsX11_forget (va_wsU RX11 147 RX8 "LampsThatRemember$Lamp" ⟨"LampsThatRemember$Lamp", "placeOfMinute", "(I)I"⟩ yX5_placeOfMinute wsX5_placeOfMinute) := goodIn_app (goodIn_of _ (by decide +kernel)) ggX11_forget_X5_placeOfMinute
set_option maxRecDepth 20000 in
theorem ggX11_forget_X0_room : GoodIn wsX11_forget wsX0_room := goodIn_r _ [56] (by decide +kernel) (by decide +kernel)
set_option maxRecDepth 20000 in
theorem gX11_forget_X0_room_u150X0 : GoodIn wsX11_forget (va_wsO RX11 150 RX0 "LampsThatRemember$Lamp" ⟨"LampsThatRemember$Lamp", "room", "()I"⟩ yX0_room wsX0_room) := goodIn_app (goodIn_of _ (by decide +kernel)) ggX11_forget_X0_room
set_option maxRecDepth 20000 in
theorem ggX11_forget_X5_room : GoodIn wsX11_forget wsX5_room := goodIn_r _ [57] (by decide +kernel) (by decide +kernel)
set_option maxRecDepth 20000 in
theorem gX11_forget_X5_room_u150X1 : GoodIn wsX11_forget (va_wsU RX11 150 RX1 "LampsThatRemember$Lamp" ⟨"LampsThatRemember$Lamp", "room", "()I"⟩ yX5_room wsX5_room) := goodIn_app (goodIn_of _ (by decide +kernel)) ggX11_forget_X5_room
set_option maxRecDepth 20000 in
theorem gX11_forget_X5_room_u150X3 : GoodIn wsX11_forget (va_wsU RX11 150 RX3 "LampsThatRemember$Lamp" ⟨"LampsThatRemember$Lamp", "room", "()I"⟩ yX5_room wsX5_room) := goodIn_app (goodIn_of _ (by decide +kernel)) ggX11_forget_X5_room
set_option maxRecDepth 20000 in
theorem gX11_forget_X5_room_u150X4 : GoodIn wsX11_forget (va_wsU RX11 150 RX4 "LampsThatRemember$Lamp" ⟨"LampsThatRemember$Lamp", "room", "()I"⟩ yX5_room wsX5_room) := goodIn_app (goodIn_of _ (by decide +kernel)) ggX11_forget_X5_room
set_option maxRecDepth 20000 in
theorem gX11_forget_X5_room : GoodIn wsX11_forget (wsV RX11 150 RX5 yX5_room wsX5_room) := goodIn_app (goodIn_of _ (by decide +kernel)) ggX11_forget_X5_room
set_option maxRecDepth 20000 in
theorem ggX11_forget_X7_room : GoodIn wsX11_forget wsX7_room := goodIn_r _ [67] (by decide +kernel) (by decide +kernel)
set_option maxRecDepth 20000 in
theorem gX11_forget_X7_room_u150X7 : GoodIn wsX11_forget (va_wsO RX11 150 RX7 "LampsThatRemember$Lamp" ⟨"LampsThatRemember$Lamp", "room", "()I"⟩ yX7_room wsX7_room) := goodIn_app (goodIn_of _ (by decide +kernel)) ggX11_forget_X7_room
set_option maxRecDepth 20000 in
theorem gX11_forget_X5_room_u150X8 : GoodIn wsX11_forget (va_wsU RX11 150 RX8 "LampsThatRemember$Lamp" ⟨"LampsThatRemember$Lamp", "room", "()I"⟩ yX5_room wsX5_room) := goodIn_app (goodIn_of _ (by decide +kernel)) ggX11_forget_X5_room
theorem dX11_forget_0 : decode cX11_forget 0 = .ok (.aload_n 0, 1) := by decide +kernel
theorem dX11_forget_1 : decode cX11_forget 1 = .ok (.getfield 30, 3) := by decide +kernel
theorem dX11_forget_4 : decode cX11_forget 4 = .ok (.iload_n 1, 1) := by decide +kernel
theorem dX11_forget_5 : decode cX11_forget 5 = .ok (.invokevirtual 71, 3) := by decide +kernel
theorem dX11_forget_8 : decode cX11_forget 8 = .ok (.astore_n 3, 1) := by decide +kernel
theorem dX11_forget_9 : decode cX11_forget 9 = .ok (.aload_n 3, 1) := by decide +kernel
theorem dX11_forget_10 : decode cX11_forget 10 = .ok (.ifnonnull 9, 3) := by decide +kernel
theorem dX11_forget_13 : decode cX11_forget 13 = .ok (.aload_n 0, 1) := by decide +kernel
theorem dX11_forget_14 : decode cX11_forget 14 = .ok (.iconst (-1), 1) := by decide +kernel
theorem dX11_forget_15 : decode cX11_forget 15 = .ok (.invokevirtual 36, 3) := by decide +kernel
theorem dX11_forget_18 : decode cX11_forget 18 = .ok (.ireturn, 1) := by decide +kernel
theorem dX11_forget_19 : decode cX11_forget 19 = .ok (.iload_n 2, 1) := by decide +kernel
theorem dX11_forget_20 : decode cX11_forget 20 = .ok (.iconst 0, 1) := by decide +kernel
theorem dX11_forget_21 : decode cX11_forget 21 = .ok (.sipush 9999, 3) := by decide +kernel
theorem dX11_forget_24 : decode cX11_forget 24 = .ok (.invokestatic 143, 3) := by decide +kernel
theorem dX11_forget_27 : decode cX11_forget 27 = .ok (.istore 4, 2) := by decide +kernel
theorem dX11_forget_29 : decode cX11_forget 29 = .ok (.iload 4, 2) := by decide +kernel
theorem dX11_forget_31 : decode cX11_forget 31 = .ok (.ifCond .ge 10, 3) := by decide +kernel
theorem dX11_forget_34 : decode cX11_forget 34 = .ok (.aload_n 0, 1) := by decide +kernel
theorem dX11_forget_35 : decode cX11_forget 35 = .ok (.iload 4, 2) := by decide +kernel
theorem dX11_forget_37 : decode cX11_forget 37 = .ok (.invokevirtual 36, 3) := by decide +kernel
theorem dX11_forget_40 : decode cX11_forget 40 = .ok (.ireturn, 1) := by decide +kernel
theorem dX11_forget_41 : decode cX11_forget 41 = .ok (.aload_n 3, 1) := by decide +kernel
theorem dX11_forget_42 : decode cX11_forget 42 = .ok (.iload_n 2, 1) := by decide +kernel
theorem dX11_forget_43 : decode cX11_forget 43 = .ok (.invokevirtual 147, 3) := by decide +kernel
theorem dX11_forget_46 : decode cX11_forget 46 = .ok (.istore 5, 2) := by decide +kernel
theorem dX11_forget_48 : decode cX11_forget 48 = .ok (.iload 5, 2) := by decide +kernel
theorem dX11_forget_50 : decode cX11_forget 50 = .ok (.ifCond .ge 8, 3) := by decide +kernel
theorem dX11_forget_53 : decode cX11_forget 53 = .ok (.bipush (-9), 2) := by decide +kernel
theorem dX11_forget_55 : decode cX11_forget 55 = .ok (.goto 17, 3) := by decide +kernel
theorem dX11_forget_58 : decode cX11_forget 58 = .ok (.aload_n 3, 1) := by decide +kernel
theorem dX11_forget_59 : decode cX11_forget 59 = .ok (.invokevirtual 150, 3) := by decide +kernel
theorem dX11_forget_62 : decode cX11_forget 62 = .ok (.aload_n 3, 1) := by decide +kernel
theorem dX11_forget_63 : decode cX11_forget 63 = .ok (.getfield 105, 3) := by decide +kernel
theorem dX11_forget_66 : decode cX11_forget 66 = .ok (.isub, 1) := by decide +kernel
theorem dX11_forget_67 : decode cX11_forget 67 = .ok (.iload 5, 2) := by decide +kernel
theorem dX11_forget_69 : decode cX11_forget 69 = .ok (.iadd, 1) := by decide +kernel
theorem dX11_forget_70 : decode cX11_forget 70 = .ok (.iconst 1, 1) := by decide +kernel
theorem dX11_forget_71 : decode cX11_forget 71 = .ok (.iadd, 1) := by decide +kernel
theorem dX11_forget_72 : decode cX11_forget 72 = .ok (.ireturn, 1) := by decide +kernel
set_option maxRecDepth 20000 in
theorem ggX11_two_X10_lampAt : GoodIn wsX11_two wsX10_lampAt := goodIn_r _ [7, 8, 9, 96, 97, 98, 99, 100, 101] (by decide +kernel) (by decide +kernel)
set_option maxRecDepth 20000 in
theorem gX11_two_X10_lampAt : GoodIn wsX11_two (wsV RX11 71 RX10 yX10_lampAt wsX10_lampAt) := goodIn_app (goodIn_of _ (by decide +kernel)) ggX11_two_X10_lampAt
set_option maxRecDepth 20000 in
theorem ggX11_two_X11_refuse : GoodIn wsX11_two wsX11_refuse := goodIn_r _ [14, 15, 53, 54, 55, 56, 57, 58, 59, 60] (by decide +kernel) (by decide +kernel)
set_option maxRecDepth 20000 in
theorem gX11_two_X11_refuse : GoodIn wsX11_two (wsV RX11 36 RX11 yX11_refuse wsX11_refuse) := goodIn_app (goodIn_of _ (by decide +kernel)) ggX11_two_X11_refuse
set_option maxRecDepth 20000 in
theorem ggX11_two_X5_sceneAt : GoodIn wsX11_two wsX5_sceneAt := goodIn_r _ [21, 22, 23, 61, 62, 63, 64, 65, 66, 67, 68, 69, 70, 71, 72, 73, 74, 75, 76, 77, 78, 79, 80, 81, 82, 83, 84, 85, 86, 87, 88, 89, 90, 91, 92, 93, 94, 95] (by decide +kernel) (by decide +kernel)
set_option maxRecDepth 20000 in
theorem gX11_two_X5_sceneAt_u153X0 : GoodIn wsX11_two (va_wsU RX11 153 RX0 "LampsThatRemember$Lamp" ⟨"LampsThatRemember$Lamp", "sceneAt", "(I)I"⟩ yX5_sceneAt wsX5_sceneAt) := goodIn_app (goodIn_of _ (by decide +kernel)) ggX11_two_X5_sceneAt
set_option maxRecDepth 20000 in
theorem gX11_two_X5_sceneAt_u153X1 : GoodIn wsX11_two (va_wsU RX11 153 RX1 "LampsThatRemember$Lamp" ⟨"LampsThatRemember$Lamp", "sceneAt", "(I)I"⟩ yX5_sceneAt wsX5_sceneAt) := goodIn_app (goodIn_of _ (by decide +kernel)) ggX11_two_X5_sceneAt
set_option maxRecDepth 20000 in
theorem gX11_two_X5_sceneAt_u153X3 : GoodIn wsX11_two (va_wsU RX11 153 RX3 "LampsThatRemember$Lamp" ⟨"LampsThatRemember$Lamp", "sceneAt", "(I)I"⟩ yX5_sceneAt wsX5_sceneAt) := goodIn_app (goodIn_of _ (by decide +kernel)) ggX11_two_X5_sceneAt
set_option maxRecDepth 20000 in
theorem gX11_two_X5_sceneAt_u153X4 : GoodIn wsX11_two (va_wsU RX11 153 RX4 "LampsThatRemember$Lamp" ⟨"LampsThatRemember$Lamp", "sceneAt", "(I)I"⟩ yX5_sceneAt wsX5_sceneAt) := goodIn_app (goodIn_of _ (by decide +kernel)) ggX11_two_X5_sceneAt
set_option maxRecDepth 20000 in
theorem gX11_two_X5_sceneAt : GoodIn wsX11_two (wsV RX11 153 RX5 yX5_sceneAt wsX5_sceneAt) := goodIn_app (goodIn_of _ (by decide +kernel)) ggX11_two_X5_sceneAt
set_option maxRecDepth 20000 in
theorem gX11_two_X5_sceneAt_u153X7 : GoodIn wsX11_two (va_wsU RX11 153 RX7 "LampsThatRemember$Lamp" ⟨"LampsThatRemember$Lamp", "sceneAt", "(I)I"⟩ yX5_sceneAt wsX5_sceneAt) := goodIn_app (goodIn_of _ (by decide +kernel)) ggX11_two_X5_sceneAt
set_option maxRecDepth 20000 in
theorem gX11_two_X5_sceneAt_u153X8 : GoodIn wsX11_two (va_wsU RX11 153 RX8 "LampsThatRemember$Lamp" ⟨"LampsThatRemember$Lamp", "sceneAt", "(I)I"⟩ yX5_sceneAt wsX5_sceneAt) := goodIn_app (goodIn_of _ (by decide +kernel)) ggX11_two_X5_sceneAt
set_option maxRecDepth 20000 in
theorem ggX11_two_X9_minuteIn : GoodIn wsX11_two wsX9_minuteIn := goodIn_r _ [34] (by decide +kernel) (by decide +kernel)
set_option maxRecDepth 20000 in
theorem gX11_two_X9_minuteIn : GoodIn wsX11_two (va_wsS RX11 137 yX9_minuteIn wsX9_minuteIn) := goodIn_app (goodIn_of _ (by decide +kernel)) ggX11_two_X9_minuteIn
set_option maxRecDepth 20000 in
theorem ggX11_two_X5_placeOfMinute : GoodIn wsX11_two wsX5_placeOfMinute := goodIn_r _ [39, 22, 40, 17, 18, 19, 20, 21, 23, 24, 25, 26, 41, 28, 29, 30, 42, 32, 33, 34, 61, 62, 63, 64, 65, 66, 67, 68, 69, 70, 71, 72, 73, 74, 75, 76, 77, 78, 79, 80, 81, 82, 83, 84, 85, 86, 87, 88, 89, 90, 91, 92, 93, 94, 95] (by decide +kernel) (by decide +kernel)
set_option maxRecDepth 20000 in
theorem gX11_two_X5_placeOfMinute_u147X0 : GoodIn wsX11_two (va_wsU RX11 147 RX0 "LampsThatRemember$Lamp" ⟨"LampsThatRemember$Lamp", "placeOfMinute", "(I)I"⟩ yX5_placeOfMinute wsX5_placeOfMinute) := goodIn_app (goodIn_of _ (by decide +kernel)) ggX11_two_X5_placeOfMinute
set_option maxRecDepth 20000 in
theorem gX11_two_X5_placeOfMinute_u147X1 : GoodIn wsX11_two (va_wsU RX11 147 RX1 "LampsThatRemember$Lamp" ⟨"LampsThatRemember$Lamp", "placeOfMinute", "(I)I"⟩ yX5_placeOfMinute wsX5_placeOfMinute) := goodIn_app (goodIn_of _ (by decide +kernel)) ggX11_two_X5_placeOfMinute
set_option maxRecDepth 20000 in
theorem gX11_two_X5_placeOfMinute_u147X3 : GoodIn wsX11_two (va_wsU RX11 147 RX3 "LampsThatRemember$Lamp" ⟨"LampsThatRemember$Lamp", "placeOfMinute", "(I)I"⟩ yX5_placeOfMinute wsX5_placeOfMinute) := goodIn_app (goodIn_of _ (by decide +kernel)) ggX11_two_X5_placeOfMinute
set_option maxRecDepth 20000 in
theorem gX11_two_X5_placeOfMinute_u147X4 : GoodIn wsX11_two (va_wsU RX11 147 RX4 "LampsThatRemember$Lamp" ⟨"LampsThatRemember$Lamp", "placeOfMinute", "(I)I"⟩ yX5_placeOfMinute wsX5_placeOfMinute) := goodIn_app (goodIn_of _ (by decide +kernel)) ggX11_two_X5_placeOfMinute
set_option maxRecDepth 20000 in
theorem gX11_two_X5_placeOfMinute : GoodIn wsX11_two (wsV RX11 147 RX5 yX5_placeOfMinute wsX5_placeOfMinute) := goodIn_app (goodIn_of _ (by decide +kernel)) ggX11_two_X5_placeOfMinute
set_option maxRecDepth 20000 in
theorem gX11_two_X5_placeOfMinute_u147X7 : GoodIn wsX11_two (va_wsU RX11 147 RX7 "LampsThatRemember$Lamp" ⟨"LampsThatRemember$Lamp", "placeOfMinute", "(I)I"⟩ yX5_placeOfMinute wsX5_placeOfMinute) := goodIn_app (goodIn_of _ (by decide +kernel)) ggX11_two_X5_placeOfMinute
set_option maxRecDepth 20000 in
theorem gX11_two_X5_placeOfMinute_u147X8 : GoodIn wsX11_two (va_wsU RX11 147 RX8 "LampsThatRemember$Lamp" ⟨"LampsThatRemember$Lamp", "placeOfMinute", "(I)I"⟩ yX5_placeOfMinute wsX5_placeOfMinute) := goodIn_app (goodIn_of _ (by decide +kernel)) ggX11_two_X5_placeOfMinute
