theorem dX12_cellsLitBy_0 : decode cX12_cellsLitBy 0 = .ok (.aload_n 0, 1) := by decide +kernel
theorem dX12_cellsLitBy_1 : decode cX12_cellsLitBy 1 = .ok (.invokevirtual 220, 3) := by decide +kernel
theorem dX12_cellsLitBy_4 : decode cX12_cellsLitBy 4 = .ok (.iconst 0, 1) := by decide +kernel
theorem dX12_cellsLitBy_5 : decode cX12_cellsLitBy 5 = .ok (.istore_n 2, 1) := by decide +kernel
theorem dX12_cellsLitBy_6 : decode cX12_cellsLitBy 6 = .ok (.iconst 0, 1) := by decide +kernel
theorem dX12_cellsLitBy_7 : decode cX12_cellsLitBy 7 = .ok (.istore_n 3, 1) := by decide +kernel
theorem dX12_cellsLitBy_8 : decode cX12_cellsLitBy 8 = .ok (.iload_n 3, 1) := by decide +kernel
theorem dX12_cellsLitBy_9 : decode cX12_cellsLitBy 9 = .ok (.bipush 36, 2) := by decide +kernel
theorem dX12_cellsLitBy_11 : decode cX12_cellsLitBy 11 = .ok (.if_icmp .ge 28, 3) := by decide +kernel
theorem dX12_cellsLitBy_14 : decode cX12_cellsLitBy 14 = .ok (.iload_n 2, 1) := by decide +kernel
theorem dX12_cellsLitBy_15 : decode cX12_cellsLitBy 15 = .ok (.aload_n 0, 1) := by decide +kernel
theorem dX12_cellsLitBy_16 : decode cX12_cellsLitBy 16 = .ok (.getfield 67, 3) := by decide +kernel
theorem dX12_cellsLitBy_19 : decode cX12_cellsLitBy 19 = .ok (.iload_n 3, 1) := by decide +kernel
theorem dX12_cellsLitBy_20 : decode cX12_cellsLitBy 20 = .ok (.iaload, 1) := by decide +kernel
theorem dX12_cellsLitBy_21 : decode cX12_cellsLitBy 21 = .ok (.iload_n 1, 1) := by decide +kernel
theorem dX12_cellsLitBy_22 : decode cX12_cellsLitBy 22 = .ok (.iand, 1) := by decide +kernel
theorem dX12_cellsLitBy_23 : decode cX12_cellsLitBy 23 = .ok (.ifCond .eq 7, 3) := by decide +kernel
theorem dX12_cellsLitBy_26 : decode cX12_cellsLitBy 26 = .ok (.iconst 1, 1) := by decide +kernel
theorem dX12_cellsLitBy_27 : decode cX12_cellsLitBy 27 = .ok (.goto 4, 3) := by decide +kernel
theorem dX12_cellsLitBy_30 : decode cX12_cellsLitBy 30 = .ok (.iconst 0, 1) := by decide +kernel
theorem dX12_cellsLitBy_31 : decode cX12_cellsLitBy 31 = .ok (.iadd, 1) := by decide +kernel
theorem dX12_cellsLitBy_32 : decode cX12_cellsLitBy 32 = .ok (.istore_n 2, 1) := by decide +kernel
theorem dX12_cellsLitBy_33 : decode cX12_cellsLitBy 33 = .ok (.iinc 3 1, 3) := by decide +kernel
theorem dX12_cellsLitBy_36 : decode cX12_cellsLitBy 36 = .ok (.goto (-28), 3) := by decide +kernel
theorem dX12_cellsLitBy_39 : decode cX12_cellsLitBy 39 = .ok (.iload_n 2, 1) := by decide +kernel
theorem dX12_cellsLitBy_40 : decode cX12_cellsLitBy 40 = .ok (.ireturn, 1) := by decide +kernel
set_option maxRecDepth 20000 in
theorem ggX12_wall_X12_notWall : GoodIn wsX12_wall wsX12_notWall := goodIn_r _ [6, 1, 7, 8, 5, 9, 10, 11, 12, 13, 14, 15, 16, 17, 18, 19, 25, 26, 27, 28, 29, 30, 31, 32, 33, 34, 35, 36, 37, 38, 39, 40, 41, 42, 43, 44, 45, 46, 47, 48, 49, 50, 51, 52, 53, 54, 55, 56, 57] (by decide +kernel) (by decide +kernel)
set_option maxRecDepth 20000 in
theorem gX12_wall_X12_notWall : GoodIn wsX12_wall (wsV RX12 145 RX12 yX12_notWall wsX12_notWall) := goodIn_app (goodIn_of _ (by decide +kernel)) ggX12_wall_X12_notWall
set_option maxRecDepth 20000 in
theorem ggX12_wall_X12_no : GoodIn wsX12_wall wsX12_no := goodIn_r _ [23, 24, 25, 26, 27, 28, 29, 30, 31, 32, 33, 34, 35, 36, 37, 38, 39, 40, 41, 42, 43, 44, 45, 46, 47, 48, 49, 50, 51, 52, 53, 54, 55, 56, 57] (by decide +kernel) (by decide +kernel)
set_option maxRecDepth 20000 in
theorem gX12_wall_X12_no : GoodIn wsX12_wall (wsV RX12 91 RX12 yX12_no wsX12_no) := goodIn_app (goodIn_of _ (by decide +kernel)) ggX12_wall_X12_no
theorem dX12_wall_0 : decode cX12_wall 0 = .ok (.aload_n 0, 1) := by decide +kernel
theorem dX12_wall_1 : decode cX12_wall 1 = .ok (.iload_n 1, 1) := by decide +kernel
theorem dX12_wall_2 : decode cX12_wall 2 = .ok (.invokevirtual 145, 3) := by decide +kernel
theorem dX12_wall_5 : decode cX12_wall 5 = .ok (.istore_n 2, 1) := by decide +kernel
theorem dX12_wall_6 : decode cX12_wall 6 = .ok (.iload_n 2, 1) := by decide +kernel
theorem dX12_wall_7 : decode cX12_wall 7 = .ok (.ifCond .eq 9, 3) := by decide +kernel
theorem dX12_wall_10 : decode cX12_wall 10 = .ok (.aload_n 0, 1) := by decide +kernel
theorem dX12_wall_11 : decode cX12_wall 11 = .ok (.iload_n 2, 1) := by decide +kernel
theorem dX12_wall_12 : decode cX12_wall 12 = .ok (.invokevirtual 91, 3) := by decide +kernel
theorem dX12_wall_15 : decode cX12_wall 15 = .ok (.ireturn, 1) := by decide +kernel
theorem dX12_wall_16 : decode cX12_wall 16 = .ok (.aload_n 0, 1) := by decide +kernel
theorem dX12_wall_17 : decode cX12_wall 17 = .ok (.getfield 13, 3) := by decide +kernel
theorem dX12_wall_20 : decode cX12_wall 20 = .ok (.iload_n 1, 1) := by decide +kernel
theorem dX12_wall_21 : decode cX12_wall 21 = .ok (.iconst 1, 1) := by decide +kernel
theorem dX12_wall_22 : decode cX12_wall 22 = .ok (.aload_n 0, 1) := by decide +kernel
theorem dX12_wall_23 : decode cX12_wall 23 = .ok (.getfield 13, 3) := by decide +kernel
theorem dX12_wall_26 : decode cX12_wall 26 = .ok (.iload_n 1, 1) := by decide +kernel
theorem dX12_wall_27 : decode cX12_wall 27 = .ok (.iaload, 1) := by decide +kernel
theorem dX12_wall_28 : decode cX12_wall 28 = .ok (.isub, 1) := by decide +kernel
theorem dX12_wall_29 : decode cX12_wall 29 = .ok (.iastore, 1) := by decide +kernel
theorem dX12_wall_30 : decode cX12_wall 30 = .ok (.aload_n 0, 1) := by decide +kernel
theorem dX12_wall_31 : decode cX12_wall 31 = .ok (.getfield 13, 3) := by decide +kernel
theorem dX12_wall_34 : decode cX12_wall 34 = .ok (.iload_n 1, 1) := by decide +kernel
theorem dX12_wall_35 : decode cX12_wall 35 = .ok (.iaload, 1) := by decide +kernel
theorem dX12_wall_36 : decode cX12_wall 36 = .ok (.ireturn, 1) := by decide +kernel
set_option maxRecDepth 20000 in
theorem ggX12_person_X12_notPerson : GoodIn wsX12_person wsX12_notPerson := goodIn_r _ [7, 8, 2, 9, 10, 6, 11, 17, 18, 19, 20, 21, 22, 23, 24, 25, 26, 27, 28, 29, 30, 31, 32, 33, 34, 35, 36, 37, 38, 39, 40, 41, 42, 43, 44, 45, 46, 47, 48, 49] (by decide +kernel) (by decide +kernel)
set_option maxRecDepth 20000 in
theorem gX12_person_X12_notPerson : GoodIn wsX12_person (wsV RX12 148 RX12 yX12_notPerson wsX12_notPerson) := goodIn_app (goodIn_of _ (by decide +kernel)) ggX12_person_X12_notPerson
set_option maxRecDepth 20000 in
theorem ggX12_person_X12_no : GoodIn wsX12_person wsX12_no := goodIn_r _ [15, 16, 17, 18, 19, 20, 21, 22, 23, 24, 25, 26, 27, 28, 29, 30, 31, 32, 33, 34, 35, 36, 37, 38, 39, 40, 41, 42, 43, 44, 45, 46, 47, 48, 49] (by decide +kernel) (by decide +kernel)
set_option maxRecDepth 20000 in
theorem gX12_person_X12_no : GoodIn wsX12_person (wsV RX12 91 RX12 yX12_no wsX12_no) := goodIn_app (goodIn_of _ (by decide +kernel)) ggX12_person_X12_no
theorem dX12_person_0 : decode cX12_person 0 = .ok (.aload_n 0, 1) := by decide +kernel
theorem dX12_person_1 : decode cX12_person 1 = .ok (.iload_n 1, 1) := by decide +kernel
theorem dX12_person_2 : decode cX12_person 2 = .ok (.invokevirtual 148, 3) := by decide +kernel
theorem dX12_person_5 : decode cX12_person 5 = .ok (.istore_n 2, 1) := by decide +kernel
theorem dX12_person_6 : decode cX12_person 6 = .ok (.iload_n 2, 1) := by decide +kernel
theorem dX12_person_7 : decode cX12_person 7 = .ok (.ifCond .eq 9, 3) := by decide +kernel
theorem dX12_person_10 : decode cX12_person 10 = .ok (.aload_n 0, 1) := by decide +kernel
theorem dX12_person_11 : decode cX12_person 11 = .ok (.iload_n 2, 1) := by decide +kernel
theorem dX12_person_12 : decode cX12_person 12 = .ok (.invokevirtual 91, 3) := by decide +kernel
theorem dX12_person_15 : decode cX12_person 15 = .ok (.ireturn, 1) := by decide +kernel
theorem dX12_person_16 : decode cX12_person 16 = .ok (.aload_n 0, 1) := by decide +kernel
theorem dX12_person_17 : decode cX12_person 17 = .ok (.getfield 40, 3) := by decide +kernel
theorem dX12_person_20 : decode cX12_person 20 = .ok (.aload_n 0, 1) := by decide +kernel
theorem dX12_person_21 : decode cX12_person 21 = .ok (.getfield 81, 3) := by decide +kernel
theorem dX12_person_24 : decode cX12_person 24 = .ok (.iload_n 1, 1) := by decide +kernel
theorem dX12_person_25 : decode cX12_person 25 = .ok (.iastore, 1) := by decide +kernel
theorem dX12_person_26 : decode cX12_person 26 = .ok (.aload_n 0, 1) := by decide +kernel
theorem dX12_person_27 : decode cX12_person 27 = .ok (.dup, 1) := by decide +kernel
theorem dX12_person_28 : decode cX12_person 28 = .ok (.getfield 81, 3) := by decide +kernel
theorem dX12_person_31 : decode cX12_person 31 = .ok (.iconst 1, 1) := by decide +kernel
theorem dX12_person_32 : decode cX12_person 32 = .ok (.iadd, 1) := by decide +kernel
theorem dX12_person_33 : decode cX12_person 33 = .ok (.putfield 81, 3) := by decide +kernel
theorem dX12_person_36 : decode cX12_person 36 = .ok (.aload_n 0, 1) := by decide +kernel
theorem dX12_person_37 : decode cX12_person 37 = .ok (.getfield 81, 3) := by decide +kernel
theorem dX12_person_40 : decode cX12_person 40 = .ok (.iconst 1, 1) := by decide +kernel
theorem dX12_person_41 : decode cX12_person 41 = .ok (.isub, 1) := by decide +kernel
theorem dX12_person_42 : decode cX12_person 42 = .ok (.ireturn, 1) := by decide +kernel
set_option maxRecDepth 20000 in
theorem ggX12_where_X12_isPerson : GoodIn wsX12_where wsX12_isPerson := goodIn_r _ [6, 7, 13, 14, 15, 16, 17, 18, 19, 20, 21, 22, 23, 24, 25, 26, 27, 28, 29, 30, 31, 32, 33, 34, 35, 36, 37, 38, 39, 40, 41, 42, 43, 44, 45] (by decide +kernel) (by decide +kernel)
set_option maxRecDepth 20000 in
theorem gX12_where_X12_isPerson : GoodIn wsX12_where (wsV RX12 132 RX12 yX12_isPerson wsX12_isPerson) := goodIn_app (goodIn_of _ (by decide +kernel)) ggX12_where_X12_isPerson
set_option maxRecDepth 20000 in
theorem ggX12_where_X12_no : GoodIn wsX12_where wsX12_no := goodIn_r _ [11, 12, 13, 14, 15, 16, 17, 18, 19, 20, 21, 22, 23, 24, 25, 26, 27, 28, 29, 30, 31, 32, 33, 34, 35, 36, 37, 38, 39, 40, 41, 42, 43, 44, 45] (by decide +kernel) (by decide +kernel)
set_option maxRecDepth 20000 in
theorem gX12_where_X12_no : GoodIn wsX12_where (wsV RX12 91 RX12 yX12_no wsX12_no) := goodIn_app (goodIn_of _ (by decide +kernel)) ggX12_where_X12_no
theorem dX12_where_0 : decode cX12_where 0 = .ok (.aload_n 0, 1) := by decide +kernel
theorem dX12_where_1 : decode cX12_where 1 = .ok (.iload_n 1, 1) := by decide +kernel
theorem dX12_where_2 : decode cX12_where 2 = .ok (.invokevirtual 132, 3) := by decide +kernel
theorem dX12_where_5 : decode cX12_where 5 = .ok (.ifCond .eq 12, 3) := by decide +kernel
theorem dX12_where_8 : decode cX12_where 8 = .ok (.aload_n 0, 1) := by decide +kernel
theorem dX12_where_9 : decode cX12_where 9 = .ok (.getfield 40, 3) := by decide +kernel
theorem dX12_where_12 : decode cX12_where 12 = .ok (.iload_n 1, 1) := by decide +kernel
theorem dX12_where_13 : decode cX12_where 13 = .ok (.iaload, 1) := by decide +kernel
theorem dX12_where_14 : decode cX12_where 14 = .ok (.goto 8, 3) := by decide +kernel
theorem dX12_where_17 : decode cX12_where 17 = .ok (.aload_n 0, 1) := by decide +kernel
theorem dX12_where_18 : decode cX12_where 18 = .ok (.iconst (-1), 1) := by decide +kernel
theorem dX12_where_19 : decode cX12_where 19 = .ok (.invokevirtual 91, 3) := by decide +kernel
theorem dX12_where_22 : decode cX12_where 22 = .ok (.ireturn, 1) := by decide +kernel
set_option maxRecDepth 20000 in
theorem ggX12_go_X12_notGo : GoodIn wsX12_go wsX12_notGo := goodIn_r _ [5, 6, 7, 8, 9, 10, 4, 11, 12, 13, 14, 15, 16, 17, 18, 19, 20, 21, 22, 23, 24, 25, 26, 27, 28, 29, 30, 31, 32, 33, 34, 35, 36, 37, 38, 39, 92, 93, 94, 95, 96, 97, 98, 99, 100, 101, 102, 103, 104, 105, 106, 107, 108, 109, 110, 111, 112, 113, 114, 115, 116, 117, 118, 119, 120, 121, 122, 123, 124] (by decide +kernel) (by decide +kernel)
set_option maxRecDepth 20000 in
theorem gX12_go_X12_notGo : GoodIn wsX12_go (wsV RX12 151 RX12 yX12_notGo wsX12_notGo) := goodIn_app (goodIn_of _ (by decide +kernel)) ggX12_go_X12_notGo
set_option maxRecDepth 20000 in
theorem ggX12_go_X12_no : GoodIn wsX12_go wsX12_no := goodIn_r _ [43, 44, 92, 93, 94, 95, 96, 97, 98, 99, 100, 101, 102, 103, 104, 105, 106, 107, 108, 109, 110, 111, 112, 113, 114, 115, 116, 117, 118, 119, 120, 121, 122, 123, 124] (by decide +kernel) (by decide +kernel)
set_option maxRecDepth 20000 in
theorem gX12_go_X12_no : GoodIn wsX12_go (wsV RX12 91 RX12 yX12_no wsX12_no) := goodIn_app (goodIn_of _ (by decide +kernel)) ggX12_go_X12_no
set_option maxRecDepth 20000 in
theorem ggX12_go_X12_goesTo : GoodIn wsX12_go wsX12_goesTo := goodIn_r _ [48, 6, 20, 21, 22, 23, 4, 24, 25, 26, 27, 28, 29, 30, 31, 32, 33, 34, 35, 36, 37, 38, 39, 49, 50, 51, 52, 7, 53, 54, 55, 56, 57, 58, 59, 60, 61, 62, 63, 64, 65, 66, 12, 67, 68, 69, 70, 71, 72, 73, 74, 75, 76, 77, 78, 79, 80, 81, 82, 83, 84, 85, 86, 87, 88, 89, 90, 91, 92, 93, 94, 95, 96, 97, 98, 99, 100, 101, 102, 103, 104, 105, 106, 107, 108, 109, 110, 111, 112, 113, 114, 115, 116, 117, 118, 119, 120, 121, 122, 123, 124] (by decide +kernel) (by decide +kernel)
set_option maxRecDepth 20000 in
theorem gX12_go_X12_goesTo : GoodIn wsX12_go (wsV RX12 154 RX12 yX12_goesTo wsX12_goesTo) := goodIn_app (goodIn_of _ (by decide +kernel)) ggX12_go_X12_goesTo
theorem dX12_go_0 : decode cX12_go 0 = .ok (.aload_n 0, 1) := by decide +kernel
theorem dX12_go_1 : decode cX12_go 1 = .ok (.iload_n 1, 1) := by decide +kernel
theorem dX12_go_2 : decode cX12_go 2 = .ok (.iload_n 2, 1) := by decide +kernel
theorem dX12_go_3 : decode cX12_go 3 = .ok (.invokevirtual 151, 3) := by decide +kernel
theorem dX12_go_6 : decode cX12_go 6 = .ok (.istore_n 3, 1) := by decide +kernel
theorem dX12_go_7 : decode cX12_go 7 = .ok (.iload_n 3, 1) := by decide +kernel
theorem dX12_go_8 : decode cX12_go 8 = .ok (.ifCond .eq 11, 3) := by decide +kernel
theorem dX12_go_11 : decode cX12_go 11 = .ok (.aload_n 0, 1) := by decide +kernel
theorem dX12_go_12 : decode cX12_go 12 = .ok (.iload_n 3, 1) := by decide +kernel
theorem dX12_go_13 : decode cX12_go 13 = .ok (.invokevirtual 91, 3) := by decide +kernel
theorem dX12_go_16 : decode cX12_go 16 = .ok (.goto 9, 3) := by decide +kernel
theorem dX12_go_19 : decode cX12_go 19 = .ok (.aload_n 0, 1) := by decide +kernel
theorem dX12_go_20 : decode cX12_go 20 = .ok (.iload_n 1, 1) := by decide +kernel
theorem dX12_go_21 : decode cX12_go 21 = .ok (.iload_n 2, 1) := by decide +kernel
theorem dX12_go_22 : decode cX12_go 22 = .ok (.invokevirtual 154, 3) := by decide +kernel
theorem dX12_go_25 : decode cX12_go 25 = .ok (.ireturn, 1) := by decide +kernel
set_option maxRecDepth 20000 in
theorem ggX12_light_X12_isLamp : GoodIn wsX12_light wsX12_isLamp := goodIn_r _ [6, 7, 16, 17, 18, 19, 20, 21, 22, 23, 24, 25, 26, 27, 28, 29, 30, 31, 32, 33, 34, 35, 36, 37, 38, 39, 40, 41, 42, 43, 44, 45, 46, 47, 48] (by decide +kernel) (by decide +kernel)
set_option maxRecDepth 20000 in
theorem gX12_light_X12_isLamp : GoodIn wsX12_light (wsV RX12 157 RX12 yX12_isLamp wsX12_isLamp) := goodIn_app (goodIn_of _ (by decide +kernel)) ggX12_light_X12_isLamp
set_option maxRecDepth 20000 in
theorem ggX12_light_X12_isIn : GoodIn wsX12_light wsX12_isIn := goodIn_r _ [10] (by decide +kernel) (by decide +kernel)
set_option maxRecDepth 20000 in
theorem gX12_light_X12_isIn : GoodIn wsX12_light (va_wsS RX12 102 yX12_isIn wsX12_isIn) := goodIn_app (goodIn_of _ (by decide +kernel)) ggX12_light_X12_isIn
set_option maxRecDepth 20000 in
theorem ggX12_light_X12_no : GoodIn wsX12_light wsX12_no := goodIn_r _ [14, 15, 16, 17, 18, 19, 20, 21, 22, 23, 24, 25, 26, 27, 28, 29, 30, 31, 32, 33, 34, 35, 36, 37, 38, 39, 40, 41, 42, 43, 44, 45, 46, 47, 48] (by decide +kernel) (by decide +kernel)
set_option maxRecDepth 20000 in
theorem gX12_light_X12_no : GoodIn wsX12_light (wsV RX12 91 RX12 yX12_no wsX12_no) := goodIn_app (goodIn_of _ (by decide +kernel)) ggX12_light_X12_no
theorem dX12_light_0 : decode cX12_light 0 = .ok (.aload_n 0, 1) := by decide +kernel
theorem dX12_light_1 : decode cX12_light 1 = .ok (.iload_n 1, 1) := by decide +kernel
theorem dX12_light_2 : decode cX12_light 2 = .ok (.invokevirtual 157, 3) := by decide +kernel
theorem dX12_light_5 : decode cX12_light 5 = .ok (.ifCond .ne 7, 3) := by decide +kernel
theorem dX12_light_8 : decode cX12_light 8 = .ok (.iconst (-1), 1) := by decide +kernel
theorem dX12_light_9 : decode cX12_light 9 = .ok (.goto 18, 3) := by decide +kernel
theorem dX12_light_12 : decode cX12_light 12 = .ok (.iload_n 2, 1) := by decide +kernel
theorem dX12_light_13 : decode cX12_light 13 = .ok (.iconst 0, 1) := by decide +kernel
theorem dX12_light_14 : decode cX12_light 14 = .ok (.iconst 1, 1) := by decide +kernel
theorem dX12_light_15 : decode cX12_light 15 = .ok (.invokestatic 102, 3) := by decide +kernel
theorem dX12_light_18 : decode cX12_light 18 = .ok (.ifCond .ne 8, 3) := by decide +kernel
theorem dX12_light_21 : decode cX12_light 21 = .ok (.bipush (-2), 2) := by decide +kernel
theorem dX12_light_23 : decode cX12_light 23 = .ok (.goto 4, 3) := by decide +kernel
theorem dX12_light_26 : decode cX12_light 26 = .ok (.iconst 0, 1) := by decide +kernel
theorem dX12_light_27 : decode cX12_light 27 = .ok (.istore_n 3, 1) := by decide +kernel
theorem dX12_light_28 : decode cX12_light 28 = .ok (.iload_n 3, 1) := by decide +kernel
theorem dX12_light_29 : decode cX12_light 29 = .ok (.ifCond .eq 9, 3) := by decide +kernel
theorem dX12_light_32 : decode cX12_light 32 = .ok (.aload_n 0, 1) := by decide +kernel
theorem dX12_light_33 : decode cX12_light 33 = .ok (.iload_n 3, 1) := by decide +kernel
theorem dX12_light_34 : decode cX12_light 34 = .ok (.invokevirtual 91, 3) := by decide +kernel
theorem dX12_light_37 : decode cX12_light 37 = .ok (.ireturn, 1) := by decide +kernel
theorem dX12_light_38 : decode cX12_light 38 = .ok (.aload_n 0, 1) := by decide +kernel
theorem dX12_light_39 : decode cX12_light 39 = .ok (.getfield 25, 3) := by decide +kernel
theorem dX12_light_42 : decode cX12_light 42 = .ok (.iload_n 1, 1) := by decide +kernel
theorem dX12_light_43 : decode cX12_light 43 = .ok (.iaload, 1) := by decide +kernel
theorem dX12_light_44 : decode cX12_light 44 = .ok (.istore 4, 2) := by decide +kernel
theorem dX12_light_46 : decode cX12_light 46 = .ok (.aload_n 0, 1) := by decide +kernel
theorem dX12_light_47 : decode cX12_light 47 = .ok (.getfield 25, 3) := by decide +kernel
theorem dX12_light_50 : decode cX12_light 50 = .ok (.iload_n 1, 1) := by decide +kernel
theorem dX12_light_51 : decode cX12_light 51 = .ok (.iload_n 2, 1) := by decide +kernel
theorem dX12_light_52 : decode cX12_light 52 = .ok (.iastore, 1) := by decide +kernel
theorem dX12_light_53 : decode cX12_light 53 = .ok (.iload 4, 2) := by decide +kernel
theorem dX12_light_55 : decode cX12_light 55 = .ok (.ireturn, 1) := by decide +kernel
set_option maxRecDepth 20000 in
theorem ggX12_steps_X12_isCell : GoodIn wsX12_steps wsX12_isCell := goodIn_r _ [4] (by decide +kernel) (by decide +kernel)
set_option maxRecDepth 20000 in
theorem gX12_steps_X12_isCell : GoodIn wsX12_steps (va_wsS RX12 123 yX12_isCell wsX12_isCell) := goodIn_app (goodIn_of _ (by decide +kernel)) ggX12_steps_X12_isCell
set_option maxRecDepth 20000 in
theorem ggX12_steps_X12_stepsOf : GoodIn wsX12_steps wsX12_stepsOf := goodIn_r _ [8, 9, 10, 11, 12, 3, 13, 14, 15, 16, 17, 18, 19, 20, 21, 22, 23, 24, 25, 26, 27, 28, 34, 35, 36, 37, 38, 39, 40, 41, 42, 43, 44, 45, 46, 47, 48, 49, 50, 51, 52, 53, 54, 55, 56, 57, 58, 59, 60, 61, 62, 63, 64, 65, 66] (by decide +kernel) (by decide +kernel)
set_option maxRecDepth 20000 in
theorem gX12_steps_X12_stepsOf : GoodIn wsX12_steps (wsV RX12 135 RX12 yX12_stepsOf wsX12_stepsOf) := goodIn_app (goodIn_of _ (by decide +kernel)) ggX12_steps_X12_stepsOf
set_option maxRecDepth 20000 in
theorem ggX12_steps_X12_no : GoodIn wsX12_steps wsX12_no := goodIn_r _ [32, 33, 34, 35, 36, 37, 38, 39, 40, 41, 42, 43, 44, 45, 46, 47, 48, 49, 50, 51, 52, 53, 54, 55, 56, 57, 58, 59, 60, 61, 62, 63, 64, 65, 66] (by decide +kernel) (by decide +kernel)
set_option maxRecDepth 20000 in
theorem gX12_steps_X12_no : GoodIn wsX12_steps (wsV RX12 91 RX12 yX12_no wsX12_no) := goodIn_app (goodIn_of _ (by decide +kernel)) ggX12_steps_X12_no
theorem dX12_steps_0 : decode cX12_steps 0 = .ok (.iload_n 1, 1) := by decide +kernel
theorem dX12_steps_1 : decode cX12_steps 1 = .ok (.invokestatic 123, 3) := by decide +kernel
theorem dX12_steps_4 : decode cX12_steps 4 = .ok (.ifCond .eq 19, 3) := by decide +kernel
theorem dX12_steps_7 : decode cX12_steps 7 = .ok (.iload_n 2, 1) := by decide +kernel
theorem dX12_steps_8 : decode cX12_steps 8 = .ok (.invokestatic 123, 3) := by decide +kernel
theorem dX12_steps_11 : decode cX12_steps 11 = .ok (.ifCond .eq 12, 3) := by decide +kernel
theorem dX12_steps_14 : decode cX12_steps 14 = .ok (.aload_n 0, 1) := by decide +kernel
theorem dX12_steps_15 : decode cX12_steps 15 = .ok (.iload_n 1, 1) := by decide +kernel
theorem dX12_steps_16 : decode cX12_steps 16 = .ok (.iload_n 2, 1) := by decide +kernel
theorem dX12_steps_17 : decode cX12_steps 17 = .ok (.invokevirtual 135, 3) := by decide +kernel
theorem dX12_steps_20 : decode cX12_steps 20 = .ok (.goto 8, 3) := by decide +kernel
theorem dX12_steps_23 : decode cX12_steps 23 = .ok (.aload_n 0, 1) := by decide +kernel
theorem dX12_steps_24 : decode cX12_steps 24 = .ok (.iconst (-1), 1) := by decide +kernel
theorem dX12_steps_25 : decode cX12_steps 25 = .ok (.invokevirtual 91, 3) := by decide +kernel
theorem dX12_steps_28 : decode cX12_steps 28 = .ok (.ireturn, 1) := by decide +kernel
set_option maxRecDepth 20000 in
theorem ggX12_lights_X12_isLamp : GoodIn wsX12_lights wsX12_isLamp := goodIn_r _ [6, 7, 53, 54, 55, 56, 57, 58, 59, 60, 61, 62, 63, 64, 65, 66, 67, 68, 69, 70, 71, 72, 73, 74, 75, 76, 77, 78, 79, 80, 81, 82, 83, 84, 85] (by decide +kernel) (by decide +kernel)
set_option maxRecDepth 20000 in
theorem gX12_lights_X12_isLamp : GoodIn wsX12_lights (wsV RX12 157 RX12 yX12_isLamp wsX12_isLamp) := goodIn_app (goodIn_of _ (by decide +kernel)) ggX12_lights_X12_isLamp
set_option maxRecDepth 20000 in
theorem ggX12_lights_X12_isCell : GoodIn wsX12_lights wsX12_isCell := goodIn_r _ [10] (by decide +kernel) (by decide +kernel)
set_option maxRecDepth 20000 in
theorem gX12_lights_X12_isCell : GoodIn wsX12_lights (va_wsS RX12 123 yX12_isCell wsX12_isCell) := goodIn_app (goodIn_of _ (by decide +kernel)) ggX12_lights_X12_isCell
set_option maxRecDepth 20000 in
theorem ggX12_lights_X12_no : GoodIn wsX12_lights wsX12_no := goodIn_r _ [14, 15, 53, 54, 55, 56, 57, 58, 59, 60, 61, 62, 63, 64, 65, 66, 67, 68, 69, 70, 71, 72, 73, 74, 75, 76, 77, 78, 79, 80, 81, 82, 83, 84, 85] (by decide +kernel) (by decide +kernel)
set_option maxRecDepth 20000 in
theorem gX12_lights_X12_no : GoodIn wsX12_lights (wsV RX12 91 RX12 yX12_no wsX12_no) := goodIn_app (goodIn_of _ (by decide +kernel)) ggX12_lights_X12_no
set_option maxRecDepth 20000 in
theorem ggX12_lights_X12_findLit : GoodIn wsX12_lights wsX12_findLit := goodIn_r _ [19, 1, 7, 20, 21, 22, 23, 24, 5, 25, 26, 27, 28, 29, 30, 31, 32, 33, 34, 35, 36, 37, 38, 39, 40, 41, 42, 43, 44, 45, 46, 47, 48, 49, 50, 51, 52, 53, 54, 55, 56, 57, 58, 59, 60, 61, 62, 63, 64, 65, 66, 67, 68, 69, 70, 71, 72, 73, 74, 75, 76, 77, 78, 79, 80, 81, 82, 83, 84, 85] (by decide +kernel) (by decide +kernel)
set_option maxRecDepth 20000 in
theorem gX12_lights_X12_findLit : GoodIn wsX12_lights (wsV RX12 220 RX12 yX12_findLit wsX12_findLit) := goodIn_app (goodIn_of _ (by decide +kernel)) ggX12_lights_X12_findLit
theorem dX12_lights_0 : decode cX12_lights 0 = .ok (.aload_n 0, 1) := by decide +kernel
theorem dX12_lights_1 : decode cX12_lights 1 = .ok (.iload_n 1, 1) := by decide +kernel
theorem dX12_lights_2 : decode cX12_lights 2 = .ok (.invokevirtual 157, 3) := by decide +kernel
theorem dX12_lights_5 : decode cX12_lights 5 = .ok (.ifCond .eq 10, 3) := by decide +kernel
theorem dX12_lights_8 : decode cX12_lights 8 = .ok (.iload_n 2, 1) := by decide +kernel
theorem dX12_lights_9 : decode cX12_lights 9 = .ok (.invokestatic 123, 3) := by decide +kernel
theorem dX12_lights_12 : decode cX12_lights 12 = .ok (.ifCond .ne 9, 3) := by decide +kernel
theorem dX12_lights_15 : decode cX12_lights 15 = .ok (.aload_n 0, 1) := by decide +kernel
theorem dX12_lights_16 : decode cX12_lights 16 = .ok (.iconst (-1), 1) := by decide +kernel
theorem dX12_lights_17 : decode cX12_lights 17 = .ok (.invokevirtual 91, 3) := by decide +kernel
theorem dX12_lights_20 : decode cX12_lights 20 = .ok (.ireturn, 1) := by decide +kernel
theorem dX12_lights_21 : decode cX12_lights 21 = .ok (.aload_n 0, 1) := by decide +kernel
theorem dX12_lights_22 : decode cX12_lights 22 = .ok (.invokevirtual 220, 3) := by decide +kernel
theorem dX12_lights_25 : decode cX12_lights 25 = .ok (.aload_n 0, 1) := by decide +kernel
theorem dX12_lights_26 : decode cX12_lights 26 = .ok (.getfield 67, 3) := by decide +kernel
theorem dX12_lights_29 : decode cX12_lights 29 = .ok (.iload_n 2, 1) := by decide +kernel
theorem dX12_lights_30 : decode cX12_lights 30 = .ok (.iaload, 1) := by decide +kernel
theorem dX12_lights_31 : decode cX12_lights 31 = .ok (.iload_n 1, 1) := by decide +kernel
theorem dX12_lights_32 : decode cX12_lights 32 = .ok (.ishr, 1) := by decide +kernel
theorem dX12_lights_33 : decode cX12_lights 33 = .ok (.iconst 1, 1) := by decide +kernel
theorem dX12_lights_34 : decode cX12_lights 34 = .ok (.iand, 1) := by decide +kernel
theorem dX12_lights_35 : decode cX12_lights 35 = .ok (.ireturn, 1) := by decide +kernel
set_option maxRecDepth 20000 in
theorem ggX12_shown_X12_isLamp : GoodIn wsX12_shown wsX12_isLamp := goodIn_r _ [10, 11, 20, 21, 22, 23, 24, 25, 26, 27, 28, 29, 30, 31, 32, 33, 34, 35, 36, 37, 38, 39, 40, 41, 42, 43, 44, 45, 46, 47, 48, 49, 50, 51, 52] (by decide +kernel) (by decide +kernel)
set_option maxRecDepth 20000 in
theorem gX12_shown_X12_isLamp : GoodIn wsX12_shown (wsV RX12 157 RX12 yX12_isLamp wsX12_isLamp) := goodIn_app (goodIn_of _ (by decide +kernel)) ggX12_shown_X12_isLamp
set_option maxRecDepth 20000 in
theorem ggX12_shown_X12_isIn : GoodIn wsX12_shown wsX12_isIn := goodIn_r _ [14] (by decide +kernel) (by decide +kernel)
set_option maxRecDepth 20000 in
theorem gX12_shown_X12_isIn : GoodIn wsX12_shown (va_wsS RX12 102 yX12_isIn wsX12_isIn) := goodIn_app (goodIn_of _ (by decide +kernel)) ggX12_shown_X12_isIn
set_option maxRecDepth 20000 in
theorem ggX12_shown_X12_no : GoodIn wsX12_shown wsX12_no := goodIn_r _ [18, 19, 20, 21, 22, 23, 24, 25, 26, 27, 28, 29, 30, 31, 32, 33, 34, 35, 36, 37, 38, 39, 40, 41, 42, 43, 44, 45, 46, 47, 48, 49, 50, 51, 52] (by decide +kernel) (by decide +kernel)
set_option maxRecDepth 20000 in
theorem gX12_shown_X12_no : GoodIn wsX12_shown (wsV RX12 91 RX12 yX12_no wsX12_no) := goodIn_app (goodIn_of _ (by decide +kernel)) ggX12_shown_X12_no
theorem dX12_shown_0 : decode cX12_shown 0 = .ok (.aload_n 0, 1) := by decide +kernel
theorem dX12_shown_1 : decode cX12_shown 1 = .ok (.iload_n 1, 1) := by decide +kernel
theorem dX12_shown_2 : decode cX12_shown 2 = .ok (.invokevirtual 157, 3) := by decide +kernel
theorem dX12_shown_5 : decode cX12_shown 5 = .ok (.ifCond .eq 17, 3) := by decide +kernel
theorem dX12_shown_8 : decode cX12_shown 8 = .ok (.iload_n 2, 1) := by decide +kernel
theorem dX12_shown_9 : decode cX12_shown 9 = .ok (.ifCond .lt 13, 3) := by decide +kernel
theorem dX12_shown_12 : decode cX12_shown 12 = .ok (.iload_n 2, 1) := by decide +kernel
theorem dX12_shown_13 : decode cX12_shown 13 = .ok (.aload_n 0, 1) := by decide +kernel
theorem dX12_shown_14 : decode cX12_shown 14 = .ok (.getfield 28, 3) := by decide +kernel
theorem dX12_shown_17 : decode cX12_shown 17 = .ok (.iload_n 1, 1) := by decide +kernel
theorem dX12_shown_18 : decode cX12_shown 18 = .ok (.iaload, 1) := by decide +kernel
theorem dX12_shown_19 : decode cX12_shown 19 = .ok (.if_icmp .lt 7, 3) := by decide +kernel
theorem dX12_shown_22 : decode cX12_shown 22 = .ok (.iconst (-1), 1) := by decide +kernel
theorem dX12_shown_23 : decode cX12_shown 23 = .ok (.goto 18, 3) := by decide +kernel
theorem dX12_shown_26 : decode cX12_shown 26 = .ok (.iload_n 3, 1) := by decide +kernel
theorem dX12_shown_27 : decode cX12_shown 27 = .ok (.iconst 0, 1) := by decide +kernel
theorem dX12_shown_28 : decode cX12_shown 28 = .ok (.iconst 2, 1) := by decide +kernel
theorem dX12_shown_29 : decode cX12_shown 29 = .ok (.invokestatic 102, 3) := by decide +kernel
theorem dX12_shown_32 : decode cX12_shown 32 = .ok (.ifCond .ne 8, 3) := by decide +kernel
theorem dX12_shown_35 : decode cX12_shown 35 = .ok (.bipush (-2), 2) := by decide +kernel
theorem dX12_shown_37 : decode cX12_shown 37 = .ok (.goto 4, 3) := by decide +kernel
theorem dX12_shown_40 : decode cX12_shown 40 = .ok (.iconst 0, 1) := by decide +kernel
theorem dX12_shown_41 : decode cX12_shown 41 = .ok (.istore 4, 2) := by decide +kernel
theorem dX12_shown_43 : decode cX12_shown 43 = .ok (.iload 4, 2) := by decide +kernel
theorem dX12_shown_45 : decode cX12_shown 45 = .ok (.ifCond .eq 10, 3) := by decide +kernel
theorem dX12_shown_48 : decode cX12_shown 48 = .ok (.aload_n 0, 1) := by decide +kernel
theorem dX12_shown_49 : decode cX12_shown 49 = .ok (.iload 4, 2) := by decide +kernel
theorem dX12_shown_51 : decode cX12_shown 51 = .ok (.invokevirtual 91, 3) := by decide +kernel
theorem dX12_shown_54 : decode cX12_shown 54 = .ok (.ireturn, 1) := by decide +kernel
theorem dX12_shown_55 : decode cX12_shown 55 = .ok (.bipush 9, 2) := by decide +kernel
theorem dX12_shown_57 : decode cX12_shown 57 = .ok (.iload_n 1, 1) := by decide +kernel
theorem dX12_shown_58 : decode cX12_shown 58 = .ok (.imul, 1) := by decide +kernel
theorem dX12_shown_59 : decode cX12_shown 59 = .ok (.aload_n 0, 1) := by decide +kernel
theorem dX12_shown_60 : decode cX12_shown 60 = .ok (.getfield 16, 3) := by decide +kernel
theorem dX12_shown_63 : decode cX12_shown 63 = .ok (.iload_n 1, 1) := by decide +kernel
theorem dX12_shown_64 : decode cX12_shown 64 = .ok (.iaload, 1) := by decide +kernel
theorem dX12_shown_65 : decode cX12_shown 65 = .ok (.bipush 6, 2) := by decide +kernel
theorem dX12_shown_67 : decode cX12_shown 67 = .ok (.if_icmp .ne 7, 3) := by decide +kernel
theorem dX12_shown_70 : decode cX12_shown 70 = .ok (.iload_n 2, 1) := by decide +kernel
theorem dX12_shown_71 : decode cX12_shown 71 = .ok (.goto 13, 3) := by decide +kernel
theorem dX12_shown_74 : decode cX12_shown 74 = .ok (.aload_n 0, 1) := by decide +kernel
theorem dX12_shown_75 : decode cX12_shown 75 = .ok (.getfield 28, 3) := by decide +kernel
theorem dX12_shown_78 : decode cX12_shown 78 = .ok (.iload_n 1, 1) := by decide +kernel
theorem dX12_shown_79 : decode cX12_shown 79 = .ok (.iaload, 1) := by decide +kernel
theorem dX12_shown_80 : decode cX12_shown 80 = .ok (.iconst 1, 1) := by decide +kernel
theorem dX12_shown_81 : decode cX12_shown 81 = .ok (.isub, 1) := by decide +kernel
theorem dX12_shown_82 : decode cX12_shown 82 = .ok (.iload_n 2, 1) := by decide +kernel
theorem dX12_shown_83 : decode cX12_shown 83 = .ok (.isub, 1) := by decide +kernel
theorem dX12_shown_84 : decode cX12_shown 84 = .ok (.iadd, 1) := by decide +kernel
theorem dX12_shown_85 : decode cX12_shown 85 = .ok (.istore 5, 2) := by decide +kernel
theorem dX12_shown_87 : decode cX12_shown 87 = .ok (.iload_n 3, 1) := by decide +kernel
theorem dX12_shown_88 : decode cX12_shown 88 = .ok (.ifCond .ne 13, 3) := by decide +kernel
theorem dX12_shown_91 : decode cX12_shown 91 = .ok (.aload_n 0, 1) := by decide +kernel
theorem dX12_shown_92 : decode cX12_shown 92 = .ok (.getfield 31, 3) := by decide +kernel
theorem dX12_shown_95 : decode cX12_shown 95 = .ok (.iload 5, 2) := by decide +kernel
theorem dX12_shown_97 : decode cX12_shown 97 = .ok (.iaload, 1) := by decide +kernel
theorem dX12_shown_98 : decode cX12_shown 98 = .ok (.goto 25, 3) := by decide +kernel
theorem dX12_shown_101 : decode cX12_shown 101 = .ok (.iload_n 3, 1) := by decide +kernel
theorem dX12_shown_102 : decode cX12_shown 102 = .ok (.iconst 1, 1) := by decide +kernel
theorem dX12_shown_103 : decode cX12_shown 103 = .ok (.if_icmp .ne 13, 3) := by decide +kernel
theorem dX12_shown_106 : decode cX12_shown 106 = .ok (.aload_n 0, 1) := by decide +kernel
theorem dX12_shown_107 : decode cX12_shown 107 = .ok (.getfield 34, 3) := by decide +kernel
theorem dX12_shown_110 : decode cX12_shown 110 = .ok (.iload 5, 2) := by decide +kernel
theorem dX12_shown_112 : decode cX12_shown 112 = .ok (.iaload, 1) := by decide +kernel
theorem dX12_shown_113 : decode cX12_shown 113 = .ok (.goto 10, 3) := by decide +kernel
theorem dX12_shown_116 : decode cX12_shown 116 = .ok (.aload_n 0, 1) := by decide +kernel
theorem dX12_shown_117 : decode cX12_shown 117 = .ok (.getfield 37, 3) := by decide +kernel
theorem dX12_shown_120 : decode cX12_shown 120 = .ok (.iload 5, 2) := by decide +kernel
theorem dX12_shown_122 : decode cX12_shown 122 = .ok (.iaload, 1) := by decide +kernel
theorem dX12_shown_123 : decode cX12_shown 123 = .ok (.ireturn, 1) := by decide +kernel
set_option maxRecDepth 20000 in
theorem ggX12_seen_X12_isLamp : GoodIn wsX12_seen wsX12_isLamp := goodIn_r _ [7, 8, 14, 15, 16, 17, 18, 19, 20, 21, 22, 23, 24, 25, 26, 27, 28, 29, 30, 31, 32, 33, 34, 35, 36, 37, 38, 39, 40, 41, 42, 43, 44, 45, 46] (by decide +kernel) (by decide +kernel)
set_option maxRecDepth 20000 in
theorem gX12_seen_X12_isLamp : GoodIn wsX12_seen (wsV RX12 157 RX12 yX12_isLamp wsX12_isLamp) := goodIn_app (goodIn_of _ (by decide +kernel)) ggX12_seen_X12_isLamp
set_option maxRecDepth 20000 in
theorem ggX12_seen_X12_no : GoodIn wsX12_seen wsX12_no := goodIn_r _ [12, 13, 14, 15, 16, 17, 18, 19, 20, 21, 22, 23, 24, 25, 26, 27, 28, 29, 30, 31, 32, 33, 34, 35, 36, 37, 38, 39, 40, 41, 42, 43, 44, 45, 46] (by decide +kernel) (by decide +kernel)
set_option maxRecDepth 20000 in
theorem gX12_seen_X12_no : GoodIn wsX12_seen (wsV RX12 91 RX12 yX12_no wsX12_no) := goodIn_app (goodIn_of _ (by decide +kernel)) ggX12_seen_X12_no
theorem dX12_seen_0 : decode cX12_seen 0 = .ok (.aload_n 0, 1) := by decide +kernel
theorem dX12_seen_1 : decode cX12_seen 1 = .ok (.iload_n 1, 1) := by decide +kernel
theorem dX12_seen_2 : decode cX12_seen 2 = .ok (.invokevirtual 157, 3) := by decide +kernel
theorem dX12_seen_5 : decode cX12_seen 5 = .ok (.ifCond .ne 9, 3) := by decide +kernel
theorem dX12_seen_8 : decode cX12_seen 8 = .ok (.aload_n 0, 1) := by decide +kernel
theorem dX12_seen_9 : decode cX12_seen 9 = .ok (.iconst (-1), 1) := by decide +kernel
theorem dX12_seen_10 : decode cX12_seen 10 = .ok (.invokevirtual 91, 3) := by decide +kernel
theorem dX12_seen_13 : decode cX12_seen 13 = .ok (.ireturn, 1) := by decide +kernel
theorem dX12_seen_14 : decode cX12_seen 14 = .ok (.iconst 0, 1) := by decide +kernel
theorem dX12_seen_15 : decode cX12_seen 15 = .ok (.istore_n 2, 1) := by decide +kernel
theorem dX12_seen_16 : decode cX12_seen 16 = .ok (.bipush 9, 2) := by decide +kernel
theorem dX12_seen_18 : decode cX12_seen 18 = .ok (.iload_n 1, 1) := by decide +kernel
theorem dX12_seen_19 : decode cX12_seen 19 = .ok (.imul, 1) := by decide +kernel
theorem dX12_seen_20 : decode cX12_seen 20 = .ok (.istore_n 3, 1) := by decide +kernel
theorem dX12_seen_21 : decode cX12_seen 21 = .ok (.iload_n 3, 1) := by decide +kernel
theorem dX12_seen_22 : decode cX12_seen 22 = .ok (.bipush 9, 2) := by decide +kernel
theorem dX12_seen_24 : decode cX12_seen 24 = .ok (.iload_n 1, 1) := by decide +kernel
theorem dX12_seen_25 : decode cX12_seen 25 = .ok (.imul, 1) := by decide +kernel
theorem dX12_seen_26 : decode cX12_seen 26 = .ok (.aload_n 0, 1) := by decide +kernel
theorem dX12_seen_27 : decode cX12_seen 27 = .ok (.getfield 28, 3) := by decide +kernel
theorem dX12_seen_30 : decode cX12_seen 30 = .ok (.iload_n 1, 1) := by decide +kernel
theorem dX12_seen_31 : decode cX12_seen 31 = .ok (.iaload, 1) := by decide +kernel
theorem dX12_seen_32 : decode cX12_seen 32 = .ok (.iadd, 1) := by decide +kernel
theorem dX12_seen_33 : decode cX12_seen 33 = .ok (.if_icmp .ge 35, 3) := by decide +kernel
theorem dX12_seen_36 : decode cX12_seen 36 = .ok (.iload_n 2, 1) := by decide +kernel
theorem dX12_seen_37 : decode cX12_seen 37 = .ok (.aload_n 0, 1) := by decide +kernel
theorem dX12_seen_38 : decode cX12_seen 38 = .ok (.getfield 31, 3) := by decide +kernel
theorem dX12_seen_41 : decode cX12_seen 41 = .ok (.iload_n 3, 1) := by decide +kernel
theorem dX12_seen_42 : decode cX12_seen 42 = .ok (.iaload, 1) := by decide +kernel
theorem dX12_seen_43 : decode cX12_seen 43 = .ok (.bipush 9, 2) := by decide +kernel
theorem dX12_seen_45 : decode cX12_seen 45 = .ok (.if_icmp .ne 7, 3) := by decide +kernel
theorem dX12_seen_48 : decode cX12_seen 48 = .ok (.iconst 0, 1) := by decide +kernel
theorem dX12_seen_49 : decode cX12_seen 49 = .ok (.goto 11, 3) := by decide +kernel
theorem dX12_seen_52 : decode cX12_seen 52 = .ok (.iconst 1, 1) := by decide +kernel
theorem dX12_seen_53 : decode cX12_seen 53 = .ok (.aload_n 0, 1) := by decide +kernel
theorem dX12_seen_54 : decode cX12_seen 54 = .ok (.getfield 31, 3) := by decide +kernel
theorem dX12_seen_57 : decode cX12_seen 57 = .ok (.iload_n 3, 1) := by decide +kernel
theorem dX12_seen_58 : decode cX12_seen 58 = .ok (.iaload, 1) := by decide +kernel
theorem dX12_seen_59 : decode cX12_seen 59 = .ok (.ishl, 1) := by decide +kernel
theorem dX12_seen_60 : decode cX12_seen 60 = .ok (.ior, 1) := by decide +kernel
theorem dX12_seen_61 : decode cX12_seen 61 = .ok (.istore_n 2, 1) := by decide +kernel
theorem dX12_seen_62 : decode cX12_seen 62 = .ok (.iinc 3 1, 3) := by decide +kernel
theorem dX12_seen_65 : decode cX12_seen 65 = .ok (.goto (-44), 3) := by decide +kernel
theorem dX12_seen_68 : decode cX12_seen 68 = .ok (.iload_n 2, 1) := by decide +kernel
theorem dX12_seen_69 : decode cX12_seen 69 = .ok (.ireturn, 1) := by decide +kernel
theorem dX12_sceneAt_0 : decode cX12_sceneAt 0 = .ok (.iconst 0, 1) := by decide +kernel
theorem dX12_sceneAt_1 : decode cX12_sceneAt 1 = .ok (.istore_n 3, 1) := by decide +kernel
theorem dX12_sceneAt_2 : decode cX12_sceneAt 2 = .ok (.iload_n 3, 1) := by decide +kernel
theorem dX12_sceneAt_3 : decode cX12_sceneAt 3 = .ok (.aload_n 0, 1) := by decide +kernel
theorem dX12_sceneAt_4 : decode cX12_sceneAt 4 = .ok (.getfield 28, 3) := by decide +kernel
theorem dX12_sceneAt_7 : decode cX12_sceneAt 7 = .ok (.iload_n 1, 1) := by decide +kernel
theorem dX12_sceneAt_8 : decode cX12_sceneAt 8 = .ok (.iaload, 1) := by decide +kernel
theorem dX12_sceneAt_9 : decode cX12_sceneAt 9 = .ok (.if_icmp .ge 26, 3) := by decide +kernel
theorem dX12_sceneAt_12 : decode cX12_sceneAt 12 = .ok (.aload_n 0, 1) := by decide +kernel
theorem dX12_sceneAt_13 : decode cX12_sceneAt 13 = .ok (.getfield 37, 3) := by decide +kernel
theorem dX12_sceneAt_16 : decode cX12_sceneAt 16 = .ok (.bipush 9, 2) := by decide +kernel
theorem dX12_sceneAt_18 : decode cX12_sceneAt 18 = .ok (.iload_n 1, 1) := by decide +kernel
theorem dX12_sceneAt_19 : decode cX12_sceneAt 19 = .ok (.imul, 1) := by decide +kernel
theorem dX12_sceneAt_20 : decode cX12_sceneAt 20 = .ok (.iload_n 3, 1) := by decide +kernel
theorem dX12_sceneAt_21 : decode cX12_sceneAt 21 = .ok (.iadd, 1) := by decide +kernel
theorem dX12_sceneAt_22 : decode cX12_sceneAt 22 = .ok (.iaload, 1) := by decide +kernel
theorem dX12_sceneAt_23 : decode cX12_sceneAt 23 = .ok (.iload_n 2, 1) := by decide +kernel
theorem dX12_sceneAt_24 : decode cX12_sceneAt 24 = .ok (.if_icmp .ne 5, 3) := by decide +kernel
theorem dX12_sceneAt_27 : decode cX12_sceneAt 27 = .ok (.iload_n 3, 1) := by decide +kernel
theorem dX12_sceneAt_28 : decode cX12_sceneAt 28 = .ok (.ireturn, 1) := by decide +kernel
theorem dX12_sceneAt_29 : decode cX12_sceneAt 29 = .ok (.iinc 3 1, 3) := by decide +kernel
theorem dX12_sceneAt_32 : decode cX12_sceneAt 32 = .ok (.goto (-30), 3) := by decide +kernel
theorem dX12_sceneAt_35 : decode cX12_sceneAt 35 = .ok (.bipush (-9), 2) := by decide +kernel
theorem dX12_sceneAt_37 : decode cX12_sceneAt 37 = .ok (.ireturn, 1) := by decide +kernel
set_option maxRecDepth 20000 in
theorem ggX12_by_X12_isPerson : GoodIn wsX12_by wsX12_isPerson := goodIn_r _ [7, 8, 23, 24, 25, 26, 27, 28, 29, 30, 31, 32, 33, 34, 35, 36, 37, 38, 39, 40, 41, 42, 43, 44, 45, 46, 47, 48, 49, 50, 51, 52, 53, 54, 55] (by decide +kernel) (by decide +kernel)
set_option maxRecDepth 20000 in
theorem gX12_by_X12_isPerson : GoodIn wsX12_by (wsV RX12 132 RX12 yX12_isPerson wsX12_isPerson) := goodIn_app (goodIn_of _ (by decide +kernel)) ggX12_by_X12_isPerson
set_option maxRecDepth 20000 in
theorem ggX12_by_X12_bound : GoodIn wsX12_by wsX12_bound := goodIn_r _ [11] (by decide +kernel) (by decide +kernel)
set_option maxRecDepth 20000 in
theorem gX12_by_X12_bound : GoodIn wsX12_by (va_wsS RX12 84 yX12_bound wsX12_bound) := goodIn_app (goodIn_of _ (by decide +kernel)) ggX12_by_X12_bound
set_option maxRecDepth 20000 in
theorem ggX12_by_X12_no : GoodIn wsX12_by wsX12_no := goodIn_r _ [15, 16, 23, 24, 25, 26, 27, 28, 29, 30, 31, 32, 33, 34, 35, 36, 37, 38, 39, 40, 41, 42, 43, 44, 45, 46, 47, 48, 49, 50, 51, 52, 53, 54, 55] (by decide +kernel) (by decide +kernel)
set_option maxRecDepth 20000 in
theorem gX12_by_X12_no : GoodIn wsX12_by (wsV RX12 91 RX12 yX12_no wsX12_no) := goodIn_app (goodIn_of _ (by decide +kernel)) ggX12_by_X12_no
set_option maxRecDepth 20000 in
theorem ggX12_by_X12_sceneAt : GoodIn wsX12_by wsX12_sceneAt := goodIn_r _ [20, 21, 22, 23, 24, 25, 26, 27, 28, 29, 30, 31, 32, 33, 34, 35, 36, 37, 38, 39, 40, 41, 42, 43, 44, 45, 46, 47, 48, 49, 50, 51, 52, 53, 54, 55] (by decide +kernel) (by decide +kernel)
set_option maxRecDepth 20000 in
theorem gX12_by_X12_sceneAt : GoodIn wsX12_by (wsV RX12 236 RX12 yX12_sceneAt wsX12_sceneAt) := goodIn_app (goodIn_of _ (by decide +kernel)) ggX12_by_X12_sceneAt
theorem dX12_by_0 : decode cX12_by 0 = .ok (.aload_n 0, 1) := by decide +kernel
theorem dX12_by_1 : decode cX12_by 1 = .ok (.iload_n 1, 1) := by decide +kernel
theorem dX12_by_2 : decode cX12_by 2 = .ok (.invokevirtual 132, 3) := by decide +kernel
theorem dX12_by_5 : decode cX12_by 5 = .ok (.ifCond .ne 7, 3) := by decide +kernel
theorem dX12_by_8 : decode cX12_by 8 = .ok (.iconst (-1), 1) := by decide +kernel
theorem dX12_by_9 : decode cX12_by 9 = .ok (.goto 11, 3) := by decide +kernel
theorem dX12_by_12 : decode cX12_by 12 = .ok (.iload_n 2, 1) := by decide +kernel
theorem dX12_by_13 : decode cX12_by 13 = .ok (.iconst 0, 1) := by decide +kernel
theorem dX12_by_14 : decode cX12_by 14 = .ok (.sipush 9999, 3) := by decide +kernel
theorem dX12_by_17 : decode cX12_by 17 = .ok (.invokestatic 84, 3) := by decide +kernel
theorem dX12_by_20 : decode cX12_by 20 = .ok (.istore_n 3, 1) := by decide +kernel
theorem dX12_by_21 : decode cX12_by 21 = .ok (.iload_n 3, 1) := by decide +kernel
theorem dX12_by_22 : decode cX12_by 22 = .ok (.ifCond .eq 9, 3) := by decide +kernel
theorem dX12_by_25 : decode cX12_by 25 = .ok (.aload_n 0, 1) := by decide +kernel
theorem dX12_by_26 : decode cX12_by 26 = .ok (.iload_n 3, 1) := by decide +kernel
theorem dX12_by_27 : decode cX12_by 27 = .ok (.invokevirtual 91, 3) := by decide +kernel
theorem dX12_by_30 : decode cX12_by 30 = .ok (.ireturn, 1) := by decide +kernel
theorem dX12_by_31 : decode cX12_by 31 = .ok (.iconst 0, 1) := by decide +kernel
theorem dX12_by_32 : decode cX12_by 32 = .ok (.istore 4, 2) := by decide +kernel
theorem dX12_by_34 : decode cX12_by 34 = .ok (.iconst 0, 1) := by decide +kernel
theorem dX12_by_35 : decode cX12_by 35 = .ok (.istore 5, 2) := by decide +kernel
theorem dX12_by_37 : decode cX12_by 37 = .ok (.iload 5, 2) := by decide +kernel
theorem dX12_by_39 : decode cX12_by 39 = .ok (.aload_n 0, 1) := by decide +kernel
theorem dX12_by_40 : decode cX12_by 40 = .ok (.getfield 76, 3) := by decide +kernel
theorem dX12_by_43 : decode cX12_by 43 = .ok (.if_icmp .ge 54, 3) := by decide +kernel
theorem dX12_by_46 : decode cX12_by 46 = .ok (.iload 4, 2) := by decide +kernel
theorem dX12_by_48 : decode cX12_by 48 = .ok (.aload_n 0, 1) := by decide +kernel
theorem dX12_by_49 : decode cX12_by 49 = .ok (.iload 5, 2) := by decide +kernel
theorem dX12_by_51 : decode cX12_by 51 = .ok (.iload_n 2, 1) := by decide +kernel
theorem dX12_by_52 : decode cX12_by 52 = .ok (.invokevirtual 236, 3) := by decide +kernel
theorem dX12_by_55 : decode cX12_by 55 = .ok (.ifCond .lt 32, 3) := by decide +kernel
theorem dX12_by_58 : decode cX12_by 58 = .ok (.aload_n 0, 1) := by decide +kernel
theorem dX12_by_59 : decode cX12_by 59 = .ok (.getfield 31, 3) := by decide +kernel
theorem dX12_by_62 : decode cX12_by 62 = .ok (.bipush 9, 2) := by decide +kernel
theorem dX12_by_64 : decode cX12_by 64 = .ok (.iload 5, 2) := by decide +kernel
theorem dX12_by_66 : decode cX12_by 66 = .ok (.imul, 1) := by decide +kernel
theorem dX12_by_67 : decode cX12_by 67 = .ok (.aload_n 0, 1) := by decide +kernel
theorem dX12_by_68 : decode cX12_by 68 = .ok (.iload 5, 2) := by decide +kernel
theorem dX12_by_70 : decode cX12_by 70 = .ok (.iload_n 2, 1) := by decide +kernel
theorem dX12_by_71 : decode cX12_by 71 = .ok (.invokevirtual 236, 3) := by decide +kernel
theorem dX12_by_74 : decode cX12_by 74 = .ok (.iadd, 1) := by decide +kernel
theorem dX12_by_75 : decode cX12_by 75 = .ok (.iaload, 1) := by decide +kernel
theorem dX12_by_76 : decode cX12_by 76 = .ok (.iload_n 1, 1) := by decide +kernel
theorem dX12_by_77 : decode cX12_by 77 = .ok (.if_icmp .ne 10, 3) := by decide +kernel
theorem dX12_by_80 : decode cX12_by 80 = .ok (.iconst 1, 1) := by decide +kernel
theorem dX12_by_81 : decode cX12_by 81 = .ok (.iload 5, 2) := by decide +kernel
theorem dX12_by_83 : decode cX12_by 83 = .ok (.ishl, 1) := by decide +kernel
theorem dX12_by_84 : decode cX12_by 84 = .ok (.goto 4, 3) := by decide +kernel
theorem dX12_by_87 : decode cX12_by 87 = .ok (.iconst 0, 1) := by decide +kernel
theorem dX12_by_88 : decode cX12_by 88 = .ok (.ior, 1) := by decide +kernel
theorem dX12_by_89 : decode cX12_by 89 = .ok (.istore 4, 2) := by decide +kernel
theorem dX12_by_91 : decode cX12_by 91 = .ok (.iinc 5 1, 3) := by decide +kernel
theorem dX12_by_94 : decode cX12_by 94 = .ok (.goto (-57), 3) := by decide +kernel
theorem dX12_by_97 : decode cX12_by 97 = .ok (.iload 4, 2) := by decide +kernel
theorem dX12_by_99 : decode cX12_by 99 = .ok (.ireturn, 1) := by decide +kernel
set_option maxRecDepth 20000 in
theorem ggX12_unlit_X12_isCell : GoodIn wsX12_unlit wsX12_isCell := goodIn_r _ [8] (by decide +kernel) (by decide +kernel)
set_option maxRecDepth 20000 in
theorem gX12_unlit_X12_isCell : GoodIn wsX12_unlit (va_wsS RX12 123 yX12_isCell wsX12_isCell) := goodIn_app (goodIn_of _ (by decide +kernel)) ggX12_unlit_X12_isCell
set_option maxRecDepth 20000 in
theorem ggX12_unlit_X12_bound : GoodIn wsX12_unlit wsX12_bound := goodIn_r _ [11] (by decide +kernel) (by decide +kernel)
set_option maxRecDepth 20000 in
theorem gX12_unlit_X12_bound : GoodIn wsX12_unlit (va_wsS RX12 84 yX12_bound wsX12_bound) := goodIn_app (goodIn_of _ (by decide +kernel)) ggX12_unlit_X12_bound
set_option maxRecDepth 20000 in
theorem ggX12_unlit_X12_no : GoodIn wsX12_unlit wsX12_no := goodIn_r _ [15, 16, 57, 58, 59, 60, 61, 62, 63, 64, 65, 66, 67, 68, 69, 70, 71, 72, 73, 74, 75, 76, 77, 78, 79, 80, 81, 82, 83, 84, 85, 86, 87, 88, 89] (by decide +kernel) (by decide +kernel)
set_option maxRecDepth 20000 in
theorem gX12_unlit_X12_no : GoodIn wsX12_unlit (wsV RX12 91 RX12 yX12_no wsX12_no) := goodIn_app (goodIn_of _ (by decide +kernel)) ggX12_unlit_X12_no
set_option maxRecDepth 20000 in
theorem ggX12_unlit_X12_findLit : GoodIn wsX12_unlit wsX12_findLit := goodIn_r _ [20, 3, 21, 22, 4, 23, 24, 25, 7, 26, 27, 28, 29, 30, 31, 32, 33, 34, 2, 35, 36, 37, 38, 1, 39, 40, 41, 42, 43, 44, 45, 46, 47, 48, 49, 50, 51, 57, 58, 59, 60, 61, 62, 63, 64, 65, 66, 67, 68, 69, 70, 71, 72, 73, 74, 75, 76, 77, 78, 79, 80, 81, 82, 83, 84, 85, 86, 87, 88, 89] (by decide +kernel) (by decide +kernel)
set_option maxRecDepth 20000 in
theorem gX12_unlit_X12_findLit : GoodIn wsX12_unlit (wsV RX12 220 RX12 yX12_findLit wsX12_findLit) := goodIn_app (goodIn_of _ (by decide +kernel)) ggX12_unlit_X12_findLit
set_option maxRecDepth 20000 in
theorem ggX12_unlit_X12_litBits : GoodIn wsX12_unlit wsX12_litBits := goodIn_r _ [55, 21, 56, 57, 58, 59, 60, 61, 62, 63, 64, 65, 66, 67, 68, 69, 70, 71, 72, 73, 74, 75, 76, 77, 78, 79, 80, 81, 82, 83, 84, 85, 86, 87, 88, 89] (by decide +kernel) (by decide +kernel)
set_option maxRecDepth 20000 in
theorem gX12_unlit_X12_litBits : GoodIn wsX12_unlit (wsV RX12 239 RX12 yX12_litBits wsX12_litBits) := goodIn_app (goodIn_of _ (by decide +kernel)) ggX12_unlit_X12_litBits
set_option maxRecDepth 20000 in
theorem ggX12_unlit_X12_findFar : GoodIn wsX12_unlit wsX12_findFar := goodIn_r _ [42, 4, 43, 44, 45, 46, 47, 7, 48, 1, 49, 50, 51, 57, 58, 59, 60, 61, 62, 63, 64, 65, 66, 67, 68, 69, 70, 71, 72, 73, 74, 75, 76, 77, 78, 79, 80, 81, 82, 83, 84, 85, 86, 87, 88, 89] (by decide +kernel) (by decide +kernel)
set_option maxRecDepth 20000 in
theorem gX12_unlit_X12_findFar : GoodIn wsX12_unlit (wsV RX12 201 RX12 yX12_findFar wsX12_findFar) := goodIn_app (goodIn_of _ (by decide +kernel)) ggX12_unlit_X12_findFar
theorem dX12_unlit_0 : decode cX12_unlit 0 = .ok (.iload_n 1, 1) := by decide +kernel
theorem dX12_unlit_1 : decode cX12_unlit 1 = .ok (.invokestatic 123, 3) := by decide +kernel
theorem dX12_unlit_4 : decode cX12_unlit 4 = .ok (.ifCond .eq 10, 3) := by decide +kernel
theorem dX12_unlit_7 : decode cX12_unlit 7 = .ok (.iload_n 2, 1) := by decide +kernel
theorem dX12_unlit_8 : decode cX12_unlit 8 = .ok (.invokestatic 123, 3) := by decide +kernel
theorem dX12_unlit_11 : decode cX12_unlit 11 = .ok (.ifCond .ne 7, 3) := by decide +kernel
theorem dX12_unlit_14 : decode cX12_unlit 14 = .ok (.iconst (-1), 1) := by decide +kernel
theorem dX12_unlit_15 : decode cX12_unlit 15 = .ok (.goto 10, 3) := by decide +kernel
theorem dX12_unlit_18 : decode cX12_unlit 18 = .ok (.iload_n 3, 1) := by decide +kernel
theorem dX12_unlit_19 : decode cX12_unlit 19 = .ok (.iconst 0, 1) := by decide +kernel
theorem dX12_unlit_20 : decode cX12_unlit 20 = .ok (.bipush 63, 2) := by decide +kernel
theorem dX12_unlit_22 : decode cX12_unlit 22 = .ok (.invokestatic 84, 3) := by decide +kernel
theorem dX12_unlit_25 : decode cX12_unlit 25 = .ok (.istore 4, 2) := by decide +kernel
