theorem dX6_fits_35 : decode cX6_fits 35 = .ok (.i2c, 1) := by decide +kernel
theorem dX6_fits_36 : decode cX6_fits 36 = .ok (.invokevirtual 31, 3) := by decide +kernel
theorem dX6_fits_39 : decode cX6_fits 39 = .ok (.ifCond .lt 7, 3) := by decide +kernel
theorem dX6_fits_42 : decode cX6_fits 42 = .ok (.iconst 1, 1) := by decide +kernel
theorem dX6_fits_43 : decode cX6_fits 43 = .ok (.goto 4, 3) := by decide +kernel
theorem dX6_fits_46 : decode cX6_fits 46 = .ok (.iconst 0, 1) := by decide +kernel
theorem dX6_fits_47 : decode cX6_fits 47 = .ok (.ireturn, 1) := by decide +kernel
theorem dX6_fits_48 : decode cX6_fits 48 = .ok (.iload_n 1, 1) := by decide +kernel
theorem dX6_fits_49 : decode cX6_fits 49 = .ok (.bipush 48, 2) := by decide +kernel
theorem dX6_fits_51 : decode cX6_fits 51 = .ok (.if_icmp .lt 13, 3) := by decide +kernel
theorem dX6_fits_54 : decode cX6_fits 54 = .ok (.iload_n 1, 1) := by decide +kernel
theorem dX6_fits_55 : decode cX6_fits 55 = .ok (.bipush 57, 2) := by decide +kernel
theorem dX6_fits_57 : decode cX6_fits 57 = .ok (.if_icmp .gt 7, 3) := by decide +kernel
theorem dX6_fits_60 : decode cX6_fits 60 = .ok (.iconst 1, 1) := by decide +kernel
theorem dX6_fits_61 : decode cX6_fits 61 = .ok (.goto 4, 3) := by decide +kernel
theorem dX6_fits_64 : decode cX6_fits 64 = .ok (.iconst 0, 1) := by decide +kernel
theorem dX6_fits_65 : decode cX6_fits 65 = .ok (.ireturn, 1) := by decide +kernel
theorem dX6_fits_66 : decode cX6_fits 66 = .ok (.iload_n 1, 1) := by decide +kernel
theorem dX6_fits_67 : decode cX6_fits 67 = .ok (.iload_n 0, 1) := by decide +kernel
theorem dX6_fits_68 : decode cX6_fits 68 = .ok (.if_icmp .ne 7, 3) := by decide +kernel
theorem dX6_fits_71 : decode cX6_fits 71 = .ok (.iconst 1, 1) := by decide +kernel
theorem dX6_fits_72 : decode cX6_fits 72 = .ok (.goto 4, 3) := by decide +kernel
theorem dX6_fits_75 : decode cX6_fits 75 = .ok (.iconst 0, 1) := by decide +kernel
theorem dX6_fits_76 : decode cX6_fits 76 = .ok (.ireturn, 1) := by decide +kernel
set_option maxRecDepth 20000 in
theorem ggX6_misplaced_X6_at : GoodIn wsX6_misplaced wsX6_at := goodIn_r _ [6, 1, 7, 128, 129] (by decide +kernel) (by decide +kernel)
set_option maxRecDepth 20000 in
theorem gX6_misplaced_X6_at : GoodIn wsX6_misplaced (wsV RX6 37 RX6 yX6_at wsX6_at) := goodIn_app (goodIn_of _ (by decide +kernel)) ggX6_misplaced_X6_at
set_option maxRecDepth 20000 in
theorem ggX6_misplaced_X6_formAfter : GoodIn wsX6_misplaced wsX6_formAfter := goodIn_r _ [10] (by decide +kernel) (by decide +kernel)
set_option maxRecDepth 20000 in
theorem gX6_misplaced_X6_formAfter : GoodIn wsX6_misplaced (va_wsS RX6 40 yX6_formAfter wsX6_formAfter) := goodIn_app (goodIn_of _ (by decide +kernel)) ggX6_misplaced_X6_formAfter
set_option maxRecDepth 20000 in
theorem ggX6_misplaced_J0_isEmpty_aae02 : GoodIn wsX6_misplaced wsJ0_isEmpty_aae02 := goodIn_r _ [15, 16] (by decide +kernel) (by decide +kernel)
set_option maxRecDepth 20000 in
theorem gX6_misplaced_J0_isEmpty_aae02 : GoodIn wsX6_misplaced (wsV RX6 44 RJ0 yJ0_isEmpty_aae02 wsJ0_isEmpty_aae02) := goodIn_app (goodIn_of _ (by decide +kernel)) ggX6_misplaced_J0_isEmpty_aae02
set_option maxRecDepth 20000 in
theorem ggX6_misplaced_J0_length_8abf5 : GoodIn wsX6_misplaced wsJ0_length_8abf5 := goodIn_r _ [20, 16, 21, 22, 23, 14, 24, 25, 26] (by decide +kernel) (by decide +kernel)
set_option maxRecDepth 20000 in
theorem gX6_misplaced_J0_length_8abf5 : GoodIn wsX6_misplaced (wsV RX6 48 RJ0 yJ0_length_8abf5 wsJ0_length_8abf5) := goodIn_app (goodIn_of _ (by decide +kernel)) ggX6_misplaced_J0_length_8abf5
set_option maxRecDepth 20000 in
theorem ggX6_misplaced_J0_charAt_5068e : GoodIn wsX6_misplaced wsJ0_charAt_5068e := goodIn_r _ [30, 16, 31, 32, 33, 14, 34, 25, 26, 35, 36, 37, 38, 39, 40, 41, 42, 43, 44, 45, 46, 47, 48, 49, 50, 51, 52, 53, 54, 55, 56, 57, 58, 59, 60, 61, 62, 63] (by decide +kernel) (by decide +kernel)
set_option maxRecDepth 20000 in
theorem gX6_misplaced_J0_charAt_5068e : GoodIn wsX6_misplaced (wsV RX6 51 RJ0 yJ0_charAt_5068e wsJ0_charAt_5068e) := goodIn_app (goodIn_of _ (by decide +kernel)) ggX6_misplaced_J0_charAt_5068e
set_option maxRecDepth 20000 in
theorem ggX6_misplaced_X6_fits : GoodIn wsX6_misplaced wsX6_fits := goodIn_r _ [66, 67, 68, 69, 14, 70, 71, 72, 73, 74, 16, 31, 32, 33, 34, 25, 26, 75, 18, 19, 20, 21, 22, 23, 24, 76, 77, 37, 78, 79, 80, 81, 82, 83, 84, 85, 86, 87, 88, 89, 90, 91, 92, 93, 49, 94, 95, 96, 97, 98, 99, 100, 101, 102, 103, 54, 55, 56, 104, 105, 106, 42, 107, 108, 45, 109, 110, 111, 112, 58, 59, 60, 61, 62, 63, 113, 114, 115, 116, 117, 118, 119, 120, 121, 122, 123, 124, 125, 126, 127] (by decide +kernel) (by decide +kernel)
set_option maxRecDepth 20000 in
theorem gX6_misplaced_X6_fits : GoodIn wsX6_misplaced (va_wsS RX6 55 yX6_fits wsX6_fits) := goodIn_app (goodIn_of _ (by decide +kernel)) ggX6_misplaced_X6_fits
theorem dX6_misplaced_0 : decode cX6_misplaced 0 = .ok (.iconst 0, 1) := by decide +kernel
theorem dX6_misplaced_1 : decode cX6_misplaced 1 = .ok (.istore_n 1, 1) := by decide +kernel
theorem dX6_misplaced_2 : decode cX6_misplaced 2 = .ok (.aload_n 0, 1) := by decide +kernel
theorem dX6_misplaced_3 : decode cX6_misplaced 3 = .ok (.iload_n 1, 1) := by decide +kernel
theorem dX6_misplaced_4 : decode cX6_misplaced 4 = .ok (.invokevirtual 37, 3) := by decide +kernel
theorem dX6_misplaced_7 : decode cX6_misplaced 7 = .ok (.invokestatic 40, 3) := by decide +kernel
theorem dX6_misplaced_10 : decode cX6_misplaced 10 = .ok (.astore_n 2, 1) := by decide +kernel
theorem dX6_misplaced_11 : decode cX6_misplaced 11 = .ok (.aload_n 2, 1) := by decide +kernel
theorem dX6_misplaced_12 : decode cX6_misplaced 12 = .ok (.invokevirtual 44, 3) := by decide +kernel
theorem dX6_misplaced_15 : decode cX6_misplaced 15 = .ok (.ifCond .eq 5, 3) := by decide +kernel
theorem dX6_misplaced_18 : decode cX6_misplaced 18 = .ok (.iload_n 1, 1) := by decide +kernel
theorem dX6_misplaced_19 : decode cX6_misplaced 19 = .ok (.ireturn, 1) := by decide +kernel
theorem dX6_misplaced_20 : decode cX6_misplaced 20 = .ok (.iconst 0, 1) := by decide +kernel
theorem dX6_misplaced_21 : decode cX6_misplaced 21 = .ok (.istore_n 3, 1) := by decide +kernel
theorem dX6_misplaced_22 : decode cX6_misplaced 22 = .ok (.iload_n 3, 1) := by decide +kernel
theorem dX6_misplaced_23 : decode cX6_misplaced 23 = .ok (.aload_n 2, 1) := by decide +kernel
theorem dX6_misplaced_24 : decode cX6_misplaced 24 = .ok (.invokevirtual 48, 3) := by decide +kernel
theorem dX6_misplaced_27 : decode cX6_misplaced 27 = .ok (.if_icmp .ge 30, 3) := by decide +kernel
theorem dX6_misplaced_30 : decode cX6_misplaced 30 = .ok (.iinc 1 1, 3) := by decide +kernel
theorem dX6_misplaced_33 : decode cX6_misplaced 33 = .ok (.aload_n 2, 1) := by decide +kernel
theorem dX6_misplaced_34 : decode cX6_misplaced 34 = .ok (.iload_n 3, 1) := by decide +kernel
theorem dX6_misplaced_35 : decode cX6_misplaced 35 = .ok (.invokevirtual 51, 3) := by decide +kernel
theorem dX6_misplaced_38 : decode cX6_misplaced 38 = .ok (.aload_n 0, 1) := by decide +kernel
theorem dX6_misplaced_39 : decode cX6_misplaced 39 = .ok (.iload_n 1, 1) := by decide +kernel
theorem dX6_misplaced_40 : decode cX6_misplaced 40 = .ok (.invokevirtual 37, 3) := by decide +kernel
theorem dX6_misplaced_43 : decode cX6_misplaced 43 = .ok (.invokestatic 55, 3) := by decide +kernel
theorem dX6_misplaced_46 : decode cX6_misplaced 46 = .ok (.ifCond .ne 5, 3) := by decide +kernel
theorem dX6_misplaced_49 : decode cX6_misplaced 49 = .ok (.iload_n 1, 1) := by decide +kernel
theorem dX6_misplaced_50 : decode cX6_misplaced 50 = .ok (.ireturn, 1) := by decide +kernel
theorem dX6_misplaced_51 : decode cX6_misplaced 51 = .ok (.iinc 3 1, 3) := by decide +kernel
theorem dX6_misplaced_54 : decode cX6_misplaced 54 = .ok (.goto (-32), 3) := by decide +kernel
theorem dX6_misplaced_57 : decode cX6_misplaced 57 = .ok (.iinc 1 1, 3) := by decide +kernel
theorem dX6_misplaced_60 : decode cX6_misplaced 60 = .ok (.iload_n 1, 1) := by decide +kernel
theorem dX6_misplaced_61 : decode cX6_misplaced 61 = .ok (.aload_n 0, 1) := by decide +kernel
theorem dX6_misplaced_62 : decode cX6_misplaced 62 = .ok (.getfield 15, 3) := by decide +kernel
theorem dX6_misplaced_65 : decode cX6_misplaced 65 = .ok (.if_icmp .lt (-63), 3) := by decide +kernel
theorem dX6_misplaced_68 : decode cX6_misplaced 68 = .ok (.bipush (-9), 2) := by decide +kernel
theorem dX6_misplaced_70 : decode cX6_misplaced 70 = .ok (.ireturn, 1) := by decide +kernel
set_option maxRecDepth 20000 in
theorem ggX6_tellTo_X6_misplaced : GoodIn wsX6_tellTo wsX6_misplaced := goodIn_r _ [6, 1, 7, 8, 9, 5, 10, 11, 12, 13, 14, 15, 16, 17, 18, 19, 20, 21, 22, 23, 24, 25, 26, 27, 28, 29, 30, 31, 32, 33, 34, 35, 36, 37, 38, 39, 40, 41, 42, 43, 44, 45, 46, 47, 48, 49, 50, 51, 52, 53, 54, 55, 56, 57, 58, 59, 60, 61, 62, 63, 64, 65, 66, 67, 68, 69, 70, 71, 72, 73, 74, 75, 76, 77, 78, 79, 80, 81, 82, 83, 84, 85, 86, 87, 88, 89, 90, 91, 92, 93, 94, 95, 96, 97, 98, 99, 100, 101, 102, 103, 104, 105, 106, 107, 108, 109, 110, 111, 112, 113, 114, 115, 116, 117, 118, 119, 120, 121, 122, 123, 124, 125, 126, 127, 128, 129, 130, 131, 426, 427] (by decide +kernel) (by decide +kernel)
set_option maxRecDepth 20000 in
theorem gX6_tellTo_X6_misplaced : GoodIn wsX6_tellTo (wsV RX6 59 RX6 yX6_misplaced wsX6_misplaced) := goodIn_app (goodIn_of _ (by decide +kernel)) ggX6_tellTo_X6_misplaced
set_option maxRecDepth 20000 in
theorem ggX6_tellTo_X6_obey : GoodIn wsX6_tellTo wsX6_obey := goodIn_r _ [135, 7, 8, 9, 5, 10, 1, 11, 136, 137, 138, 139, 71, 72, 73, 18, 74, 75, 76, 77, 78, 20, 35, 36, 37, 38, 29, 30, 79, 22, 23, 24, 25, 26, 27, 28, 80, 81, 41, 82, 83, 84, 85, 86, 87, 88, 89, 90, 91, 92, 93, 94, 95, 96, 97, 53, 98, 99, 100, 101, 102, 103, 104, 105, 106, 107, 58, 59, 60, 108, 109, 110, 46, 111, 112, 49, 113, 114, 115, 116, 62, 63, 64, 65, 66, 67, 117, 118, 119, 120, 121, 122, 123, 124, 125, 126, 127, 128, 129, 130, 131, 140, 141, 142, 143, 144, 145, 146, 147, 148, 149, 150, 151, 152, 153, 154, 155, 156, 157, 158, 159, 160, 161, 162, 163, 164, 165, 166, 167, 168, 169, 170, 171, 172, 173, 174, 175, 176, 177, 178, 179, 180, 181, 182, 183, 184, 185, 186, 187, 188, 189, 190, 191, 192, 193, 194, 195, 196, 197, 198, 199, 200, 201, 202, 203, 204, 205, 206, 207, 208, 209, 210, 211, 212, 213, 214, 215, 216, 217, 218, 219, 220, 221, 222, 223, 224, 225, 226, 227, 228, 229, 230, 231, 232, 233, 234, 235, 236, 237, 238, 239, 240, 241, 242, 243, 244, 245, 246, 247, 248, 249, 250, 251, 252, 253, 254, 255, 256, 257, 258, 259, 260, 261, 262, 263, 264, 265, 266, 267, 268, 269, 270, 271, 272, 273, 274, 275, 276, 277, 278, 279, 280, 281, 282, 283, 284, 285, 286, 287, 288, 289, 290, 291, 292, 293, 294, 295, 296, 297, 298, 299, 300, 301, 302, 303, 304, 305, 306, 307, 308, 309, 310, 311, 312, 313, 314, 315, 316, 317, 318, 319, 320, 321, 322, 323, 324, 325, 326, 327, 328, 329, 330, 331, 332, 333, 334, 335, 336, 337, 338, 339, 340, 341, 342, 343, 344, 345, 346, 347, 348, 349, 350, 351, 352, 353, 354, 355, 356, 357, 358, 359, 360, 361, 362, 363, 364, 365, 366, 367, 368, 369, 370, 371, 372, 373, 374, 375, 376, 377, 378, 379, 380, 381, 382, 383, 384, 385, 386, 387, 388, 389, 390, 391, 392, 393, 394, 395, 396, 397, 398, 399, 400, 401, 402, 403, 404, 405, 406, 407, 408, 409, 410, 411, 412, 413, 414, 415, 416, 417, 418, 419, 420, 421, 422, 423, 424, 425, 426, 427, 428, 429, 430, 431, 432, 433, 434, 435, 436, 437, 438, 439, 440, 441, 442, 443, 444, 445, 446, 447, 448, 449, 450, 451, 452, 453, 454, 455, 456, 457, 458, 459, 460, 461, 462, 463, 464, 465, 466, 467, 468] (by decide +kernel) (by decide +kernel)
set_option maxRecDepth 20000 in
theorem gX6_tellTo_X6_obey : GoodIn wsX6_tellTo (wsV RX6 62 RX6 yX6_obey wsX6_obey) := goodIn_app (goodIn_of _ (by decide +kernel)) ggX6_tellTo_X6_obey
set_option maxRecDepth 20000 in
theorem ggX6_tellTo_X6_at : GoodIn wsX6_tellTo wsX6_at := goodIn_r _ [10, 1, 11, 426, 427] (by decide +kernel) (by decide +kernel)
set_option maxRecDepth 20000 in
theorem gX6_tellTo_X6_at : GoodIn wsX6_tellTo (wsV RX6 37 RX6 yX6_at wsX6_at) := goodIn_app (goodIn_of _ (by decide +kernel)) ggX6_tellTo_X6_at
set_option maxRecDepth 20000 in
theorem ggX6_tellTo_X6_formAfter : GoodIn wsX6_tellTo wsX6_formAfter := goodIn_r _ [14] (by decide +kernel) (by decide +kernel)
set_option maxRecDepth 20000 in
theorem gX6_tellTo_X6_formAfter : GoodIn wsX6_tellTo (va_wsS RX6 40 yX6_formAfter wsX6_formAfter) := goodIn_app (goodIn_of _ (by decide +kernel)) ggX6_tellTo_X6_formAfter
set_option maxRecDepth 20000 in
theorem ggX6_tellTo_J0_length_8abf5 : GoodIn wsX6_tellTo wsJ0_length_8abf5 := goodIn_r _ [24, 20, 25, 26, 27, 18, 28, 29, 30] (by decide +kernel) (by decide +kernel)
set_option maxRecDepth 20000 in
theorem gX6_tellTo_J0_length_8abf5 : GoodIn wsX6_tellTo (wsV RX6 48 RJ0 yJ0_length_8abf5 wsJ0_length_8abf5) := goodIn_app (goodIn_of _ (by decide +kernel)) ggX6_tellTo_J0_length_8abf5
theorem dX6_tellTo_0 : decode cX6_tellTo 0 = .ok (.aload_n 0, 1) := by decide +kernel
theorem dX6_tellTo_1 : decode cX6_tellTo 1 = .ok (.invokevirtual 59, 3) := by decide +kernel
theorem dX6_tellTo_4 : decode cX6_tellTo 4 = .ok (.istore_n 2, 1) := by decide +kernel
theorem dX6_tellTo_5 : decode cX6_tellTo 5 = .ok (.iload_n 2, 1) := by decide +kernel
theorem dX6_tellTo_6 : decode cX6_tellTo 6 = .ok (.ifCond .lt 9, 3) := by decide +kernel
theorem dX6_tellTo_9 : decode cX6_tellTo 9 = .ok (.sipush (-1000), 3) := by decide +kernel
theorem dX6_tellTo_12 : decode cX6_tellTo 12 = .ok (.iload_n 2, 1) := by decide +kernel
theorem dX6_tellTo_13 : decode cX6_tellTo 13 = .ok (.isub, 1) := by decide +kernel
theorem dX6_tellTo_14 : decode cX6_tellTo 14 = .ok (.ireturn, 1) := by decide +kernel
theorem dX6_tellTo_15 : decode cX6_tellTo 15 = .ok (.iconst 0, 1) := by decide +kernel
theorem dX6_tellTo_16 : decode cX6_tellTo 16 = .ok (.istore_n 3, 1) := by decide +kernel
theorem dX6_tellTo_17 : decode cX6_tellTo 17 = .ok (.iconst 0, 1) := by decide +kernel
theorem dX6_tellTo_18 : decode cX6_tellTo 18 = .ok (.istore 4, 2) := by decide +kernel
theorem dX6_tellTo_20 : decode cX6_tellTo 20 = .ok (.iload 4, 2) := by decide +kernel
theorem dX6_tellTo_22 : decode cX6_tellTo 22 = .ok (.aload_n 0, 1) := by decide +kernel
theorem dX6_tellTo_23 : decode cX6_tellTo 23 = .ok (.getfield 15, 3) := by decide +kernel
theorem dX6_tellTo_26 : decode cX6_tellTo 26 = .ok (.if_icmp .ge 49, 3) := by decide +kernel
theorem dX6_tellTo_29 : decode cX6_tellTo 29 = .ok (.aload_n 1, 1) := by decide +kernel
theorem dX6_tellTo_30 : decode cX6_tellTo 30 = .ok (.ifnull 13, 3) := by decide +kernel
theorem dX6_tellTo_33 : decode cX6_tellTo 33 = .ok (.aload_n 0, 1) := by decide +kernel
theorem dX6_tellTo_34 : decode cX6_tellTo 34 = .ok (.aload_n 1, 1) := by decide +kernel
theorem dX6_tellTo_35 : decode cX6_tellTo 35 = .ok (.iload 4, 2) := by decide +kernel
theorem dX6_tellTo_37 : decode cX6_tellTo 37 = .ok (.invokevirtual 62, 3) := by decide +kernel
theorem dX6_tellTo_40 : decode cX6_tellTo 40 = .ok (.ifCond .ge 10, 3) := by decide +kernel
theorem dX6_tellTo_43 : decode cX6_tellTo 43 = .ok (.sipush (-2000), 3) := by decide +kernel
theorem dX6_tellTo_46 : decode cX6_tellTo 46 = .ok (.iload 4, 2) := by decide +kernel
theorem dX6_tellTo_48 : decode cX6_tellTo 48 = .ok (.isub, 1) := by decide +kernel
theorem dX6_tellTo_49 : decode cX6_tellTo 49 = .ok (.ireturn, 1) := by decide +kernel
theorem dX6_tellTo_50 : decode cX6_tellTo 50 = .ok (.iinc 3 1, 3) := by decide +kernel
theorem dX6_tellTo_53 : decode cX6_tellTo 53 = .ok (.iload 4, 2) := by decide +kernel
theorem dX6_tellTo_55 : decode cX6_tellTo 55 = .ok (.iconst 1, 1) := by decide +kernel
theorem dX6_tellTo_56 : decode cX6_tellTo 56 = .ok (.aload_n 0, 1) := by decide +kernel
theorem dX6_tellTo_57 : decode cX6_tellTo 57 = .ok (.iload 4, 2) := by decide +kernel
theorem dX6_tellTo_59 : decode cX6_tellTo 59 = .ok (.invokevirtual 37, 3) := by decide +kernel
theorem dX6_tellTo_62 : decode cX6_tellTo 62 = .ok (.invokestatic 40, 3) := by decide +kernel
theorem dX6_tellTo_65 : decode cX6_tellTo 65 = .ok (.invokevirtual 48, 3) := by decide +kernel
theorem dX6_tellTo_68 : decode cX6_tellTo 68 = .ok (.iadd, 1) := by decide +kernel
theorem dX6_tellTo_69 : decode cX6_tellTo 69 = .ok (.iadd, 1) := by decide +kernel
theorem dX6_tellTo_70 : decode cX6_tellTo 70 = .ok (.istore 4, 2) := by decide +kernel
theorem dX6_tellTo_72 : decode cX6_tellTo 72 = .ok (.goto (-52), 3) := by decide +kernel
theorem dX6_tellTo_75 : decode cX6_tellTo 75 = .ok (.iload_n 3, 1) := by decide +kernel
theorem dX6_tellTo_76 : decode cX6_tellTo 76 = .ok (.ireturn, 1) := by decide +kernel
set_option maxRecDepth 20000 in
theorem ggX6_obey_X6_at : GoodIn wsX6_obey wsX6_at := goodIn_r _ [5, 6, 7, 387, 388] (by decide +kernel) (by decide +kernel)
set_option maxRecDepth 20000 in
theorem gX6_obey_X6_at : GoodIn wsX6_obey (wsV RX6 37 RX6 yX6_at wsX6_at) := goodIn_app (goodIn_of _ (by decide +kernel)) ggX6_obey_X6_at
set_option maxRecDepth 20000 in
theorem ggX6_obey_X6_kindAt : GoodIn wsX6_obey wsX6_kindAt := goodIn_r _ [11, 1, 2, 3, 4, 5, 6, 7, 12, 13, 14, 15, 16, 17, 18, 19, 20, 21, 22, 23, 24, 25, 26, 27, 28, 29, 30, 31, 32, 33, 34, 35, 36, 37, 38, 39, 40, 41, 42, 43, 44, 45, 46, 47, 48, 49, 50, 51, 52, 53, 54, 55, 56, 57, 58, 59, 60, 61, 62, 63, 64, 65, 66, 67, 68, 69, 70, 71, 72, 73, 74, 75, 76, 77, 78, 79, 80, 81, 82, 83, 84, 85, 86, 87, 88, 89, 90, 91, 92, 93, 94, 95, 96, 97, 98, 99, 100, 387, 388] (by decide +kernel) (by decide +kernel)
set_option maxRecDepth 20000 in
theorem gX6_obey_X6_kindAt : GoodIn wsX6_obey (wsV RX6 66 RX6 yX6_kindAt wsX6_kindAt) := goodIn_app (goodIn_of _ (by decide +kernel)) ggX6_obey_X6_kindAt
set_option maxRecDepth 20000 in
theorem ggX6_obey_X6_cellAt : GoodIn wsX6_obey wsX6_cellAt := goodIn_r _ [104, 105, 106, 107, 4, 108, 1, 2, 3, 5, 6, 7, 387, 388] (by decide +kernel) (by decide +kernel)
set_option maxRecDepth 20000 in
theorem gX6_obey_X6_cellAt : GoodIn wsX6_obey (wsV RX6 69 RX6 yX6_cellAt wsX6_cellAt) := goodIn_app (goodIn_of _ (by decide +kernel)) ggX6_obey_X6_cellAt
set_option maxRecDepth 20000 in
theorem ggX6_obey_X6_digitAt : GoodIn wsX6_obey wsX6_digitAt := goodIn_r _ [108, 1, 2, 3, 4, 5, 6, 7, 387, 388] (by decide +kernel) (by decide +kernel)
set_option maxRecDepth 20000 in
theorem gX6_obey_X6_digitAt : GoodIn wsX6_obey (wsV RX6 72 RX6 yX6_digitAt wsX6_digitAt) := goodIn_app (goodIn_of _ (by decide +kernel)) ggX6_obey_X6_digitAt
set_option maxRecDepth 20000 in
theorem ggX6_obey_X10_addLamp : GoodIn wsX6_obey wsX10_addLamp := goodIn_r _ [113, 114, 115, 116, 117, 118, 119, 120, 121, 122, 123, 124, 125, 126, 127, 128, 129, 130, 131, 132, 133, 134, 135, 136, 137, 138, 139, 140, 141, 142, 143, 144, 145, 146, 147, 148, 149, 150, 151, 152, 153, 154, 155, 156, 157, 158, 159, 160, 161, 162, 163, 164, 165, 166, 389, 390, 391, 392, 393, 394, 395, 396, 397, 398, 399, 400, 401, 402, 403, 404, 405, 406, 407, 408, 409, 410, 411, 412, 413, 414, 415, 416, 417, 418, 419, 420, 421, 422, 423, 424, 425, 426, 427, 428, 429] (by decide +kernel) (by decide +kernel)
set_option maxRecDepth 20000 in
theorem gX6_obey_X10_addLamp : GoodIn wsX6_obey (wsV RX6 75 RX10 yX10_addLamp wsX10_addLamp) := goodIn_app (goodIn_of _ (by decide +kernel)) ggX6_obey_X10_addLamp
set_option maxRecDepth 20000 in
theorem ggX6_obey_X10_turnWall : GoodIn wsX6_obey wsX10_turnWall := goodIn_r _ [170, 171, 118, 119, 120, 121, 172, 173, 174, 112, 175, 176, 177, 178, 179, 180, 181, 182, 183, 184, 185, 186, 187, 188, 189, 190, 191, 192, 193, 194, 195, 196, 197, 198, 199, 200, 201, 202, 389, 390, 391, 392, 393, 394] (by decide +kernel) (by decide +kernel)
set_option maxRecDepth 20000 in
theorem gX6_obey_X10_turnWall : GoodIn wsX6_obey (wsV RX6 81 RX10 yX10_turnWall wsX10_turnWall) := goodIn_app (goodIn_of _ (by decide +kernel)) ggX6_obey_X10_turnWall
set_option maxRecDepth 20000 in
theorem ggX6_obey_X10_addPerson : GoodIn wsX6_obey wsX10_addPerson := goodIn_r _ [206, 171, 176, 181, 118, 119, 120, 121, 185, 186, 187, 188, 183, 184, 389, 390, 391, 392, 393, 394] (by decide +kernel) (by decide +kernel)
set_option maxRecDepth 20000 in
theorem gX6_obey_X10_addPerson : GoodIn wsX6_obey (wsV RX6 84 RX10 yX10_addPerson wsX10_addPerson) := goodIn_app (goodIn_of _ (by decide +kernel)) ggX6_obey_X10_addPerson
set_option maxRecDepth 20000 in
theorem ggX6_obey_X10_walk : GoodIn wsX6_obey wsX10_walk := goodIn_r _ [210, 181, 211, 212, 213, 214, 112, 215, 176, 118, 119, 120, 121, 216, 217, 218, 219, 220, 171, 221, 222, 223, 224, 188, 183, 184, 225, 186, 187, 226, 227, 228, 229, 230, 231, 232, 233, 234, 235, 236, 237, 238, 239, 240, 114, 241, 242, 243, 244, 245, 115, 246, 247, 248, 249, 124, 250, 251, 252, 253, 254, 255, 256, 257, 258, 259, 260, 134, 261, 262, 263, 264, 178, 179, 180, 265, 266, 267, 268, 269, 270, 271, 272, 273, 274, 275, 276, 277, 278, 279, 185, 280, 281, 282, 283, 284, 285, 155, 286, 287, 288, 289, 290, 291, 292, 293, 294, 295, 140, 296, 297, 298, 299, 300, 301, 302, 303, 304, 305, 306, 307, 308, 309, 310, 311, 312, 313, 314, 315, 316, 317, 318, 319, 320, 321, 322, 323, 324, 325, 326, 327, 328, 329, 137, 330, 331, 332, 333, 334, 335, 336, 337, 338, 339, 131, 340, 341, 342, 343, 344, 345, 346, 128, 347, 348, 349, 350, 351, 352, 353, 354, 355, 356, 357, 358, 359, 360, 361, 362, 363, 364, 365, 366, 389, 390, 391, 392, 393, 394, 395, 396, 397, 398, 399, 400, 401, 402, 403, 404, 405, 406, 407, 408, 409, 410, 411, 412, 413, 414, 415, 416, 417, 418, 419, 420, 421, 422, 423, 424, 425, 426, 427, 428, 429] (by decide +kernel) (by decide +kernel)
set_option maxRecDepth 20000 in
theorem gX6_obey_X10_walk : GoodIn wsX6_obey (wsV RX6 87 RX10 yX10_walk wsX10_walk) := goodIn_app (goodIn_of _ (by decide +kernel)) ggX6_obey_X10_walk
set_option maxRecDepth 20000 in
theorem ggX6_obey_X10_lampAt : GoodIn wsX6_obey wsX10_lampAt := goodIn_r _ [245, 114, 115, 389, 390, 391, 392, 393, 394] (by decide +kernel) (by decide +kernel)
set_option maxRecDepth 20000 in
theorem gX6_obey_X10_lampAt : GoodIn wsX6_obey (wsV RX6 91 RX10 yX10_lampAt wsX10_lampAt) := goodIn_app (goodIn_of _ (by decide +kernel)) ggX6_obey_X10_lampAt
set_option maxRecDepth 20000 in
theorem ggX6_obey_X6_turnLamp : GoodIn wsX6_obey wsX6_turnLamp := goodIn_r _ [370, 371, 200, 201, 202, 395, 396, 397, 398, 399, 400, 401, 402, 403, 404, 405, 406, 407, 408, 409, 410, 411, 412, 413, 414, 415, 416, 417, 418, 419, 420, 421, 422, 423, 424, 425, 426, 427, 428, 429] (by decide +kernel) (by decide +kernel)
set_option maxRecDepth 20000 in
theorem gX6_obey_X6_turnLamp : GoodIn wsX6_obey (va_wsS RX6 95 yX6_turnLamp wsX6_turnLamp) := goodIn_app (goodIn_of _ (by decide +kernel)) ggX6_obey_X6_turnLamp
set_option maxRecDepth 20000 in
theorem ggX6_obey_X6_breakLamp : GoodIn wsX6_obey wsX6_breakLamp := goodIn_r _ [374, 375, 376, 377, 378, 124, 379, 285, 153, 380, 381, 382, 383, 384, 385, 386, 395, 396, 397, 398, 399, 400, 401, 402, 403, 404, 405, 406, 407, 408, 409, 410, 411, 412, 413, 414, 415, 416, 417, 418, 419, 420, 421, 422, 423, 424, 425, 426, 427, 428, 429] (by decide +kernel) (by decide +kernel)
set_option maxRecDepth 20000 in
theorem gX6_obey_X6_breakLamp : GoodIn wsX6_obey (va_wsS RX6 99 yX6_breakLamp wsX6_breakLamp) := goodIn_app (goodIn_of _ (by decide +kernel)) ggX6_obey_X6_breakLamp
theorem dX6_obey_0 : decode cX6_obey 0 = .ok (.aload_n 0, 1) := by decide +kernel
theorem dX6_obey_1 : decode cX6_obey 1 = .ok (.iload_n 2, 1) := by decide +kernel
theorem dX6_obey_2 : decode cX6_obey 2 = .ok (.invokevirtual 37, 3) := by decide +kernel
theorem dX6_obey_5 : decode cX6_obey 5 = .ok (.lookupswitch 158 #[(98, 143), (103, 109), (108, 59), (112, 97), (115, 128), (119, 85)], 59) := by decide +kernel
theorem dX6_obey_64 : decode cX6_obey 64 = .ok (.aload_n 1, 1) := by decide +kernel
theorem dX6_obey_65 : decode cX6_obey 65 = .ok (.aload_n 0, 1) := by decide +kernel
theorem dX6_obey_66 : decode cX6_obey 66 = .ok (.iload_n 2, 1) := by decide +kernel
theorem dX6_obey_67 : decode cX6_obey 67 = .ok (.iconst 1, 1) := by decide +kernel
theorem dX6_obey_68 : decode cX6_obey 68 = .ok (.iadd, 1) := by decide +kernel
theorem dX6_obey_69 : decode cX6_obey 69 = .ok (.invokevirtual 66, 3) := by decide +kernel
theorem dX6_obey_72 : decode cX6_obey 72 = .ok (.aload_n 0, 1) := by decide +kernel
theorem dX6_obey_73 : decode cX6_obey 73 = .ok (.iload_n 2, 1) := by decide +kernel
theorem dX6_obey_74 : decode cX6_obey 74 = .ok (.iconst 2, 1) := by decide +kernel
theorem dX6_obey_75 : decode cX6_obey 75 = .ok (.iadd, 1) := by decide +kernel
theorem dX6_obey_76 : decode cX6_obey 76 = .ok (.invokevirtual 69, 3) := by decide +kernel
theorem dX6_obey_79 : decode cX6_obey 79 = .ok (.aload_n 0, 1) := by decide +kernel
theorem dX6_obey_80 : decode cX6_obey 80 = .ok (.iload_n 2, 1) := by decide +kernel
theorem dX6_obey_81 : decode cX6_obey 81 = .ok (.iconst 4, 1) := by decide +kernel
theorem dX6_obey_82 : decode cX6_obey 82 = .ok (.iadd, 1) := by decide +kernel
theorem dX6_obey_83 : decode cX6_obey 83 = .ok (.invokevirtual 72, 3) := by decide +kernel
theorem dX6_obey_86 : decode cX6_obey 86 = .ok (.invokevirtual 75, 3) := by decide +kernel
theorem dX6_obey_89 : decode cX6_obey 89 = .ok (.ireturn, 1) := by decide +kernel
theorem dX6_obey_90 : decode cX6_obey 90 = .ok (.aload_n 1, 1) := by decide +kernel
theorem dX6_obey_91 : decode cX6_obey 91 = .ok (.aload_n 0, 1) := by decide +kernel
theorem dX6_obey_92 : decode cX6_obey 92 = .ok (.iload_n 2, 1) := by decide +kernel
theorem dX6_obey_93 : decode cX6_obey 93 = .ok (.iconst 1, 1) := by decide +kernel
theorem dX6_obey_94 : decode cX6_obey 94 = .ok (.iadd, 1) := by decide +kernel
theorem dX6_obey_95 : decode cX6_obey 95 = .ok (.invokevirtual 69, 3) := by decide +kernel
theorem dX6_obey_98 : decode cX6_obey 98 = .ok (.invokevirtual 81, 3) := by decide +kernel
theorem dX6_obey_101 : decode cX6_obey 101 = .ok (.ireturn, 1) := by decide +kernel
theorem dX6_obey_102 : decode cX6_obey 102 = .ok (.aload_n 1, 1) := by decide +kernel
theorem dX6_obey_103 : decode cX6_obey 103 = .ok (.aload_n 0, 1) := by decide +kernel
theorem dX6_obey_104 : decode cX6_obey 104 = .ok (.iload_n 2, 1) := by decide +kernel
theorem dX6_obey_105 : decode cX6_obey 105 = .ok (.iconst 1, 1) := by decide +kernel
theorem dX6_obey_106 : decode cX6_obey 106 = .ok (.iadd, 1) := by decide +kernel
theorem dX6_obey_107 : decode cX6_obey 107 = .ok (.invokevirtual 69, 3) := by decide +kernel
theorem dX6_obey_110 : decode cX6_obey 110 = .ok (.invokevirtual 84, 3) := by decide +kernel
theorem dX6_obey_113 : decode cX6_obey 113 = .ok (.ireturn, 1) := by decide +kernel
theorem dX6_obey_114 : decode cX6_obey 114 = .ok (.aload_n 1, 1) := by decide +kernel
theorem dX6_obey_115 : decode cX6_obey 115 = .ok (.aload_n 0, 1) := by decide +kernel
theorem dX6_obey_116 : decode cX6_obey 116 = .ok (.iload_n 2, 1) := by decide +kernel
theorem dX6_obey_117 : decode cX6_obey 117 = .ok (.iconst 1, 1) := by decide +kernel
theorem dX6_obey_118 : decode cX6_obey 118 = .ok (.iadd, 1) := by decide +kernel
theorem dX6_obey_119 : decode cX6_obey 119 = .ok (.invokevirtual 72, 3) := by decide +kernel
theorem dX6_obey_122 : decode cX6_obey 122 = .ok (.aload_n 0, 1) := by decide +kernel
theorem dX6_obey_123 : decode cX6_obey 123 = .ok (.iload_n 2, 1) := by decide +kernel
theorem dX6_obey_124 : decode cX6_obey 124 = .ok (.iconst 2, 1) := by decide +kernel
theorem dX6_obey_125 : decode cX6_obey 125 = .ok (.iadd, 1) := by decide +kernel
theorem dX6_obey_126 : decode cX6_obey 126 = .ok (.invokevirtual 69, 3) := by decide +kernel
theorem dX6_obey_129 : decode cX6_obey 129 = .ok (.invokevirtual 87, 3) := by decide +kernel
theorem dX6_obey_132 : decode cX6_obey 132 = .ok (.ireturn, 1) := by decide +kernel
theorem dX6_obey_133 : decode cX6_obey 133 = .ok (.aload_n 1, 1) := by decide +kernel
theorem dX6_obey_134 : decode cX6_obey 134 = .ok (.aload_n 0, 1) := by decide +kernel
theorem dX6_obey_135 : decode cX6_obey 135 = .ok (.iload_n 2, 1) := by decide +kernel
theorem dX6_obey_136 : decode cX6_obey 136 = .ok (.iconst 1, 1) := by decide +kernel
theorem dX6_obey_137 : decode cX6_obey 137 = .ok (.iadd, 1) := by decide +kernel
theorem dX6_obey_138 : decode cX6_obey 138 = .ok (.invokevirtual 72, 3) := by decide +kernel
theorem dX6_obey_141 : decode cX6_obey 141 = .ok (.invokevirtual 91, 3) := by decide +kernel
theorem dX6_obey_144 : decode cX6_obey 144 = .ok (.invokestatic 95, 3) := by decide +kernel
theorem dX6_obey_147 : decode cX6_obey 147 = .ok (.ireturn, 1) := by decide +kernel
theorem dX6_obey_148 : decode cX6_obey 148 = .ok (.aload_n 1, 1) := by decide +kernel
theorem dX6_obey_149 : decode cX6_obey 149 = .ok (.aload_n 0, 1) := by decide +kernel
theorem dX6_obey_150 : decode cX6_obey 150 = .ok (.iload_n 2, 1) := by decide +kernel
theorem dX6_obey_151 : decode cX6_obey 151 = .ok (.iconst 1, 1) := by decide +kernel
theorem dX6_obey_152 : decode cX6_obey 152 = .ok (.iadd, 1) := by decide +kernel
theorem dX6_obey_153 : decode cX6_obey 153 = .ok (.invokevirtual 72, 3) := by decide +kernel
theorem dX6_obey_156 : decode cX6_obey 156 = .ok (.invokevirtual 91, 3) := by decide +kernel
theorem dX6_obey_159 : decode cX6_obey 159 = .ok (.invokestatic 99, 3) := by decide +kernel
theorem dX6_obey_162 : decode cX6_obey 162 = .ok (.ireturn, 1) := by decide +kernel
theorem dX6_obey_163 : decode cX6_obey 163 = .ok (.bipush (-2), 2) := by decide +kernel
theorem dX6_obey_165 : decode cX6_obey 165 = .ok (.ireturn, 1) := by decide +kernel
set_option maxRecDepth 20000 in
theorem ggX6_turnLamp_X11_yes : GoodIn wsX6_turnLamp wsX11_yes := goodIn_r _ [4] (by decide +kernel) (by decide +kernel)
set_option maxRecDepth 20000 in
theorem gX6_turnLamp_X11_yes_n108 : GoodIn wsX6_turnLamp (wsX11_yes) := ggX6_turnLamp_X11_yes
theorem dX6_turnLamp_0 : decode cX6_turnLamp 0 = .ok (.aload_n 0, 1) := by decide +kernel
theorem dX6_turnLamp_1 : decode cX6_turnLamp 1 = .ok (.ifnonnull 5, 3) := by decide +kernel
theorem dX6_turnLamp_4 : decode cX6_turnLamp 4 = .ok (.iconst (-1), 1) := by decide +kernel
theorem dX6_turnLamp_5 : decode cX6_turnLamp 5 = .ok (.ireturn, 1) := by decide +kernel
theorem dX6_turnLamp_6 : decode cX6_turnLamp 6 = .ok (.aload_n 0, 1) := by decide +kernel
theorem dX6_turnLamp_7 : decode cX6_turnLamp 7 = .ok (.aload_n 0, 1) := by decide +kernel
theorem dX6_turnLamp_8 : decode cX6_turnLamp 8 = .ok (.getfield 102, 3) := by decide +kernel
theorem dX6_turnLamp_11 : decode cX6_turnLamp 11 = .ok (.ifCond .ne 7, 3) := by decide +kernel
theorem dX6_turnLamp_14 : decode cX6_turnLamp 14 = .ok (.iconst 1, 1) := by decide +kernel
theorem dX6_turnLamp_15 : decode cX6_turnLamp 15 = .ok (.goto 4, 3) := by decide +kernel
theorem dX6_turnLamp_18 : decode cX6_turnLamp 18 = .ok (.iconst 0, 1) := by decide +kernel
theorem dX6_turnLamp_19 : decode cX6_turnLamp 19 = .ok (.putfield 102, 3) := by decide +kernel
theorem dX6_turnLamp_22 : decode cX6_turnLamp 22 = .ok (.aload_n 0, 1) := by decide +kernel
theorem dX6_turnLamp_23 : decode cX6_turnLamp 23 = .ok (.getfield 102, 3) := by decide +kernel
theorem dX6_turnLamp_26 : decode cX6_turnLamp 26 = .ok (.invokestatic 108, 3) := by decide +kernel
theorem dX6_turnLamp_29 : decode cX6_turnLamp 29 = .ok (.ireturn, 1) := by decide +kernel
set_option maxRecDepth 20000 in
theorem ggX6_breakLamp_X5_breakDown : GoodIn wsX6_breakLamp wsX5_breakDown := goodIn_r _ [6, 7, 8, 16, 17, 18, 19, 20, 21, 22, 23, 24, 25, 26, 27, 28, 29, 30, 31, 32, 33, 34, 35, 36, 37, 38, 39, 40, 41, 42, 43, 44, 45, 46, 47, 48, 49, 50] (by decide +kernel) (by decide +kernel)
set_option maxRecDepth 20000 in
theorem gX6_breakLamp_X5_breakDown_u112X0 : GoodIn wsX6_breakLamp (va_wsU RX6 112 RX0 "LampsThatRemember$Lamp" ⟨"LampsThatRemember$Lamp", "breakDown", "()V"⟩ yX5_breakDown wsX5_breakDown) := goodIn_app (goodIn_of _ (by decide +kernel)) ggX6_breakLamp_X5_breakDown
set_option maxRecDepth 20000 in
theorem gX6_breakLamp_X5_breakDown_u112X1 : GoodIn wsX6_breakLamp (va_wsU RX6 112 RX1 "LampsThatRemember$Lamp" ⟨"LampsThatRemember$Lamp", "breakDown", "()V"⟩ yX5_breakDown wsX5_breakDown) := goodIn_app (goodIn_of _ (by decide +kernel)) ggX6_breakLamp_X5_breakDown
set_option maxRecDepth 20000 in
theorem gX6_breakLamp_X5_breakDown_u112X3 : GoodIn wsX6_breakLamp (va_wsU RX6 112 RX3 "LampsThatRemember$Lamp" ⟨"LampsThatRemember$Lamp", "breakDown", "()V"⟩ yX5_breakDown wsX5_breakDown) := goodIn_app (goodIn_of _ (by decide +kernel)) ggX6_breakLamp_X5_breakDown
set_option maxRecDepth 20000 in
theorem gX6_breakLamp_X5_breakDown_u112X4 : GoodIn wsX6_breakLamp (va_wsU RX6 112 RX4 "LampsThatRemember$Lamp" ⟨"LampsThatRemember$Lamp", "breakDown", "()V"⟩ yX5_breakDown wsX5_breakDown) := goodIn_app (goodIn_of _ (by decide +kernel)) ggX6_breakLamp_X5_breakDown
set_option maxRecDepth 20000 in
theorem gX6_breakLamp_X5_breakDown : GoodIn wsX6_breakLamp (wsV RX6 112 RX5 yX5_breakDown wsX5_breakDown) := goodIn_app (goodIn_of _ (by decide +kernel)) ggX6_breakLamp_X5_breakDown
set_option maxRecDepth 20000 in
theorem gX6_breakLamp_X5_breakDown_u112X7 : GoodIn wsX6_breakLamp (va_wsU RX6 112 RX7 "LampsThatRemember$Lamp" ⟨"LampsThatRemember$Lamp", "breakDown", "()V"⟩ yX5_breakDown wsX5_breakDown) := goodIn_app (goodIn_of _ (by decide +kernel)) ggX6_breakLamp_X5_breakDown
set_option maxRecDepth 20000 in
theorem gX6_breakLamp_X5_breakDown_u112X8 : GoodIn wsX6_breakLamp (va_wsU RX6 112 RX8 "LampsThatRemember$Lamp" ⟨"LampsThatRemember$Lamp", "breakDown", "()V"⟩ yX5_breakDown wsX5_breakDown) := goodIn_app (goodIn_of _ (by decide +kernel)) ggX6_breakLamp_X5_breakDown
theorem dX6_breakLamp_0 : decode cX6_breakLamp 0 = .ok (.aload_n 0, 1) := by decide +kernel
theorem dX6_breakLamp_1 : decode cX6_breakLamp 1 = .ok (.ifnonnull 5, 3) := by decide +kernel
theorem dX6_breakLamp_4 : decode cX6_breakLamp 4 = .ok (.iconst (-1), 1) := by decide +kernel
theorem dX6_breakLamp_5 : decode cX6_breakLamp 5 = .ok (.ireturn, 1) := by decide +kernel
theorem dX6_breakLamp_6 : decode cX6_breakLamp 6 = .ok (.aload_n 0, 1) := by decide +kernel
theorem dX6_breakLamp_7 : decode cX6_breakLamp 7 = .ok (.invokevirtual 112, 3) := by decide +kernel
theorem dX6_breakLamp_10 : decode cX6_breakLamp 10 = .ok (.iconst 0, 1) := by decide +kernel
theorem dX6_breakLamp_11 : decode cX6_breakLamp 11 = .ok (.ireturn, 1) := by decide +kernel
set_option maxRecDepth 20000 in
theorem ggX6_kindAt_X6_at : GoodIn wsX6_kindAt wsX6_at := goodIn_r _ [5, 6, 7, 97, 98] (by decide +kernel) (by decide +kernel)
set_option maxRecDepth 20000 in
theorem gX6_kindAt_X6_at : GoodIn wsX6_kindAt (wsV RX6 37 RX6 yX6_at wsX6_at) := goodIn_app (goodIn_of _ (by decide +kernel)) ggX6_kindAt_X6_at
set_option maxRecDepth 20000 in
theorem ggX6_kindAt_J0_indexOf_0f7a4 : GoodIn wsX6_kindAt wsJ0_indexOf_0f7a4 := goodIn_r _ [12, 13, 14, 15, 11, 16, 17, 18, 19, 20, 21, 22, 23, 24, 25, 26, 27, 28, 29, 30, 31, 32, 33, 34, 35, 36, 37, 38, 39, 40, 41, 42, 43, 44, 45, 46, 47, 48, 49, 50, 51, 52, 53, 54, 55, 56, 57, 58, 59, 60, 61, 62, 63, 64, 65, 66, 67, 68, 69, 70, 71, 72, 73, 74, 75, 76, 77, 78, 79, 80, 81, 82, 83, 84, 85, 86, 87, 88, 89, 90, 91, 92, 93, 94, 95, 96] (by decide +kernel) (by decide +kernel)
set_option maxRecDepth 20000 in
theorem gX6_kindAt_J0_indexOf_0f7a4 : GoodIn wsX6_kindAt (wsV RX6 31 RJ0 yJ0_indexOf_0f7a4 wsJ0_indexOf_0f7a4) := goodIn_app (goodIn_of _ (by decide +kernel)) ggX6_kindAt_J0_indexOf_0f7a4
theorem dX6_kindAt_0 : decode cX6_kindAt 0 = .ok (.aload_n 0, 1) := by decide +kernel
theorem dX6_kindAt_1 : decode cX6_kindAt 1 = .ok (.iload_n 1, 1) := by decide +kernel
theorem dX6_kindAt_2 : decode cX6_kindAt 2 = .ok (.invokevirtual 37, 3) := by decide +kernel
theorem dX6_kindAt_5 : decode cX6_kindAt 5 = .ok (.istore_n 2, 1) := by decide +kernel
theorem dX6_kindAt_6 : decode cX6_kindAt 6 = .ok (.iload_n 2, 1) := by decide +kernel
theorem dX6_kindAt_7 : decode cX6_kindAt 7 = .ok (.ifCond .le 13, 3) := by decide +kernel
theorem dX6_kindAt_10 : decode cX6_kindAt 10 = .ok (.ldc 29, 2) := by decide +kernel
theorem dX6_kindAt_12 : decode cX6_kindAt 12 = .ok (.iload_n 2, 1) := by decide +kernel
theorem dX6_kindAt_13 : decode cX6_kindAt 13 = .ok (.i2c, 1) := by decide +kernel
theorem dX6_kindAt_14 : decode cX6_kindAt 14 = .ok (.invokevirtual 31, 3) := by decide +kernel
theorem dX6_kindAt_17 : decode cX6_kindAt 17 = .ok (.goto 5, 3) := by decide +kernel
theorem dX6_kindAt_20 : decode cX6_kindAt 20 = .ok (.bipush (-9), 2) := by decide +kernel
theorem dX6_kindAt_22 : decode cX6_kindAt 22 = .ok (.ireturn, 1) := by decide +kernel
set_option maxRecDepth 20000 in
theorem ggX6_digitAt_X6_at : GoodIn wsX6_digitAt wsX6_at := goodIn_r _ [5, 6, 7, 8, 9] (by decide +kernel) (by decide +kernel)
set_option maxRecDepth 20000 in
theorem gX6_digitAt_X6_at : GoodIn wsX6_digitAt (wsV RX6 37 RX6 yX6_at wsX6_at) := goodIn_app (goodIn_of _ (by decide +kernel)) ggX6_digitAt_X6_at
theorem dX6_digitAt_0 : decode cX6_digitAt 0 = .ok (.aload_n 0, 1) := by decide +kernel
theorem dX6_digitAt_1 : decode cX6_digitAt 1 = .ok (.iload_n 1, 1) := by decide +kernel
theorem dX6_digitAt_2 : decode cX6_digitAt 2 = .ok (.invokevirtual 37, 3) := by decide +kernel
theorem dX6_digitAt_5 : decode cX6_digitAt 5 = .ok (.bipush 48, 2) := by decide +kernel
theorem dX6_digitAt_7 : decode cX6_digitAt 7 = .ok (.isub, 1) := by decide +kernel
theorem dX6_digitAt_8 : decode cX6_digitAt 8 = .ok (.ireturn, 1) := by decide +kernel
set_option maxRecDepth 20000 in
theorem ggX6_cellAt_X6_digitAt : GoodIn wsX6_cellAt wsX6_digitAt := goodIn_r _ [5, 6, 7, 8, 4, 9, 10, 11, 12, 13] (by decide +kernel) (by decide +kernel)
set_option maxRecDepth 20000 in
theorem gX6_cellAt_X6_digitAt : GoodIn wsX6_cellAt (wsV RX6 72 RX6 yX6_digitAt wsX6_digitAt) := goodIn_app (goodIn_of _ (by decide +kernel)) ggX6_cellAt_X6_digitAt
theorem dX6_cellAt_0 : decode cX6_cellAt 0 = .ok (.aload_n 0, 1) := by decide +kernel
theorem dX6_cellAt_1 : decode cX6_cellAt 1 = .ok (.iload_n 1, 1) := by decide +kernel
theorem dX6_cellAt_2 : decode cX6_cellAt 2 = .ok (.invokevirtual 72, 3) := by decide +kernel
theorem dX6_cellAt_5 : decode cX6_cellAt 5 = .ok (.bipush 10, 2) := by decide +kernel
theorem dX6_cellAt_7 : decode cX6_cellAt 7 = .ok (.imul, 1) := by decide +kernel
theorem dX6_cellAt_8 : decode cX6_cellAt 8 = .ok (.aload_n 0, 1) := by decide +kernel
theorem dX6_cellAt_9 : decode cX6_cellAt 9 = .ok (.iload_n 1, 1) := by decide +kernel
theorem dX6_cellAt_10 : decode cX6_cellAt 10 = .ok (.iconst 1, 1) := by decide +kernel
theorem dX6_cellAt_11 : decode cX6_cellAt 11 = .ok (.iadd, 1) := by decide +kernel
theorem dX6_cellAt_12 : decode cX6_cellAt 12 = .ok (.invokevirtual 72, 3) := by decide +kernel
theorem dX6_cellAt_15 : decode cX6_cellAt 15 = .ok (.iadd, 1) := by decide +kernel
theorem dX6_cellAt_16 : decode cX6_cellAt 16 = .ok (.ireturn, 1) := by decide +kernel
set_option maxRecDepth 20000 in
theorem ggX7_init_X5_init : GoodIn wsX7_init wsX5_init := goodIn_r _ [3, 4, 5, 6, 7, 8, 9, 10, 11, 12, 13, 14, 15, 16, 17, 18, 19, 20, 21, 22, 23, 24, 25, 26, 27, 28, 29, 30, 31, 32, 33, 34, 35, 36, 37, 38, 39, 40, 41, 42, 43, 44] (by decide +kernel) (by decide +kernel)
set_option maxRecDepth 20000 in
theorem gX7_init_X5_init_n1 : GoodIn wsX7_init (wsX5_init) := ggX7_init_X5_init
theorem dX7_init_0 : decode cX7_init 0 = .ok (.aload_n 0, 1) := by decide +kernel
theorem dX7_init_1 : decode cX7_init 1 = .ok (.invokespecial 1, 3) := by decide +kernel
theorem dX7_init_4 : decode cX7_init 4 = .ok (.return_, 1) := by decide +kernel
theorem dX7_kind_0 : decode cX7_kind 0 = .ok (.iconst 2, 1) := by decide +kernel
theorem dX7_kind_1 : decode cX7_kind 1 = .ok (.ireturn, 1) := by decide +kernel
theorem dX7_room_0 : decode cX7_room 0 = .ok (.iconst 0, 1) := by decide +kernel
theorem dX7_room_1 : decode cX7_room 1 = .ok (.ireturn, 1) := by decide +kernel
set_option maxRecDepth 20000 in
theorem ggX8_init_X5_init : GoodIn wsX8_init wsX5_init := goodIn_r _ [3, 4, 5, 6, 7, 8, 9, 10, 11, 12, 13, 14, 15, 16, 17, 18, 19, 20, 21, 22, 23, 24, 25, 26, 27, 28, 29, 30, 31, 32, 33, 34, 35, 36, 37, 38, 39, 40, 41, 42, 43, 44] (by decide +kernel) (by decide +kernel)
set_option maxRecDepth 20000 in
theorem gX8_init_X5_init_n3 : GoodIn wsX8_init (wsX5_init) := ggX8_init_X5_init
theorem dX8_init_0 : decode cX8_init 0 = .ok (.aload_n 0, 1) := by decide +kernel
theorem dX8_init_1 : decode cX8_init 1 = .ok (.invokespecial 3, 3) := by decide +kernel
theorem dX8_init_4 : decode cX8_init 4 = .ok (.return_, 1) := by decide +kernel
theorem dX8_kind_0 : decode cX8_kind 0 = .ok (.iconst 5, 1) := by decide +kernel
theorem dX8_kind_1 : decode cX8_kind 1 = .ok (.ireturn, 1) := by decide +kernel
set_option maxRecDepth 20000 in
theorem ggX8_placeGivenUpFor_X5_sceneAt : GoodIn wsX8_placeGivenUpFor wsX5_sceneAt := goodIn_r _ [8, 9, 10, 16, 17, 18, 19, 20, 21, 22, 23, 24, 25, 26, 27, 28, 29, 30, 31, 32, 33, 34, 35, 36, 37, 38, 39, 40, 41, 42, 43, 44, 45, 46, 47, 48, 49, 50] (by decide +kernel) (by decide +kernel)
set_option maxRecDepth 20000 in
theorem gX8_placeGivenUpFor_X5_sceneAt_u15X4 : GoodIn wsX8_placeGivenUpFor (va_wsU RX8 15 RX4 "LampsThatRemember$Lamp" ⟨"LampsThatRemember$Overlaid", "sceneAt", "(I)I"⟩ yX5_sceneAt wsX5_sceneAt) := goodIn_app (goodIn_of _ (by decide +kernel)) ggX8_placeGivenUpFor_X5_sceneAt
set_option maxRecDepth 20000 in
theorem gX8_placeGivenUpFor_X5_sceneAt_u15X8 : GoodIn wsX8_placeGivenUpFor (va_wsU RX8 15 RX8 "LampsThatRemember$Lamp" ⟨"LampsThatRemember$Overlaid", "sceneAt", "(I)I"⟩ yX5_sceneAt wsX5_sceneAt) := goodIn_app (goodIn_of _ (by decide +kernel)) ggX8_placeGivenUpFor_X5_sceneAt
set_option maxRecDepth 20000 in
theorem ggX8_placeGivenUpFor_X9_cellIn : GoodIn wsX8_placeGivenUpFor wsX9_cellIn := goodIn_r _ [15] (by decide +kernel) (by decide +kernel)
set_option maxRecDepth 20000 in
theorem gX8_placeGivenUpFor_X9_cellIn : GoodIn wsX8_placeGivenUpFor (va_wsS RX8 19 yX9_cellIn wsX9_cellIn) := goodIn_app (goodIn_of _ (by decide +kernel)) ggX8_placeGivenUpFor_X9_cellIn
theorem dX8_placeGivenUpFor_0 : decode cX8_placeGivenUpFor 0 = .ok (.iconst 0, 1) := by decide +kernel
theorem dX8_placeGivenUpFor_1 : decode cX8_placeGivenUpFor 1 = .ok (.istore_n 2, 1) := by decide +kernel
theorem dX8_placeGivenUpFor_2 : decode cX8_placeGivenUpFor 2 = .ok (.iload_n 2, 1) := by decide +kernel
theorem dX8_placeGivenUpFor_3 : decode cX8_placeGivenUpFor 3 = .ok (.aload_n 0, 1) := by decide +kernel
theorem dX8_placeGivenUpFor_4 : decode cX8_placeGivenUpFor 4 = .ok (.getfield 9, 3) := by decide +kernel
theorem dX8_placeGivenUpFor_7 : decode cX8_placeGivenUpFor 7 = .ok (.if_icmp .ge 23, 3) := by decide +kernel
theorem dX8_placeGivenUpFor_10 : decode cX8_placeGivenUpFor 10 = .ok (.aload_n 0, 1) := by decide +kernel
theorem dX8_placeGivenUpFor_11 : decode cX8_placeGivenUpFor 11 = .ok (.iload_n 2, 1) := by decide +kernel
theorem dX8_placeGivenUpFor_12 : decode cX8_placeGivenUpFor 12 = .ok (.invokevirtual 15, 3) := by decide +kernel
theorem dX8_placeGivenUpFor_15 : decode cX8_placeGivenUpFor 15 = .ok (.invokestatic 19, 3) := by decide +kernel
theorem dX8_placeGivenUpFor_18 : decode cX8_placeGivenUpFor 18 = .ok (.iload_n 1, 1) := by decide +kernel
theorem dX8_placeGivenUpFor_19 : decode cX8_placeGivenUpFor 19 = .ok (.if_icmp .ne 5, 3) := by decide +kernel
theorem dX8_placeGivenUpFor_22 : decode cX8_placeGivenUpFor 22 = .ok (.iload_n 2, 1) := by decide +kernel
theorem dX8_placeGivenUpFor_23 : decode cX8_placeGivenUpFor 23 = .ok (.ireturn, 1) := by decide +kernel
theorem dX8_placeGivenUpFor_24 : decode cX8_placeGivenUpFor 24 = .ok (.iinc 2 1, 3) := by decide +kernel
theorem dX8_placeGivenUpFor_27 : decode cX8_placeGivenUpFor 27 = .ok (.goto (-25), 3) := by decide +kernel
theorem dX8_placeGivenUpFor_30 : decode cX8_placeGivenUpFor 30 = .ok (.bipush (-9), 2) := by decide +kernel
theorem dX8_placeGivenUpFor_32 : decode cX8_placeGivenUpFor 32 = .ok (.ireturn, 1) := by decide +kernel
theorem dX9_of_0 : decode cX9_of 0 = .ok (.iload_n 2, 1) := by decide +kernel
theorem dX9_of_1 : decode cX9_of 1 = .ok (.sipush 1000, 3) := by decide +kernel
theorem dX9_of_4 : decode cX9_of 4 = .ok (.imul, 1) := by decide +kernel
theorem dX9_of_5 : decode cX9_of 5 = .ok (.iload_n 1, 1) := by decide +kernel
theorem dX9_of_6 : decode cX9_of 6 = .ok (.bipush 10, 2) := by decide +kernel
theorem dX9_of_8 : decode cX9_of 8 = .ok (.imul, 1) := by decide +kernel
theorem dX9_of_9 : decode cX9_of 9 = .ok (.iadd, 1) := by decide +kernel
theorem dX9_of_10 : decode cX9_of 10 = .ok (.iload_n 0, 1) := by decide +kernel
theorem dX9_of_11 : decode cX9_of 11 = .ok (.iadd, 1) := by decide +kernel
theorem dX9_of_12 : decode cX9_of 12 = .ok (.ireturn, 1) := by decide +kernel
theorem dX9_whoIn_0 : decode cX9_whoIn 0 = .ok (.iload_n 0, 1) := by decide +kernel
theorem dX9_whoIn_1 : decode cX9_whoIn 1 = .ok (.bipush 10, 2) := by decide +kernel
theorem dX9_whoIn_3 : decode cX9_whoIn 3 = .ok (.irem, 1) := by decide +kernel
theorem dX9_whoIn_4 : decode cX9_whoIn 4 = .ok (.ireturn, 1) := by decide +kernel
theorem dX9_cellIn_0 : decode cX9_cellIn 0 = .ok (.iload_n 0, 1) := by decide +kernel
theorem dX9_cellIn_1 : decode cX9_cellIn 1 = .ok (.bipush 10, 2) := by decide +kernel
theorem dX9_cellIn_3 : decode cX9_cellIn 3 = .ok (.idiv, 1) := by decide +kernel
theorem dX9_cellIn_4 : decode cX9_cellIn 4 = .ok (.bipush 100, 2) := by decide +kernel
theorem dX9_cellIn_6 : decode cX9_cellIn 6 = .ok (.irem, 1) := by decide +kernel
theorem dX9_cellIn_7 : decode cX9_cellIn 7 = .ok (.ireturn, 1) := by decide +kernel
theorem dX9_minuteIn_0 : decode cX9_minuteIn 0 = .ok (.iload_n 0, 1) := by decide +kernel
theorem dX9_minuteIn_1 : decode cX9_minuteIn 1 = .ok (.sipush 1000, 3) := by decide +kernel
theorem dX9_minuteIn_4 : decode cX9_minuteIn 4 = .ok (.idiv, 1) := by decide +kernel
theorem dX9_minuteIn_5 : decode cX9_minuteIn 5 = .ok (.ireturn, 1) := by decide +kernel
theorem dX10_init_0 : decode cX10_init 0 = .ok (.aload_n 0, 1) := by decide +kernel
theorem dX10_init_1 : decode cX10_init 1 = .ok (.invokespecial 3, 3) := by decide +kernel
theorem dX10_init_4 : decode cX10_init 4 = .ok (.aload_n 0, 1) := by decide +kernel
theorem dX10_init_5 : decode cX10_init 5 = .ok (.bipush 6, 2) := by decide +kernel
theorem dX10_init_7 : decode cX10_init 7 = .ok (.anewarray 9, 3) := by decide +kernel
theorem dX10_init_10 : decode cX10_init 10 = .ok (.putfield 11, 3) := by decide +kernel
theorem dX10_init_13 : decode cX10_init 13 = .ok (.aload_n 0, 1) := by decide +kernel
theorem dX10_init_14 : decode cX10_init 14 = .ok (.iconst 4, 1) := by decide +kernel
theorem dX10_init_15 : decode cX10_init 15 = .ok (.newarray .int, 2) := by decide +kernel
theorem dX10_init_17 : decode cX10_init 17 = .ok (.putfield 17, 3) := by decide +kernel
theorem dX10_init_20 : decode cX10_init 20 = .ok (.return_, 1) := by decide +kernel
set_option maxRecDepth 20000 in
theorem ggX10_become_X10_lampAt : GoodIn wsX10_become wsX10_lampAt := goodIn_r _ [11, 4, 1, 101, 102, 103, 104, 105, 106] (by decide +kernel) (by decide +kernel)
set_option maxRecDepth 20000 in
theorem gX10_become_X10_lampAt : GoodIn wsX10_become (wsV RX10 21 RX10 yX10_lampAt wsX10_lampAt) := goodIn_app (goodIn_of _ (by decide +kernel)) ggX10_become_X10_lampAt
set_option maxRecDepth 20000 in
theorem ggX10_become_X5_twin : GoodIn wsX10_become wsX5_twin := goodIn_r _ [17, 18, 19, 20, 21, 22, 23, 24, 25, 26, 27, 28, 29, 30, 31, 32, 33, 34, 35, 36, 37, 38, 39, 40, 41, 42, 43, 44, 45, 16, 46, 47, 48, 49, 50, 51, 52, 53, 54, 55, 56, 57, 58, 59, 60, 61, 62, 63, 64, 65, 66, 67, 68, 69, 70, 71, 72, 73, 74, 75, 76, 77, 78, 79, 80, 81, 82, 83, 84, 85, 86, 87, 88, 89, 107, 108, 109, 110, 111, 112, 113, 114, 115, 116, 117, 118, 119, 120, 121, 122, 123, 124, 125, 126, 127, 128, 129, 130, 131, 132, 133, 134, 135, 136, 137, 138, 139, 140, 141] (by decide +kernel) (by decide +kernel)
set_option maxRecDepth 20000 in
theorem gX10_become_X5_twin_u25X0 : GoodIn wsX10_become (va_wsU RX10 25 RX0 "LampsThatRemember$Lamp" ⟨"LampsThatRemember$Lamp", "twin", "()LLampsThatRemember$Lamp;"⟩ yX5_twin wsX5_twin) := goodIn_app (goodIn_of _ (by decide +kernel)) ggX10_become_X5_twin
set_option maxRecDepth 20000 in
theorem gX10_become_X5_twin_u25X1 : GoodIn wsX10_become (va_wsU RX10 25 RX1 "LampsThatRemember$Lamp" ⟨"LampsThatRemember$Lamp", "twin", "()LLampsThatRemember$Lamp;"⟩ yX5_twin wsX5_twin) := goodIn_app (goodIn_of _ (by decide +kernel)) ggX10_become_X5_twin
set_option maxRecDepth 20000 in
theorem gX10_become_X5_twin_u25X3 : GoodIn wsX10_become (va_wsU RX10 25 RX3 "LampsThatRemember$Lamp" ⟨"LampsThatRemember$Lamp", "twin", "()LLampsThatRemember$Lamp;"⟩ yX5_twin wsX5_twin) := goodIn_app (goodIn_of _ (by decide +kernel)) ggX10_become_X5_twin
set_option maxRecDepth 20000 in
theorem gX10_become_X5_twin_u25X4 : GoodIn wsX10_become (va_wsU RX10 25 RX4 "LampsThatRemember$Lamp" ⟨"LampsThatRemember$Lamp", "twin", "()LLampsThatRemember$Lamp;"⟩ yX5_twin wsX5_twin) := goodIn_app (goodIn_of _ (by decide +kernel)) ggX10_become_X5_twin
set_option maxRecDepth 20000 in
theorem gX10_become_X5_twin : GoodIn wsX10_become (wsV RX10 25 RX5 yX5_twin wsX5_twin) := goodIn_app (goodIn_of _ (by decide +kernel)) ggX10_become_X5_twin
set_option maxRecDepth 20000 in
theorem gX10_become_X5_twin_u25X7 : GoodIn wsX10_become (va_wsU RX10 25 RX7 "LampsThatRemember$Lamp" ⟨"LampsThatRemember$Lamp", "twin", "()LLampsThatRemember$Lamp;"⟩ yX5_twin wsX5_twin) := goodIn_app (goodIn_of _ (by decide +kernel)) ggX10_become_X5_twin
set_option maxRecDepth 20000 in
theorem gX10_become_X5_twin_u25X8 : GoodIn wsX10_become (va_wsU RX10 25 RX8 "LampsThatRemember$Lamp" ⟨"LampsThatRemember$Lamp", "twin", "()LLampsThatRemember$Lamp;"⟩ yX5_twin wsX5_twin) := goodIn_app (goodIn_of _ (by decide +kernel)) ggX10_become_X5_twin
set_option maxRecDepth 20000 in
theorem ggX10_become_X10_cellOf : GoodIn wsX10_become wsX10_cellOf := goodIn_r _ [100, 5, 2, 101, 102, 103, 104, 105, 106] (by decide +kernel) (by decide +kernel)
set_option maxRecDepth 20000 in
theorem gX10_become_X10_cellOf : GoodIn wsX10_become (wsV RX10 29 RX10 yX10_cellOf wsX10_cellOf) := goodIn_app (goodIn_of _ (by decide +kernel)) ggX10_become_X10_cellOf
theorem dX10_become_0 : decode cX10_become 0 = .ok (.aload_n 1, 1) := by decide +kernel
theorem dX10_become_1 : decode cX10_become 1 = .ok (.ifnonnull 4, 3) := by decide +kernel
theorem dX10_become_4 : decode cX10_become 4 = .ok (.return_, 1) := by decide +kernel
theorem dX10_become_5 : decode cX10_become 5 = .ok (.iconst 0, 1) := by decide +kernel
theorem dX10_become_6 : decode cX10_become 6 = .ok (.istore_n 2, 1) := by decide +kernel
theorem dX10_become_7 : decode cX10_become 7 = .ok (.iload_n 2, 1) := by decide +kernel
theorem dX10_become_8 : decode cX10_become 8 = .ok (.aload_n 0, 1) := by decide +kernel
theorem dX10_become_9 : decode cX10_become 9 = .ok (.getfield 11, 3) := by decide +kernel
theorem dX10_become_12 : decode cX10_become 12 = .ok (.arraylength, 1) := by decide +kernel
theorem dX10_become_13 : decode cX10_become 13 = .ok (.if_icmp .ge 33, 3) := by decide +kernel
theorem dX10_become_16 : decode cX10_become 16 = .ok (.aload_n 1, 1) := by decide +kernel
theorem dX10_become_17 : decode cX10_become 17 = .ok (.iload_n 2, 1) := by decide +kernel
theorem dX10_become_18 : decode cX10_become 18 = .ok (.invokevirtual 21, 3) := by decide +kernel
theorem dX10_become_21 : decode cX10_become 21 = .ok (.astore_n 3, 1) := by decide +kernel
theorem dX10_become_22 : decode cX10_become 22 = .ok (.aload_n 0, 1) := by decide +kernel
theorem dX10_become_23 : decode cX10_become 23 = .ok (.getfield 11, 3) := by decide +kernel
theorem dX10_become_26 : decode cX10_become 26 = .ok (.iload_n 2, 1) := by decide +kernel
theorem dX10_become_27 : decode cX10_become 27 = .ok (.aload_n 3, 1) := by decide +kernel
theorem dX10_become_28 : decode cX10_become 28 = .ok (.ifnonnull 7, 3) := by decide +kernel
theorem dX10_become_31 : decode cX10_become 31 = .ok (.aconst_null, 1) := by decide +kernel
theorem dX10_become_32 : decode cX10_become 32 = .ok (.goto 7, 3) := by decide +kernel
theorem dX10_become_35 : decode cX10_become 35 = .ok (.aload_n 3, 1) := by decide +kernel
theorem dX10_become_36 : decode cX10_become 36 = .ok (.invokevirtual 25, 3) := by decide +kernel
theorem dX10_become_39 : decode cX10_become 39 = .ok (.aastore, 1) := by decide +kernel
theorem dX10_become_40 : decode cX10_become 40 = .ok (.iinc 2 1, 3) := by decide +kernel
theorem dX10_become_43 : decode cX10_become 43 = .ok (.goto (-36), 3) := by decide +kernel
theorem dX10_become_46 : decode cX10_become 46 = .ok (.iconst 0, 1) := by decide +kernel
theorem dX10_become_47 : decode cX10_become 47 = .ok (.istore_n 2, 1) := by decide +kernel
theorem dX10_become_48 : decode cX10_become 48 = .ok (.iload_n 2, 1) := by decide +kernel
theorem dX10_become_49 : decode cX10_become 49 = .ok (.aload_n 0, 1) := by decide +kernel
theorem dX10_become_50 : decode cX10_become 50 = .ok (.getfield 17, 3) := by decide +kernel
theorem dX10_become_53 : decode cX10_become 53 = .ok (.arraylength, 1) := by decide +kernel
theorem dX10_become_54 : decode cX10_become 54 = .ok (.if_icmp .ge 20, 3) := by decide +kernel
theorem dX10_become_57 : decode cX10_become 57 = .ok (.aload_n 0, 1) := by decide +kernel
theorem dX10_become_58 : decode cX10_become 58 = .ok (.getfield 17, 3) := by decide +kernel
theorem dX10_become_61 : decode cX10_become 61 = .ok (.iload_n 2, 1) := by decide +kernel
theorem dX10_become_62 : decode cX10_become 62 = .ok (.aload_n 1, 1) := by decide +kernel
theorem dX10_become_63 : decode cX10_become 63 = .ok (.iload_n 2, 1) := by decide +kernel
theorem dX10_become_64 : decode cX10_become 64 = .ok (.invokevirtual 29, 3) := by decide +kernel
theorem dX10_become_67 : decode cX10_become 67 = .ok (.iastore, 1) := by decide +kernel
theorem dX10_become_68 : decode cX10_become 68 = .ok (.iinc 2 1, 3) := by decide +kernel
theorem dX10_become_71 : decode cX10_become 71 = .ok (.goto (-23), 3) := by decide +kernel
theorem dX10_become_74 : decode cX10_become 74 = .ok (.aload_n 0, 1) := by decide +kernel
theorem dX10_become_75 : decode cX10_become 75 = .ok (.aload_n 1, 1) := by decide +kernel
theorem dX10_become_76 : decode cX10_become 76 = .ok (.getfield 33, 3) := by decide +kernel
theorem dX10_become_79 : decode cX10_become 79 = .ok (.putfield 33, 3) := by decide +kernel
theorem dX10_become_82 : decode cX10_become 82 = .ok (.aload_n 0, 1) := by decide +kernel
theorem dX10_become_83 : decode cX10_become 83 = .ok (.aload_n 1, 1) := by decide +kernel
theorem dX10_become_84 : decode cX10_become 84 = .ok (.getfield 37, 3) := by decide +kernel
theorem dX10_become_87 : decode cX10_become 87 = .ok (.putfield 37, 3) := by decide +kernel
theorem dX10_become_90 : decode cX10_become 90 = .ok (.aload_n 0, 1) := by decide +kernel
theorem dX10_become_91 : decode cX10_become 91 = .ok (.aload_n 1, 1) := by decide +kernel
theorem dX10_become_92 : decode cX10_become 92 = .ok (.getfield 41, 3) := by decide +kernel
theorem dX10_become_95 : decode cX10_become 95 = .ok (.putfield 41, 3) := by decide +kernel
theorem dX10_become_98 : decode cX10_become 98 = .ok (.aload_n 0, 1) := by decide +kernel
theorem dX10_become_99 : decode cX10_become 99 = .ok (.aload_n 1, 1) := by decide +kernel
theorem dX10_become_100 : decode cX10_become 100 = .ok (.getfield 44, 3) := by decide +kernel
theorem dX10_become_103 : decode cX10_become 103 = .ok (.putfield 44, 3) := by decide +kernel
theorem dX10_become_106 : decode cX10_become 106 = .ok (.return_, 1) := by decide +kernel
