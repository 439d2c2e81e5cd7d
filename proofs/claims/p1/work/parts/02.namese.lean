theorem dX10_look_0 : decode cX10_look 0 = .ok (.aload_n 0, 1) := by decide +kernel
theorem dX10_look_1 : decode cX10_look 1 = .ok (.getfield 36, 3) := by decide +kernel
theorem dX10_look_4 : decode cX10_look 4 = .ok (.iload_n 1, 1) := by decide +kernel
theorem dX10_look_5 : decode cX10_look 5 = .ok (.invokevirtual 112, 3) := by decide +kernel
theorem dX10_look_8 : decode cX10_look 8 = .ok (.ifCond .ne 8, 3) := by decide +kernel
theorem dX10_look_11 : decode cX10_look 11 = .ok (.aload_n 0, 1) := by decide +kernel
theorem dX10_look_12 : decode cX10_look 12 = .ok (.invokevirtual 90, 3) := by decide +kernel
theorem dX10_look_15 : decode cX10_look 15 = .ok (.ireturn, 1) := by decide +kernel
set_option maxRecDepth 20000 in
theorem ggX10_two_X4_hasGleaner : GoodIn wsX10_two wsX4_hasGleaner := goodIn_r _ [10, 11, 12, 13, 14, 104, 105, 106, 107, 108, 109, 110, 111, 112, 113, 114] (by decide +kernel) (by decide +kernel)
set_option maxRecDepth 20000 in
theorem gX10_two_X4_hasGleaner : GoodIn wsX10_two (wsV RX10 167 RX4 yX4_hasGleaner wsX4_hasGleaner) := goodIn_app (goodIn_of _ (by decide +kernel)) ggX10_two_X4_hasGleaner
set_option maxRecDepth 20000 in
theorem ggX10_two_X10_refuseTen : GoodIn wsX10_two wsX10_refuseTen := goodIn_r _ [18, 19, 92, 93, 94, 95, 96, 97, 98, 99, 100, 101, 102, 103] (by decide +kernel) (by decide +kernel)
set_option maxRecDepth 20000 in
theorem gX10_two_X10_refuseTen : GoodIn wsX10_two (wsV RX10 209 RX10 yX10_refuseTen wsX10_refuseTen) := goodIn_app (goodIn_of _ (by decide +kernel)) ggX10_two_X10_refuseTen
theorem dX10_two_0 : decode cX10_two 0 = .ok (.aload_n 0, 1) := by decide +kernel
theorem dX10_two_1 : decode cX10_two 1 = .ok (.getfield 36, 3) := by decide +kernel
theorem dX10_two_4 : decode cX10_two 4 = .ok (.iload_n 1, 1) := by decide +kernel
theorem dX10_two_5 : decode cX10_two 5 = .ok (.invokevirtual 167, 3) := by decide +kernel
theorem dX10_two_8 : decode cX10_two 8 = .ok (.ifCond .eq 24, 3) := by decide +kernel
theorem dX10_two_32 : decode cX10_two 32 = .ok (.aload_n 0, 1) := by decide +kernel
theorem dX10_two_33 : decode cX10_two 33 = .ok (.invokevirtual 209, 3) := by decide +kernel
theorem dX10_two_36 : decode cX10_two 36 = .ok (.ireturn, 1) := by decide +kernel
set_option maxRecDepth 20000 in
theorem ggX10_rains_X4_hasField : GoodIn wsX10_rains wsX4_hasField := goodIn_r _ [16, 17, 18, 19, 20, 112, 113, 114, 115, 116, 117, 118, 119, 120, 121, 122] (by decide +kernel) (by decide +kernel)
set_option maxRecDepth 20000 in
theorem gX10_rains_X4_hasField : GoodIn wsX10_rains (wsV RX10 112 RX4 yX4_hasField wsX4_hasField) := goodIn_app (goodIn_of _ (by decide +kernel)) ggX10_rains_X4_hasField
set_option maxRecDepth 20000 in
theorem ggX10_rains_X10_refuseBad : GoodIn wsX10_rains wsX10_refuseBad := goodIn_r _ [27, 28, 100, 101, 102, 103, 104, 105, 106, 107, 108, 109, 110, 111] (by decide +kernel) (by decide +kernel)
set_option maxRecDepth 20000 in
theorem gX10_rains_X10_refuseBad : GoodIn wsX10_rains (wsV RX10 90 RX10 yX10_refuseBad wsX10_refuseBad) := goodIn_app (goodIn_of _ (by decide +kernel)) ggX10_rains_X10_refuseBad
theorem dX10_rains_0 : decode cX10_rains 0 = .ok (.aload_n 0, 1) := by decide +kernel
theorem dX10_rains_1 : decode cX10_rains 1 = .ok (.getfield 36, 3) := by decide +kernel
theorem dX10_rains_4 : decode cX10_rains 4 = .ok (.iload_n 1, 1) := by decide +kernel
theorem dX10_rains_5 : decode cX10_rains 5 = .ok (.invokevirtual 112, 3) := by decide +kernel
theorem dX10_rains_8 : decode cX10_rains 8 = .ok (.ifCond .eq 13, 3) := by decide +kernel
theorem dX10_rains_21 : decode cX10_rains 21 = .ok (.aload_n 0, 1) := by decide +kernel
theorem dX10_rains_22 : decode cX10_rains 22 = .ok (.invokevirtual 90, 3) := by decide +kernel
theorem dX10_rains_25 : decode cX10_rains 25 = .ok (.ireturn, 1) := by decide +kernel
set_option maxRecDepth 20000 in
theorem ggX10_summers_X10_isBelow : GoodIn wsX10_summers wsX10_isBelow := goodIn_r _ [15] (by decide +kernel) (by decide +kernel)
set_option maxRecDepth 20000 in
theorem gX10_summers_X10_isBelow : GoodIn wsX10_summers (va_wsS RX10 86 yX10_isBelow wsX10_isBelow) := goodIn_app (goodIn_of _ (by decide +kernel)) ggX10_summers_X10_isBelow
set_option maxRecDepth 20000 in
theorem ggX10_summers_X10_isIn : GoodIn wsX10_summers wsX10_isIn := goodIn_r _ [18] (by decide +kernel) (by decide +kernel)
set_option maxRecDepth 20000 in
theorem gX10_summers_X10_isIn : GoodIn wsX10_summers (va_wsS RX10 147 yX10_isIn wsX10_isIn) := goodIn_app (goodIn_of _ (by decide +kernel)) ggX10_summers_X10_isIn
set_option maxRecDepth 20000 in
theorem ggX10_summers_X10_refuseBad : GoodIn wsX10_summers wsX10_refuseBad := goodIn_r _ [22, 23, 126, 127, 128, 129, 130, 131, 132, 133, 134, 135, 136, 137] (by decide +kernel) (by decide +kernel)
set_option maxRecDepth 20000 in
theorem gX10_summers_X10_refuseBad : GoodIn wsX10_summers (wsV RX10 90 RX10 yX10_refuseBad wsX10_refuseBad) := goodIn_app (goodIn_of _ (by decide +kernel)) ggX10_summers_X10_refuseBad
set_option maxRecDepth 20000 in
theorem ggX10_summers_X1_become : GoodIn wsX10_summers wsX1_become := goodIn_r _ [28, 29, 30, 31, 32, 33, 34, 35, 36, 37, 38, 149, 150, 151, 152, 153, 154] (by decide +kernel) (by decide +kernel)
set_option maxRecDepth 20000 in
theorem gX10_summers_X1_become : GoodIn wsX10_summers (wsV RX10 201 RX1 yX1_become wsX1_become) := goodIn_app (goodIn_of _ (by decide +kernel)) ggX10_summers_X1_become
set_option maxRecDepth 20000 in
theorem ggX10_summers_X4_fade : GoodIn wsX10_summers wsX4_fade := goodIn_r _ [43, 44, 45, 46, 47, 48, 49, 50, 51, 52, 53, 54, 14, 55, 138, 139, 140, 141, 142, 143, 144, 145, 146, 147, 148, 149, 150, 151, 152, 153, 154] (by decide +kernel) (by decide +kernel)
set_option maxRecDepth 20000 in
theorem gX10_summers_X4_fade : GoodIn wsX10_summers (wsV RX10 160 RX4 yX4_fade wsX4_fade) := goodIn_app (goodIn_of _ (by decide +kernel)) ggX10_summers_X4_fade
set_option maxRecDepth 20000 in
theorem ggX10_summers_X4_gather : GoodIn wsX10_summers wsX4_gather := goodIn_r _ [59, 46, 53, 60, 61, 62, 42, 63, 64, 65, 66, 67, 44, 68, 69, 70, 71, 72, 73, 74, 47, 75, 76, 77, 78, 79, 80, 81, 82, 83, 84, 50, 85, 86, 87, 88, 89, 90, 91, 92, 93, 94, 95, 96, 97, 98, 99, 100, 101, 102, 103, 104, 105, 106, 107, 108, 109, 110, 111, 112, 113, 114, 115, 116, 49, 51, 117, 118, 119, 120, 121, 122, 123, 124, 45, 48, 125, 138, 139, 140, 141, 142, 143, 144, 145, 146, 147, 148, 149, 150, 151, 152, 153, 154] (by decide +kernel) (by decide +kernel)
set_option maxRecDepth 20000 in
theorem gX10_summers_X4_gather : GoodIn wsX10_summers (wsV RX10 143 RX4 yX4_gather wsX4_gather) := goodIn_app (goodIn_of _ (by decide +kernel)) ggX10_summers_X4_gather
theorem dX10_summers_0 : decode cX10_summers 0 = .ok (.iload_n 1, 1) := by decide +kernel
theorem dX10_summers_1 : decode cX10_summers 1 = .ok (.ldc_w 269, 3) := by decide +kernel
theorem dX10_summers_4 : decode cX10_summers 4 = .ok (.invokestatic 86, 3) := by decide +kernel
theorem dX10_summers_7 : decode cX10_summers 7 = .ok (.ifCond .eq 13, 3) := by decide +kernel
theorem dX10_summers_10 : decode cX10_summers 10 = .ok (.iload_n 2, 1) := by decide +kernel
theorem dX10_summers_11 : decode cX10_summers 11 = .ok (.iconst 0, 1) := by decide +kernel
theorem dX10_summers_12 : decode cX10_summers 12 = .ok (.bipush 60, 2) := by decide +kernel
theorem dX10_summers_14 : decode cX10_summers 14 = .ok (.invokestatic 147, 3) := by decide +kernel
theorem dX10_summers_17 : decode cX10_summers 17 = .ok (.ifCond .ne 8, 3) := by decide +kernel
theorem dX10_summers_20 : decode cX10_summers 20 = .ok (.aload_n 0, 1) := by decide +kernel
theorem dX10_summers_21 : decode cX10_summers 21 = .ok (.invokevirtual 90, 3) := by decide +kernel
theorem dX10_summers_24 : decode cX10_summers 24 = .ok (.ireturn, 1) := by decide +kernel
theorem dX10_summers_25 : decode cX10_summers 25 = .ok (.aload_n 0, 1) := by decide +kernel
theorem dX10_summers_26 : decode cX10_summers 26 = .ok (.getfield 58, 3) := by decide +kernel
theorem dX10_summers_29 : decode cX10_summers 29 = .ok (.aload_n 0, 1) := by decide +kernel
theorem dX10_summers_30 : decode cX10_summers 30 = .ok (.getfield 36, 3) := by decide +kernel
theorem dX10_summers_33 : decode cX10_summers 33 = .ok (.getfield 140, 3) := by decide +kernel
theorem dX10_summers_36 : decode cX10_summers 36 = .ok (.invokevirtual 201, 3) := by decide +kernel
theorem dX10_summers_39 : decode cX10_summers 39 = .ok (.iload_n 1, 1) := by decide +kernel
theorem dX10_summers_40 : decode cX10_summers 40 = .ok (.i2l, 1) := by decide +kernel
theorem dX10_summers_41 : decode cX10_summers 41 = .ok (.lstore_n 3, 1) := by decide +kernel
theorem dX10_summers_42 : decode cX10_summers 42 = .ok (.iconst 0, 1) := by decide +kernel
theorem dX10_summers_43 : decode cX10_summers 43 = .ok (.istore 5, 2) := by decide +kernel
theorem dX10_summers_45 : decode cX10_summers 45 = .ok (.iconst 0, 1) := by decide +kernel
theorem dX10_summers_46 : decode cX10_summers 46 = .ok (.istore 6, 2) := by decide +kernel
theorem dX10_summers_48 : decode cX10_summers 48 = .ok (.iload 6, 2) := by decide +kernel
theorem dX10_summers_50 : decode cX10_summers 50 = .ok (.iload_n 2, 1) := by decide +kernel
theorem dX10_summers_51 : decode cX10_summers 51 = .ok (.if_icmp .ge 80, 3) := by decide +kernel
theorem dX10_summers_54 : decode cX10_summers 54 = .ok (.lload_n 3, 1) := by decide +kernel
theorem dX10_summers_55 : decode cX10_summers 55 = .ok (.ldc2_w 270, 3) := by decide +kernel
theorem dX10_summers_58 : decode cX10_summers 58 = .ok (.lmul, 1) := by decide +kernel
theorem dX10_summers_59 : decode cX10_summers 59 = .ok (.ldc2_w 272, 3) := by decide +kernel
theorem dX10_summers_62 : decode cX10_summers 62 = .ok (.ladd, 1) := by decide +kernel
theorem dX10_summers_63 : decode cX10_summers 63 = .ok (.ldc2_w 274, 3) := by decide +kernel
theorem dX10_summers_66 : decode cX10_summers 66 = .ok (.lrem, 1) := by decide +kernel
theorem dX10_summers_67 : decode cX10_summers 67 = .ok (.lstore_n 3, 1) := by decide +kernel
theorem dX10_summers_68 : decode cX10_summers 68 = .ok (.aload_n 0, 1) := by decide +kernel
theorem dX10_summers_69 : decode cX10_summers 69 = .ok (.getfield 58, 3) := by decide +kernel
theorem dX10_summers_72 : decode cX10_summers 72 = .ok (.getfield 151, 3) := by decide +kernel
theorem dX10_summers_75 : decode cX10_summers 75 = .ok (.bipush 12, 2) := by decide +kernel
theorem dX10_summers_77 : decode cX10_summers 77 = .ok (.if_icmp .lt 14, 3) := by decide +kernel
theorem dX10_summers_80 : decode cX10_summers 80 = .ok (.aload_n 0, 1) := by decide +kernel
theorem dX10_summers_81 : decode cX10_summers 81 = .ok (.getfield 36, 3) := by decide +kernel
theorem dX10_summers_84 : decode cX10_summers 84 = .ok (.aload_n 0, 1) := by decide +kernel
theorem dX10_summers_85 : decode cX10_summers 85 = .ok (.getfield 58, 3) := by decide +kernel
theorem dX10_summers_88 : decode cX10_summers 88 = .ok (.invokevirtual 160, 3) := by decide +kernel
theorem dX10_summers_91 : decode cX10_summers 91 = .ok (.aload_n 0, 1) := by decide +kernel
theorem dX10_summers_92 : decode cX10_summers 92 = .ok (.getfield 58, 3) := by decide +kernel
theorem dX10_summers_95 : decode cX10_summers 95 = .ok (.lload_n 3, 1) := by decide +kernel
theorem dX10_summers_96 : decode cX10_summers 96 = .ok (.ldc2_w 276, 3) := by decide +kernel
theorem dX10_summers_99 : decode cX10_summers 99 = .ok (.ldiv, 1) := by decide +kernel
theorem dX10_summers_100 : decode cX10_summers 100 = .ok (.ldc2_w 278, 3) := by decide +kernel
theorem dX10_summers_103 : decode cX10_summers 103 = .ok (.lrem, 1) := by decide +kernel
theorem dX10_summers_104 : decode cX10_summers 104 = .ok (.l2i, 1) := by decide +kernel
theorem dX10_summers_105 : decode cX10_summers 105 = .ok (.putfield 173, 3) := by decide +kernel
theorem dX10_summers_108 : decode cX10_summers 108 = .ok (.iload 5, 2) := by decide +kernel
theorem dX10_summers_110 : decode cX10_summers 110 = .ok (.aload_n 0, 1) := by decide +kernel
theorem dX10_summers_111 : decode cX10_summers 111 = .ok (.getfield 36, 3) := by decide +kernel
theorem dX10_summers_114 : decode cX10_summers 114 = .ok (.aload_n 0, 1) := by decide +kernel
theorem dX10_summers_115 : decode cX10_summers 115 = .ok (.getfield 58, 3) := by decide +kernel
theorem dX10_summers_118 : decode cX10_summers 118 = .ok (.iconst 1, 1) := by decide +kernel
theorem dX10_summers_119 : decode cX10_summers 119 = .ok (.invokevirtual 143, 3) := by decide +kernel
theorem dX10_summers_122 : decode cX10_summers 122 = .ok (.iadd, 1) := by decide +kernel
theorem dX10_summers_123 : decode cX10_summers 123 = .ok (.istore 5, 2) := by decide +kernel
theorem dX10_summers_125 : decode cX10_summers 125 = .ok (.iinc 6 1, 3) := by decide +kernel
theorem dX10_summers_128 : decode cX10_summers 128 = .ok (.goto (-80), 3) := by decide +kernel
theorem dX10_summers_131 : decode cX10_summers 131 = .ok (.iload 5, 2) := by decide +kernel
theorem dX10_summers_133 : decode cX10_summers 133 = .ok (.ireturn, 1) := by decide +kernel
set_option maxRecDepth 20000 in
theorem ggX10_part_X10_isBelow : GoodIn wsX10_part wsX10_isBelow := goodIn_r _ [6] (by decide +kernel) (by decide +kernel)
set_option maxRecDepth 20000 in
theorem gX10_part_X10_isBelow : GoodIn wsX10_part (va_wsS RX10 86 yX10_isBelow wsX10_isBelow) := goodIn_app (goodIn_of _ (by decide +kernel)) ggX10_part_X10_isBelow
set_option maxRecDepth 20000 in
theorem ggX10_part_X10_refuseBad : GoodIn wsX10_part wsX10_refuseBad := goodIn_r _ [10, 11, 12, 13, 14, 15, 16, 17, 18, 19, 20, 21, 22, 23] (by decide +kernel) (by decide +kernel)
set_option maxRecDepth 20000 in
theorem gX10_part_X10_refuseBad : GoodIn wsX10_part (wsV RX10 90 RX10 yX10_refuseBad wsX10_refuseBad) := goodIn_app (goodIn_of _ (by decide +kernel)) ggX10_part_X10_refuseBad
theorem dX10_part_0 : decode cX10_part 0 = .ok (.iload_n 1, 1) := by decide +kernel
theorem dX10_part_1 : decode cX10_part 1 = .ok (.iconst 2, 1) := by decide +kernel
theorem dX10_part_2 : decode cX10_part 2 = .ok (.invokestatic 86, 3) := by decide +kernel
theorem dX10_part_5 : decode cX10_part 5 = .ok (.ifCond .ne 9, 3) := by decide +kernel
theorem dX10_part_8 : decode cX10_part 8 = .ok (.aload_n 0, 1) := by decide +kernel
theorem dX10_part_9 : decode cX10_part 9 = .ok (.invokevirtual 90, 3) := by decide +kernel
theorem dX10_part_12 : decode cX10_part 12 = .ok (.i2l, 1) := by decide +kernel
theorem dX10_part_13 : decode cX10_part 13 = .ok (.lreturn, 1) := by decide +kernel
theorem dX10_part_14 : decode cX10_part 14 = .ok (.iload_n 1, 1) := by decide +kernel
theorem dX10_part_15 : decode cX10_part 15 = .ok (.ifCond .ne 11, 3) := by decide +kernel
theorem dX10_part_18 : decode cX10_part 18 = .ok (.aload_n 0, 1) := by decide +kernel
theorem dX10_part_19 : decode cX10_part 19 = .ok (.getfield 79, 3) := by decide +kernel
theorem dX10_part_22 : decode cX10_part 22 = .ok (.i2l, 1) := by decide +kernel
theorem dX10_part_23 : decode cX10_part 23 = .ok (.goto 8, 3) := by decide +kernel
theorem dX10_part_26 : decode cX10_part 26 = .ok (.aload_n 0, 1) := by decide +kernel
theorem dX10_part_27 : decode cX10_part 27 = .ok (.getfield 83, 3) := by decide +kernel
theorem dX10_part_30 : decode cX10_part 30 = .ok (.i2l, 1) := by decide +kernel
theorem dX10_part_31 : decode cX10_part 31 = .ok (.lreturn, 1) := by decide +kernel
set_option maxRecDepth 20000 in
theorem ggX10_image_X10_isBelow : GoodIn wsX10_image wsX10_isBelow := goodIn_r _ [7] (by decide +kernel) (by decide +kernel)
set_option maxRecDepth 20000 in
theorem gX10_image_X10_isBelow : GoodIn wsX10_image (va_wsS RX10 86 yX10_isBelow wsX10_isBelow) := goodIn_app (goodIn_of _ (by decide +kernel)) ggX10_image_X10_isBelow
set_option maxRecDepth 20000 in
theorem ggX10_image_X10_refuseBad : GoodIn wsX10_image wsX10_refuseBad := goodIn_r _ [11, 12, 44, 45, 46, 47, 48, 49, 50, 51, 52, 53, 54, 55] (by decide +kernel) (by decide +kernel)
set_option maxRecDepth 20000 in
theorem gX10_image_X10_refuseBad : GoodIn wsX10_image (wsV RX10 90 RX10 yX10_refuseBad wsX10_refuseBad) := goodIn_app (goodIn_of _ (by decide +kernel)) ggX10_image_X10_refuseBad
set_option maxRecDepth 20000 in
theorem ggX10_image_X4_become : GoodIn wsX10_image wsX4_become := goodIn_r _ [17, 18, 19, 20, 21, 22, 23, 24, 25, 26, 27, 28, 29, 30, 31, 32, 33, 34, 35, 36, 37, 38, 39, 40, 41, 42, 43, 56, 57, 58, 59, 60, 61, 62, 63, 64, 65, 66, 67, 68, 69, 70, 71, 72] (by decide +kernel) (by decide +kernel)
set_option maxRecDepth 20000 in
theorem gX10_image_X4_become : GoodIn wsX10_image (wsV RX10 280 RX4 yX4_become wsX4_become) := goodIn_app (goodIn_of _ (by decide +kernel)) ggX10_image_X4_become
theorem dX10_image_0 : decode cX10_image 0 = .ok (.iload_n 1, 1) := by decide +kernel
theorem dX10_image_1 : decode cX10_image 1 = .ok (.iconst 2, 1) := by decide +kernel
theorem dX10_image_2 : decode cX10_image 2 = .ok (.invokestatic 86, 3) := by decide +kernel
theorem dX10_image_5 : decode cX10_image 5 = .ok (.ifCond .ne 8, 3) := by decide +kernel
theorem dX10_image_8 : decode cX10_image 8 = .ok (.aload_n 0, 1) := by decide +kernel
theorem dX10_image_9 : decode cX10_image 9 = .ok (.invokevirtual 90, 3) := by decide +kernel
theorem dX10_image_12 : decode cX10_image 12 = .ok (.ireturn, 1) := by decide +kernel
theorem dX10_image_13 : decode cX10_image 13 = .ok (.aload_n 0, 1) := by decide +kernel
theorem dX10_image_14 : decode cX10_image 14 = .ok (.getfield 40, 3) := by decide +kernel
theorem dX10_image_17 : decode cX10_image 17 = .ok (.iload_n 1, 1) := by decide +kernel
theorem dX10_image_18 : decode cX10_image 18 = .ok (.aaload, 1) := by decide +kernel
theorem dX10_image_19 : decode cX10_image 19 = .ok (.aload_n 0, 1) := by decide +kernel
theorem dX10_image_20 : decode cX10_image 20 = .ok (.getfield 36, 3) := by decide +kernel
theorem dX10_image_23 : decode cX10_image 23 = .ok (.invokevirtual 280, 3) := by decide +kernel
theorem dX10_image_26 : decode cX10_image 26 = .ok (.aload_n 0, 1) := by decide +kernel
theorem dX10_image_27 : decode cX10_image 27 = .ok (.getfield 44, 3) := by decide +kernel
theorem dX10_image_30 : decode cX10_image 30 = .ok (.iload_n 1, 1) := by decide +kernel
theorem dX10_image_31 : decode cX10_image 31 = .ok (.iconst 1, 1) := by decide +kernel
theorem dX10_image_32 : decode cX10_image 32 = .ok (.bastore, 1) := by decide +kernel
theorem dX10_image_33 : decode cX10_image 33 = .ok (.iconst 1, 1) := by decide +kernel
theorem dX10_image_34 : decode cX10_image 34 = .ok (.ireturn, 1) := by decide +kernel
set_option maxRecDepth 20000 in
theorem ggX10_from_X10_isBelow : GoodIn wsX10_from wsX10_isBelow := goodIn_r _ [7] (by decide +kernel) (by decide +kernel)
set_option maxRecDepth 20000 in
theorem gX10_from_X10_isBelow : GoodIn wsX10_from (va_wsS RX10 86 yX10_isBelow wsX10_isBelow) := goodIn_app (goodIn_of _ (by decide +kernel)) ggX10_from_X10_isBelow
set_option maxRecDepth 20000 in
theorem ggX10_from_X10_refuseBad : GoodIn wsX10_from wsX10_refuseBad := goodIn_r _ [11, 12, 48, 49, 50, 51, 52, 53, 54, 55, 56, 57, 58, 59] (by decide +kernel) (by decide +kernel)
set_option maxRecDepth 20000 in
theorem gX10_from_X10_refuseBad : GoodIn wsX10_from (wsV RX10 90 RX10 yX10_refuseBad wsX10_refuseBad) := goodIn_app (goodIn_of _ (by decide +kernel)) ggX10_from_X10_refuseBad
set_option maxRecDepth 20000 in
theorem ggX10_from_X10_refuseNo : GoodIn wsX10_from wsX10_refuseNo := goodIn_r _ [16, 12, 48, 49, 50, 51, 52, 53, 54, 55, 56, 57, 58, 59] (by decide +kernel) (by decide +kernel)
set_option maxRecDepth 20000 in
theorem gX10_from_X10_refuseNo : GoodIn wsX10_from (wsV RX10 154 RX10 yX10_refuseNo wsX10_refuseNo) := goodIn_app (goodIn_of _ (by decide +kernel)) ggX10_from_X10_refuseNo
theorem dX10_from_0 : decode cX10_from 0 = .ok (.iload_n 1, 1) := by decide +kernel
theorem dX10_from_1 : decode cX10_from 1 = .ok (.iconst 2, 1) := by decide +kernel
theorem dX10_from_2 : decode cX10_from 2 = .ok (.invokestatic 86, 3) := by decide +kernel
theorem dX10_from_5 : decode cX10_from 5 = .ok (.ifCond .ne 8, 3) := by decide +kernel
theorem dX10_from_8 : decode cX10_from 8 = .ok (.aload_n 0, 1) := by decide +kernel
theorem dX10_from_9 : decode cX10_from 9 = .ok (.invokevirtual 90, 3) := by decide +kernel
theorem dX10_from_12 : decode cX10_from 12 = .ok (.ireturn, 1) := by decide +kernel
theorem dX10_from_13 : decode cX10_from 13 = .ok (.aload_n 0, 1) := by decide +kernel
theorem dX10_from_14 : decode cX10_from 14 = .ok (.getfield 44, 3) := by decide +kernel
theorem dX10_from_17 : decode cX10_from 17 = .ok (.iload_n 1, 1) := by decide +kernel
theorem dX10_from_18 : decode cX10_from 18 = .ok (.baload, 1) := by decide +kernel
theorem dX10_from_19 : decode cX10_from 19 = .ok (.ifCond .ne 8, 3) := by decide +kernel
theorem dX10_from_22 : decode cX10_from 22 = .ok (.aload_n 0, 1) := by decide +kernel
theorem dX10_from_23 : decode cX10_from 23 = .ok (.invokevirtual 154, 3) := by decide +kernel
theorem dX10_from_26 : decode cX10_from 26 = .ok (.ireturn, 1) := by decide +kernel
set_option maxRecDepth 20000 in
theorem ggX10_status_X10_isBelow : GoodIn wsX10_status wsX10_isBelow := goodIn_r _ [5] (by decide +kernel) (by decide +kernel)
set_option maxRecDepth 20000 in
theorem gX10_status_X10_isBelow : GoodIn wsX10_status (va_wsS RX10 86 yX10_isBelow wsX10_isBelow) := goodIn_app (goodIn_of _ (by decide +kernel)) ggX10_status_X10_isBelow
set_option maxRecDepth 20000 in
theorem ggX10_status_X10_refuseBad : GoodIn wsX10_status wsX10_refuseBad := goodIn_r _ [9, 1, 10, 11, 12, 13, 14, 15, 16, 17, 18, 19, 20, 21] (by decide +kernel) (by decide +kernel)
set_option maxRecDepth 20000 in
theorem gX10_status_X10_refuseBad : GoodIn wsX10_status (wsV RX10 90 RX10 yX10_refuseBad wsX10_refuseBad) := goodIn_app (goodIn_of _ (by decide +kernel)) ggX10_status_X10_refuseBad
theorem dX10_status_0 : decode cX10_status 0 = .ok (.iload_n 1, 1) := by decide +kernel
theorem dX10_status_1 : decode cX10_status 1 = .ok (.iconst 3, 1) := by decide +kernel
theorem dX10_status_2 : decode cX10_status 2 = .ok (.invokestatic 86, 3) := by decide +kernel
theorem dX10_status_5 : decode cX10_status 5 = .ok (.ifCond .ne 10, 3) := by decide +kernel
theorem dX10_status_8 : decode cX10_status 8 = .ok (.aload_n 0, 1) := by decide +kernel
theorem dX10_status_9 : decode cX10_status 9 = .ok (.invokevirtual 90, 3) := by decide +kernel
theorem dX10_status_12 : decode cX10_status 12 = .ok (.pop, 1) := by decide +kernel
theorem dX10_status_13 : decode cX10_status 13 = .ok (.iconst (-1), 1) := by decide +kernel
theorem dX10_status_14 : decode cX10_status 14 = .ok (.ireturn, 1) := by decide +kernel
theorem dX10_status_15 : decode cX10_status 15 = .ok (.aload_n 0, 1) := by decide +kernel
theorem dX10_status_16 : decode cX10_status 16 = .ok (.getfield 76, 3) := by decide +kernel
theorem dX10_status_19 : decode cX10_status 19 = .ok (.iload_n 1, 1) := by decide +kernel
theorem dX10_status_20 : decode cX10_status 20 = .ok (.iaload, 1) := by decide +kernel
theorem dX10_status_21 : decode cX10_status 21 = .ok (.ireturn, 1) := by decide +kernel
set_option maxRecDepth 20000 in
theorem ggX10_count_X10_isBelow : GoodIn wsX10_count wsX10_isBelow := goodIn_r _ [4] (by decide +kernel) (by decide +kernel)
set_option maxRecDepth 20000 in
theorem gX10_count_X10_isBelow : GoodIn wsX10_count (va_wsS RX10 86 yX10_isBelow wsX10_isBelow) := goodIn_app (goodIn_of _ (by decide +kernel)) ggX10_count_X10_isBelow
set_option maxRecDepth 20000 in
theorem ggX10_count_X10_refuseBad : GoodIn wsX10_count wsX10_refuseBad := goodIn_r _ [8, 9, 26, 27, 28, 29, 30, 31, 32, 33, 34, 35, 36, 37] (by decide +kernel) (by decide +kernel)
set_option maxRecDepth 20000 in
theorem gX10_count_X10_refuseBad : GoodIn wsX10_count (wsV RX10 90 RX10 yX10_refuseBad wsX10_refuseBad) := goodIn_app (goodIn_of _ (by decide +kernel)) ggX10_count_X10_refuseBad
set_option maxRecDepth 20000 in
theorem ggX10_count_X10_howMany : GoodIn wsX10_count wsX10_howMany := goodIn_r _ [13, 14, 15, 16, 17, 18, 19, 20, 21, 22, 23, 24, 25, 26, 27, 28, 29, 30, 31, 32, 33, 34, 35, 36, 37, 38, 39, 40, 41, 42, 43, 44, 45, 46, 47, 48, 49, 50, 51, 52, 53, 54, 55, 56, 57, 58, 59, 60, 61, 62, 63, 64, 65, 66] (by decide +kernel) (by decide +kernel)
set_option maxRecDepth 20000 in
theorem gX10_count_X10_howMany : GoodIn wsX10_count (wsV RX10 283 RX10 yX10_howMany wsX10_howMany) := goodIn_app (goodIn_of _ (by decide +kernel)) ggX10_count_X10_howMany
theorem dX10_count_0 : decode cX10_count 0 = .ok (.iload_n 1, 1) := by decide +kernel
theorem dX10_count_1 : decode cX10_count 1 = .ok (.bipush 9, 2) := by decide +kernel
theorem dX10_count_3 : decode cX10_count 3 = .ok (.invokestatic 86, 3) := by decide +kernel
theorem dX10_count_6 : decode cX10_count 6 = .ok (.ifCond .ne 8, 3) := by decide +kernel
theorem dX10_count_9 : decode cX10_count 9 = .ok (.aload_n 0, 1) := by decide +kernel
theorem dX10_count_10 : decode cX10_count 10 = .ok (.invokevirtual 90, 3) := by decide +kernel
theorem dX10_count_13 : decode cX10_count 13 = .ok (.ireturn, 1) := by decide +kernel
theorem dX10_count_14 : decode cX10_count 14 = .ok (.aload_n 0, 1) := by decide +kernel
theorem dX10_count_15 : decode cX10_count 15 = .ok (.iload_n 1, 1) := by decide +kernel
theorem dX10_count_16 : decode cX10_count 16 = .ok (.invokevirtual 283, 3) := by decide +kernel
theorem dX10_count_19 : decode cX10_count 19 = .ok (.ireturn, 1) := by decide +kernel
set_option maxRecDepth 20000 in
theorem ggX10_digest_X10_howMany : GoodIn wsX10_digest wsX10_howMany := goodIn_r _ [20, 2, 3, 7, 5, 21, 22, 23, 10, 12, 24, 25, 26, 34, 35, 36, 37, 38, 39, 40, 41, 42, 43, 44, 45, 46, 47, 48, 49, 50, 51, 52, 53, 54, 55, 56, 57, 58, 59, 60, 61, 62, 63, 64, 65, 66, 67, 68, 69, 70, 71, 72, 73, 74] (by decide +kernel) (by decide +kernel)
set_option maxRecDepth 20000 in
theorem gX10_digest_X10_howMany : GoodIn wsX10_digest (wsV RX10 283 RX10 yX10_howMany wsX10_howMany) := goodIn_app (goodIn_of _ (by decide +kernel)) ggX10_digest_X10_howMany
set_option maxRecDepth 20000 in
theorem ggX10_digest_X10_mix : GoodIn wsX10_digest wsX10_mix := goodIn_r _ [29, 30] (by decide +kernel) (by decide +kernel)
set_option maxRecDepth 20000 in
theorem gX10_digest_X10_mix : GoodIn wsX10_digest (va_wsS RX10 288 yX10_mix wsX10_mix) := goodIn_app (goodIn_of _ (by decide +kernel)) ggX10_digest_X10_mix
theorem dX10_digest_0 : decode cX10_digest 0 = .ok (.ldc2_w 286, 3) := by decide +kernel
theorem dX10_digest_3 : decode cX10_digest 3 = .ok (.lstore_n 1, 1) := by decide +kernel
theorem dX10_digest_4 : decode cX10_digest 4 = .ok (.iconst 0, 1) := by decide +kernel
theorem dX10_digest_5 : decode cX10_digest 5 = .ok (.istore_n 3, 1) := by decide +kernel
theorem dX10_digest_6 : decode cX10_digest 6 = .ok (.iload_n 3, 1) := by decide +kernel
theorem dX10_digest_7 : decode cX10_digest 7 = .ok (.bipush 9, 2) := by decide +kernel
theorem dX10_digest_9 : decode cX10_digest 9 = .ok (.if_icmp .ge 20, 3) := by decide +kernel
theorem dX10_digest_12 : decode cX10_digest 12 = .ok (.lload_n 1, 1) := by decide +kernel
theorem dX10_digest_13 : decode cX10_digest 13 = .ok (.aload_n 0, 1) := by decide +kernel
theorem dX10_digest_14 : decode cX10_digest 14 = .ok (.iload_n 3, 1) := by decide +kernel
theorem dX10_digest_15 : decode cX10_digest 15 = .ok (.invokevirtual 283, 3) := by decide +kernel
theorem dX10_digest_18 : decode cX10_digest 18 = .ok (.i2l, 1) := by decide +kernel
theorem dX10_digest_19 : decode cX10_digest 19 = .ok (.invokestatic 288, 3) := by decide +kernel
theorem dX10_digest_22 : decode cX10_digest 22 = .ok (.lstore_n 1, 1) := by decide +kernel
theorem dX10_digest_23 : decode cX10_digest 23 = .ok (.iinc 3 1, 3) := by decide +kernel
theorem dX10_digest_26 : decode cX10_digest 26 = .ok (.goto (-20), 3) := by decide +kernel
theorem dX10_digest_29 : decode cX10_digest 29 = .ok (.iconst 0, 1) := by decide +kernel
theorem dX10_digest_30 : decode cX10_digest 30 = .ok (.istore_n 3, 1) := by decide +kernel
theorem dX10_digest_31 : decode cX10_digest 31 = .ok (.iload_n 3, 1) := by decide +kernel
theorem dX10_digest_32 : decode cX10_digest 32 = .ok (.aload_n 0, 1) := by decide +kernel
theorem dX10_digest_33 : decode cX10_digest 33 = .ok (.getfield 36, 3) := by decide +kernel
theorem dX10_digest_36 : decode cX10_digest 36 = .ok (.getfield 94, 3) := by decide +kernel
theorem dX10_digest_39 : decode cX10_digest 39 = .ok (.if_icmp .ge 40, 3) := by decide +kernel
theorem dX10_digest_79 : decode cX10_digest 79 = .ok (.iconst 0, 1) := by decide +kernel
theorem dX10_digest_80 : decode cX10_digest 80 = .ok (.istore_n 3, 1) := by decide +kernel
theorem dX10_digest_81 : decode cX10_digest 81 = .ok (.iload_n 3, 1) := by decide +kernel
theorem dX10_digest_82 : decode cX10_digest 82 = .ok (.aload_n 0, 1) := by decide +kernel
theorem dX10_digest_83 : decode cX10_digest 83 = .ok (.getfield 36, 3) := by decide +kernel
theorem dX10_digest_86 : decode cX10_digest 86 = .ok (.getfield 115, 3) := by decide +kernel
theorem dX10_digest_89 : decode cX10_digest 89 = .ok (.if_icmp .ge 43, 3) := by decide +kernel
theorem dX10_digest_132 : decode cX10_digest 132 = .ok (.iconst 0, 1) := by decide +kernel
theorem dX10_digest_133 : decode cX10_digest 133 = .ok (.istore_n 3, 1) := by decide +kernel
theorem dX10_digest_134 : decode cX10_digest 134 = .ok (.iload_n 3, 1) := by decide +kernel
theorem dX10_digest_135 : decode cX10_digest 135 = .ok (.aload_n 0, 1) := by decide +kernel
theorem dX10_digest_136 : decode cX10_digest 136 = .ok (.getfield 36, 3) := by decide +kernel
theorem dX10_digest_139 : decode cX10_digest 139 = .ok (.getfield 240, 3) := by decide +kernel
theorem dX10_digest_142 : decode cX10_digest 142 = .ok (.if_icmp .ge 23, 3) := by decide +kernel
theorem dX10_digest_165 : decode cX10_digest 165 = .ok (.iconst 0, 1) := by decide +kernel
theorem dX10_digest_166 : decode cX10_digest 166 = .ok (.istore_n 3, 1) := by decide +kernel
theorem dX10_digest_167 : decode cX10_digest 167 = .ok (.iload_n 3, 1) := by decide +kernel
theorem dX10_digest_168 : decode cX10_digest 168 = .ok (.aload_n 0, 1) := by decide +kernel
theorem dX10_digest_169 : decode cX10_digest 169 = .ok (.getfield 36, 3) := by decide +kernel
theorem dX10_digest_172 : decode cX10_digest 172 = .ok (.getfield 250, 3) := by decide +kernel
theorem dX10_digest_175 : decode cX10_digest 175 = .ok (.if_icmp .ge 23, 3) := by decide +kernel
theorem dX10_digest_198 : decode cX10_digest 198 = .ok (.lload_n 1, 1) := by decide +kernel
theorem dX10_digest_199 : decode cX10_digest 199 = .ok (.aload_n 0, 1) := by decide +kernel
theorem dX10_digest_200 : decode cX10_digest 200 = .ok (.getfield 79, 3) := by decide +kernel
theorem dX10_digest_203 : decode cX10_digest 203 = .ok (.i2l, 1) := by decide +kernel
theorem dX10_digest_204 : decode cX10_digest 204 = .ok (.invokestatic 288, 3) := by decide +kernel
theorem dX10_digest_207 : decode cX10_digest 207 = .ok (.aload_n 0, 1) := by decide +kernel
theorem dX10_digest_208 : decode cX10_digest 208 = .ok (.getfield 83, 3) := by decide +kernel
theorem dX10_digest_211 : decode cX10_digest 211 = .ok (.i2l, 1) := by decide +kernel
theorem dX10_digest_212 : decode cX10_digest 212 = .ok (.invokestatic 288, 3) := by decide +kernel
theorem dX10_digest_215 : decode cX10_digest 215 = .ok (.lreturn, 1) := by decide +kernel
theorem dX10_refuseBad_0 : decode cX10_refuseBad 0 = .ok (.aload_n 0, 1) := by decide +kernel
theorem dX10_refuseBad_1 : decode cX10_refuseBad 1 = .ok (.getfield 76, 3) := by decide +kernel
theorem dX10_refuseBad_4 : decode cX10_refuseBad 4 = .ok (.iconst 0, 1) := by decide +kernel
theorem dX10_refuseBad_5 : decode cX10_refuseBad 5 = .ok (.dup2, 1) := by decide +kernel
theorem dX10_refuseBad_6 : decode cX10_refuseBad 6 = .ok (.iaload, 1) := by decide +kernel
theorem dX10_refuseBad_7 : decode cX10_refuseBad 7 = .ok (.iconst 1, 1) := by decide +kernel
theorem dX10_refuseBad_8 : decode cX10_refuseBad 8 = .ok (.iadd, 1) := by decide +kernel
theorem dX10_refuseBad_9 : decode cX10_refuseBad 9 = .ok (.iastore, 1) := by decide +kernel
theorem dX10_refuseBad_10 : decode cX10_refuseBad 10 = .ok (.bipush (-2), 2) := by decide +kernel
theorem dX10_refuseBad_12 : decode cX10_refuseBad 12 = .ok (.ireturn, 1) := by decide +kernel
theorem dX10_refuseNo_0 : decode cX10_refuseNo 0 = .ok (.aload_n 0, 1) := by decide +kernel
theorem dX10_refuseNo_1 : decode cX10_refuseNo 1 = .ok (.getfield 76, 3) := by decide +kernel
theorem dX10_refuseNo_4 : decode cX10_refuseNo 4 = .ok (.iconst 1, 1) := by decide +kernel
theorem dX10_refuseNo_5 : decode cX10_refuseNo 5 = .ok (.dup2, 1) := by decide +kernel
theorem dX10_refuseNo_6 : decode cX10_refuseNo 6 = .ok (.iaload, 1) := by decide +kernel
theorem dX10_refuseNo_7 : decode cX10_refuseNo 7 = .ok (.iconst 1, 1) := by decide +kernel
theorem dX10_refuseNo_8 : decode cX10_refuseNo 8 = .ok (.iadd, 1) := by decide +kernel
theorem dX10_refuseNo_9 : decode cX10_refuseNo 9 = .ok (.iastore, 1) := by decide +kernel
theorem dX10_refuseNo_10 : decode cX10_refuseNo 10 = .ok (.bipush (-3), 2) := by decide +kernel
theorem dX10_refuseNo_12 : decode cX10_refuseNo 12 = .ok (.ireturn, 1) := by decide +kernel
theorem dX10_refuseFull_0 : decode cX10_refuseFull 0 = .ok (.aload_n 0, 1) := by decide +kernel
theorem dX10_refuseFull_1 : decode cX10_refuseFull 1 = .ok (.getfield 76, 3) := by decide +kernel
theorem dX10_refuseFull_4 : decode cX10_refuseFull 4 = .ok (.iconst 2, 1) := by decide +kernel
theorem dX10_refuseFull_5 : decode cX10_refuseFull 5 = .ok (.dup2, 1) := by decide +kernel
theorem dX10_refuseFull_6 : decode cX10_refuseFull 6 = .ok (.iaload, 1) := by decide +kernel
theorem dX10_refuseFull_7 : decode cX10_refuseFull 7 = .ok (.iconst 1, 1) := by decide +kernel
theorem dX10_refuseFull_8 : decode cX10_refuseFull 8 = .ok (.iadd, 1) := by decide +kernel
theorem dX10_refuseFull_9 : decode cX10_refuseFull 9 = .ok (.iastore, 1) := by decide +kernel
theorem dX10_refuseFull_10 : decode cX10_refuseFull 10 = .ok (.bipush (-4), 2) := by decide +kernel
theorem dX10_refuseFull_12 : decode cX10_refuseFull 12 = .ok (.ireturn, 1) := by decide +kernel
theorem dX10_refuseTen_0 : decode cX10_refuseTen 0 = .ok (.aload_n 0, 1) := by decide +kernel
theorem dX10_refuseTen_1 : decode cX10_refuseTen 1 = .ok (.getfield 76, 3) := by decide +kernel
theorem dX10_refuseTen_4 : decode cX10_refuseTen 4 = .ok (.iconst 0, 1) := by decide +kernel
theorem dX10_refuseTen_5 : decode cX10_refuseTen 5 = .ok (.dup2, 1) := by decide +kernel
theorem dX10_refuseTen_6 : decode cX10_refuseTen 6 = .ok (.iaload, 1) := by decide +kernel
theorem dX10_refuseTen_7 : decode cX10_refuseTen 7 = .ok (.iconst 1, 1) := by decide +kernel
theorem dX10_refuseTen_8 : decode cX10_refuseTen 8 = .ok (.iadd, 1) := by decide +kernel
theorem dX10_refuseTen_9 : decode cX10_refuseTen 9 = .ok (.iastore, 1) := by decide +kernel
theorem dX10_refuseTen_10 : decode cX10_refuseTen 10 = .ok (.bipush (-10), 2) := by decide +kernel
theorem dX10_refuseTen_12 : decode cX10_refuseTen 12 = .ok (.ireturn, 1) := by decide +kernel
theorem dX10_isIn_0 : decode cX10_isIn 0 = .ok (.iload_n 0, 1) := by decide +kernel
theorem dX10_isIn_1 : decode cX10_isIn 1 = .ok (.iload_n 1, 1) := by decide +kernel
theorem dX10_isIn_2 : decode cX10_isIn 2 = .ok (.if_icmp .lt 12, 3) := by decide +kernel
theorem dX10_isIn_5 : decode cX10_isIn 5 = .ok (.iload_n 0, 1) := by decide +kernel
theorem dX10_isIn_6 : decode cX10_isIn 6 = .ok (.iload_n 2, 1) := by decide +kernel
theorem dX10_isIn_7 : decode cX10_isIn 7 = .ok (.if_icmp .gt 7, 3) := by decide +kernel
theorem dX10_isIn_10 : decode cX10_isIn 10 = .ok (.iconst 1, 1) := by decide +kernel
theorem dX10_isIn_11 : decode cX10_isIn 11 = .ok (.goto 4, 3) := by decide +kernel
theorem dX10_isIn_14 : decode cX10_isIn 14 = .ok (.iconst 0, 1) := by decide +kernel
theorem dX10_isIn_15 : decode cX10_isIn 15 = .ok (.ireturn, 1) := by decide +kernel
theorem dX10_isBelow_0 : decode cX10_isBelow 0 = .ok (.iload_n 0, 1) := by decide +kernel
theorem dX10_isBelow_1 : decode cX10_isBelow 1 = .ok (.ifCond .lt 12, 3) := by decide +kernel
theorem dX10_isBelow_4 : decode cX10_isBelow 4 = .ok (.iload_n 0, 1) := by decide +kernel
theorem dX10_isBelow_5 : decode cX10_isBelow 5 = .ok (.iload_n 1, 1) := by decide +kernel
theorem dX10_isBelow_6 : decode cX10_isBelow 6 = .ok (.if_icmp .ge 7, 3) := by decide +kernel
theorem dX10_isBelow_9 : decode cX10_isBelow 9 = .ok (.iconst 1, 1) := by decide +kernel
theorem dX10_isBelow_10 : decode cX10_isBelow 10 = .ok (.goto 4, 3) := by decide +kernel
theorem dX10_isBelow_13 : decode cX10_isBelow 13 = .ok (.iconst 0, 1) := by decide +kernel
theorem dX10_isBelow_14 : decode cX10_isBelow 14 = .ok (.ireturn, 1) := by decide +kernel
set_option maxRecDepth 20000 in
theorem ggX10_isLight_X10_isIn : GoodIn wsX10_isLight wsX10_isIn := goodIn_r _ [4] (by decide +kernel) (by decide +kernel)
set_option maxRecDepth 20000 in
theorem gX10_isLight_X10_isIn : GoodIn wsX10_isLight (va_wsS RX10 147 yX10_isIn wsX10_isIn) := goodIn_app (goodIn_of _ (by decide +kernel)) ggX10_isLight_X10_isIn
theorem dX10_isLight_0 : decode cX10_isLight 0 = .ok (.iload_n 0, 1) := by decide +kernel
theorem dX10_isLight_1 : decode cX10_isLight 1 = .ok (.iconst 0, 1) := by decide +kernel
theorem dX10_isLight_2 : decode cX10_isLight 2 = .ok (.bipush 60, 2) := by decide +kernel
theorem dX10_isLight_4 : decode cX10_isLight 4 = .ok (.invokestatic 147, 3) := by decide +kernel
theorem dX10_isLight_7 : decode cX10_isLight 7 = .ok (.ireturn, 1) := by decide +kernel
theorem dX10_howMany_0 : decode cX10_howMany 0 = .ok (.iload_n 1, 1) := by decide +kernel
theorem dX10_howMany_1 : decode cX10_howMany 1 = .ok (.tableswitch 120 0 7 #[47, 55, 63, 74, 85, 96, 104, 112], 47) := by decide +kernel
theorem dX10_howMany_48 : decode cX10_howMany 48 = .ok (.aload_n 0, 1) := by decide +kernel
theorem dX10_howMany_49 : decode cX10_howMany 49 = .ok (.getfield 36, 3) := by decide +kernel
theorem dX10_howMany_52 : decode cX10_howMany 52 = .ok (.getfield 94, 3) := by decide +kernel
theorem dX10_howMany_55 : decode cX10_howMany 55 = .ok (.ireturn, 1) := by decide +kernel
theorem dX10_howMany_56 : decode cX10_howMany 56 = .ok (.aload_n 0, 1) := by decide +kernel
theorem dX10_howMany_57 : decode cX10_howMany 57 = .ok (.getfield 36, 3) := by decide +kernel
theorem dX10_howMany_60 : decode cX10_howMany 60 = .ok (.getfield 115, 3) := by decide +kernel
theorem dX10_howMany_63 : decode cX10_howMany 63 = .ok (.ireturn, 1) := by decide +kernel
theorem dX10_howMany_64 : decode cX10_howMany 64 = .ok (.aload_n 0, 1) := by decide +kernel
theorem dX10_howMany_65 : decode cX10_howMany 65 = .ok (.getfield 36, 3) := by decide +kernel
theorem dX10_howMany_68 : decode cX10_howMany 68 = .ok (.getfield 140, 3) := by decide +kernel
theorem dX10_howMany_71 : decode cX10_howMany 71 = .ok (.getfield 151, 3) := by decide +kernel
theorem dX10_howMany_74 : decode cX10_howMany 74 = .ok (.ireturn, 1) := by decide +kernel
theorem dX10_howMany_75 : decode cX10_howMany 75 = .ok (.aload_n 0, 1) := by decide +kernel
theorem dX10_howMany_76 : decode cX10_howMany 76 = .ok (.getfield 36, 3) := by decide +kernel
theorem dX10_howMany_79 : decode cX10_howMany 79 = .ok (.getfield 140, 3) := by decide +kernel
theorem dX10_howMany_82 : decode cX10_howMany 82 = .ok (.getfield 173, 3) := by decide +kernel
theorem dX10_howMany_85 : decode cX10_howMany 85 = .ok (.ireturn, 1) := by decide +kernel
theorem dX10_howMany_86 : decode cX10_howMany 86 = .ok (.aload_n 0, 1) := by decide +kernel
theorem dX10_howMany_87 : decode cX10_howMany 87 = .ok (.getfield 36, 3) := by decide +kernel
theorem dX10_howMany_90 : decode cX10_howMany 90 = .ok (.getfield 140, 3) := by decide +kernel
theorem dX10_howMany_93 : decode cX10_howMany 93 = .ok (.getfield 164, 3) := by decide +kernel
theorem dX10_howMany_96 : decode cX10_howMany 96 = .ok (.ireturn, 1) := by decide +kernel
theorem dX10_howMany_97 : decode cX10_howMany 97 = .ok (.aload_n 0, 1) := by decide +kernel
theorem dX10_howMany_98 : decode cX10_howMany 98 = .ok (.getfield 36, 3) := by decide +kernel
theorem dX10_howMany_101 : decode cX10_howMany 101 = .ok (.getfield 240, 3) := by decide +kernel
theorem dX10_howMany_104 : decode cX10_howMany 104 = .ok (.ireturn, 1) := by decide +kernel
theorem dX10_howMany_105 : decode cX10_howMany 105 = .ok (.aload_n 0, 1) := by decide +kernel
theorem dX10_howMany_106 : decode cX10_howMany 106 = .ok (.getfield 36, 3) := by decide +kernel
theorem dX10_howMany_109 : decode cX10_howMany 109 = .ok (.getfield 250, 3) := by decide +kernel
theorem dX10_howMany_112 : decode cX10_howMany 112 = .ok (.ireturn, 1) := by decide +kernel
theorem dX10_howMany_113 : decode cX10_howMany 113 = .ok (.aload_n 0, 1) := by decide +kernel
theorem dX10_howMany_114 : decode cX10_howMany 114 = .ok (.getfield 36, 3) := by decide +kernel
theorem dX10_howMany_117 : decode cX10_howMany 117 = .ok (.getfield 176, 3) := by decide +kernel
theorem dX10_howMany_120 : decode cX10_howMany 120 = .ok (.ireturn, 1) := by decide +kernel
theorem dX10_howMany_121 : decode cX10_howMany 121 = .ok (.aload_n 0, 1) := by decide +kernel
theorem dX10_howMany_122 : decode cX10_howMany 122 = .ok (.getfield 51, 3) := by decide +kernel
theorem dX10_howMany_125 : decode cX10_howMany 125 = .ok (.getfield 122, 3) := by decide +kernel
theorem dX10_howMany_128 : decode cX10_howMany 128 = .ok (.ireturn, 1) := by decide +kernel
theorem dX10_mix_0 : decode cX10_mix 0 = .ok (.ldc2_w 303, 3) := by decide +kernel
theorem dX10_mix_3 : decode cX10_mix 3 = .ok (.lload_n 0, 1) := by decide +kernel
theorem dX10_mix_4 : decode cX10_mix 4 = .ok (.lmul, 1) := by decide +kernel
theorem dX10_mix_5 : decode cX10_mix 5 = .ok (.lload_n 2, 1) := by decide +kernel
theorem dX10_mix_6 : decode cX10_mix 6 = .ok (.ladd, 1) := by decide +kernel
theorem dX10_mix_7 : decode cX10_mix 7 = .ok (.lreturn, 1) := by decide +kernel
theorem dX10_showAll_0 : decode cX10_showAll 0 = .ok (.iconst 0, 1) := by decide +kernel
theorem dX10_showAll_1 : decode cX10_showAll 1 = .ok (.istore_n 2, 1) := by decide +kernel
theorem dX10_showAll_2 : decode cX10_showAll 2 = .ok (.iload_n 2, 1) := by decide +kernel
theorem dX10_showAll_3 : decode cX10_showAll 3 = .ok (.aload_n 0, 1) := by decide +kernel
theorem dX10_showAll_4 : decode cX10_showAll 4 = .ok (.getfield 36, 3) := by decide +kernel
theorem dX10_showAll_7 : decode cX10_showAll 7 = .ok (.getfield 94, 3) := by decide +kernel
theorem dX10_showAll_10 : decode cX10_showAll 10 = .ok (.if_icmp .ge 31, 3) := by decide +kernel
theorem dX10_showAll_41 : decode cX10_showAll 41 = .ok (.return_, 1) := by decide +kernel
set_option maxRecDepth 20000 in
theorem ggX11_init_X11_begin : GoodIn wsX11_init wsX11_begin := goodIn_r _ [21] (by decide +kernel) (by decide +kernel)
set_option maxRecDepth 20000 in
theorem gX11_init_X11_begin : GoodIn wsX11_init (va_wsS RX11 48 yX11_begin wsX11_begin) := goodIn_app (goodIn_of _ (by decide +kernel)) ggX11_init_X11_begin
theorem dX11_init_0 : decode cX11_init 0 = .ok (.aload_n 0, 1) := by decide +kernel
theorem dX11_init_1 : decode cX11_init 1 = .ok (.invokespecial 1, 3) := by decide +kernel
theorem dX11_init_4 : decode cX11_init 4 = .ok (.aload_n 0, 1) := by decide +kernel
theorem dX11_init_5 : decode cX11_init 5 = .ok (.sipush 228, 3) := by decide +kernel
theorem dX11_init_8 : decode cX11_init 8 = .ok (.newarray .int, 2) := by decide +kernel
theorem dX11_init_10 : decode cX11_init 10 = .ok (.putfield 7, 3) := by decide +kernel
theorem dX11_init_13 : decode cX11_init 13 = .ok (.aload_n 0, 1) := by decide +kernel
theorem dX11_init_14 : decode cX11_init 14 = .ok (.sipush 456, 3) := by decide +kernel
theorem dX11_init_17 : decode cX11_init 17 = .ok (.newarray .int, 2) := by decide +kernel
theorem dX11_init_19 : decode cX11_init 19 = .ok (.putfield 13, 3) := by decide +kernel
theorem dX11_init_22 : decode cX11_init 22 = .ok (.aload_n 0, 1) := by decide +kernel
theorem dX11_init_23 : decode cX11_init 23 = .ok (.iconst 2, 1) := by decide +kernel
theorem dX11_init_24 : decode cX11_init 24 = .ok (.newarray .boolean, 2) := by decide +kernel
theorem dX11_init_26 : decode cX11_init 26 = .ok (.putfield 16, 3) := by decide +kernel
theorem dX11_init_29 : decode cX11_init 29 = .ok (.aload_n 0, 1) := by decide +kernel
theorem dX11_init_30 : decode cX11_init 30 = .ok (.iconst 3, 1) := by decide +kernel
theorem dX11_init_31 : decode cX11_init 31 = .ok (.newarray .int, 2) := by decide +kernel
theorem dX11_init_33 : decode cX11_init 33 = .ok (.putfield 20, 3) := by decide +kernel
theorem dX11_init_36 : decode cX11_init 36 = .ok (.aload_n 0, 1) := by decide +kernel
theorem dX11_init_37 : decode cX11_init 37 = .ok (.lconst 1, 1) := by decide +kernel
theorem dX11_init_38 : decode cX11_init 38 = .ok (.putfield 23, 3) := by decide +kernel
theorem dX11_init_41 : decode cX11_init 41 = .ok (.aload_n 0, 1) := by decide +kernel
theorem dX11_init_42 : decode cX11_init 42 = .ok (.bipush 30, 2) := by decide +kernel
theorem dX11_init_44 : decode cX11_init 44 = .ok (.newarray .int, 2) := by decide +kernel
theorem dX11_init_46 : decode cX11_init 46 = .ok (.putfield 27, 3) := by decide +kernel
theorem dX11_init_49 : decode cX11_init 49 = .ok (.aload_n 0, 1) := by decide +kernel
theorem dX11_init_50 : decode cX11_init 50 = .ok (.bipush 6, 2) := by decide +kernel
theorem dX11_init_52 : decode cX11_init 52 = .ok (.newarray .int, 2) := by decide +kernel
theorem dX11_init_54 : decode cX11_init 54 = .ok (.putfield 30, 3) := by decide +kernel
theorem dX11_init_57 : decode cX11_init 57 = .ok (.aload_n 0, 1) := by decide +kernel
theorem dX11_init_58 : decode cX11_init 58 = .ok (.bipush 6, 2) := by decide +kernel
theorem dX11_init_60 : decode cX11_init 60 = .ok (.newarray .int, 2) := by decide +kernel
theorem dX11_init_62 : decode cX11_init 62 = .ok (.putfield 33, 3) := by decide +kernel
theorem dX11_init_65 : decode cX11_init 65 = .ok (.aload_n 0, 1) := by decide +kernel
theorem dX11_init_66 : decode cX11_init 66 = .ok (.iconst 5, 1) := by decide +kernel
theorem dX11_init_67 : decode cX11_init 67 = .ok (.newarray .int, 2) := by decide +kernel
theorem dX11_init_69 : decode cX11_init 69 = .ok (.putfield 36, 3) := by decide +kernel
theorem dX11_init_72 : decode cX11_init 72 = .ok (.aload_n 0, 1) := by decide +kernel
theorem dX11_init_73 : decode cX11_init 73 = .ok (.sipush 150, 3) := by decide +kernel
theorem dX11_init_76 : decode cX11_init 76 = .ok (.newarray .int, 2) := by decide +kernel
theorem dX11_init_78 : decode cX11_init 78 = .ok (.putfield 39, 3) := by decide +kernel
theorem dX11_init_81 : decode cX11_init 81 = .ok (.aload_n 0, 1) := by decide +kernel
theorem dX11_init_82 : decode cX11_init 82 = .ok (.bipush 76, 2) := by decide +kernel
theorem dX11_init_84 : decode cX11_init 84 = .ok (.newarray .int, 2) := by decide +kernel
theorem dX11_init_86 : decode cX11_init 86 = .ok (.putfield 42, 3) := by decide +kernel
theorem dX11_init_89 : decode cX11_init 89 = .ok (.aload_n 0, 1) := by decide +kernel
theorem dX11_init_90 : decode cX11_init 90 = .ok (.iconst 2, 1) := by decide +kernel
theorem dX11_init_91 : decode cX11_init 91 = .ok (.newarray .int, 2) := by decide +kernel
theorem dX11_init_93 : decode cX11_init 93 = .ok (.putfield 45, 3) := by decide +kernel
theorem dX11_init_96 : decode cX11_init 96 = .ok (.aload_n 0, 1) := by decide +kernel
theorem dX11_init_97 : decode cX11_init 97 = .ok (.getfield 7, 3) := by decide +kernel
theorem dX11_init_100 : decode cX11_init 100 = .ok (.iconst 0, 1) := by decide +kernel
theorem dX11_init_101 : decode cX11_init 101 = .ok (.invokestatic 48, 3) := by decide +kernel
theorem dX11_init_104 : decode cX11_init 104 = .ok (.return_, 1) := by decide +kernel
theorem dX11_in_0 : decode cX11_in 0 = .ok (.lload_n 0, 1) := by decide +kernel
theorem dX11_in_1 : decode cX11_in 1 = .ok (.lload_n 2, 1) := by decide +kernel
theorem dX11_in_2 : decode cX11_in 2 = .ok (.lcmp, 1) := by decide +kernel
theorem dX11_in_3 : decode cX11_in 3 = .ok (.ifCond .lt 14, 3) := by decide +kernel
theorem dX11_in_6 : decode cX11_in 6 = .ok (.lload_n 0, 1) := by decide +kernel
theorem dX11_in_7 : decode cX11_in 7 = .ok (.lload 4, 2) := by decide +kernel
theorem dX11_in_9 : decode cX11_in 9 = .ok (.lcmp, 1) := by decide +kernel
theorem dX11_in_10 : decode cX11_in 10 = .ok (.ifCond .gt 7, 3) := by decide +kernel
theorem dX11_in_13 : decode cX11_in 13 = .ok (.iconst 1, 1) := by decide +kernel
theorem dX11_in_14 : decode cX11_in 14 = .ok (.goto 4, 3) := by decide +kernel
theorem dX11_in_17 : decode cX11_in 17 = .ok (.iconst 0, 1) := by decide +kernel
theorem dX11_in_18 : decode cX11_in 18 = .ok (.ireturn, 1) := by decide +kernel
theorem dX11_bad_0 : decode cX11_bad 0 = .ok (.aload_n 0, 1) := by decide +kernel
theorem dX11_bad_1 : decode cX11_bad 1 = .ok (.getfield 20, 3) := by decide +kernel
theorem dX11_bad_4 : decode cX11_bad 4 = .ok (.iconst 0, 1) := by decide +kernel
theorem dX11_bad_5 : decode cX11_bad 5 = .ok (.dup2, 1) := by decide +kernel
theorem dX11_bad_6 : decode cX11_bad 6 = .ok (.iaload, 1) := by decide +kernel
theorem dX11_bad_7 : decode cX11_bad 7 = .ok (.iconst 1, 1) := by decide +kernel
theorem dX11_bad_8 : decode cX11_bad 8 = .ok (.iadd, 1) := by decide +kernel
theorem dX11_bad_9 : decode cX11_bad 9 = .ok (.iastore, 1) := by decide +kernel
theorem dX11_bad_10 : decode cX11_bad 10 = .ok (.iload_n 1, 1) := by decide +kernel
theorem dX11_bad_11 : decode cX11_bad 11 = .ok (.ireturn, 1) := by decide +kernel
theorem dX11_no_0 : decode cX11_no 0 = .ok (.aload_n 0, 1) := by decide +kernel
theorem dX11_no_1 : decode cX11_no 1 = .ok (.getfield 20, 3) := by decide +kernel
theorem dX11_no_4 : decode cX11_no 4 = .ok (.iconst 1, 1) := by decide +kernel
theorem dX11_no_5 : decode cX11_no 5 = .ok (.dup2, 1) := by decide +kernel
theorem dX11_no_6 : decode cX11_no 6 = .ok (.iaload, 1) := by decide +kernel
theorem dX11_no_7 : decode cX11_no 7 = .ok (.iconst 1, 1) := by decide +kernel
theorem dX11_no_8 : decode cX11_no 8 = .ok (.iadd, 1) := by decide +kernel
theorem dX11_no_9 : decode cX11_no 9 = .ok (.iastore, 1) := by decide +kernel
theorem dX11_no_10 : decode cX11_no 10 = .ok (.bipush (-3), 2) := by decide +kernel
theorem dX11_no_12 : decode cX11_no 12 = .ok (.ireturn, 1) := by decide +kernel
theorem dX11_full_0 : decode cX11_full 0 = .ok (.aload_n 0, 1) := by decide +kernel
theorem dX11_full_1 : decode cX11_full 1 = .ok (.getfield 20, 3) := by decide +kernel
theorem dX11_full_4 : decode cX11_full 4 = .ok (.iconst 2, 1) := by decide +kernel
theorem dX11_full_5 : decode cX11_full 5 = .ok (.dup2, 1) := by decide +kernel
theorem dX11_full_6 : decode cX11_full 6 = .ok (.iaload, 1) := by decide +kernel
theorem dX11_full_7 : decode cX11_full 7 = .ok (.iconst 1, 1) := by decide +kernel
theorem dX11_full_8 : decode cX11_full 8 = .ok (.iadd, 1) := by decide +kernel
theorem dX11_full_9 : decode cX11_full 9 = .ok (.iastore, 1) := by decide +kernel
theorem dX11_full_10 : decode cX11_full 10 = .ok (.bipush (-4), 2) := by decide +kernel
theorem dX11_full_12 : decode cX11_full 12 = .ok (.ireturn, 1) := by decide +kernel
theorem dX11_begin_0 : decode cX11_begin 0 = .ok (.iconst 0, 1) := by decide +kernel
theorem dX11_begin_1 : decode cX11_begin 1 = .ok (.istore_n 2, 1) := by decide +kernel
theorem dX11_begin_2 : decode cX11_begin 2 = .ok (.iload_n 2, 1) := by decide +kernel
theorem dX11_begin_3 : decode cX11_begin 3 = .ok (.bipush 76, 2) := by decide +kernel
theorem dX11_begin_5 : decode cX11_begin 5 = .ok (.if_icmp .ge 13, 3) := by decide +kernel
theorem dX11_begin_8 : decode cX11_begin 8 = .ok (.aload_n 0, 1) := by decide +kernel
theorem dX11_begin_9 : decode cX11_begin 9 = .ok (.iload_n 2, 1) := by decide +kernel
theorem dX11_begin_10 : decode cX11_begin 10 = .ok (.iconst 0, 1) := by decide +kernel
theorem dX11_begin_11 : decode cX11_begin 11 = .ok (.iastore, 1) := by decide +kernel
theorem dX11_begin_12 : decode cX11_begin 12 = .ok (.iinc 2 1, 3) := by decide +kernel
theorem dX11_begin_15 : decode cX11_begin 15 = .ok (.goto (-13), 3) := by decide +kernel
theorem dX11_begin_18 : decode cX11_begin 18 = .ok (.aload_n 0, 1) := by decide +kernel
theorem dX11_begin_19 : decode cX11_begin 19 = .ok (.bipush 22, 2) := by decide +kernel
theorem dX11_begin_21 : decode cX11_begin 21 = .ok (.iload_n 1, 1) := by decide +kernel
theorem dX11_begin_22 : decode cX11_begin 22 = .ok (.iastore, 1) := by decide +kernel
theorem dX11_begin_23 : decode cX11_begin 23 = .ok (.return_, 1) := by decide +kernel
theorem dX11_many_0 : decode cX11_many 0 = .ok (.aload_n 0, 1) := by decide +kernel
theorem dX11_many_1 : decode cX11_many 1 = .ok (.getfield 7, 3) := by decide +kernel
theorem dX11_many_4 : decode cX11_many 4 = .ok (.iconst 0, 1) := by decide +kernel
theorem dX11_many_5 : decode cX11_many 5 = .ok (.iaload, 1) := by decide +kernel
theorem dX11_many_6 : decode cX11_many 6 = .ok (.ireturn, 1) := by decide +kernel
theorem dX11_manyGleaners_0 : decode cX11_manyGleaners 0 = .ok (.aload_n 0, 1) := by decide +kernel
theorem dX11_manyGleaners_1 : decode cX11_manyGleaners 1 = .ok (.getfield 7, 3) := by decide +kernel
theorem dX11_manyGleaners_4 : decode cX11_manyGleaners 4 = .ok (.iconst 1, 1) := by decide +kernel
theorem dX11_manyGleaners_5 : decode cX11_manyGleaners 5 = .ok (.iaload, 1) := by decide +kernel
theorem dX11_manyGleaners_6 : decode cX11_manyGleaners 6 = .ok (.ireturn, 1) := by decide +kernel
set_option maxRecDepth 20000 in
theorem ggX11_isField_X11_many : GoodIn wsX11_isField wsX11_many := goodIn_r _ [5, 6, 10, 11, 12, 13, 14, 15, 16, 17, 18, 19, 20, 21, 22, 23, 24, 25, 26, 27] (by decide +kernel) (by decide +kernel)
set_option maxRecDepth 20000 in
theorem gX11_isField_X11_many : GoodIn wsX11_isField (wsV RX11 52 RX11 yX11_many wsX11_many) := goodIn_app (goodIn_of _ (by decide +kernel)) ggX11_isField_X11_many
set_option maxRecDepth 20000 in
theorem ggX11_isField_X11_in : GoodIn wsX11_isField wsX11_in := goodIn_r _ [9] (by decide +kernel) (by decide +kernel)
set_option maxRecDepth 20000 in
theorem gX11_isField_X11_in : GoodIn wsX11_isField (va_wsS RX11 56 yX11_in wsX11_in) := goodIn_app (goodIn_of _ (by decide +kernel)) ggX11_isField_X11_in
theorem dX11_isField_0 : decode cX11_isField 0 = .ok (.iload_n 1, 1) := by decide +kernel
theorem dX11_isField_1 : decode cX11_isField 1 = .ok (.i2l, 1) := by decide +kernel
theorem dX11_isField_2 : decode cX11_isField 2 = .ok (.lconst 0, 1) := by decide +kernel
theorem dX11_isField_3 : decode cX11_isField 3 = .ok (.aload_n 0, 1) := by decide +kernel
theorem dX11_isField_4 : decode cX11_isField 4 = .ok (.invokevirtual 52, 3) := by decide +kernel
theorem dX11_isField_7 : decode cX11_isField 7 = .ok (.iconst 1, 1) := by decide +kernel
theorem dX11_isField_8 : decode cX11_isField 8 = .ok (.isub, 1) := by decide +kernel
theorem dX11_isField_9 : decode cX11_isField 9 = .ok (.i2l, 1) := by decide +kernel
theorem dX11_isField_10 : decode cX11_isField 10 = .ok (.invokestatic 56, 3) := by decide +kernel
theorem dX11_isField_13 : decode cX11_isField 13 = .ok (.ireturn, 1) := by decide +kernel
set_option maxRecDepth 20000 in
theorem ggX11_isGleaner_X11_manyGleaners : GoodIn wsX11_isGleaner wsX11_manyGleaners := goodIn_r _ [5, 6, 10, 11, 12, 13, 14, 15, 16, 17, 18, 19, 20, 21, 22, 23, 24, 25, 26, 27] (by decide +kernel) (by decide +kernel)
set_option maxRecDepth 20000 in
theorem gX11_isGleaner_X11_manyGleaners : GoodIn wsX11_isGleaner (wsV RX11 60 RX11 yX11_manyGleaners wsX11_manyGleaners) := goodIn_app (goodIn_of _ (by decide +kernel)) ggX11_isGleaner_X11_manyGleaners
set_option maxRecDepth 20000 in
theorem ggX11_isGleaner_X11_in : GoodIn wsX11_isGleaner wsX11_in := goodIn_r _ [9] (by decide +kernel) (by decide +kernel)
set_option maxRecDepth 20000 in
theorem gX11_isGleaner_X11_in : GoodIn wsX11_isGleaner (va_wsS RX11 56 yX11_in wsX11_in) := goodIn_app (goodIn_of _ (by decide +kernel)) ggX11_isGleaner_X11_in
theorem dX11_isGleaner_0 : decode cX11_isGleaner 0 = .ok (.iload_n 1, 1) := by decide +kernel
theorem dX11_isGleaner_1 : decode cX11_isGleaner 1 = .ok (.i2l, 1) := by decide +kernel
theorem dX11_isGleaner_2 : decode cX11_isGleaner 2 = .ok (.lconst 0, 1) := by decide +kernel
theorem dX11_isGleaner_3 : decode cX11_isGleaner 3 = .ok (.aload_n 0, 1) := by decide +kernel
theorem dX11_isGleaner_4 : decode cX11_isGleaner 4 = .ok (.invokevirtual 60, 3) := by decide +kernel
theorem dX11_isGleaner_7 : decode cX11_isGleaner 7 = .ok (.iconst 1, 1) := by decide +kernel
theorem dX11_isGleaner_8 : decode cX11_isGleaner 8 = .ok (.isub, 1) := by decide +kernel
theorem dX11_isGleaner_9 : decode cX11_isGleaner 9 = .ok (.i2l, 1) := by decide +kernel
theorem dX11_isGleaner_10 : decode cX11_isGleaner 10 = .ok (.invokestatic 56, 3) := by decide +kernel
theorem dX11_isGleaner_13 : decode cX11_isGleaner 13 = .ok (.ireturn, 1) := by decide +kernel
set_option maxRecDepth 20000 in
theorem ggX11_isStep_X11_in : GoodIn wsX11_isStep wsX11_in := goodIn_r _ [5] (by decide +kernel) (by decide +kernel)
set_option maxRecDepth 20000 in
theorem gX11_isStep_X11_in : GoodIn wsX11_isStep (va_wsS RX11 56 yX11_in wsX11_in) := goodIn_app (goodIn_of _ (by decide +kernel)) ggX11_isStep_X11_in
theorem dX11_isStep_0 : decode cX11_isStep 0 = .ok (.iload_n 0, 1) := by decide +kernel
theorem dX11_isStep_1 : decode cX11_isStep 1 = .ok (.i2l, 1) := by decide +kernel
theorem dX11_isStep_2 : decode cX11_isStep 2 = .ok (.lconst 0, 1) := by decide +kernel
theorem dX11_isStep_3 : decode cX11_isStep 3 = .ok (.ldc2_w 63, 3) := by decide +kernel
theorem dX11_isStep_6 : decode cX11_isStep 6 = .ok (.invokestatic 56, 3) := by decide +kernel
theorem dX11_isStep_9 : decode cX11_isStep 9 = .ok (.ireturn, 1) := by decide +kernel
set_option maxRecDepth 20000 in
theorem ggX11_isCloud_X11_in : GoodIn wsX11_isCloud wsX11_in := goodIn_r _ [5] (by decide +kernel) (by decide +kernel)
set_option maxRecDepth 20000 in
theorem gX11_isCloud_X11_in : GoodIn wsX11_isCloud (va_wsS RX11 56 yX11_in wsX11_in) := goodIn_app (goodIn_of _ (by decide +kernel)) ggX11_isCloud_X11_in
theorem dX11_isCloud_0 : decode cX11_isCloud 0 = .ok (.iload_n 0, 1) := by decide +kernel
theorem dX11_isCloud_1 : decode cX11_isCloud 1 = .ok (.i2l, 1) := by decide +kernel
theorem dX11_isCloud_2 : decode cX11_isCloud 2 = .ok (.lconst 0, 1) := by decide +kernel
theorem dX11_isCloud_3 : decode cX11_isCloud 3 = .ok (.ldc2_w 65, 3) := by decide +kernel
theorem dX11_isCloud_6 : decode cX11_isCloud 6 = .ok (.invokestatic 56, 3) := by decide +kernel
theorem dX11_isCloud_9 : decode cX11_isCloud 9 = .ok (.ireturn, 1) := by decide +kernel
set_option maxRecDepth 20000 in
theorem ggX11_isLight_X11_in : GoodIn wsX11_isLight wsX11_in := goodIn_r _ [5] (by decide +kernel) (by decide +kernel)
set_option maxRecDepth 20000 in
theorem gX11_isLight_X11_in : GoodIn wsX11_isLight (va_wsS RX11 56 yX11_in wsX11_in) := goodIn_app (goodIn_of _ (by decide +kernel)) ggX11_isLight_X11_in
theorem dX11_isLight_0 : decode cX11_isLight 0 = .ok (.iload_n 0, 1) := by decide +kernel
theorem dX11_isLight_1 : decode cX11_isLight 1 = .ok (.i2l, 1) := by decide +kernel
theorem dX11_isLight_2 : decode cX11_isLight 2 = .ok (.lconst 0, 1) := by decide +kernel
theorem dX11_isLight_3 : decode cX11_isLight 3 = .ok (.ldc2_w 67, 3) := by decide +kernel
theorem dX11_isLight_6 : decode cX11_isLight 6 = .ok (.invokestatic 56, 3) := by decide +kernel
theorem dX11_isLight_9 : decode cX11_isLight 9 = .ok (.ireturn, 1) := by decide +kernel
set_option maxRecDepth 20000 in
theorem ggX11_parish_X11_isCloud : GoodIn wsX11_parish wsX11_isCloud := goodIn_r _ [5, 6, 7, 8, 4, 9] (by decide +kernel) (by decide +kernel)
set_option maxRecDepth 20000 in
theorem gX11_parish_X11_isCloud : GoodIn wsX11_parish (va_wsS RX11 69 yX11_isCloud wsX11_isCloud) := goodIn_app (goodIn_of _ (by decide +kernel)) ggX11_parish_X11_isCloud
set_option maxRecDepth 20000 in
theorem ggX11_parish_X11_bad : GoodIn wsX11_parish wsX11_bad := goodIn_r _ [13, 14, 22, 23, 24, 25, 26, 27, 28, 29, 30, 31, 32, 33, 34, 35, 36, 37, 38, 39] (by decide +kernel) (by decide +kernel)
set_option maxRecDepth 20000 in
theorem gX11_parish_X11_bad : GoodIn wsX11_parish (wsV RX11 73 RX11 yX11_bad wsX11_bad) := goodIn_app (goodIn_of _ (by decide +kernel)) ggX11_parish_X11_bad
set_option maxRecDepth 20000 in
theorem ggX11_parish_X11_many : GoodIn wsX11_parish wsX11_many := goodIn_r _ [18, 1, 22, 23, 24, 25, 26, 27, 28, 29, 30, 31, 32, 33, 34, 35, 36, 37, 38, 39] (by decide +kernel) (by decide +kernel)
set_option maxRecDepth 20000 in
theorem gX11_parish_X11_many : GoodIn wsX11_parish (wsV RX11 52 RX11 yX11_many wsX11_many) := goodIn_app (goodIn_of _ (by decide +kernel)) ggX11_parish_X11_many
set_option maxRecDepth 20000 in
theorem ggX11_parish_X11_begin : GoodIn wsX11_parish wsX11_begin := goodIn_r _ [21] (by decide +kernel) (by decide +kernel)
set_option maxRecDepth 20000 in
theorem gX11_parish_X11_begin : GoodIn wsX11_parish (va_wsS RX11 48 yX11_begin wsX11_begin) := goodIn_app (goodIn_of _ (by decide +kernel)) ggX11_parish_X11_begin
theorem dX11_parish_0 : decode cX11_parish 0 = .ok (.iload_n 1, 1) := by decide +kernel
theorem dX11_parish_1 : decode cX11_parish 1 = .ok (.invokestatic 69, 3) := by decide +kernel
theorem dX11_parish_4 : decode cX11_parish 4 = .ok (.ifCond .ne 10, 3) := by decide +kernel
theorem dX11_parish_7 : decode cX11_parish 7 = .ok (.aload_n 0, 1) := by decide +kernel
theorem dX11_parish_8 : decode cX11_parish 8 = .ok (.bipush (-2), 2) := by decide +kernel
theorem dX11_parish_10 : decode cX11_parish 10 = .ok (.invokevirtual 73, 3) := by decide +kernel
theorem dX11_parish_13 : decode cX11_parish 13 = .ok (.ireturn, 1) := by decide +kernel
theorem dX11_parish_14 : decode cX11_parish 14 = .ok (.aload_n 0, 1) := by decide +kernel
theorem dX11_parish_15 : decode cX11_parish 15 = .ok (.invokevirtual 52, 3) := by decide +kernel
theorem dX11_parish_18 : decode cX11_parish 18 = .ok (.istore_n 2, 1) := by decide +kernel
theorem dX11_parish_19 : decode cX11_parish 19 = .ok (.aload_n 0, 1) := by decide +kernel
theorem dX11_parish_20 : decode cX11_parish 20 = .ok (.getfield 7, 3) := by decide +kernel
theorem dX11_parish_23 : decode cX11_parish 23 = .ok (.iload_n 1, 1) := by decide +kernel
theorem dX11_parish_24 : decode cX11_parish 24 = .ok (.invokestatic 48, 3) := by decide +kernel
theorem dX11_parish_27 : decode cX11_parish 27 = .ok (.iload_n 2, 1) := by decide +kernel
theorem dX11_parish_28 : decode cX11_parish 28 = .ok (.ireturn, 1) := by decide +kernel
theorem dX11_layField_0 : decode cX11_layField 0 = .ok (.aload_n 0, 1) := by decide +kernel
theorem dX11_layField_1 : decode cX11_layField 1 = .ok (.bipush 24, 2) := by decide +kernel
theorem dX11_layField_3 : decode cX11_layField 3 = .ok (.aload_n 0, 1) := by decide +kernel
theorem dX11_layField_4 : decode cX11_layField 4 = .ok (.iconst 0, 1) := by decide +kernel
theorem dX11_layField_5 : decode cX11_layField 5 = .ok (.iaload, 1) := by decide +kernel
theorem dX11_layField_6 : decode cX11_layField 6 = .ok (.iadd, 1) := by decide +kernel
theorem dX11_layField_7 : decode cX11_layField 7 = .ok (.iload_n 1, 1) := by decide +kernel
theorem dX11_layField_8 : decode cX11_layField 8 = .ok (.iastore, 1) := by decide +kernel
theorem dX11_layField_9 : decode cX11_layField 9 = .ok (.aload_n 0, 1) := by decide +kernel
theorem dX11_layField_10 : decode cX11_layField 10 = .ok (.iconst 5, 1) := by decide +kernel
theorem dX11_layField_11 : decode cX11_layField 11 = .ok (.aload_n 0, 1) := by decide +kernel
theorem dX11_layField_12 : decode cX11_layField 12 = .ok (.iconst 0, 1) := by decide +kernel
theorem dX11_layField_13 : decode cX11_layField 13 = .ok (.iaload, 1) := by decide +kernel
theorem dX11_layField_14 : decode cX11_layField 14 = .ok (.iadd, 1) := by decide +kernel
theorem dX11_layField_15 : decode cX11_layField 15 = .ok (.iload_n 2, 1) := by decide +kernel
theorem dX11_layField_16 : decode cX11_layField 16 = .ok (.iastore, 1) := by decide +kernel
theorem dX11_layField_17 : decode cX11_layField 17 = .ok (.aload_n 0, 1) := by decide +kernel
theorem dX11_layField_18 : decode cX11_layField 18 = .ok (.iconst 0, 1) := by decide +kernel
theorem dX11_layField_19 : decode cX11_layField 19 = .ok (.dup2, 1) := by decide +kernel
theorem dX11_layField_20 : decode cX11_layField 20 = .ok (.iaload, 1) := by decide +kernel
theorem dX11_layField_21 : decode cX11_layField 21 = .ok (.iconst 1, 1) := by decide +kernel
theorem dX11_layField_22 : decode cX11_layField 22 = .ok (.iadd, 1) := by decide +kernel
theorem dX11_layField_23 : decode cX11_layField 23 = .ok (.iastore, 1) := by decide +kernel
theorem dX11_layField_24 : decode cX11_layField 24 = .ok (.return_, 1) := by decide +kernel
set_option maxRecDepth 20000 in
theorem ggX11_field_X11_in : GoodIn wsX11_field wsX11_in := goodIn_r _ [6] (by decide +kernel) (by decide +kernel)
set_option maxRecDepth 20000 in
theorem gX11_field_X11_in : GoodIn wsX11_field (va_wsS RX11 56 yX11_in wsX11_in) := goodIn_app (goodIn_of _ (by decide +kernel)) ggX11_field_X11_in
set_option maxRecDepth 20000 in
theorem ggX11_field_X11_isLight : GoodIn wsX11_field wsX11_isLight := goodIn_r _ [9, 10, 3, 4, 5, 6] (by decide +kernel) (by decide +kernel)
set_option maxRecDepth 20000 in
theorem gX11_field_X11_isLight : GoodIn wsX11_field (va_wsS RX11 79 yX11_isLight wsX11_isLight) := goodIn_app (goodIn_of _ (by decide +kernel)) ggX11_field_X11_isLight
set_option maxRecDepth 20000 in
theorem ggX11_field_X11_bad : GoodIn wsX11_field wsX11_bad := goodIn_r _ [14, 15, 27, 28, 29, 30, 31, 32, 33, 34, 35, 36, 37, 38, 39, 40, 41, 42, 43, 44] (by decide +kernel) (by decide +kernel)
set_option maxRecDepth 20000 in
theorem gX11_field_X11_bad : GoodIn wsX11_field (wsV RX11 73 RX11 yX11_bad wsX11_bad) := goodIn_app (goodIn_of _ (by decide +kernel)) ggX11_field_X11_bad
set_option maxRecDepth 20000 in
theorem ggX11_field_X11_many : GoodIn wsX11_field wsX11_many := goodIn_r _ [19, 2, 27, 28, 29, 30, 31, 32, 33, 34, 35, 36, 37, 38, 39, 40, 41, 42, 43, 44] (by decide +kernel) (by decide +kernel)
set_option maxRecDepth 20000 in
theorem gX11_field_X11_many : GoodIn wsX11_field (wsV RX11 52 RX11 yX11_many wsX11_many) := goodIn_app (goodIn_of _ (by decide +kernel)) ggX11_field_X11_many
set_option maxRecDepth 20000 in
theorem ggX11_field_X11_layField : GoodIn wsX11_field wsX11_layField := goodIn_r _ [26] (by decide +kernel) (by decide +kernel)
set_option maxRecDepth 20000 in
theorem gX11_field_X11_layField : GoodIn wsX11_field (va_wsS RX11 85 yX11_layField wsX11_layField) := goodIn_app (goodIn_of _ (by decide +kernel)) ggX11_field_X11_layField
theorem dX11_field_0 : decode cX11_field 0 = .ok (.iload_n 1, 1) := by decide +kernel
theorem dX11_field_1 : decode cX11_field 1 = .ok (.i2l, 1) := by decide +kernel
theorem dX11_field_2 : decode cX11_field 2 = .ok (.lconst 0, 1) := by decide +kernel
theorem dX11_field_3 : decode cX11_field 3 = .ok (.ldc2_w 77, 3) := by decide +kernel
theorem dX11_field_6 : decode cX11_field 6 = .ok (.invokestatic 56, 3) := by decide +kernel
theorem dX11_field_9 : decode cX11_field 9 = .ok (.ifCond .eq 10, 3) := by decide +kernel
theorem dX11_field_12 : decode cX11_field 12 = .ok (.iload_n 2, 1) := by decide +kernel
theorem dX11_field_13 : decode cX11_field 13 = .ok (.invokestatic 79, 3) := by decide +kernel
theorem dX11_field_16 : decode cX11_field 16 = .ok (.ifCond .ne 10, 3) := by decide +kernel
theorem dX11_field_19 : decode cX11_field 19 = .ok (.aload_n 0, 1) := by decide +kernel
theorem dX11_field_20 : decode cX11_field 20 = .ok (.bipush (-2), 2) := by decide +kernel
theorem dX11_field_22 : decode cX11_field 22 = .ok (.invokevirtual 73, 3) := by decide +kernel
theorem dX11_field_25 : decode cX11_field 25 = .ok (.ireturn, 1) := by decide +kernel
theorem dX11_field_26 : decode cX11_field 26 = .ok (.aload_n 0, 1) := by decide +kernel
theorem dX11_field_27 : decode cX11_field 27 = .ok (.invokevirtual 52, 3) := by decide +kernel
theorem dX11_field_30 : decode cX11_field 30 = .ok (.bipush 6, 2) := by decide +kernel
theorem dX11_field_32 : decode cX11_field 32 = .ok (.if_icmp .ne 8, 3) := by decide +kernel
theorem dX11_field_40 : decode cX11_field 40 = .ok (.aload_n 0, 1) := by decide +kernel
theorem dX11_field_41 : decode cX11_field 41 = .ok (.getfield 7, 3) := by decide +kernel
theorem dX11_field_44 : decode cX11_field 44 = .ok (.iload_n 1, 1) := by decide +kernel
theorem dX11_field_45 : decode cX11_field 45 = .ok (.iload_n 2, 1) := by decide +kernel
theorem dX11_field_46 : decode cX11_field 46 = .ok (.invokestatic 85, 3) := by decide +kernel
theorem dX11_field_49 : decode cX11_field 49 = .ok (.aload_n 0, 1) := by decide +kernel
theorem dX11_field_50 : decode cX11_field 50 = .ok (.getfield 7, 3) := by decide +kernel
theorem dX11_field_53 : decode cX11_field 53 = .ok (.iconst 4, 1) := by decide +kernel
theorem dX11_field_54 : decode cX11_field 54 = .ok (.iconst 0, 1) := by decide +kernel
theorem dX11_field_55 : decode cX11_field 55 = .ok (.iastore, 1) := by decide +kernel
theorem dX11_field_56 : decode cX11_field 56 = .ok (.aload_n 0, 1) := by decide +kernel
theorem dX11_field_57 : decode cX11_field 57 = .ok (.invokevirtual 52, 3) := by decide +kernel
theorem dX11_field_60 : decode cX11_field 60 = .ok (.iconst 1, 1) := by decide +kernel
theorem dX11_field_61 : decode cX11_field 61 = .ok (.isub, 1) := by decide +kernel
theorem dX11_field_62 : decode cX11_field 62 = .ok (.ireturn, 1) := by decide +kernel
set_option maxRecDepth 20000 in
theorem ggX11_gleaner_X11_isField : GoodIn wsX11_gleaner wsX11_isField := goodIn_r _ [6, 7, 8, 9, 5, 10, 1, 11, 12, 13, 30, 31, 32, 33, 34, 35, 36, 37, 38, 39, 40, 41, 42, 43, 44, 45, 46, 47] (by decide +kernel) (by decide +kernel)
set_option maxRecDepth 20000 in
theorem gX11_gleaner_X11_isField : GoodIn wsX11_gleaner (wsV RX11 89 RX11 yX11_isField wsX11_isField) := goodIn_app (goodIn_of _ (by decide +kernel)) ggX11_gleaner_X11_isField
set_option maxRecDepth 20000 in
theorem ggX11_gleaner_X11_bad : GoodIn wsX11_gleaner wsX11_bad := goodIn_r _ [17, 18, 30, 31, 32, 33, 34, 35, 36, 37, 38, 39, 40, 41, 42, 43, 44, 45, 46, 47] (by decide +kernel) (by decide +kernel)
set_option maxRecDepth 20000 in
theorem gX11_gleaner_X11_bad : GoodIn wsX11_gleaner (wsV RX11 73 RX11 yX11_bad wsX11_bad) := goodIn_app (goodIn_of _ (by decide +kernel)) ggX11_gleaner_X11_bad
theorem dX11_gleaner_0 : decode cX11_gleaner 0 = .ok (.aload_n 0, 1) := by decide +kernel
theorem dX11_gleaner_1 : decode cX11_gleaner 1 = .ok (.iload_n 1, 1) := by decide +kernel
theorem dX11_gleaner_2 : decode cX11_gleaner 2 = .ok (.invokevirtual 89, 3) := by decide +kernel
theorem dX11_gleaner_5 : decode cX11_gleaner 5 = .ok (.ifCond .ne 10, 3) := by decide +kernel
theorem dX11_gleaner_8 : decode cX11_gleaner 8 = .ok (.aload_n 0, 1) := by decide +kernel
theorem dX11_gleaner_9 : decode cX11_gleaner 9 = .ok (.bipush (-2), 2) := by decide +kernel
theorem dX11_gleaner_11 : decode cX11_gleaner 11 = .ok (.invokevirtual 73, 3) := by decide +kernel
theorem dX11_gleaner_14 : decode cX11_gleaner 14 = .ok (.ireturn, 1) := by decide +kernel
theorem dX11_layHand_0 : decode cX11_layHand 0 = .ok (.iconst 0, 1) := by decide +kernel
theorem dX11_layHand_1 : decode cX11_layHand 1 = .ok (.istore_n 1, 1) := by decide +kernel
theorem dX11_layHand_2 : decode cX11_layHand 2 = .ok (.iload_n 1, 1) := by decide +kernel
theorem dX11_layHand_3 : decode cX11_layHand 3 = .ok (.bipush 30, 2) := by decide +kernel
theorem dX11_layHand_5 : decode cX11_layHand 5 = .ok (.if_icmp .ge 21, 3) := by decide +kernel
theorem dX11_layHand_8 : decode cX11_layHand 8 = .ok (.aload_n 0, 1) := by decide +kernel
theorem dX11_layHand_9 : decode cX11_layHand 9 = .ok (.getfield 27, 3) := by decide +kernel
theorem dX11_layHand_12 : decode cX11_layHand 12 = .ok (.iload_n 1, 1) := by decide +kernel
theorem dX11_layHand_13 : decode cX11_layHand 13 = .ok (.aload_n 0, 1) := by decide +kernel
theorem dX11_layHand_14 : decode cX11_layHand 14 = .ok (.getfield 7, 3) := by decide +kernel
theorem dX11_layHand_17 : decode cX11_layHand 17 = .ok (.iload_n 1, 1) := by decide +kernel
theorem dX11_layHand_18 : decode cX11_layHand 18 = .ok (.iaload, 1) := by decide +kernel
theorem dX11_layHand_19 : decode cX11_layHand 19 = .ok (.iastore, 1) := by decide +kernel
theorem dX11_layHand_20 : decode cX11_layHand 20 = .ok (.iinc 1 1, 3) := by decide +kernel
theorem dX11_layHand_23 : decode cX11_layHand 23 = .ok (.goto (-21), 3) := by decide +kernel
theorem dX11_layHand_26 : decode cX11_layHand 26 = .ok (.return_, 1) := by decide +kernel
theorem dX11_goStep_0 : decode cX11_goStep 0 = .ok (.iconst 0, 1) := by decide +kernel
theorem dX11_goStep_1 : decode cX11_goStep 1 = .ok (.istore_n 1, 1) := by decide +kernel
theorem dX11_goStep_2 : decode cX11_goStep 2 = .ok (.iconst 0, 1) := by decide +kernel
theorem dX11_goStep_3 : decode cX11_goStep 3 = .ok (.istore_n 2, 1) := by decide +kernel
theorem dX11_goStep_4 : decode cX11_goStep 4 = .ok (.iload_n 2, 1) := by decide +kernel
theorem dX11_goStep_5 : decode cX11_goStep 5 = .ok (.aload_n 0, 1) := by decide +kernel
theorem dX11_goStep_6 : decode cX11_goStep 6 = .ok (.iconst 0, 1) := by decide +kernel
theorem dX11_goStep_7 : decode cX11_goStep 7 = .ok (.iaload, 1) := by decide +kernel
theorem dX11_goStep_8 : decode cX11_goStep 8 = .ok (.if_icmp .ge 144, 3) := by decide +kernel
theorem dX11_goStep_152 : decode cX11_goStep 152 = .ok (.aload_n 0, 1) := by decide +kernel
theorem dX11_goStep_153 : decode cX11_goStep 153 = .ok (.bipush 21, 2) := by decide +kernel
theorem dX11_goStep_155 : decode cX11_goStep 155 = .ok (.dup2, 1) := by decide +kernel
theorem dX11_goStep_156 : decode cX11_goStep 156 = .ok (.iaload, 1) := by decide +kernel
theorem dX11_goStep_157 : decode cX11_goStep 157 = .ok (.iconst 1, 1) := by decide +kernel
theorem dX11_goStep_158 : decode cX11_goStep 158 = .ok (.iadd, 1) := by decide +kernel
theorem dX11_goStep_159 : decode cX11_goStep 159 = .ok (.iastore, 1) := by decide +kernel
theorem dX11_goStep_160 : decode cX11_goStep 160 = .ok (.iload_n 1, 1) := by decide +kernel
theorem dX11_goStep_161 : decode cX11_goStep 161 = .ok (.ireturn, 1) := by decide +kernel
theorem dX11_goNight_0 : decode cX11_goNight 0 = .ok (.iconst 0, 1) := by decide +kernel
theorem dX11_goNight_1 : decode cX11_goNight 1 = .ok (.istore_n 1, 1) := by decide +kernel
theorem dX11_goNight_2 : decode cX11_goNight 2 = .ok (.iload_n 1, 1) := by decide +kernel
theorem dX11_goNight_3 : decode cX11_goNight 3 = .ok (.aload_n 0, 1) := by decide +kernel
theorem dX11_goNight_4 : decode cX11_goNight 4 = .ok (.iconst 1, 1) := by decide +kernel
theorem dX11_goNight_5 : decode cX11_goNight 5 = .ok (.iaload, 1) := by decide +kernel
theorem dX11_goNight_6 : decode cX11_goNight 6 = .ok (.if_icmp .ge 24, 3) := by decide +kernel
theorem dX11_goNight_30 : decode cX11_goNight 30 = .ok (.iconst 0, 1) := by decide +kernel
theorem dX11_goNight_31 : decode cX11_goNight 31 = .ok (.istore_n 1, 1) := by decide +kernel
theorem dX11_goNight_32 : decode cX11_goNight 32 = .ok (.iload_n 1, 1) := by decide +kernel
theorem dX11_goNight_33 : decode cX11_goNight 33 = .ok (.aload_n 0, 1) := by decide +kernel
theorem dX11_goNight_34 : decode cX11_goNight 34 = .ok (.iconst 0, 1) := by decide +kernel
theorem dX11_goNight_35 : decode cX11_goNight 35 = .ok (.iaload, 1) := by decide +kernel
theorem dX11_goNight_36 : decode cX11_goNight 36 = .ok (.if_icmp .ge 35, 3) := by decide +kernel
theorem dX11_goNight_71 : decode cX11_goNight 71 = .ok (.aload_n 0, 1) := by decide +kernel
theorem dX11_goNight_72 : decode cX11_goNight 72 = .ok (.bipush 23, 2) := by decide +kernel
theorem dX11_goNight_74 : decode cX11_goNight 74 = .ok (.dup2, 1) := by decide +kernel
theorem dX11_goNight_75 : decode cX11_goNight 75 = .ok (.iaload, 1) := by decide +kernel
theorem dX11_goNight_76 : decode cX11_goNight 76 = .ok (.aload_n 0, 1) := by decide +kernel
theorem dX11_goNight_77 : decode cX11_goNight 77 = .ok (.bipush 23, 2) := by decide +kernel
theorem dX11_goNight_79 : decode cX11_goNight 79 = .ok (.iaload, 1) := by decide +kernel
theorem dX11_goNight_80 : decode cX11_goNight 80 = .ok (.sipush 999, 3) := by decide +kernel
theorem dX11_goNight_83 : decode cX11_goNight 83 = .ok (.if_icmp .ge 7, 3) := by decide +kernel
theorem dX11_goNight_86 : decode cX11_goNight 86 = .ok (.iconst 1, 1) := by decide +kernel
theorem dX11_goNight_87 : decode cX11_goNight 87 = .ok (.goto 4, 3) := by decide +kernel
theorem dX11_goNight_90 : decode cX11_goNight 90 = .ok (.iconst 0, 1) := by decide +kernel
theorem dX11_goNight_91 : decode cX11_goNight 91 = .ok (.iadd, 1) := by decide +kernel
theorem dX11_goNight_92 : decode cX11_goNight 92 = .ok (.iastore, 1) := by decide +kernel
theorem dX11_goNight_93 : decode cX11_goNight 93 = .ok (.aload_n 0, 1) := by decide +kernel
theorem dX11_goNight_94 : decode cX11_goNight 94 = .ok (.bipush 21, 2) := by decide +kernel
theorem dX11_goNight_96 : decode cX11_goNight 96 = .ok (.iconst 0, 1) := by decide +kernel
theorem dX11_goNight_97 : decode cX11_goNight 97 = .ok (.iastore, 1) := by decide +kernel
theorem dX11_goNight_98 : decode cX11_goNight 98 = .ok (.return_, 1) := by decide +kernel
theorem dX11_keep_0 : decode cX11_keep 0 = .ok (.aload_n 0, 1) := by decide +kernel
theorem dX11_keep_1 : decode cX11_keep 1 = .ok (.getfield 7, 3) := by decide +kernel
theorem dX11_keep_4 : decode cX11_keep 4 = .ok (.iconst 4, 1) := by decide +kernel
theorem dX11_keep_5 : decode cX11_keep 5 = .ok (.iaload, 1) := by decide +kernel
theorem dX11_keep_6 : decode cX11_keep 6 = .ok (.bipush 8, 2) := by decide +kernel
theorem dX11_keep_8 : decode cX11_keep 8 = .ok (.if_icmp .ne 44, 3) := by decide +kernel
theorem dX11_keep_52 : decode cX11_keep 52 = .ok (.iconst 0, 1) := by decide +kernel
theorem dX11_keep_53 : decode cX11_keep 53 = .ok (.istore_n 1, 1) := by decide +kernel
theorem dX11_keep_54 : decode cX11_keep 54 = .ok (.iload_n 1, 1) := by decide +kernel
theorem dX11_keep_55 : decode cX11_keep 55 = .ok (.bipush 19, 2) := by decide +kernel
theorem dX11_keep_57 : decode cX11_keep 57 = .ok (.if_icmp .ge 36, 3) := by decide +kernel
theorem dX11_keep_60 : decode cX11_keep 60 = .ok (.aload_n 0, 1) := by decide +kernel
theorem dX11_keep_61 : decode cX11_keep 61 = .ok (.getfield 7, 3) := by decide +kernel
theorem dX11_keep_64 : decode cX11_keep 64 = .ok (.bipush 76, 2) := by decide +kernel
theorem dX11_keep_66 : decode cX11_keep 66 = .ok (.bipush 19, 2) := by decide +kernel
theorem dX11_keep_68 : decode cX11_keep 68 = .ok (.aload_n 0, 1) := by decide +kernel
theorem dX11_keep_69 : decode cX11_keep 69 = .ok (.getfield 7, 3) := by decide +kernel
theorem dX11_keep_72 : decode cX11_keep 72 = .ok (.iconst 4, 1) := by decide +kernel
theorem dX11_keep_73 : decode cX11_keep 73 = .ok (.iaload, 1) := by decide +kernel
theorem dX11_keep_74 : decode cX11_keep 74 = .ok (.imul, 1) := by decide +kernel
theorem dX11_keep_75 : decode cX11_keep 75 = .ok (.iadd, 1) := by decide +kernel
theorem dX11_keep_76 : decode cX11_keep 76 = .ok (.iload_n 1, 1) := by decide +kernel
theorem dX11_keep_77 : decode cX11_keep 77 = .ok (.iadd, 1) := by decide +kernel
theorem dX11_keep_78 : decode cX11_keep 78 = .ok (.aload_n 0, 1) := by decide +kernel
theorem dX11_keep_79 : decode cX11_keep 79 = .ok (.getfield 7, 3) := by decide +kernel
theorem dX11_keep_82 : decode cX11_keep 82 = .ok (.iconst 5, 1) := by decide +kernel
theorem dX11_keep_83 : decode cX11_keep 83 = .ok (.iload_n 1, 1) := by decide +kernel
theorem dX11_keep_84 : decode cX11_keep 84 = .ok (.iadd, 1) := by decide +kernel
theorem dX11_keep_85 : decode cX11_keep 85 = .ok (.iaload, 1) := by decide +kernel
theorem dX11_keep_86 : decode cX11_keep 86 = .ok (.iastore, 1) := by decide +kernel
theorem dX11_keep_87 : decode cX11_keep 87 = .ok (.iinc 1 1, 3) := by decide +kernel
theorem dX11_keep_90 : decode cX11_keep 90 = .ok (.goto (-36), 3) := by decide +kernel
theorem dX11_keep_93 : decode cX11_keep 93 = .ok (.aload_n 0, 1) := by decide +kernel
theorem dX11_keep_94 : decode cX11_keep 94 = .ok (.getfield 7, 3) := by decide +kernel
theorem dX11_keep_97 : decode cX11_keep 97 = .ok (.iconst 4, 1) := by decide +kernel
theorem dX11_keep_98 : decode cX11_keep 98 = .ok (.dup2, 1) := by decide +kernel
theorem dX11_keep_99 : decode cX11_keep 99 = .ok (.iaload, 1) := by decide +kernel
theorem dX11_keep_100 : decode cX11_keep 100 = .ok (.iconst 1, 1) := by decide +kernel
theorem dX11_keep_101 : decode cX11_keep 101 = .ok (.iadd, 1) := by decide +kernel
theorem dX11_keep_102 : decode cX11_keep 102 = .ok (.iastore, 1) := by decide +kernel
theorem dX11_keep_103 : decode cX11_keep 103 = .ok (.return_, 1) := by decide +kernel
set_option maxRecDepth 20000 in
theorem ggX11_glean_X11_in : GoodIn wsX11_glean wsX11_in := goodIn_r _ [6] (by decide +kernel) (by decide +kernel)
set_option maxRecDepth 20000 in
theorem gX11_glean_X11_in : GoodIn wsX11_glean (va_wsS RX11 56 yX11_in wsX11_in) := goodIn_app (goodIn_of _ (by decide +kernel)) ggX11_glean_X11_in
set_option maxRecDepth 20000 in
theorem ggX11_glean_X11_bad : GoodIn wsX11_glean wsX11_bad := goodIn_r _ [10, 11, 38, 39, 40, 41, 42, 43, 44, 45, 46, 47, 48, 49, 50, 51, 52, 53, 54, 55] (by decide +kernel) (by decide +kernel)
set_option maxRecDepth 20000 in
theorem gX11_glean_X11_bad : GoodIn wsX11_glean (wsV RX11 73 RX11 yX11_bad wsX11_bad) := goodIn_app (goodIn_of _ (by decide +kernel)) ggX11_glean_X11_bad
set_option maxRecDepth 20000 in
theorem ggX11_glean_X11_no : GoodIn wsX11_glean wsX11_no := goodIn_r _ [15, 11, 38, 39, 40, 41, 42, 43, 44, 45, 46, 47, 48, 49, 50, 51, 52, 53, 54, 55] (by decide +kernel) (by decide +kernel)
set_option maxRecDepth 20000 in
theorem gX11_glean_X11_no : GoodIn wsX11_glean (wsV RX11 119 RX11 yX11_no wsX11_no) := goodIn_app (goodIn_of _ (by decide +kernel)) ggX11_glean_X11_no
set_option maxRecDepth 20000 in
theorem ggX11_glean_X11_keep : GoodIn wsX11_glean wsX11_keep := goodIn_r _ [19, 2, 38, 39, 40, 41, 42, 43, 44, 45, 46, 47, 48, 49, 50, 51, 52, 53, 54, 55] (by decide +kernel) (by decide +kernel)
set_option maxRecDepth 20000 in
theorem gX11_glean_X11_keep : GoodIn wsX11_glean (wsV RX11 122 RX11 yX11_keep wsX11_keep) := goodIn_app (goodIn_of _ (by decide +kernel)) ggX11_glean_X11_keep
set_option maxRecDepth 20000 in
theorem ggX11_glean_X11_goStep : GoodIn wsX11_glean wsX11_goStep := goodIn_r _ [22, 23, 24, 5, 25, 26, 27, 28, 29, 30, 31, 32, 33, 34, 35, 36, 37] (by decide +kernel) (by decide +kernel)
set_option maxRecDepth 20000 in
theorem gX11_glean_X11_goStep : GoodIn wsX11_glean (va_wsS RX11 125 yX11_goStep wsX11_goStep) := goodIn_app (goodIn_of _ (by decide +kernel)) ggX11_glean_X11_goStep
theorem dX11_glean_0 : decode cX11_glean 0 = .ok (.iload_n 1, 1) := by decide +kernel
theorem dX11_glean_1 : decode cX11_glean 1 = .ok (.i2l, 1) := by decide +kernel
theorem dX11_glean_2 : decode cX11_glean 2 = .ok (.lconst 1, 1) := by decide +kernel
theorem dX11_glean_3 : decode cX11_glean 3 = .ok (.ldc2_w 117, 3) := by decide +kernel
theorem dX11_glean_6 : decode cX11_glean 6 = .ok (.invokestatic 56, 3) := by decide +kernel
theorem dX11_glean_9 : decode cX11_glean 9 = .ok (.ifCond .ne 10, 3) := by decide +kernel
theorem dX11_glean_12 : decode cX11_glean 12 = .ok (.aload_n 0, 1) := by decide +kernel
theorem dX11_glean_13 : decode cX11_glean 13 = .ok (.bipush (-2), 2) := by decide +kernel
theorem dX11_glean_15 : decode cX11_glean 15 = .ok (.invokevirtual 73, 3) := by decide +kernel
theorem dX11_glean_18 : decode cX11_glean 18 = .ok (.ireturn, 1) := by decide +kernel
theorem dX11_glean_19 : decode cX11_glean 19 = .ok (.aload_n 0, 1) := by decide +kernel
theorem dX11_glean_20 : decode cX11_glean 20 = .ok (.getfield 7, 3) := by decide +kernel
theorem dX11_glean_23 : decode cX11_glean 23 = .ok (.bipush 21, 2) := by decide +kernel
theorem dX11_glean_25 : decode cX11_glean 25 = .ok (.iaload, 1) := by decide +kernel
theorem dX11_glean_26 : decode cX11_glean 26 = .ok (.iload_n 1, 1) := by decide +kernel
theorem dX11_glean_27 : decode cX11_glean 27 = .ok (.iadd, 1) := by decide +kernel
theorem dX11_glean_28 : decode cX11_glean 28 = .ok (.bipush 12, 2) := by decide +kernel
theorem dX11_glean_30 : decode cX11_glean 30 = .ok (.if_icmp .le 8, 3) := by decide +kernel
theorem dX11_glean_33 : decode cX11_glean 33 = .ok (.aload_n 0, 1) := by decide +kernel
theorem dX11_glean_34 : decode cX11_glean 34 = .ok (.invokevirtual 119, 3) := by decide +kernel
theorem dX11_glean_37 : decode cX11_glean 37 = .ok (.ireturn, 1) := by decide +kernel
theorem dX11_glean_38 : decode cX11_glean 38 = .ok (.iconst 0, 1) := by decide +kernel
theorem dX11_glean_39 : decode cX11_glean 39 = .ok (.istore_n 2, 1) := by decide +kernel
theorem dX11_glean_40 : decode cX11_glean 40 = .ok (.aload_n 0, 1) := by decide +kernel
theorem dX11_glean_41 : decode cX11_glean 41 = .ok (.invokevirtual 122, 3) := by decide +kernel
theorem dX11_glean_44 : decode cX11_glean 44 = .ok (.iconst 0, 1) := by decide +kernel
theorem dX11_glean_45 : decode cX11_glean 45 = .ok (.istore_n 3, 1) := by decide +kernel
theorem dX11_glean_46 : decode cX11_glean 46 = .ok (.iload_n 3, 1) := by decide +kernel
theorem dX11_glean_47 : decode cX11_glean 47 = .ok (.iload_n 1, 1) := by decide +kernel
theorem dX11_glean_48 : decode cX11_glean 48 = .ok (.if_icmp .ge 19, 3) := by decide +kernel
theorem dX11_glean_51 : decode cX11_glean 51 = .ok (.iload_n 2, 1) := by decide +kernel
theorem dX11_glean_52 : decode cX11_glean 52 = .ok (.aload_n 0, 1) := by decide +kernel
theorem dX11_glean_53 : decode cX11_glean 53 = .ok (.getfield 7, 3) := by decide +kernel
theorem dX11_glean_56 : decode cX11_glean 56 = .ok (.invokestatic 125, 3) := by decide +kernel
theorem dX11_glean_59 : decode cX11_glean 59 = .ok (.iadd, 1) := by decide +kernel
theorem dX11_glean_60 : decode cX11_glean 60 = .ok (.istore_n 2, 1) := by decide +kernel
theorem dX11_glean_61 : decode cX11_glean 61 = .ok (.iinc 3 1, 3) := by decide +kernel
theorem dX11_glean_64 : decode cX11_glean 64 = .ok (.goto (-18), 3) := by decide +kernel
theorem dX11_glean_67 : decode cX11_glean 67 = .ok (.iload_n 2, 1) := by decide +kernel
theorem dX11_glean_68 : decode cX11_glean 68 = .ok (.ireturn, 1) := by decide +kernel
set_option maxRecDepth 20000 in
theorem ggX11_night_X11_keep : GoodIn wsX11_night wsX11_keep := goodIn_r _ [6, 1, 13, 14, 15, 16, 17, 18, 19, 20, 21, 22, 23, 24, 25, 26, 27, 28, 29, 30] (by decide +kernel) (by decide +kernel)
set_option maxRecDepth 20000 in
theorem gX11_night_X11_keep : GoodIn wsX11_night (wsV RX11 122 RX11 yX11_keep wsX11_keep) := goodIn_app (goodIn_of _ (by decide +kernel)) ggX11_night_X11_keep
set_option maxRecDepth 20000 in
theorem ggX11_night_X11_goNight : GoodIn wsX11_night wsX11_goNight := goodIn_r _ [9, 10, 11, 5, 12] (by decide +kernel) (by decide +kernel)
set_option maxRecDepth 20000 in
theorem gX11_night_X11_goNight : GoodIn wsX11_night (va_wsS RX11 129 yX11_goNight wsX11_goNight) := goodIn_app (goodIn_of _ (by decide +kernel)) ggX11_night_X11_goNight
theorem dX11_night_0 : decode cX11_night 0 = .ok (.aload_n 0, 1) := by decide +kernel
theorem dX11_night_1 : decode cX11_night 1 = .ok (.invokevirtual 122, 3) := by decide +kernel
theorem dX11_night_4 : decode cX11_night 4 = .ok (.aload_n 0, 1) := by decide +kernel
theorem dX11_night_5 : decode cX11_night 5 = .ok (.getfield 7, 3) := by decide +kernel
theorem dX11_night_8 : decode cX11_night 8 = .ok (.invokestatic 129, 3) := by decide +kernel
theorem dX11_night_11 : decode cX11_night 11 = .ok (.aload_n 0, 1) := by decide +kernel
theorem dX11_night_12 : decode cX11_night 12 = .ok (.getfield 7, 3) := by decide +kernel
theorem dX11_night_15 : decode cX11_night 15 = .ok (.bipush 23, 2) := by decide +kernel
theorem dX11_night_17 : decode cX11_night 17 = .ok (.iaload, 1) := by decide +kernel
theorem dX11_night_18 : decode cX11_night 18 = .ok (.ireturn, 1) := by decide +kernel
set_option maxRecDepth 20000 in
theorem ggX11_goes_X11_isGleaner : GoodIn wsX11_goes wsX11_isGleaner := goodIn_r _ [6, 7, 8, 9, 5, 10, 1, 11, 12, 13, 31, 32, 33, 34, 35, 36, 37, 38, 39, 40, 41, 42, 43, 44, 45, 46, 47, 48] (by decide +kernel) (by decide +kernel)
set_option maxRecDepth 20000 in
theorem gX11_goes_X11_isGleaner : GoodIn wsX11_goes (wsV RX11 133 RX11 yX11_isGleaner wsX11_isGleaner) := goodIn_app (goodIn_of _ (by decide +kernel)) ggX11_goes_X11_isGleaner
set_option maxRecDepth 20000 in
theorem ggX11_goes_X11_bad : GoodIn wsX11_goes wsX11_bad := goodIn_r _ [25, 26, 31, 32, 33, 34, 35, 36, 37, 38, 39, 40, 41, 42, 43, 44, 45, 46, 47, 48] (by decide +kernel) (by decide +kernel)
set_option maxRecDepth 20000 in
theorem gX11_goes_X11_bad : GoodIn wsX11_goes (wsV RX11 73 RX11 yX11_bad wsX11_bad) := goodIn_app (goodIn_of _ (by decide +kernel)) ggX11_goes_X11_bad
theorem dX11_goes_0 : decode cX11_goes 0 = .ok (.aload_n 0, 1) := by decide +kernel
theorem dX11_goes_1 : decode cX11_goes 1 = .ok (.iload_n 1, 1) := by decide +kernel
theorem dX11_goes_2 : decode cX11_goes 2 = .ok (.invokevirtual 133, 3) := by decide +kernel
theorem dX11_goes_5 : decode cX11_goes 5 = .ok (.ifCond .eq 11, 3) := by decide +kernel
theorem dX11_goes_16 : decode cX11_goes 16 = .ok (.aload_n 0, 1) := by decide +kernel
theorem dX11_goes_17 : decode cX11_goes 17 = .ok (.bipush (-2), 2) := by decide +kernel
theorem dX11_goes_19 : decode cX11_goes 19 = .ok (.invokevirtual 73, 3) := by decide +kernel
theorem dX11_goes_22 : decode cX11_goes 22 = .ok (.ireturn, 1) := by decide +kernel
set_option maxRecDepth 20000 in
theorem ggX11_cloud_X11_isCloud : GoodIn wsX11_cloud wsX11_isCloud := goodIn_r _ [5, 6, 7, 8, 4, 9] (by decide +kernel) (by decide +kernel)
set_option maxRecDepth 20000 in
theorem gX11_cloud_X11_isCloud : GoodIn wsX11_cloud (va_wsS RX11 69 yX11_isCloud wsX11_isCloud) := goodIn_app (goodIn_of _ (by decide +kernel)) ggX11_cloud_X11_isCloud
set_option maxRecDepth 20000 in
theorem ggX11_cloud_X11_bad : GoodIn wsX11_cloud wsX11_bad := goodIn_r _ [13, 14, 19, 20, 21, 22, 23, 24, 25, 26, 27, 28, 29, 30, 31, 32, 33, 34, 35, 36] (by decide +kernel) (by decide +kernel)
set_option maxRecDepth 20000 in
theorem gX11_cloud_X11_bad : GoodIn wsX11_cloud (wsV RX11 73 RX11 yX11_bad wsX11_bad) := goodIn_app (goodIn_of _ (by decide +kernel)) ggX11_cloud_X11_bad
set_option maxRecDepth 20000 in
theorem ggX11_cloud_X11_keep : GoodIn wsX11_cloud wsX11_keep := goodIn_r _ [18, 1, 19, 20, 21, 22, 23, 24, 25, 26, 27, 28, 29, 30, 31, 32, 33, 34, 35, 36] (by decide +kernel) (by decide +kernel)
set_option maxRecDepth 20000 in
theorem gX11_cloud_X11_keep : GoodIn wsX11_cloud (wsV RX11 122 RX11 yX11_keep wsX11_keep) := goodIn_app (goodIn_of _ (by decide +kernel)) ggX11_cloud_X11_keep
theorem dX11_cloud_0 : decode cX11_cloud 0 = .ok (.iload_n 1, 1) := by decide +kernel
theorem dX11_cloud_1 : decode cX11_cloud 1 = .ok (.invokestatic 69, 3) := by decide +kernel
theorem dX11_cloud_4 : decode cX11_cloud 4 = .ok (.ifCond .ne 10, 3) := by decide +kernel
theorem dX11_cloud_7 : decode cX11_cloud 7 = .ok (.aload_n 0, 1) := by decide +kernel
theorem dX11_cloud_8 : decode cX11_cloud 8 = .ok (.bipush (-2), 2) := by decide +kernel
theorem dX11_cloud_10 : decode cX11_cloud 10 = .ok (.invokevirtual 73, 3) := by decide +kernel
theorem dX11_cloud_13 : decode cX11_cloud 13 = .ok (.ireturn, 1) := by decide +kernel
theorem dX11_cloud_14 : decode cX11_cloud 14 = .ok (.aload_n 0, 1) := by decide +kernel
theorem dX11_cloud_15 : decode cX11_cloud 15 = .ok (.getfield 7, 3) := by decide +kernel
theorem dX11_cloud_18 : decode cX11_cloud 18 = .ok (.bipush 22, 2) := by decide +kernel
theorem dX11_cloud_20 : decode cX11_cloud 20 = .ok (.iaload, 1) := by decide +kernel
theorem dX11_cloud_21 : decode cX11_cloud 21 = .ok (.istore_n 2, 1) := by decide +kernel
theorem dX11_cloud_22 : decode cX11_cloud 22 = .ok (.aload_n 0, 1) := by decide +kernel
theorem dX11_cloud_23 : decode cX11_cloud 23 = .ok (.invokevirtual 122, 3) := by decide +kernel
theorem dX11_cloud_26 : decode cX11_cloud 26 = .ok (.aload_n 0, 1) := by decide +kernel
theorem dX11_cloud_27 : decode cX11_cloud 27 = .ok (.getfield 7, 3) := by decide +kernel
theorem dX11_cloud_30 : decode cX11_cloud 30 = .ok (.bipush 22, 2) := by decide +kernel
theorem dX11_cloud_32 : decode cX11_cloud 32 = .ok (.iload_n 1, 1) := by decide +kernel
theorem dX11_cloud_33 : decode cX11_cloud 33 = .ok (.iastore, 1) := by decide +kernel
theorem dX11_cloud_34 : decode cX11_cloud 34 = .ok (.iload_n 2, 1) := by decide +kernel
theorem dX11_cloud_35 : decode cX11_cloud 35 = .ok (.ireturn, 1) := by decide +kernel
set_option maxRecDepth 20000 in
theorem ggX11_undo_X11_no : GoodIn wsX11_undo wsX11_no := goodIn_r _ [6, 7, 8, 9, 10, 11, 12, 13, 14, 15, 16, 17, 18, 19, 20, 21, 22, 23, 24, 25] (by decide +kernel) (by decide +kernel)
set_option maxRecDepth 20000 in
theorem gX11_undo_X11_no : GoodIn wsX11_undo (wsV RX11 119 RX11 yX11_no wsX11_no) := goodIn_app (goodIn_of _ (by decide +kernel)) ggX11_undo_X11_no
theorem dX11_undo_0 : decode cX11_undo 0 = .ok (.aload_n 0, 1) := by decide +kernel
theorem dX11_undo_1 : decode cX11_undo 1 = .ok (.getfield 7, 3) := by decide +kernel
theorem dX11_undo_4 : decode cX11_undo 4 = .ok (.iconst 4, 1) := by decide +kernel
theorem dX11_undo_5 : decode cX11_undo 5 = .ok (.iaload, 1) := by decide +kernel
theorem dX11_undo_6 : decode cX11_undo 6 = .ok (.ifCond .ne 8, 3) := by decide +kernel
theorem dX11_undo_9 : decode cX11_undo 9 = .ok (.aload_n 0, 1) := by decide +kernel
theorem dX11_undo_10 : decode cX11_undo 10 = .ok (.invokevirtual 119, 3) := by decide +kernel
theorem dX11_undo_13 : decode cX11_undo 13 = .ok (.ireturn, 1) := by decide +kernel
set_option maxRecDepth 20000 in
theorem ggX11_of_X11_isField : GoodIn wsX11_of wsX11_isField := goodIn_r _ [7, 8, 9, 10, 6, 11, 2, 12, 13, 14, 28, 29, 30, 31, 32, 33, 34, 35, 36, 37, 38, 39, 40, 41, 42, 43, 44, 45] (by decide +kernel) (by decide +kernel)
set_option maxRecDepth 20000 in
theorem gX11_of_X11_isField : GoodIn wsX11_of (wsV RX11 89 RX11 yX11_isField wsX11_isField) := goodIn_app (goodIn_of _ (by decide +kernel)) ggX11_of_X11_isField
set_option maxRecDepth 20000 in
theorem ggX11_of_X11_bad : GoodIn wsX11_of wsX11_bad := goodIn_r _ [18, 19, 28, 29, 30, 31, 32, 33, 34, 35, 36, 37, 38, 39, 40, 41, 42, 43, 44, 45] (by decide +kernel) (by decide +kernel)
set_option maxRecDepth 20000 in
theorem gX11_of_X11_bad : GoodIn wsX11_of (wsV RX11 73 RX11 yX11_bad wsX11_bad) := goodIn_app (goodIn_of _ (by decide +kernel)) ggX11_of_X11_bad
theorem dX11_of_0 : decode cX11_of 0 = .ok (.aload_n 0, 1) := by decide +kernel
theorem dX11_of_1 : decode cX11_of 1 = .ok (.iload_n 1, 1) := by decide +kernel
theorem dX11_of_2 : decode cX11_of 2 = .ok (.invokevirtual 89, 3) := by decide +kernel
theorem dX11_of_5 : decode cX11_of 5 = .ok (.ifCond .eq 15, 3) := by decide +kernel
theorem dX11_of_20 : decode cX11_of 20 = .ok (.aload_n 0, 1) := by decide +kernel
theorem dX11_of_21 : decode cX11_of 21 = .ok (.bipush (-2), 2) := by decide +kernel
theorem dX11_of_23 : decode cX11_of 23 = .ok (.invokevirtual 73, 3) := by decide +kernel
theorem dX11_of_26 : decode cX11_of 26 = .ok (.ireturn, 1) := by decide +kernel
set_option maxRecDepth 20000 in
theorem ggX11_about_X11_isGleaner : GoodIn wsX11_about wsX11_isGleaner := goodIn_r _ [7, 8, 9, 10, 6, 11, 2, 12, 13, 14, 38, 39, 40, 41, 42, 43, 44, 45, 46, 47, 48, 49, 50, 51, 52, 53, 54, 55] (by decide +kernel) (by decide +kernel)
set_option maxRecDepth 20000 in
theorem gX11_about_X11_isGleaner : GoodIn wsX11_about (wsV RX11 133 RX11 yX11_isGleaner wsX11_isGleaner) := goodIn_app (goodIn_of _ (by decide +kernel)) ggX11_about_X11_isGleaner
set_option maxRecDepth 20000 in
theorem ggX11_about_X11_bad : GoodIn wsX11_about wsX11_bad := goodIn_r _ [18, 19, 38, 39, 40, 41, 42, 43, 44, 45, 46, 47, 48, 49, 50, 51, 52, 53, 54, 55] (by decide +kernel) (by decide +kernel)
set_option maxRecDepth 20000 in
theorem gX11_about_X11_bad : GoodIn wsX11_about (wsV RX11 73 RX11 yX11_bad wsX11_bad) := goodIn_app (goodIn_of _ (by decide +kernel)) ggX11_about_X11_bad
theorem dX11_about_0 : decode cX11_about 0 = .ok (.aload_n 0, 1) := by decide +kernel
theorem dX11_about_1 : decode cX11_about 1 = .ok (.iload_n 1, 1) := by decide +kernel
theorem dX11_about_2 : decode cX11_about 2 = .ok (.invokevirtual 133, 3) := by decide +kernel
theorem dX11_about_5 : decode cX11_about 5 = .ok (.ifCond .eq 15, 3) := by decide +kernel
theorem dX11_about_20 : decode cX11_about 20 = .ok (.aload_n 0, 1) := by decide +kernel
theorem dX11_about_21 : decode cX11_about 21 = .ok (.bipush (-2), 2) := by decide +kernel
theorem dX11_about_23 : decode cX11_about 23 = .ok (.invokevirtual 73, 3) := by decide +kernel
theorem dX11_about_26 : decode cX11_about 26 = .ok (.ireturn, 1) := by decide +kernel
set_option maxRecDepth 20000 in
theorem ggX11_seen_X11_isField : GoodIn wsX11_seen wsX11_isField := goodIn_r _ [6, 7, 8, 9, 5, 10, 1, 11, 12, 13, 35, 36, 37, 38, 39, 40, 41, 42, 43, 44, 45, 46, 47, 48, 49, 50, 51, 52] (by decide +kernel) (by decide +kernel)
set_option maxRecDepth 20000 in
theorem gX11_seen_X11_isField : GoodIn wsX11_seen (wsV RX11 89 RX11 yX11_isField wsX11_isField) := goodIn_app (goodIn_of _ (by decide +kernel)) ggX11_seen_X11_isField
set_option maxRecDepth 20000 in
theorem ggX11_seen_X11_bad : GoodIn wsX11_seen wsX11_bad := goodIn_r _ [33, 34, 35, 36, 37, 38, 39, 40, 41, 42, 43, 44, 45, 46, 47, 48, 49, 50, 51, 52] (by decide +kernel) (by decide +kernel)
set_option maxRecDepth 20000 in
theorem gX11_seen_X11_bad : GoodIn wsX11_seen (wsV RX11 73 RX11 yX11_bad wsX11_bad) := goodIn_app (goodIn_of _ (by decide +kernel)) ggX11_seen_X11_bad
theorem dX11_seen_0 : decode cX11_seen 0 = .ok (.aload_n 0, 1) := by decide +kernel
theorem dX11_seen_1 : decode cX11_seen 1 = .ok (.iload_n 1, 1) := by decide +kernel
theorem dX11_seen_2 : decode cX11_seen 2 = .ok (.invokevirtual 89, 3) := by decide +kernel
theorem dX11_seen_5 : decode cX11_seen 5 = .ok (.ifCond .eq 22, 3) := by decide +kernel
theorem dX11_seen_27 : decode cX11_seen 27 = .ok (.aload_n 0, 1) := by decide +kernel
theorem dX11_seen_28 : decode cX11_seen 28 = .ok (.bipush (-2), 2) := by decide +kernel
theorem dX11_seen_30 : decode cX11_seen 30 = .ok (.invokevirtual 73, 3) := by decide +kernel
theorem dX11_seen_33 : decode cX11_seen 33 = .ok (.ireturn, 1) := by decide +kernel
set_option maxRecDepth 20000 in
theorem ggX11_then_X11_isGleaner : GoodIn wsX11_then wsX11_isGleaner := goodIn_r _ [7, 8, 9, 10, 6, 11, 12, 13, 14, 15, 43, 44, 45, 46, 47, 48, 49, 50, 51, 52, 53, 54, 55, 56, 57, 58, 59, 60] (by decide +kernel) (by decide +kernel)
set_option maxRecDepth 20000 in
theorem gX11_then_X11_isGleaner : GoodIn wsX11_then (wsV RX11 133 RX11 yX11_isGleaner wsX11_isGleaner) := goodIn_app (goodIn_of _ (by decide +kernel)) ggX11_then_X11_isGleaner
set_option maxRecDepth 20000 in
theorem ggX11_then_X11_bad : GoodIn wsX11_then wsX11_bad := goodIn_r _ [19, 20, 43, 44, 45, 46, 47, 48, 49, 50, 51, 52, 53, 54, 55, 56, 57, 58, 59, 60] (by decide +kernel) (by decide +kernel)
set_option maxRecDepth 20000 in
theorem gX11_then_X11_bad : GoodIn wsX11_then (wsV RX11 73 RX11 yX11_bad wsX11_bad) := goodIn_app (goodIn_of _ (by decide +kernel)) ggX11_then_X11_bad
theorem dX11_then_0 : decode cX11_then 0 = .ok (.aload_n 0, 1) := by decide +kernel
theorem dX11_then_1 : decode cX11_then 1 = .ok (.iload_n 1, 1) := by decide +kernel
theorem dX11_then_2 : decode cX11_then 2 = .ok (.invokevirtual 133, 3) := by decide +kernel
theorem dX11_then_5 : decode cX11_then 5 = .ok (.ifCond .eq 15, 3) := by decide +kernel
theorem dX11_then_20 : decode cX11_then 20 = .ok (.aload_n 0, 1) := by decide +kernel
theorem dX11_then_21 : decode cX11_then 21 = .ok (.bipush (-2), 2) := by decide +kernel
theorem dX11_then_23 : decode cX11_then 23 = .ok (.invokevirtual 73, 3) := by decide +kernel
theorem dX11_then_26 : decode cX11_then 26 = .ok (.ireturn, 1) := by decide +kernel
set_option maxRecDepth 20000 in
theorem ggX11_round_X11_isGleaner : GoodIn wsX11_round wsX11_isGleaner := goodIn_r _ [8, 9, 10, 11, 7, 12, 13, 14, 15, 16, 54, 55, 56, 57, 58, 59, 60, 61, 62, 63, 64, 65, 66, 67, 68, 69, 70, 71] (by decide +kernel) (by decide +kernel)
set_option maxRecDepth 20000 in
theorem gX11_round_X11_isGleaner : GoodIn wsX11_round (wsV RX11 133 RX11 yX11_isGleaner wsX11_isGleaner) := goodIn_app (goodIn_of _ (by decide +kernel)) ggX11_round_X11_isGleaner
set_option maxRecDepth 20000 in
theorem ggX11_round_X11_bad : GoodIn wsX11_round wsX11_bad := goodIn_r _ [20, 21, 54, 55, 56, 57, 58, 59, 60, 61, 62, 63, 64, 65, 66, 67, 68, 69, 70, 71] (by decide +kernel) (by decide +kernel)
set_option maxRecDepth 20000 in
theorem gX11_round_X11_bad : GoodIn wsX11_round (wsV RX11 73 RX11 yX11_bad wsX11_bad) := goodIn_app (goodIn_of _ (by decide +kernel)) ggX11_round_X11_bad
theorem dX11_round_0 : decode cX11_round 0 = .ok (.aload_n 0, 1) := by decide +kernel
theorem dX11_round_1 : decode cX11_round 1 = .ok (.iload_n 1, 1) := by decide +kernel
theorem dX11_round_2 : decode cX11_round 2 = .ok (.invokevirtual 133, 3) := by decide +kernel
theorem dX11_round_5 : decode cX11_round 5 = .ok (.ifCond .eq 20, 3) := by decide +kernel
theorem dX11_round_25 : decode cX11_round 25 = .ok (.aload_n 0, 1) := by decide +kernel
theorem dX11_round_26 : decode cX11_round 26 = .ok (.bipush (-10), 2) := by decide +kernel
theorem dX11_round_28 : decode cX11_round 28 = .ok (.invokevirtual 73, 3) := by decide +kernel
theorem dX11_round_31 : decode cX11_round 31 = .ok (.ireturn, 1) := by decide +kernel
set_option maxRecDepth 20000 in
theorem ggX11_places_X11_in : GoodIn wsX11_places wsX11_in := goodIn_r _ [7] (by decide +kernel) (by decide +kernel)
set_option maxRecDepth 20000 in
theorem gX11_places_X11_in : GoodIn wsX11_places (va_wsS RX11 56 yX11_in wsX11_in) := goodIn_app (goodIn_of _ (by decide +kernel)) ggX11_places_X11_in
set_option maxRecDepth 20000 in
theorem ggX11_places_X11_manyGleaners : GoodIn wsX11_places wsX11_manyGleaners := goodIn_r _ [11, 12, 49, 50, 51, 52, 53, 54, 55, 56, 57, 58, 59, 60, 61, 62, 63, 64, 65, 66] (by decide +kernel) (by decide +kernel)
set_option maxRecDepth 20000 in
theorem gX11_places_X11_manyGleaners : GoodIn wsX11_places (wsV RX11 60 RX11 yX11_manyGleaners wsX11_manyGleaners) := goodIn_app (goodIn_of _ (by decide +kernel)) ggX11_places_X11_manyGleaners
set_option maxRecDepth 20000 in
theorem ggX11_places_X11_bad : GoodIn wsX11_places wsX11_bad := goodIn_r _ [16, 17, 49, 50, 51, 52, 53, 54, 55, 56, 57, 58, 59, 60, 61, 62, 63, 64, 65, 66] (by decide +kernel) (by decide +kernel)
set_option maxRecDepth 20000 in
theorem gX11_places_X11_bad : GoodIn wsX11_places (wsV RX11 73 RX11 yX11_bad wsX11_bad) := goodIn_app (goodIn_of _ (by decide +kernel)) ggX11_places_X11_bad
set_option maxRecDepth 20000 in
theorem ggX11_places_X11_layHand : GoodIn wsX11_places wsX11_layHand := goodIn_r _ [21, 3, 12, 49, 50, 51, 52, 53, 54, 55, 56, 57, 58, 59, 60, 61, 62, 63, 64, 65, 66] (by decide +kernel) (by decide +kernel)
set_option maxRecDepth 20000 in
theorem gX11_places_X11_layHand : GoodIn wsX11_places (wsV RX11 147 RX11 yX11_layHand wsX11_layHand) := goodIn_app (goodIn_of _ (by decide +kernel)) ggX11_places_X11_layHand
theorem dX11_places_0 : decode cX11_places 0 = .ok (.iload_n 1, 1) := by decide +kernel
theorem dX11_places_1 : decode cX11_places 1 = .ok (.i2l, 1) := by decide +kernel
theorem dX11_places_2 : decode cX11_places 2 = .ok (.lconst 0, 1) := by decide +kernel
theorem dX11_places_3 : decode cX11_places 3 = .ok (.lconst 1, 1) := by decide +kernel
theorem dX11_places_4 : decode cX11_places 4 = .ok (.invokestatic 56, 3) := by decide +kernel
theorem dX11_places_7 : decode cX11_places 7 = .ok (.ifCond .eq 21, 3) := by decide +kernel
theorem dX11_places_10 : decode cX11_places 10 = .ok (.iload_n 2, 1) := by decide +kernel
theorem dX11_places_11 : decode cX11_places 11 = .ok (.i2l, 1) := by decide +kernel
theorem dX11_places_12 : decode cX11_places 12 = .ok (.ldc2_w 159, 3) := by decide +kernel
theorem dX11_places_15 : decode cX11_places 15 = .ok (.aload_n 0, 1) := by decide +kernel
theorem dX11_places_16 : decode cX11_places 16 = .ok (.invokevirtual 60, 3) := by decide +kernel
theorem dX11_places_19 : decode cX11_places 19 = .ok (.iconst 1, 1) := by decide +kernel
theorem dX11_places_20 : decode cX11_places 20 = .ok (.isub, 1) := by decide +kernel
theorem dX11_places_21 : decode cX11_places 21 = .ok (.i2l, 1) := by decide +kernel
theorem dX11_places_22 : decode cX11_places 22 = .ok (.invokestatic 56, 3) := by decide +kernel
theorem dX11_places_25 : decode cX11_places 25 = .ok (.ifCond .ne 10, 3) := by decide +kernel
theorem dX11_places_28 : decode cX11_places 28 = .ok (.aload_n 0, 1) := by decide +kernel
theorem dX11_places_29 : decode cX11_places 29 = .ok (.bipush (-10), 2) := by decide +kernel
theorem dX11_places_31 : decode cX11_places 31 = .ok (.invokevirtual 73, 3) := by decide +kernel
theorem dX11_places_34 : decode cX11_places 34 = .ok (.ireturn, 1) := by decide +kernel
theorem dX11_places_35 : decode cX11_places 35 = .ok (.iconst 1, 1) := by decide +kernel
theorem dX11_places_36 : decode cX11_places 36 = .ok (.istore_n 3, 1) := by decide +kernel
theorem dX11_places_37 : decode cX11_places 37 = .ok (.aload_n 0, 1) := by decide +kernel
theorem dX11_places_38 : decode cX11_places 38 = .ok (.invokevirtual 60, 3) := by decide +kernel
theorem dX11_places_41 : decode cX11_places 41 = .ok (.ifCond .ne 7, 3) := by decide +kernel
theorem dX11_places_44 : decode cX11_places 44 = .ok (.iconst 0, 1) := by decide +kernel
theorem dX11_places_45 : decode cX11_places 45 = .ok (.goto 4, 3) := by decide +kernel
theorem dX11_places_49 : decode cX11_places 49 = .ok (.istore 4, 2) := by decide +kernel
theorem dX11_places_51 : decode cX11_places 51 = .ok (.aload_n 0, 1) := by decide +kernel
theorem dX11_places_52 : decode cX11_places 52 = .ok (.invokevirtual 147, 3) := by decide +kernel
theorem dX11_places_55 : decode cX11_places 55 = .ok (.iconst 0, 1) := by decide +kernel
theorem dX11_places_56 : decode cX11_places 56 = .ok (.istore 5, 2) := by decide +kernel
theorem dX11_places_58 : decode cX11_places 58 = .ok (.iload 5, 2) := by decide +kernel
theorem dX11_places_60 : decode cX11_places 60 = .ok (.aload_n 0, 1) := by decide +kernel
theorem dX11_places_61 : decode cX11_places 61 = .ok (.invokevirtual 60, 3) := by decide +kernel
theorem dX11_places_64 : decode cX11_places 64 = .ok (.if_icmp .ge 16, 3) := by decide +kernel
theorem dX11_places_80 : decode cX11_places 80 = .ok (.iconst 0, 1) := by decide +kernel
theorem dX11_places_81 : decode cX11_places 81 = .ok (.istore 5, 2) := by decide +kernel
theorem dX11_places_83 : decode cX11_places 83 = .ok (.iload 5, 2) := by decide +kernel
theorem dX11_places_85 : decode cX11_places 85 = .ok (.iload_n 3, 1) := by decide +kernel
theorem dX11_places_86 : decode cX11_places 86 = .ok (.if_icmp .ge 83, 3) := by decide +kernel
theorem dX11_places_89 : decode cX11_places 89 = .ok (.aload_n 0, 1) := by decide +kernel
theorem dX11_places_90 : decode cX11_places 90 = .ok (.invokevirtual 60, 3) := by decide +kernel
theorem dX11_places_93 : decode cX11_places 93 = .ok (.ifCond .le 76, 3) := by decide +kernel
theorem dX11_places_169 : decode cX11_places 169 = .ok (.iload_n 2, 1) := by decide +kernel
theorem dX11_places_170 : decode cX11_places 170 = .ok (.iconst (-1), 1) := by decide +kernel
theorem dX11_places_171 : decode cX11_places 171 = .ok (.if_icmp .ne 8, 3) := by decide +kernel
theorem dX11_places_174 : decode cX11_places 174 = .ok (.iload 4, 2) := by decide +kernel
theorem dX11_places_176 : decode cX11_places 176 = .ok (.goto 9, 3) := by decide +kernel
theorem dX11_places_185 : decode cX11_places 185 = .ok (.ireturn, 1) := by decide +kernel
set_option maxRecDepth 20000 in
theorem ggX11_which_X11_isStep : GoodIn wsX11_which wsX11_isStep := goodIn_r _ [5, 6, 7, 8, 4, 9] (by decide +kernel) (by decide +kernel)
set_option maxRecDepth 20000 in
theorem gX11_which_X11_isStep : GoodIn wsX11_which (va_wsS RX11 144 yX11_isStep wsX11_isStep) := goodIn_app (goodIn_of _ (by decide +kernel)) ggX11_which_X11_isStep
set_option maxRecDepth 20000 in
theorem ggX11_which_X11_bad : GoodIn wsX11_which wsX11_bad := goodIn_r _ [13, 14, 31, 32, 33, 34, 35, 36, 37, 38, 39, 40, 41, 42, 43, 44, 45, 46, 47, 48] (by decide +kernel) (by decide +kernel)
set_option maxRecDepth 20000 in
theorem gX11_which_X11_bad : GoodIn wsX11_which (wsV RX11 73 RX11 yX11_bad wsX11_bad) := goodIn_app (goodIn_of _ (by decide +kernel)) ggX11_which_X11_bad
set_option maxRecDepth 20000 in
theorem ggX11_which_X11_many : GoodIn wsX11_which wsX11_many := goodIn_r _ [18, 1, 31, 32, 33, 34, 35, 36, 37, 38, 39, 40, 41, 42, 43, 44, 45, 46, 47, 48] (by decide +kernel) (by decide +kernel)
set_option maxRecDepth 20000 in
theorem gX11_which_X11_many : GoodIn wsX11_which (wsV RX11 52 RX11 yX11_many wsX11_many) := goodIn_app (goodIn_of _ (by decide +kernel)) ggX11_which_X11_many
theorem dX11_which_0 : decode cX11_which 0 = .ok (.iload_n 1, 1) := by decide +kernel
theorem dX11_which_1 : decode cX11_which 1 = .ok (.invokestatic 144, 3) := by decide +kernel
theorem dX11_which_4 : decode cX11_which 4 = .ok (.ifCond .ne 10, 3) := by decide +kernel
theorem dX11_which_7 : decode cX11_which 7 = .ok (.aload_n 0, 1) := by decide +kernel
theorem dX11_which_8 : decode cX11_which 8 = .ok (.bipush (-2), 2) := by decide +kernel
theorem dX11_which_10 : decode cX11_which 10 = .ok (.invokevirtual 73, 3) := by decide +kernel
theorem dX11_which_13 : decode cX11_which 13 = .ok (.ireturn, 1) := by decide +kernel
theorem dX11_which_14 : decode cX11_which 14 = .ok (.iconst (-1), 1) := by decide +kernel
theorem dX11_which_15 : decode cX11_which 15 = .ok (.istore_n 2, 1) := by decide +kernel
theorem dX11_which_16 : decode cX11_which 16 = .ok (.iconst 0, 1) := by decide +kernel
theorem dX11_which_17 : decode cX11_which 17 = .ok (.istore_n 3, 1) := by decide +kernel
theorem dX11_which_18 : decode cX11_which 18 = .ok (.iload_n 3, 1) := by decide +kernel
theorem dX11_which_19 : decode cX11_which 19 = .ok (.aload_n 0, 1) := by decide +kernel
theorem dX11_which_20 : decode cX11_which 20 = .ok (.invokevirtual 52, 3) := by decide +kernel
theorem dX11_which_23 : decode cX11_which 23 = .ok (.if_icmp .ge 41, 3) := by decide +kernel
theorem dX11_which_64 : decode cX11_which 64 = .ok (.iload_n 2, 1) := by decide +kernel
theorem dX11_which_65 : decode cX11_which 65 = .ok (.ireturn, 1) := by decide +kernel
set_option maxRecDepth 20000 in
theorem ggX11_lasts_X11_isGleaner : GoodIn wsX11_lasts wsX11_isGleaner := goodIn_r _ [7, 8, 9, 10, 6, 11, 2, 12, 13, 14, 23, 24, 25, 26, 27, 28, 29, 30, 31, 32, 33, 34, 35, 36, 37, 38, 39, 40] (by decide +kernel) (by decide +kernel)
set_option maxRecDepth 20000 in
theorem gX11_lasts_X11_isGleaner : GoodIn wsX11_lasts (wsV RX11 133 RX11 yX11_isGleaner wsX11_isGleaner) := goodIn_app (goodIn_of _ (by decide +kernel)) ggX11_lasts_X11_isGleaner
set_option maxRecDepth 20000 in
theorem ggX11_lasts_X11_bad : GoodIn wsX11_lasts wsX11_bad := goodIn_r _ [18, 19, 23, 24, 25, 26, 27, 28, 29, 30, 31, 32, 33, 34, 35, 36, 37, 38, 39, 40] (by decide +kernel) (by decide +kernel)
set_option maxRecDepth 20000 in
theorem gX11_lasts_X11_bad : GoodIn wsX11_lasts (wsV RX11 73 RX11 yX11_bad wsX11_bad) := goodIn_app (goodIn_of _ (by decide +kernel)) ggX11_lasts_X11_bad
theorem dX11_lasts_0 : decode cX11_lasts 0 = .ok (.aload_n 0, 1) := by decide +kernel
theorem dX11_lasts_1 : decode cX11_lasts 1 = .ok (.iload_n 1, 1) := by decide +kernel
