theorem dX10_gleaner_27 : decode cX10_gleaner 27 = .ok (.aload_n 0, 1) := by decide +kernel
theorem dX10_gleaner_28 : decode cX10_gleaner 28 = .ok (.invokevirtual 105, 3) := by decide +kernel
theorem dX10_gleaner_31 : decode cX10_gleaner 31 = .ok (.ireturn, 1) := by decide +kernel
theorem dX10_gleaner_32 : decode cX10_gleaner 32 = .ok (.aload_n 0, 1) := by decide +kernel
theorem dX10_gleaner_33 : decode cX10_gleaner 33 = .ok (.getfield 36, 3) := by decide +kernel
theorem dX10_gleaner_36 : decode cX10_gleaner 36 = .ok (.iload_n 1, 1) := by decide +kernel
theorem dX10_gleaner_37 : decode cX10_gleaner 37 = .ok (.invokevirtual 118, 3) := by decide +kernel
theorem dX10_gleaner_40 : decode cX10_gleaner 40 = .ok (.ireturn, 1) := by decide +kernel
set_option maxRecDepth 20000 in
theorem ggX10_type_X10_isBelow : GoodIn wsX10_type wsX10_isBelow := goodIn_r _ [6] (by decide +kernel) (by decide +kernel)
set_option maxRecDepth 20000 in
theorem gX10_type_X10_isBelow : GoodIn wsX10_type (va_wsS RX10 86 yX10_isBelow wsX10_isBelow) := goodIn_app (goodIn_of _ (by decide +kernel)) ggX10_type_X10_isBelow
set_option maxRecDepth 20000 in
theorem ggX10_type_X10_refuseBad : GoodIn wsX10_type wsX10_refuseBad := goodIn_r _ [10, 11, 23, 24, 25, 26, 27, 28, 29, 30, 31, 32, 33, 34] (by decide +kernel) (by decide +kernel)
set_option maxRecDepth 20000 in
theorem gX10_type_X10_refuseBad : GoodIn wsX10_type (wsV RX10 90 RX10 yX10_refuseBad wsX10_refuseBad) := goodIn_app (goodIn_of _ (by decide +kernel)) ggX10_type_X10_refuseBad
set_option maxRecDepth 20000 in
theorem ggX10_type_X10_refuseFull : GoodIn wsX10_type wsX10_refuseFull := goodIn_r _ [15, 11, 23, 24, 25, 26, 27, 28, 29, 30, 31, 32, 33, 34] (by decide +kernel) (by decide +kernel)
set_option maxRecDepth 20000 in
theorem gX10_type_X10_refuseFull : GoodIn wsX10_type (wsV RX10 105 RX10 yX10_refuseFull wsX10_refuseFull) := goodIn_app (goodIn_of _ (by decide +kernel)) ggX10_type_X10_refuseFull
set_option maxRecDepth 20000 in
theorem ggX10_type_X7_append : GoodIn wsX10_type wsX7_append := goodIn_r _ [20, 21, 22, 35, 36, 37, 38, 39, 40, 41, 42, 43, 44, 45, 46] (by decide +kernel) (by decide +kernel)
set_option maxRecDepth 20000 in
theorem gX10_type_X7_append : GoodIn wsX10_type (wsV RX10 125 RX7 yX7_append wsX7_append) := goodIn_app (goodIn_of _ (by decide +kernel)) ggX10_type_X7_append
theorem dX10_type_0 : decode cX10_type 0 = .ok (.iload_n 1, 1) := by decide +kernel
theorem dX10_type_1 : decode cX10_type 1 = .ok (.sipush 128, 3) := by decide +kernel
theorem dX10_type_4 : decode cX10_type 4 = .ok (.invokestatic 86, 3) := by decide +kernel
theorem dX10_type_7 : decode cX10_type 7 = .ok (.ifCond .ne 8, 3) := by decide +kernel
theorem dX10_type_10 : decode cX10_type 10 = .ok (.aload_n 0, 1) := by decide +kernel
theorem dX10_type_11 : decode cX10_type 11 = .ok (.invokevirtual 90, 3) := by decide +kernel
theorem dX10_type_14 : decode cX10_type 14 = .ok (.ireturn, 1) := by decide +kernel
theorem dX10_type_15 : decode cX10_type 15 = .ok (.aload_n 0, 1) := by decide +kernel
theorem dX10_type_16 : decode cX10_type 16 = .ok (.getfield 51, 3) := by decide +kernel
theorem dX10_type_19 : decode cX10_type 19 = .ok (.getfield 122, 3) := by decide +kernel
theorem dX10_type_22 : decode cX10_type 22 = .ok (.sipush 150, 3) := by decide +kernel
theorem dX10_type_25 : decode cX10_type 25 = .ok (.if_icmp .lt 8, 3) := by decide +kernel
theorem dX10_type_28 : decode cX10_type 28 = .ok (.aload_n 0, 1) := by decide +kernel
theorem dX10_type_29 : decode cX10_type 29 = .ok (.invokevirtual 105, 3) := by decide +kernel
theorem dX10_type_32 : decode cX10_type 32 = .ok (.ireturn, 1) := by decide +kernel
theorem dX10_type_33 : decode cX10_type 33 = .ok (.aload_n 0, 1) := by decide +kernel
theorem dX10_type_34 : decode cX10_type 34 = .ok (.getfield 51, 3) := by decide +kernel
theorem dX10_type_37 : decode cX10_type 37 = .ok (.iload_n 1, 1) := by decide +kernel
theorem dX10_type_38 : decode cX10_type 38 = .ok (.invokevirtual 125, 3) := by decide +kernel
theorem dX10_type_41 : decode cX10_type 41 = .ok (.ireturn, 1) := by decide +kernel
theorem dX10_clear_0 : decode cX10_clear 0 = .ok (.aload_n 0, 1) := by decide +kernel
theorem dX10_clear_1 : decode cX10_clear 1 = .ok (.getfield 51, 3) := by decide +kernel
theorem dX10_clear_4 : decode cX10_clear 4 = .ok (.getfield 122, 3) := by decide +kernel
theorem dX10_clear_7 : decode cX10_clear 7 = .ok (.istore_n 1, 1) := by decide +kernel
theorem dX10_clear_8 : decode cX10_clear 8 = .ok (.aload_n 0, 1) := by decide +kernel
theorem dX10_clear_9 : decode cX10_clear 9 = .ok (.getfield 51, 3) := by decide +kernel
theorem dX10_clear_12 : decode cX10_clear 12 = .ok (.iconst 0, 1) := by decide +kernel
theorem dX10_clear_13 : decode cX10_clear 13 = .ok (.putfield 122, 3) := by decide +kernel
theorem dX10_clear_16 : decode cX10_clear 16 = .ok (.iload_n 1, 1) := by decide +kernel
theorem dX10_clear_17 : decode cX10_clear 17 = .ok (.ireturn, 1) := by decide +kernel
set_option maxRecDepth 20000 in
theorem ggX10_read_X7_parse : GoodIn wsX10_read wsX7_parse := goodIn_r _ [11, 12, 13, 14, 15, 16, 17, 18, 19, 20, 10, 21, 22, 23, 24, 25, 26, 27, 28, 29, 30, 31, 32, 33, 34, 35, 36, 37, 38, 39, 40, 41, 42, 43, 44, 45, 46, 47, 48, 49, 50, 51, 52, 53, 54, 55, 56, 57, 58, 59, 60, 61, 62, 63, 64, 65, 66, 67, 68, 69, 70, 71, 72, 73, 74, 75, 76, 77, 78, 79, 80, 81, 82, 83, 84, 85, 86, 87, 88, 89, 90, 91, 92, 93, 94, 95, 96, 97, 98, 99, 100, 101, 102, 103, 104, 105, 106, 107, 108, 109, 110, 111, 112, 113, 223, 224, 225, 226, 227, 228, 229, 230, 231, 232, 233, 234] (by decide +kernel) (by decide +kernel)
set_option maxRecDepth 20000 in
theorem gX10_read_X7_parse : GoodIn wsX10_read (wsV RX10 128 RX7 yX7_parse wsX7_parse) := goodIn_app (goodIn_of _ (by decide +kernel)) ggX10_read_X7_parse
set_option maxRecDepth 20000 in
theorem ggX10_read_X4_begin : GoodIn wsX10_read wsX4_begin := goodIn_r _ [118, 119, 120, 121, 122, 123, 124, 125, 126, 127, 235, 236, 237, 238, 239, 240, 241, 242, 243, 244, 245, 246, 247, 248, 249, 250, 251] (by decide +kernel) (by decide +kernel)
set_option maxRecDepth 20000 in
theorem gX10_read_X4_begin : GoodIn wsX10_read (wsV RX10 97 RX4 yX4_begin wsX4_begin) := goodIn_app (goodIn_of _ (by decide +kernel)) ggX10_read_X4_begin
set_option maxRecDepth 20000 in
theorem ggX10_read_X4_addField : GoodIn wsX10_read wsX4_addField := goodIn_r _ [131, 132, 119, 124, 133, 121, 235, 236, 237, 238, 239, 240, 241, 242, 243, 244, 245, 246, 247, 248, 249, 250, 251] (by decide +kernel) (by decide +kernel)
set_option maxRecDepth 20000 in
theorem gX10_read_X4_addField : GoodIn wsX10_read (wsV RX10 108 RX4 yX4_addField wsX4_addField) := goodIn_app (goodIn_of _ (by decide +kernel)) ggX10_read_X4_addField
set_option maxRecDepth 20000 in
theorem ggX10_read_X4_addGleaner : GoodIn wsX10_read wsX4_addGleaner := goodIn_r _ [137, 124, 138, 120, 139, 121, 235, 236, 237, 238, 239, 240, 241, 242, 243, 244, 245, 246, 247, 248, 249, 250, 251] (by decide +kernel) (by decide +kernel)
set_option maxRecDepth 20000 in
theorem gX10_read_X4_addGleaner : GoodIn wsX10_read (wsV RX10 118 RX4 yX4_addGleaner wsX4_addGleaner) := goodIn_app (goodIn_of _ (by decide +kernel)) ggX10_read_X4_addGleaner
set_option maxRecDepth 20000 in
theorem ggX10_read_X4_gather : GoodIn wsX10_read wsX4_gather := goodIn_r _ [143, 119, 125, 144, 145, 146, 117, 147, 148, 149, 150, 151, 120, 138, 152, 153, 154, 155, 156, 132, 133, 126, 157, 158, 159, 160, 161, 162, 163, 164, 165, 166, 167, 168, 169, 170, 171, 172, 173, 174, 175, 176, 177, 178, 179, 180, 181, 182, 183, 184, 185, 186, 187, 188, 189, 190, 191, 192, 193, 194, 195, 196, 197, 198, 199, 200, 201, 202, 203, 204, 205, 206, 207, 208, 139, 209, 210, 235, 236, 237, 238, 239, 240, 241, 242, 243, 244, 245, 246, 247, 248, 249, 250, 251] (by decide +kernel) (by decide +kernel)
set_option maxRecDepth 20000 in
theorem gX10_read_X4_gather : GoodIn wsX10_read (wsV RX10 143 RX4 yX4_gather wsX4_gather) := goodIn_app (goodIn_of _ (by decide +kernel)) ggX10_read_X4_gather
theorem dX10_read_0 : decode cX10_read 0 = .ok (.aload_n 0, 1) := by decide +kernel
theorem dX10_read_1 : decode cX10_read 1 = .ok (.getfield 51, 3) := by decide +kernel
theorem dX10_read_4 : decode cX10_read 4 = .ok (.invokevirtual 128, 3) := by decide +kernel
theorem dX10_read_7 : decode cX10_read 7 = .ok (.istore_n 1, 1) := by decide +kernel
theorem dX10_read_8 : decode cX10_read 8 = .ok (.iload_n 1, 1) := by decide +kernel
theorem dX10_read_9 : decode cX10_read 9 = .ok (.ifCond .ge 5, 3) := by decide +kernel
theorem dX10_read_12 : decode cX10_read 12 = .ok (.iload_n 1, 1) := by decide +kernel
theorem dX10_read_13 : decode cX10_read 13 = .ok (.ireturn, 1) := by decide +kernel
theorem dX10_read_14 : decode cX10_read 14 = .ok (.aload_n 0, 1) := by decide +kernel
theorem dX10_read_15 : decode cX10_read 15 = .ok (.getfield 36, 3) := by decide +kernel
theorem dX10_read_18 : decode cX10_read 18 = .ok (.aload_n 0, 1) := by decide +kernel
theorem dX10_read_19 : decode cX10_read 19 = .ok (.getfield 51, 3) := by decide +kernel
theorem dX10_read_22 : decode cX10_read 22 = .ok (.getfield 131, 3) := by decide +kernel
theorem dX10_read_25 : decode cX10_read 25 = .ok (.iconst 0, 1) := by decide +kernel
theorem dX10_read_26 : decode cX10_read 26 = .ok (.iaload, 1) := by decide +kernel
theorem dX10_read_27 : decode cX10_read 27 = .ok (.invokevirtual 97, 3) := by decide +kernel
theorem dX10_read_30 : decode cX10_read 30 = .ok (.iconst 1, 1) := by decide +kernel
theorem dX10_read_31 : decode cX10_read 31 = .ok (.istore_n 2, 1) := by decide +kernel
theorem dX10_read_32 : decode cX10_read 32 = .ok (.iload_n 2, 1) := by decide +kernel
theorem dX10_read_33 : decode cX10_read 33 = .ok (.iload_n 1, 1) := by decide +kernel
theorem dX10_read_34 : decode cX10_read 34 = .ok (.if_icmp .ge 108, 3) := by decide +kernel
theorem dX10_read_37 : decode cX10_read 37 = .ok (.aload_n 0, 1) := by decide +kernel
theorem dX10_read_38 : decode cX10_read 38 = .ok (.getfield 51, 3) := by decide +kernel
theorem dX10_read_41 : decode cX10_read 41 = .ok (.getfield 134, 3) := by decide +kernel
theorem dX10_read_44 : decode cX10_read 44 = .ok (.iload_n 2, 1) := by decide +kernel
theorem dX10_read_45 : decode cX10_read 45 = .ok (.iaload, 1) := by decide +kernel
theorem dX10_read_46 : decode cX10_read 46 = .ok (.iconst 1, 1) := by decide +kernel
theorem dX10_read_47 : decode cX10_read 47 = .ok (.if_icmp .ne 32, 3) := by decide +kernel
theorem dX10_read_50 : decode cX10_read 50 = .ok (.aload_n 0, 1) := by decide +kernel
theorem dX10_read_51 : decode cX10_read 51 = .ok (.getfield 36, 3) := by decide +kernel
theorem dX10_read_54 : decode cX10_read 54 = .ok (.aload_n 0, 1) := by decide +kernel
theorem dX10_read_55 : decode cX10_read 55 = .ok (.getfield 51, 3) := by decide +kernel
theorem dX10_read_58 : decode cX10_read 58 = .ok (.getfield 131, 3) := by decide +kernel
theorem dX10_read_61 : decode cX10_read 61 = .ok (.iload_n 2, 1) := by decide +kernel
theorem dX10_read_62 : decode cX10_read 62 = .ok (.iaload, 1) := by decide +kernel
theorem dX10_read_63 : decode cX10_read 63 = .ok (.aload_n 0, 1) := by decide +kernel
theorem dX10_read_64 : decode cX10_read 64 = .ok (.getfield 51, 3) := by decide +kernel
theorem dX10_read_67 : decode cX10_read 67 = .ok (.getfield 137, 3) := by decide +kernel
theorem dX10_read_70 : decode cX10_read 70 = .ok (.iload_n 2, 1) := by decide +kernel
theorem dX10_read_71 : decode cX10_read 71 = .ok (.iaload, 1) := by decide +kernel
theorem dX10_read_72 : decode cX10_read 72 = .ok (.invokevirtual 108, 3) := by decide +kernel
theorem dX10_read_75 : decode cX10_read 75 = .ok (.pop, 1) := by decide +kernel
theorem dX10_read_76 : decode cX10_read 76 = .ok (.goto 60, 3) := by decide +kernel
theorem dX10_read_79 : decode cX10_read 79 = .ok (.aload_n 0, 1) := by decide +kernel
theorem dX10_read_80 : decode cX10_read 80 = .ok (.getfield 51, 3) := by decide +kernel
theorem dX10_read_83 : decode cX10_read 83 = .ok (.getfield 134, 3) := by decide +kernel
theorem dX10_read_86 : decode cX10_read 86 = .ok (.iload_n 2, 1) := by decide +kernel
theorem dX10_read_87 : decode cX10_read 87 = .ok (.iaload, 1) := by decide +kernel
theorem dX10_read_88 : decode cX10_read 88 = .ok (.iconst 2, 1) := by decide +kernel
theorem dX10_read_89 : decode cX10_read 89 = .ok (.if_icmp .ne 23, 3) := by decide +kernel
theorem dX10_read_92 : decode cX10_read 92 = .ok (.aload_n 0, 1) := by decide +kernel
theorem dX10_read_93 : decode cX10_read 93 = .ok (.getfield 36, 3) := by decide +kernel
theorem dX10_read_96 : decode cX10_read 96 = .ok (.aload_n 0, 1) := by decide +kernel
theorem dX10_read_97 : decode cX10_read 97 = .ok (.getfield 51, 3) := by decide +kernel
theorem dX10_read_100 : decode cX10_read 100 = .ok (.getfield 131, 3) := by decide +kernel
theorem dX10_read_103 : decode cX10_read 103 = .ok (.iload_n 2, 1) := by decide +kernel
theorem dX10_read_104 : decode cX10_read 104 = .ok (.iaload, 1) := by decide +kernel
theorem dX10_read_105 : decode cX10_read 105 = .ok (.invokevirtual 118, 3) := by decide +kernel
theorem dX10_read_108 : decode cX10_read 108 = .ok (.pop, 1) := by decide +kernel
theorem dX10_read_109 : decode cX10_read 109 = .ok (.goto 27, 3) := by decide +kernel
theorem dX10_read_112 : decode cX10_read 112 = .ok (.aload_n 0, 1) := by decide +kernel
theorem dX10_read_113 : decode cX10_read 113 = .ok (.getfield 36, 3) := by decide +kernel
theorem dX10_read_116 : decode cX10_read 116 = .ok (.aload_n 0, 1) := by decide +kernel
theorem dX10_read_117 : decode cX10_read 117 = .ok (.getfield 36, 3) := by decide +kernel
theorem dX10_read_120 : decode cX10_read 120 = .ok (.getfield 140, 3) := by decide +kernel
theorem dX10_read_123 : decode cX10_read 123 = .ok (.aload_n 0, 1) := by decide +kernel
theorem dX10_read_124 : decode cX10_read 124 = .ok (.getfield 51, 3) := by decide +kernel
theorem dX10_read_127 : decode cX10_read 127 = .ok (.getfield 131, 3) := by decide +kernel
theorem dX10_read_130 : decode cX10_read 130 = .ok (.iload_n 2, 1) := by decide +kernel
theorem dX10_read_131 : decode cX10_read 131 = .ok (.iaload, 1) := by decide +kernel
theorem dX10_read_132 : decode cX10_read 132 = .ok (.invokevirtual 143, 3) := by decide +kernel
theorem dX10_read_135 : decode cX10_read 135 = .ok (.pop, 1) := by decide +kernel
theorem dX10_read_136 : decode cX10_read 136 = .ok (.iinc 2 1, 3) := by decide +kernel
theorem dX10_read_139 : decode cX10_read 139 = .ok (.goto (-107), 3) := by decide +kernel
theorem dX10_read_142 : decode cX10_read 142 = .ok (.iload_n 1, 1) := by decide +kernel
theorem dX10_read_143 : decode cX10_read 143 = .ok (.ireturn, 1) := by decide +kernel
set_option maxRecDepth 20000 in
theorem ggX10_glean_X10_isIn : GoodIn wsX10_glean wsX10_isIn := goodIn_r _ [7] (by decide +kernel) (by decide +kernel)
set_option maxRecDepth 20000 in
theorem gX10_glean_X10_isIn : GoodIn wsX10_glean (va_wsS RX10 147 yX10_isIn wsX10_isIn) := goodIn_app (goodIn_of _ (by decide +kernel)) ggX10_glean_X10_isIn
set_option maxRecDepth 20000 in
theorem ggX10_glean_X10_refuseBad : GoodIn wsX10_glean wsX10_refuseBad := goodIn_r _ [11, 12, 123, 124, 125, 126, 127, 128, 129, 130, 131, 132, 133, 134] (by decide +kernel) (by decide +kernel)
set_option maxRecDepth 20000 in
theorem gX10_glean_X10_refuseBad : GoodIn wsX10_glean (wsV RX10 90 RX10 yX10_refuseBad wsX10_refuseBad) := goodIn_app (goodIn_of _ (by decide +kernel)) ggX10_glean_X10_refuseBad
set_option maxRecDepth 20000 in
theorem ggX10_glean_X10_refuseNo : GoodIn wsX10_glean wsX10_refuseNo := goodIn_r _ [16, 12, 123, 124, 125, 126, 127, 128, 129, 130, 131, 132, 133, 134] (by decide +kernel) (by decide +kernel)
set_option maxRecDepth 20000 in
theorem gX10_glean_X10_refuseNo : GoodIn wsX10_glean (wsV RX10 154 RX10 yX10_refuseNo wsX10_refuseNo) := goodIn_app (goodIn_of _ (by decide +kernel)) ggX10_glean_X10_refuseNo
set_option maxRecDepth 20000 in
theorem ggX10_glean_X4_remember : GoodIn wsX10_glean wsX4_remember := goodIn_r _ [21, 22, 23, 24, 25, 26, 27, 20, 28, 29, 30, 31, 32, 33, 34, 35, 36, 37, 38, 39, 40, 41, 42, 43, 135, 136, 137, 138, 139, 140, 141, 142, 143, 144, 145, 146, 147, 148, 149, 150, 151] (by decide +kernel) (by decide +kernel)
set_option maxRecDepth 20000 in
theorem gX10_glean_X4_remember : GoodIn wsX10_glean (wsV RX10 157 RX4 yX4_remember wsX4_remember) := goodIn_app (goodIn_of _ (by decide +kernel)) ggX10_glean_X4_remember
set_option maxRecDepth 20000 in
theorem ggX10_glean_X4_gather : GoodIn wsX10_glean wsX4_gather := goodIn_r _ [47, 48, 49, 50, 51, 52, 20, 53, 54, 55, 56, 57, 58, 59, 60, 61, 62, 63, 64, 65, 66, 67, 68, 69, 70, 71, 72, 73, 74, 75, 76, 77, 78, 79, 80, 81, 82, 83, 84, 85, 86, 87, 88, 89, 90, 91, 92, 93, 94, 95, 96, 97, 98, 99, 100, 101, 102, 103, 104, 105, 106, 107, 108, 109, 110, 111, 112, 113, 114, 115, 116, 117, 118, 119, 120, 121, 122, 135, 136, 137, 138, 139, 140, 141, 142, 143, 144, 145, 146, 147, 148, 149, 150, 151] (by decide +kernel) (by decide +kernel)
set_option maxRecDepth 20000 in
theorem gX10_glean_X4_gather : GoodIn wsX10_glean (wsV RX10 143 RX4 yX4_gather wsX4_gather) := goodIn_app (goodIn_of _ (by decide +kernel)) ggX10_glean_X4_gather
theorem dX10_glean_0 : decode cX10_glean 0 = .ok (.iload_n 1, 1) := by decide +kernel
theorem dX10_glean_1 : decode cX10_glean 1 = .ok (.iconst 1, 1) := by decide +kernel
theorem dX10_glean_2 : decode cX10_glean 2 = .ok (.bipush 12, 2) := by decide +kernel
theorem dX10_glean_4 : decode cX10_glean 4 = .ok (.invokestatic 147, 3) := by decide +kernel
theorem dX10_glean_7 : decode cX10_glean 7 = .ok (.ifCond .ne 8, 3) := by decide +kernel
theorem dX10_glean_10 : decode cX10_glean 10 = .ok (.aload_n 0, 1) := by decide +kernel
theorem dX10_glean_11 : decode cX10_glean 11 = .ok (.invokevirtual 90, 3) := by decide +kernel
theorem dX10_glean_14 : decode cX10_glean 14 = .ok (.ireturn, 1) := by decide +kernel
theorem dX10_glean_15 : decode cX10_glean 15 = .ok (.iload_n 1, 1) := by decide +kernel
theorem dX10_glean_16 : decode cX10_glean 16 = .ok (.bipush 12, 2) := by decide +kernel
theorem dX10_glean_18 : decode cX10_glean 18 = .ok (.aload_n 0, 1) := by decide +kernel
theorem dX10_glean_19 : decode cX10_glean 19 = .ok (.getfield 36, 3) := by decide +kernel
theorem dX10_glean_22 : decode cX10_glean 22 = .ok (.getfield 140, 3) := by decide +kernel
theorem dX10_glean_25 : decode cX10_glean 25 = .ok (.getfield 151, 3) := by decide +kernel
theorem dX10_glean_28 : decode cX10_glean 28 = .ok (.isub, 1) := by decide +kernel
theorem dX10_glean_29 : decode cX10_glean 29 = .ok (.if_icmp .le 8, 3) := by decide +kernel
theorem dX10_glean_32 : decode cX10_glean 32 = .ok (.aload_n 0, 1) := by decide +kernel
theorem dX10_glean_33 : decode cX10_glean 33 = .ok (.invokevirtual 154, 3) := by decide +kernel
theorem dX10_glean_36 : decode cX10_glean 36 = .ok (.ireturn, 1) := by decide +kernel
theorem dX10_glean_37 : decode cX10_glean 37 = .ok (.aload_n 0, 1) := by decide +kernel
theorem dX10_glean_38 : decode cX10_glean 38 = .ok (.getfield 36, 3) := by decide +kernel
theorem dX10_glean_41 : decode cX10_glean 41 = .ok (.invokevirtual 157, 3) := by decide +kernel
theorem dX10_glean_44 : decode cX10_glean 44 = .ok (.aload_n 0, 1) := by decide +kernel
theorem dX10_glean_45 : decode cX10_glean 45 = .ok (.getfield 36, 3) := by decide +kernel
theorem dX10_glean_48 : decode cX10_glean 48 = .ok (.aload_n 0, 1) := by decide +kernel
theorem dX10_glean_49 : decode cX10_glean 49 = .ok (.getfield 36, 3) := by decide +kernel
theorem dX10_glean_52 : decode cX10_glean 52 = .ok (.getfield 140, 3) := by decide +kernel
theorem dX10_glean_55 : decode cX10_glean 55 = .ok (.iload_n 1, 1) := by decide +kernel
theorem dX10_glean_56 : decode cX10_glean 56 = .ok (.invokevirtual 143, 3) := by decide +kernel
theorem dX10_glean_59 : decode cX10_glean 59 = .ok (.ireturn, 1) := by decide +kernel
set_option maxRecDepth 20000 in
theorem ggX10_night_X4_remember : GoodIn wsX10_night wsX4_remember := goodIn_r _ [8, 9, 10, 11, 12, 13, 14, 7, 15, 16, 17, 18, 19, 20, 21, 22, 23, 24, 25, 26, 27, 28, 29, 30, 60, 61, 62, 63, 64, 65, 66, 67, 68, 69, 70, 71, 72, 73, 74, 75, 76] (by decide +kernel) (by decide +kernel)
set_option maxRecDepth 20000 in
theorem gX10_night_X4_remember : GoodIn wsX10_night (wsV RX10 157 RX4 yX4_remember wsX4_remember) := goodIn_app (goodIn_of _ (by decide +kernel)) ggX10_night_X4_remember
set_option maxRecDepth 20000 in
theorem ggX10_night_X4_fade : GoodIn wsX10_night wsX4_fade := goodIn_r _ [34, 35, 36, 37, 38, 39, 40, 41, 42, 43, 44, 45, 46, 47, 60, 61, 62, 63, 64, 65, 66, 67, 68, 69, 70, 71, 72, 73, 74, 75, 76] (by decide +kernel) (by decide +kernel)
set_option maxRecDepth 20000 in
theorem gX10_night_X4_fade : GoodIn wsX10_night (wsV RX10 160 RX4 yX4_fade wsX4_fade) := goodIn_app (goodIn_of _ (by decide +kernel)) ggX10_night_X4_fade
theorem dX10_night_0 : decode cX10_night 0 = .ok (.aload_n 0, 1) := by decide +kernel
theorem dX10_night_1 : decode cX10_night 1 = .ok (.getfield 36, 3) := by decide +kernel
theorem dX10_night_4 : decode cX10_night 4 = .ok (.invokevirtual 157, 3) := by decide +kernel
theorem dX10_night_7 : decode cX10_night 7 = .ok (.aload_n 0, 1) := by decide +kernel
theorem dX10_night_8 : decode cX10_night 8 = .ok (.getfield 36, 3) := by decide +kernel
theorem dX10_night_11 : decode cX10_night 11 = .ok (.aload_n 0, 1) := by decide +kernel
theorem dX10_night_12 : decode cX10_night 12 = .ok (.getfield 36, 3) := by decide +kernel
theorem dX10_night_15 : decode cX10_night 15 = .ok (.getfield 140, 3) := by decide +kernel
theorem dX10_night_18 : decode cX10_night 18 = .ok (.invokevirtual 160, 3) := by decide +kernel
theorem dX10_night_21 : decode cX10_night 21 = .ok (.aload_n 0, 1) := by decide +kernel
theorem dX10_night_22 : decode cX10_night 22 = .ok (.getfield 36, 3) := by decide +kernel
theorem dX10_night_25 : decode cX10_night 25 = .ok (.getfield 140, 3) := by decide +kernel
theorem dX10_night_28 : decode cX10_night 28 = .ok (.getfield 164, 3) := by decide +kernel
theorem dX10_night_31 : decode cX10_night 31 = .ok (.ireturn, 1) := by decide +kernel
set_option maxRecDepth 20000 in
theorem ggX10_goes_X4_hasGleaner : GoodIn wsX10_goes wsX4_hasGleaner := goodIn_r _ [8, 9, 10, 11, 12, 61, 62, 63, 64, 65, 66, 67, 68, 69, 70, 71] (by decide +kernel) (by decide +kernel)
set_option maxRecDepth 20000 in
theorem gX10_goes_X4_hasGleaner : GoodIn wsX10_goes (wsV RX10 167 RX4 yX4_hasGleaner wsX4_hasGleaner) := goodIn_app (goodIn_of _ (by decide +kernel)) ggX10_goes_X4_hasGleaner
set_option maxRecDepth 20000 in
theorem ggX10_goes_X4_hasField : GoodIn wsX10_goes wsX4_hasField := goodIn_r _ [16, 17, 10, 11, 12, 61, 62, 63, 64, 65, 66, 67, 68, 69, 70, 71] (by decide +kernel) (by decide +kernel)
set_option maxRecDepth 20000 in
theorem gX10_goes_X4_hasField : GoodIn wsX10_goes (wsV RX10 112 RX4 yX4_hasField wsX4_hasField) := goodIn_app (goodIn_of _ (by decide +kernel)) ggX10_goes_X4_hasField
set_option maxRecDepth 20000 in
theorem ggX10_goes_X10_refuseBad : GoodIn wsX10_goes wsX10_refuseBad := goodIn_r _ [21, 22, 49, 50, 51, 52, 53, 54, 55, 56, 57, 58, 59, 60] (by decide +kernel) (by decide +kernel)
set_option maxRecDepth 20000 in
theorem gX10_goes_X10_refuseBad : GoodIn wsX10_goes (wsV RX10 90 RX10 yX10_refuseBad wsX10_refuseBad) := goodIn_app (goodIn_of _ (by decide +kernel)) ggX10_goes_X10_refuseBad
set_option maxRecDepth 20000 in
theorem ggX10_goes_X4_remember : GoodIn wsX10_goes wsX4_remember := goodIn_r _ [26, 27, 28, 29, 30, 31, 32, 7, 33, 34, 35, 36, 37, 38, 39, 40, 41, 42, 43, 44, 45, 46, 47, 48, 61, 62, 63, 64, 65, 66, 67, 68, 69, 70, 71, 72, 73, 74, 75, 76, 77] (by decide +kernel) (by decide +kernel)
set_option maxRecDepth 20000 in
theorem gX10_goes_X4_remember : GoodIn wsX10_goes (wsV RX10 157 RX4 yX4_remember wsX4_remember) := goodIn_app (goodIn_of _ (by decide +kernel)) ggX10_goes_X4_remember
theorem dX10_goes_0 : decode cX10_goes 0 = .ok (.aload_n 0, 1) := by decide +kernel
theorem dX10_goes_1 : decode cX10_goes 1 = .ok (.getfield 36, 3) := by decide +kernel
theorem dX10_goes_4 : decode cX10_goes 4 = .ok (.iload_n 1, 1) := by decide +kernel
theorem dX10_goes_5 : decode cX10_goes 5 = .ok (.invokevirtual 167, 3) := by decide +kernel
theorem dX10_goes_8 : decode cX10_goes 8 = .ok (.ifCond .eq 14, 3) := by decide +kernel
theorem dX10_goes_11 : decode cX10_goes 11 = .ok (.aload_n 0, 1) := by decide +kernel
theorem dX10_goes_12 : decode cX10_goes 12 = .ok (.getfield 36, 3) := by decide +kernel
theorem dX10_goes_15 : decode cX10_goes 15 = .ok (.iload_n 2, 1) := by decide +kernel
theorem dX10_goes_16 : decode cX10_goes 16 = .ok (.invokevirtual 112, 3) := by decide +kernel
theorem dX10_goes_19 : decode cX10_goes 19 = .ok (.ifCond .ne 8, 3) := by decide +kernel
theorem dX10_goes_22 : decode cX10_goes 22 = .ok (.aload_n 0, 1) := by decide +kernel
theorem dX10_goes_23 : decode cX10_goes 23 = .ok (.invokevirtual 90, 3) := by decide +kernel
theorem dX10_goes_26 : decode cX10_goes 26 = .ok (.ireturn, 1) := by decide +kernel
theorem dX10_goes_27 : decode cX10_goes 27 = .ok (.aload_n 0, 1) := by decide +kernel
theorem dX10_goes_28 : decode cX10_goes 28 = .ok (.getfield 36, 3) := by decide +kernel
theorem dX10_goes_31 : decode cX10_goes 31 = .ok (.getfield 140, 3) := by decide +kernel
theorem dX10_goes_34 : decode cX10_goes 34 = .ok (.getfield 170, 3) := by decide +kernel
theorem dX10_goes_37 : decode cX10_goes 37 = .ok (.iload_n 1, 1) := by decide +kernel
theorem dX10_goes_38 : decode cX10_goes 38 = .ok (.iaload, 1) := by decide +kernel
theorem dX10_goes_39 : decode cX10_goes 39 = .ok (.istore_n 3, 1) := by decide +kernel
theorem dX10_goes_40 : decode cX10_goes 40 = .ok (.iload_n 3, 1) := by decide +kernel
theorem dX10_goes_41 : decode cX10_goes 41 = .ok (.iload_n 2, 1) := by decide +kernel
theorem dX10_goes_42 : decode cX10_goes 42 = .ok (.if_icmp .eq 23, 3) := by decide +kernel
theorem dX10_goes_45 : decode cX10_goes 45 = .ok (.aload_n 0, 1) := by decide +kernel
theorem dX10_goes_46 : decode cX10_goes 46 = .ok (.getfield 36, 3) := by decide +kernel
theorem dX10_goes_49 : decode cX10_goes 49 = .ok (.invokevirtual 157, 3) := by decide +kernel
theorem dX10_goes_52 : decode cX10_goes 52 = .ok (.aload_n 0, 1) := by decide +kernel
theorem dX10_goes_53 : decode cX10_goes 53 = .ok (.getfield 36, 3) := by decide +kernel
theorem dX10_goes_56 : decode cX10_goes 56 = .ok (.getfield 140, 3) := by decide +kernel
theorem dX10_goes_59 : decode cX10_goes 59 = .ok (.getfield 170, 3) := by decide +kernel
theorem dX10_goes_62 : decode cX10_goes 62 = .ok (.iload_n 1, 1) := by decide +kernel
theorem dX10_goes_63 : decode cX10_goes 63 = .ok (.iload_n 2, 1) := by decide +kernel
theorem dX10_goes_64 : decode cX10_goes 64 = .ok (.iastore, 1) := by decide +kernel
theorem dX10_goes_65 : decode cX10_goes 65 = .ok (.iload_n 3, 1) := by decide +kernel
theorem dX10_goes_66 : decode cX10_goes 66 = .ok (.ireturn, 1) := by decide +kernel
set_option maxRecDepth 20000 in
theorem ggX10_cloud_X10_isBelow : GoodIn wsX10_cloud wsX10_isBelow := goodIn_r _ [7] (by decide +kernel) (by decide +kernel)
set_option maxRecDepth 20000 in
theorem gX10_cloud_X10_isBelow : GoodIn wsX10_cloud (va_wsS RX10 86 yX10_isBelow wsX10_isBelow) := goodIn_app (goodIn_of _ (by decide +kernel)) ggX10_cloud_X10_isBelow
set_option maxRecDepth 20000 in
theorem ggX10_cloud_X10_refuseBad : GoodIn wsX10_cloud wsX10_refuseBad := goodIn_r _ [11, 12, 40, 41, 42, 43, 44, 45, 46, 47, 48, 49, 50, 51] (by decide +kernel) (by decide +kernel)
set_option maxRecDepth 20000 in
theorem gX10_cloud_X10_refuseBad : GoodIn wsX10_cloud (wsV RX10 90 RX10 yX10_refuseBad wsX10_refuseBad) := goodIn_app (goodIn_of _ (by decide +kernel)) ggX10_cloud_X10_refuseBad
set_option maxRecDepth 20000 in
theorem ggX10_cloud_X4_remember : GoodIn wsX10_cloud wsX4_remember := goodIn_r _ [17, 18, 19, 20, 21, 22, 23, 16, 24, 25, 26, 27, 28, 29, 30, 31, 32, 33, 34, 35, 36, 37, 38, 39, 52, 53, 54, 55, 56, 57, 58, 59, 60, 61, 62, 63, 64, 65, 66, 67, 68] (by decide +kernel) (by decide +kernel)
set_option maxRecDepth 20000 in
theorem gX10_cloud_X4_remember : GoodIn wsX10_cloud (wsV RX10 157 RX4 yX4_remember wsX4_remember) := goodIn_app (goodIn_of _ (by decide +kernel)) ggX10_cloud_X4_remember
theorem dX10_cloud_0 : decode cX10_cloud 0 = .ok (.iload_n 1, 1) := by decide +kernel
theorem dX10_cloud_1 : decode cX10_cloud 1 = .ok (.bipush 10, 2) := by decide +kernel
theorem dX10_cloud_3 : decode cX10_cloud 3 = .ok (.invokestatic 86, 3) := by decide +kernel
theorem dX10_cloud_6 : decode cX10_cloud 6 = .ok (.ifCond .ne 8, 3) := by decide +kernel
theorem dX10_cloud_9 : decode cX10_cloud 9 = .ok (.aload_n 0, 1) := by decide +kernel
theorem dX10_cloud_10 : decode cX10_cloud 10 = .ok (.invokevirtual 90, 3) := by decide +kernel
theorem dX10_cloud_13 : decode cX10_cloud 13 = .ok (.ireturn, 1) := by decide +kernel
theorem dX10_cloud_14 : decode cX10_cloud 14 = .ok (.aload_n 0, 1) := by decide +kernel
theorem dX10_cloud_15 : decode cX10_cloud 15 = .ok (.getfield 36, 3) := by decide +kernel
theorem dX10_cloud_18 : decode cX10_cloud 18 = .ok (.invokevirtual 157, 3) := by decide +kernel
theorem dX10_cloud_21 : decode cX10_cloud 21 = .ok (.aload_n 0, 1) := by decide +kernel
theorem dX10_cloud_22 : decode cX10_cloud 22 = .ok (.getfield 36, 3) := by decide +kernel
theorem dX10_cloud_25 : decode cX10_cloud 25 = .ok (.getfield 140, 3) := by decide +kernel
theorem dX10_cloud_28 : decode cX10_cloud 28 = .ok (.getfield 173, 3) := by decide +kernel
theorem dX10_cloud_31 : decode cX10_cloud 31 = .ok (.istore_n 2, 1) := by decide +kernel
theorem dX10_cloud_32 : decode cX10_cloud 32 = .ok (.aload_n 0, 1) := by decide +kernel
theorem dX10_cloud_33 : decode cX10_cloud 33 = .ok (.getfield 36, 3) := by decide +kernel
theorem dX10_cloud_36 : decode cX10_cloud 36 = .ok (.getfield 140, 3) := by decide +kernel
theorem dX10_cloud_39 : decode cX10_cloud 39 = .ok (.iload_n 1, 1) := by decide +kernel
theorem dX10_cloud_40 : decode cX10_cloud 40 = .ok (.putfield 173, 3) := by decide +kernel
theorem dX10_cloud_43 : decode cX10_cloud 43 = .ok (.iload_n 2, 1) := by decide +kernel
theorem dX10_cloud_44 : decode cX10_cloud 44 = .ok (.ireturn, 1) := by decide +kernel
set_option maxRecDepth 20000 in
theorem ggX10_undo_X10_refuseNo : GoodIn wsX10_undo wsX10_refuseNo := goodIn_r _ [9, 10, 34, 35, 36, 37, 38, 39, 40, 41, 42, 43, 44, 45] (by decide +kernel) (by decide +kernel)
set_option maxRecDepth 20000 in
theorem gX10_undo_X10_refuseNo : GoodIn wsX10_undo (wsV RX10 154 RX10 yX10_refuseNo wsX10_refuseNo) := goodIn_app (goodIn_of _ (by decide +kernel)) ggX10_undo_X10_refuseNo
set_option maxRecDepth 20000 in
theorem ggX10_undo_X4_goBack : GoodIn wsX10_undo wsX4_goBack := goodIn_r _ [15, 16, 17, 18, 19, 20, 21, 22, 23, 24, 25, 26, 27, 28, 29, 30, 31, 32, 33, 46, 47, 48, 49, 50, 51, 52, 53, 54, 55, 56, 57, 58, 59, 60, 61, 62] (by decide +kernel) (by decide +kernel)
set_option maxRecDepth 20000 in
theorem gX10_undo_X4_goBack : GoodIn wsX10_undo (wsV RX10 179 RX4 yX4_goBack wsX4_goBack) := goodIn_app (goodIn_of _ (by decide +kernel)) ggX10_undo_X4_goBack
theorem dX10_undo_0 : decode cX10_undo 0 = .ok (.aload_n 0, 1) := by decide +kernel
theorem dX10_undo_1 : decode cX10_undo 1 = .ok (.getfield 36, 3) := by decide +kernel
theorem dX10_undo_4 : decode cX10_undo 4 = .ok (.getfield 176, 3) := by decide +kernel
theorem dX10_undo_7 : decode cX10_undo 7 = .ok (.ifCond .ne 8, 3) := by decide +kernel
theorem dX10_undo_10 : decode cX10_undo 10 = .ok (.aload_n 0, 1) := by decide +kernel
theorem dX10_undo_11 : decode cX10_undo 11 = .ok (.invokevirtual 154, 3) := by decide +kernel
theorem dX10_undo_14 : decode cX10_undo 14 = .ok (.ireturn, 1) := by decide +kernel
theorem dX10_undo_15 : decode cX10_undo 15 = .ok (.aload_n 0, 1) := by decide +kernel
theorem dX10_undo_16 : decode cX10_undo 16 = .ok (.getfield 36, 3) := by decide +kernel
theorem dX10_undo_19 : decode cX10_undo 19 = .ok (.invokevirtual 179, 3) := by decide +kernel
theorem dX10_undo_22 : decode cX10_undo 22 = .ok (.aload_n 0, 1) := by decide +kernel
theorem dX10_undo_23 : decode cX10_undo 23 = .ok (.getfield 36, 3) := by decide +kernel
theorem dX10_undo_26 : decode cX10_undo 26 = .ok (.getfield 140, 3) := by decide +kernel
theorem dX10_undo_29 : decode cX10_undo 29 = .ok (.getfield 151, 3) := by decide +kernel
theorem dX10_undo_32 : decode cX10_undo 32 = .ok (.ireturn, 1) := by decide +kernel
set_option maxRecDepth 20000 in
theorem ggX10_of_X4_hasField : GoodIn wsX10_of wsX4_hasField := goodIn_r _ [9, 10, 11, 12, 13, 39, 40, 41, 42, 43, 44, 45, 46, 47, 48, 49] (by decide +kernel) (by decide +kernel)
set_option maxRecDepth 20000 in
theorem gX10_of_X4_hasField : GoodIn wsX10_of (wsV RX10 112 RX4 yX4_hasField wsX4_hasField) := goodIn_app (goodIn_of _ (by decide +kernel)) ggX10_of_X4_hasField
set_option maxRecDepth 20000 in
theorem ggX10_of_X10_isBelow : GoodIn wsX10_of wsX10_isBelow := goodIn_r _ [13] (by decide +kernel) (by decide +kernel)
set_option maxRecDepth 20000 in
theorem gX10_of_X10_isBelow : GoodIn wsX10_of (va_wsS RX10 86 yX10_isBelow wsX10_isBelow) := goodIn_app (goodIn_of _ (by decide +kernel)) ggX10_of_X10_isBelow
set_option maxRecDepth 20000 in
theorem ggX10_of_X10_refuseBad : GoodIn wsX10_of wsX10_refuseBad := goodIn_r _ [18, 19, 27, 28, 29, 30, 31, 32, 33, 34, 35, 36, 37, 38] (by decide +kernel) (by decide +kernel)
set_option maxRecDepth 20000 in
theorem gX10_of_X10_refuseBad : GoodIn wsX10_of (wsV RX10 90 RX10 yX10_refuseBad wsX10_refuseBad) := goodIn_app (goodIn_of _ (by decide +kernel)) ggX10_of_X10_refuseBad
set_option maxRecDepth 20000 in
theorem ggX10_of_X4_whoIsOn : GoodIn wsX10_of wsX4_whoIsOn := goodIn_r _ [23, 24, 25, 26, 39, 40, 41, 42, 43, 44, 45, 46, 47, 48, 49, 50, 51, 52, 53, 54, 55] (by decide +kernel) (by decide +kernel)
set_option maxRecDepth 20000 in
theorem gX10_of_X4_whoIsOn : GoodIn wsX10_of (wsV RX10 188 RX4 yX4_whoIsOn wsX4_whoIsOn) := goodIn_app (goodIn_of _ (by decide +kernel)) ggX10_of_X4_whoIsOn
theorem dX10_of_0 : decode cX10_of 0 = .ok (.aload_n 0, 1) := by decide +kernel
theorem dX10_of_1 : decode cX10_of 1 = .ok (.getfield 36, 3) := by decide +kernel
theorem dX10_of_4 : decode cX10_of 4 = .ok (.iload_n 1, 1) := by decide +kernel
theorem dX10_of_5 : decode cX10_of 5 = .ok (.invokevirtual 112, 3) := by decide +kernel
theorem dX10_of_8 : decode cX10_of 8 = .ok (.ifCond .eq 11, 3) := by decide +kernel
theorem dX10_of_11 : decode cX10_of 11 = .ok (.iload_n 2, 1) := by decide +kernel
theorem dX10_of_12 : decode cX10_of 12 = .ok (.iconst 3, 1) := by decide +kernel
theorem dX10_of_13 : decode cX10_of 13 = .ok (.invokestatic 86, 3) := by decide +kernel
theorem dX10_of_16 : decode cX10_of 16 = .ok (.ifCond .ne 8, 3) := by decide +kernel
theorem dX10_of_19 : decode cX10_of 19 = .ok (.aload_n 0, 1) := by decide +kernel
theorem dX10_of_20 : decode cX10_of 20 = .ok (.invokevirtual 90, 3) := by decide +kernel
theorem dX10_of_23 : decode cX10_of 23 = .ok (.ireturn, 1) := by decide +kernel
theorem dX10_of_24 : decode cX10_of 24 = .ok (.iload_n 2, 1) := by decide +kernel
theorem dX10_of_25 : decode cX10_of 25 = .ok (.ifCond .ne 13, 3) := by decide +kernel
theorem dX10_of_28 : decode cX10_of 28 = .ok (.aload_n 0, 1) := by decide +kernel
theorem dX10_of_29 : decode cX10_of 29 = .ok (.getfield 36, 3) := by decide +kernel
theorem dX10_of_32 : decode cX10_of 32 = .ok (.getfield 182, 3) := by decide +kernel
theorem dX10_of_35 : decode cX10_of 35 = .ok (.iload_n 1, 1) := by decide +kernel
theorem dX10_of_36 : decode cX10_of 36 = .ok (.iaload, 1) := by decide +kernel
theorem dX10_of_37 : decode cX10_of 37 = .ok (.ireturn, 1) := by decide +kernel
theorem dX10_of_38 : decode cX10_of 38 = .ok (.iload_n 2, 1) := by decide +kernel
theorem dX10_of_39 : decode cX10_of 39 = .ok (.iconst 1, 1) := by decide +kernel
theorem dX10_of_40 : decode cX10_of 40 = .ok (.if_icmp .ne 16, 3) := by decide +kernel
theorem dX10_of_43 : decode cX10_of 43 = .ok (.aload_n 0, 1) := by decide +kernel
theorem dX10_of_44 : decode cX10_of 44 = .ok (.getfield 36, 3) := by decide +kernel
theorem dX10_of_47 : decode cX10_of 47 = .ok (.getfield 140, 3) := by decide +kernel
theorem dX10_of_50 : decode cX10_of 50 = .ok (.getfield 185, 3) := by decide +kernel
theorem dX10_of_53 : decode cX10_of 53 = .ok (.iload_n 1, 1) := by decide +kernel
theorem dX10_of_54 : decode cX10_of 54 = .ok (.iaload, 1) := by decide +kernel
theorem dX10_of_55 : decode cX10_of 55 = .ok (.ireturn, 1) := by decide +kernel
theorem dX10_of_56 : decode cX10_of 56 = .ok (.aload_n 0, 1) := by decide +kernel
theorem dX10_of_57 : decode cX10_of 57 = .ok (.getfield 36, 3) := by decide +kernel
theorem dX10_of_60 : decode cX10_of 60 = .ok (.iload_n 1, 1) := by decide +kernel
theorem dX10_of_61 : decode cX10_of 61 = .ok (.invokevirtual 188, 3) := by decide +kernel
theorem dX10_of_64 : decode cX10_of 64 = .ok (.ireturn, 1) := by decide +kernel
set_option maxRecDepth 20000 in
theorem ggX10_about_X4_hasGleaner : GoodIn wsX10_about wsX4_hasGleaner := goodIn_r _ [9, 10, 11, 12, 13, 98, 99, 100, 101, 102, 103, 104, 105, 106, 107, 108] (by decide +kernel) (by decide +kernel)
set_option maxRecDepth 20000 in
theorem gX10_about_X4_hasGleaner : GoodIn wsX10_about (wsV RX10 167 RX4 yX4_hasGleaner wsX4_hasGleaner) := goodIn_app (goodIn_of _ (by decide +kernel)) ggX10_about_X4_hasGleaner
set_option maxRecDepth 20000 in
theorem ggX10_about_X10_isBelow : GoodIn wsX10_about wsX10_isBelow := goodIn_r _ [13] (by decide +kernel) (by decide +kernel)
set_option maxRecDepth 20000 in
theorem gX10_about_X10_isBelow : GoodIn wsX10_about (va_wsS RX10 86 yX10_isBelow wsX10_isBelow) := goodIn_app (goodIn_of _ (by decide +kernel)) ggX10_about_X10_isBelow
set_option maxRecDepth 20000 in
theorem ggX10_about_X10_refuseBad : GoodIn wsX10_about wsX10_refuseBad := goodIn_r _ [18, 19, 86, 87, 88, 89, 90, 91, 92, 93, 94, 95, 96, 97] (by decide +kernel) (by decide +kernel)
set_option maxRecDepth 20000 in
theorem gX10_about_X10_refuseBad : GoodIn wsX10_about (wsV RX10 90 RX10 yX10_refuseBad wsX10_refuseBad) := goodIn_app (goodIn_of _ (by decide +kernel)) ggX10_about_X10_refuseBad
set_option maxRecDepth 20000 in
theorem ggX10_about_X4_share : GoodIn wsX10_about wsX4_share := goodIn_r _ [23, 24, 25, 26, 27, 8, 28, 10, 29, 30, 31, 32, 33, 34, 35, 36, 37, 38, 39, 40, 41, 42, 43, 44, 45, 46, 47, 48, 49, 50, 51, 52, 53, 54, 55, 56, 57, 58, 59, 60, 61, 62, 63, 64, 65, 66, 67, 68, 69, 70, 71, 72, 73, 74, 75, 76, 77, 78, 79, 80, 81, 82, 83, 84, 85, 109, 110, 111, 112, 113, 114, 98, 99, 100, 101, 102, 103, 104, 105, 106, 107, 108] (by decide +kernel) (by decide +kernel)
set_option maxRecDepth 20000 in
theorem gX10_about_X4_share : GoodIn wsX10_about (wsV RX10 194 RX4 yX4_share wsX4_share) := goodIn_app (goodIn_of _ (by decide +kernel)) ggX10_about_X4_share
theorem dX10_about_0 : decode cX10_about 0 = .ok (.aload_n 0, 1) := by decide +kernel
theorem dX10_about_1 : decode cX10_about 1 = .ok (.getfield 36, 3) := by decide +kernel
theorem dX10_about_4 : decode cX10_about 4 = .ok (.iload_n 1, 1) := by decide +kernel
theorem dX10_about_5 : decode cX10_about 5 = .ok (.invokevirtual 167, 3) := by decide +kernel
theorem dX10_about_8 : decode cX10_about 8 = .ok (.ifCond .eq 11, 3) := by decide +kernel
theorem dX10_about_11 : decode cX10_about 11 = .ok (.iload_n 2, 1) := by decide +kernel
theorem dX10_about_12 : decode cX10_about 12 = .ok (.iconst 3, 1) := by decide +kernel
theorem dX10_about_13 : decode cX10_about 13 = .ok (.invokestatic 86, 3) := by decide +kernel
theorem dX10_about_16 : decode cX10_about 16 = .ok (.ifCond .ne 8, 3) := by decide +kernel
theorem dX10_about_19 : decode cX10_about 19 = .ok (.aload_n 0, 1) := by decide +kernel
theorem dX10_about_20 : decode cX10_about 20 = .ok (.invokevirtual 90, 3) := by decide +kernel
theorem dX10_about_23 : decode cX10_about 23 = .ok (.ireturn, 1) := by decide +kernel
theorem dX10_about_24 : decode cX10_about 24 = .ok (.iload_n 2, 1) := by decide +kernel
theorem dX10_about_25 : decode cX10_about 25 = .ok (.ifCond .ne 16, 3) := by decide +kernel
theorem dX10_about_28 : decode cX10_about 28 = .ok (.aload_n 0, 1) := by decide +kernel
theorem dX10_about_29 : decode cX10_about 29 = .ok (.getfield 36, 3) := by decide +kernel
theorem dX10_about_32 : decode cX10_about 32 = .ok (.getfield 140, 3) := by decide +kernel
theorem dX10_about_35 : decode cX10_about 35 = .ok (.getfield 170, 3) := by decide +kernel
theorem dX10_about_38 : decode cX10_about 38 = .ok (.iload_n 1, 1) := by decide +kernel
theorem dX10_about_39 : decode cX10_about 39 = .ok (.iaload, 1) := by decide +kernel
theorem dX10_about_40 : decode cX10_about 40 = .ok (.ireturn, 1) := by decide +kernel
theorem dX10_about_41 : decode cX10_about 41 = .ok (.iload_n 2, 1) := by decide +kernel
theorem dX10_about_42 : decode cX10_about 42 = .ok (.iconst 1, 1) := by decide +kernel
theorem dX10_about_43 : decode cX10_about 43 = .ok (.if_icmp .ne 16, 3) := by decide +kernel
theorem dX10_about_46 : decode cX10_about 46 = .ok (.aload_n 0, 1) := by decide +kernel
theorem dX10_about_47 : decode cX10_about 47 = .ok (.getfield 36, 3) := by decide +kernel
theorem dX10_about_50 : decode cX10_about 50 = .ok (.getfield 140, 3) := by decide +kernel
theorem dX10_about_53 : decode cX10_about 53 = .ok (.getfield 191, 3) := by decide +kernel
theorem dX10_about_56 : decode cX10_about 56 = .ok (.iload_n 1, 1) := by decide +kernel
theorem dX10_about_57 : decode cX10_about 57 = .ok (.iaload, 1) := by decide +kernel
theorem dX10_about_58 : decode cX10_about 58 = .ok (.ireturn, 1) := by decide +kernel
theorem dX10_about_59 : decode cX10_about 59 = .ok (.aload_n 0, 1) := by decide +kernel
theorem dX10_about_60 : decode cX10_about 60 = .ok (.getfield 36, 3) := by decide +kernel
theorem dX10_about_63 : decode cX10_about 63 = .ok (.aload_n 0, 1) := by decide +kernel
theorem dX10_about_64 : decode cX10_about 64 = .ok (.getfield 36, 3) := by decide +kernel
theorem dX10_about_67 : decode cX10_about 67 = .ok (.getfield 140, 3) := by decide +kernel
theorem dX10_about_70 : decode cX10_about 70 = .ok (.aload_n 0, 1) := by decide +kernel
theorem dX10_about_71 : decode cX10_about 71 = .ok (.getfield 36, 3) := by decide +kernel
theorem dX10_about_74 : decode cX10_about 74 = .ok (.getfield 140, 3) := by decide +kernel
theorem dX10_about_77 : decode cX10_about 77 = .ok (.getfield 170, 3) := by decide +kernel
theorem dX10_about_80 : decode cX10_about 80 = .ok (.iload_n 1, 1) := by decide +kernel
theorem dX10_about_81 : decode cX10_about 81 = .ok (.iaload, 1) := by decide +kernel
theorem dX10_about_82 : decode cX10_about 82 = .ok (.invokevirtual 194, 3) := by decide +kernel
theorem dX10_about_85 : decode cX10_about 85 = .ok (.ireturn, 1) := by decide +kernel
set_option maxRecDepth 20000 in
theorem ggX10_seen_X4_hasField : GoodIn wsX10_seen wsX4_hasField := goodIn_r _ [7, 8, 9, 10, 11, 86, 87, 88, 89, 90, 91, 92, 93, 94, 95, 96] (by decide +kernel) (by decide +kernel)
set_option maxRecDepth 20000 in
theorem gX10_seen_X4_hasField : GoodIn wsX10_seen (wsV RX10 112 RX4 yX4_hasField wsX4_hasField) := goodIn_app (goodIn_of _ (by decide +kernel)) ggX10_seen_X4_hasField
set_option maxRecDepth 20000 in
theorem ggX10_seen_X10_isBelow : GoodIn wsX10_seen wsX10_isBelow := goodIn_r _ [11] (by decide +kernel) (by decide +kernel)
set_option maxRecDepth 20000 in
theorem gX10_seen_X10_isBelow : GoodIn wsX10_seen (va_wsS RX10 86 yX10_isBelow wsX10_isBelow) := goodIn_app (goodIn_of _ (by decide +kernel)) ggX10_seen_X10_isBelow
set_option maxRecDepth 20000 in
theorem ggX10_seen_X10_refuseBad : GoodIn wsX10_seen wsX10_refuseBad := goodIn_r _ [16, 17, 74, 75, 76, 77, 78, 79, 80, 81, 82, 83, 84, 85] (by decide +kernel) (by decide +kernel)
set_option maxRecDepth 20000 in
theorem gX10_seen_X10_refuseBad : GoodIn wsX10_seen (wsV RX10 90 RX10 yX10_refuseBad wsX10_refuseBad) := goodIn_app (goodIn_of _ (by decide +kernel)) ggX10_seen_X10_refuseBad
set_option maxRecDepth 20000 in
theorem ggX10_seen_X4_shows : GoodIn wsX10_seen wsX4_shows := goodIn_r _ [21, 22, 23, 24, 25, 26, 27, 28, 29, 30, 31, 32, 33, 34, 35, 36, 37, 38, 39, 40, 41, 42, 43, 44, 45, 46, 47, 48, 49, 50, 51, 52, 53, 54, 55, 56, 57, 58, 59, 60, 61, 62, 63, 64, 65, 66, 67, 68, 69, 70, 71, 72, 73, 86, 87, 88, 89, 90, 91, 92, 93, 94, 95, 96, 97, 98, 99, 100, 101, 102] (by decide +kernel) (by decide +kernel)
set_option maxRecDepth 20000 in
theorem gX10_seen_X4_shows : GoodIn wsX10_seen (wsV RX10 197 RX4 yX4_shows wsX4_shows) := goodIn_app (goodIn_of _ (by decide +kernel)) ggX10_seen_X4_shows
theorem dX10_seen_0 : decode cX10_seen 0 = .ok (.aload_n 0, 1) := by decide +kernel
theorem dX10_seen_1 : decode cX10_seen 1 = .ok (.getfield 36, 3) := by decide +kernel
theorem dX10_seen_4 : decode cX10_seen 4 = .ok (.iload_n 1, 1) := by decide +kernel
theorem dX10_seen_5 : decode cX10_seen 5 = .ok (.invokevirtual 112, 3) := by decide +kernel
theorem dX10_seen_8 : decode cX10_seen 8 = .ok (.ifCond .eq 12, 3) := by decide +kernel
theorem dX10_seen_11 : decode cX10_seen 11 = .ok (.iload_n 2, 1) := by decide +kernel
theorem dX10_seen_12 : decode cX10_seen 12 = .ok (.bipush 12, 2) := by decide +kernel
theorem dX10_seen_14 : decode cX10_seen 14 = .ok (.invokestatic 86, 3) := by decide +kernel
theorem dX10_seen_17 : decode cX10_seen 17 = .ok (.ifCond .ne 8, 3) := by decide +kernel
theorem dX10_seen_20 : decode cX10_seen 20 = .ok (.aload_n 0, 1) := by decide +kernel
theorem dX10_seen_21 : decode cX10_seen 21 = .ok (.invokevirtual 90, 3) := by decide +kernel
theorem dX10_seen_24 : decode cX10_seen 24 = .ok (.ireturn, 1) := by decide +kernel
theorem dX10_seen_25 : decode cX10_seen 25 = .ok (.aload_n 0, 1) := by decide +kernel
theorem dX10_seen_26 : decode cX10_seen 26 = .ok (.getfield 36, 3) := by decide +kernel
theorem dX10_seen_29 : decode cX10_seen 29 = .ok (.aload_n 0, 1) := by decide +kernel
theorem dX10_seen_30 : decode cX10_seen 30 = .ok (.getfield 36, 3) := by decide +kernel
theorem dX10_seen_33 : decode cX10_seen 33 = .ok (.getfield 140, 3) := by decide +kernel
theorem dX10_seen_36 : decode cX10_seen 36 = .ok (.iload_n 1, 1) := by decide +kernel
theorem dX10_seen_37 : decode cX10_seen 37 = .ok (.iload_n 2, 1) := by decide +kernel
theorem dX10_seen_38 : decode cX10_seen 38 = .ok (.invokevirtual 197, 3) := by decide +kernel
theorem dX10_seen_41 : decode cX10_seen 41 = .ok (.ireturn, 1) := by decide +kernel
set_option maxRecDepth 20000 in
theorem ggX10_then_X4_hasGleaner : GoodIn wsX10_then wsX4_hasGleaner := goodIn_r _ [14, 15, 16, 17, 18, 129, 130, 131, 132, 133, 134, 135, 136, 137, 138, 139] (by decide +kernel) (by decide +kernel)
set_option maxRecDepth 20000 in
theorem gX10_then_X4_hasGleaner : GoodIn wsX10_then (wsV RX10 167 RX4 yX4_hasGleaner wsX4_hasGleaner) := goodIn_app (goodIn_of _ (by decide +kernel)) ggX10_then_X4_hasGleaner
set_option maxRecDepth 20000 in
theorem ggX10_then_X10_isIn : GoodIn wsX10_then wsX10_isIn := goodIn_r _ [21] (by decide +kernel) (by decide +kernel)
set_option maxRecDepth 20000 in
theorem gX10_then_X10_isIn : GoodIn wsX10_then (va_wsS RX10 147 yX10_isIn wsX10_isIn) := goodIn_app (goodIn_of _ (by decide +kernel)) ggX10_then_X10_isIn
set_option maxRecDepth 20000 in
theorem ggX10_then_X10_refuseBad : GoodIn wsX10_then wsX10_refuseBad := goodIn_r _ [25, 26, 117, 118, 119, 120, 121, 122, 123, 124, 125, 126, 127, 128] (by decide +kernel) (by decide +kernel)
set_option maxRecDepth 20000 in
theorem gX10_then_X10_refuseBad : GoodIn wsX10_then (wsV RX10 90 RX10 yX10_refuseBad wsX10_refuseBad) := goodIn_app (goodIn_of _ (by decide +kernel)) ggX10_then_X10_refuseBad
set_option maxRecDepth 20000 in
theorem ggX10_then_X1_become : GoodIn wsX10_then wsX1_become := goodIn_r _ [31, 32, 33, 34, 35, 36, 37, 38, 39, 40, 41, 140, 141, 142, 143, 144, 145] (by decide +kernel) (by decide +kernel)
set_option maxRecDepth 20000 in
theorem gX10_then_X1_become : GoodIn wsX10_then (wsV RX10 201 RX1 yX1_become wsX1_become) := goodIn_app (goodIn_of _ (by decide +kernel)) ggX10_then_X1_become
set_option maxRecDepth 20000 in
theorem ggX10_then_X4_gather : GoodIn wsX10_then wsX4_gather := goodIn_r _ [45, 46, 47, 48, 49, 50, 13, 51, 52, 53, 54, 55, 15, 56, 57, 58, 59, 60, 61, 62, 63, 64, 65, 66, 67, 68, 69, 70, 71, 72, 73, 7, 74, 75, 76, 77, 78, 79, 80, 81, 82, 83, 84, 85, 86, 87, 88, 89, 90, 91, 92, 93, 94, 95, 96, 97, 98, 99, 100, 101, 102, 103, 104, 105, 6, 8, 106, 107, 108, 109, 110, 111, 112, 113, 114, 115, 116, 129, 130, 131, 132, 133, 134, 135, 136, 137, 138, 139, 140, 141, 142, 143, 144, 145] (by decide +kernel) (by decide +kernel)
set_option maxRecDepth 20000 in
theorem gX10_then_X4_gather : GoodIn wsX10_then (wsV RX10 143 RX4 yX4_gather wsX4_gather) := goodIn_app (goodIn_of _ (by decide +kernel)) ggX10_then_X4_gather
theorem dX10_then_0 : decode cX10_then 0 = .ok (.aload_n 0, 1) := by decide +kernel
theorem dX10_then_1 : decode cX10_then 1 = .ok (.getfield 36, 3) := by decide +kernel
theorem dX10_then_4 : decode cX10_then 4 = .ok (.iload_n 1, 1) := by decide +kernel
theorem dX10_then_5 : decode cX10_then 5 = .ok (.invokevirtual 167, 3) := by decide +kernel
theorem dX10_then_8 : decode cX10_then 8 = .ok (.ifCond .eq 13, 3) := by decide +kernel
theorem dX10_then_11 : decode cX10_then 11 = .ok (.iload_n 2, 1) := by decide +kernel
theorem dX10_then_12 : decode cX10_then 12 = .ok (.iconst 0, 1) := by decide +kernel
theorem dX10_then_13 : decode cX10_then 13 = .ok (.bipush 12, 2) := by decide +kernel
theorem dX10_then_15 : decode cX10_then 15 = .ok (.invokestatic 147, 3) := by decide +kernel
theorem dX10_then_18 : decode cX10_then 18 = .ok (.ifCond .ne 8, 3) := by decide +kernel
theorem dX10_then_21 : decode cX10_then 21 = .ok (.aload_n 0, 1) := by decide +kernel
theorem dX10_then_22 : decode cX10_then 22 = .ok (.invokevirtual 90, 3) := by decide +kernel
theorem dX10_then_25 : decode cX10_then 25 = .ok (.ireturn, 1) := by decide +kernel
theorem dX10_then_26 : decode cX10_then 26 = .ok (.aload_n 0, 1) := by decide +kernel
theorem dX10_then_27 : decode cX10_then 27 = .ok (.getfield 58, 3) := by decide +kernel
theorem dX10_then_30 : decode cX10_then 30 = .ok (.aload_n 0, 1) := by decide +kernel
theorem dX10_then_31 : decode cX10_then 31 = .ok (.getfield 36, 3) := by decide +kernel
theorem dX10_then_34 : decode cX10_then 34 = .ok (.getfield 140, 3) := by decide +kernel
theorem dX10_then_37 : decode cX10_then 37 = .ok (.invokevirtual 201, 3) := by decide +kernel
theorem dX10_then_40 : decode cX10_then 40 = .ok (.aload_n 0, 1) := by decide +kernel
theorem dX10_then_41 : decode cX10_then 41 = .ok (.getfield 36, 3) := by decide +kernel
theorem dX10_then_44 : decode cX10_then 44 = .ok (.aload_n 0, 1) := by decide +kernel
theorem dX10_then_45 : decode cX10_then 45 = .ok (.getfield 58, 3) := by decide +kernel
theorem dX10_then_48 : decode cX10_then 48 = .ok (.iload_n 2, 1) := by decide +kernel
theorem dX10_then_49 : decode cX10_then 49 = .ok (.bipush 12, 2) := by decide +kernel
theorem dX10_then_51 : decode cX10_then 51 = .ok (.aload_n 0, 1) := by decide +kernel
theorem dX10_then_52 : decode cX10_then 52 = .ok (.getfield 58, 3) := by decide +kernel
theorem dX10_then_55 : decode cX10_then 55 = .ok (.getfield 151, 3) := by decide +kernel
theorem dX10_then_58 : decode cX10_then 58 = .ok (.isub, 1) := by decide +kernel
theorem dX10_then_59 : decode cX10_then 59 = .ok (.invokestatic 204, 3) := by decide +kernel
theorem dX10_then_62 : decode cX10_then 62 = .ok (.invokevirtual 143, 3) := by decide +kernel
theorem dX10_then_65 : decode cX10_then 65 = .ok (.pop, 1) := by decide +kernel
theorem dX10_then_66 : decode cX10_then 66 = .ok (.aload_n 0, 1) := by decide +kernel
theorem dX10_then_67 : decode cX10_then 67 = .ok (.getfield 58, 3) := by decide +kernel
theorem dX10_then_70 : decode cX10_then 70 = .ok (.getfield 191, 3) := by decide +kernel
theorem dX10_then_73 : decode cX10_then 73 = .ok (.iload_n 1, 1) := by decide +kernel
theorem dX10_then_74 : decode cX10_then 74 = .ok (.iaload, 1) := by decide +kernel
theorem dX10_then_75 : decode cX10_then 75 = .ok (.ireturn, 1) := by decide +kernel
set_option maxRecDepth 20000 in
theorem ggX10_round_X4_hasGleaner : GoodIn wsX10_round wsX4_hasGleaner := goodIn_r _ [12, 13, 14, 15, 16, 139, 140, 141, 142, 143, 144, 145, 146, 147, 148, 149] (by decide +kernel) (by decide +kernel)
set_option maxRecDepth 20000 in
theorem gX10_round_X4_hasGleaner : GoodIn wsX10_round (wsV RX10 167 RX4 yX4_hasGleaner wsX4_hasGleaner) := goodIn_app (goodIn_of _ (by decide +kernel)) ggX10_round_X4_hasGleaner
set_option maxRecDepth 20000 in
theorem ggX10_round_X10_isIn : GoodIn wsX10_round wsX10_isIn := goodIn_r _ [19] (by decide +kernel) (by decide +kernel)
set_option maxRecDepth 20000 in
theorem gX10_round_X10_isIn : GoodIn wsX10_round (va_wsS RX10 147 yX10_isIn wsX10_isIn) := goodIn_app (goodIn_of _ (by decide +kernel)) ggX10_round_X10_isIn
set_option maxRecDepth 20000 in
theorem ggX10_round_X10_refuseTen : GoodIn wsX10_round wsX10_refuseTen := goodIn_r _ [23, 24, 127, 128, 129, 130, 131, 132, 133, 134, 135, 136, 137, 138] (by decide +kernel) (by decide +kernel)
set_option maxRecDepth 20000 in
theorem gX10_round_X10_refuseTen : GoodIn wsX10_round (wsV RX10 209 RX10 yX10_refuseTen wsX10_refuseTen) := goodIn_app (goodIn_of _ (by decide +kernel)) ggX10_round_X10_refuseTen
set_option maxRecDepth 20000 in
theorem ggX10_round_X1_become : GoodIn wsX10_round wsX1_become := goodIn_r _ [29, 30, 31, 32, 33, 34, 35, 36, 37, 38, 39, 150, 151, 152, 153, 154, 155] (by decide +kernel) (by decide +kernel)
set_option maxRecDepth 20000 in
theorem gX10_round_X1_become : GoodIn wsX10_round (wsV RX10 201 RX1 yX1_become wsX1_become) := goodIn_app (goodIn_of _ (by decide +kernel)) ggX10_round_X1_become
set_option maxRecDepth 20000 in
theorem ggX10_round_X0_begin : GoodIn wsX10_round wsX0_begin := goodIn_r _ [44, 45, 156, 157, 158] (by decide +kernel) (by decide +kernel)
set_option maxRecDepth 20000 in
theorem gX10_round_X0_begin : GoodIn wsX10_round (wsV RX10 212 RX0 yX0_begin wsX0_begin) := goodIn_app (goodIn_of _ (by decide +kernel)) ggX10_round_X0_begin
set_option maxRecDepth 20000 in
theorem ggX10_round_X10_roam : GoodIn wsX10_round wsX10_roam := goodIn_r _ [49, 4, 1, 50, 51, 52, 53, 43, 54, 45, 55, 56, 57, 58, 59, 60, 61, 32, 33, 34, 62, 63, 64, 11, 65, 66, 14, 15, 16, 67, 68, 69, 46, 47, 48, 70, 2, 71, 72, 73, 74, 75, 76, 77, 78, 79, 80, 81, 82, 83, 84, 85, 86, 87, 88, 89, 90, 91, 92, 93, 94, 95, 96, 97, 98, 99, 100, 101, 102, 103, 104, 105, 106, 107, 108, 109, 110, 111, 112, 113, 114, 115, 116, 117, 118, 119, 120, 121, 122, 123, 124, 125, 126, 127, 128, 129, 130, 131, 132, 133, 134, 135, 136, 137, 138, 156, 157, 158, 139, 140, 141, 142, 143, 144, 145, 146, 147, 148, 149, 150, 151, 152, 153, 154, 155] (by decide +kernel) (by decide +kernel)
set_option maxRecDepth 20000 in
theorem gX10_round_X10_roam : GoodIn wsX10_round (wsV RX10 214 RX10 yX10_roam wsX10_roam) := goodIn_app (goodIn_of _ (by decide +kernel)) ggX10_round_X10_roam
theorem dX10_round_0 : decode cX10_round 0 = .ok (.aload_n 0, 1) := by decide +kernel
theorem dX10_round_1 : decode cX10_round 1 = .ok (.getfield 36, 3) := by decide +kernel
theorem dX10_round_4 : decode cX10_round 4 = .ok (.iload_n 1, 1) := by decide +kernel
theorem dX10_round_5 : decode cX10_round 5 = .ok (.invokevirtual 167, 3) := by decide +kernel
theorem dX10_round_8 : decode cX10_round 8 = .ok (.ifCond .eq 18, 3) := by decide +kernel
theorem dX10_round_11 : decode cX10_round 11 = .ok (.iload_n 2, 1) := by decide +kernel
theorem dX10_round_12 : decode cX10_round 12 = .ok (.iconst 1, 1) := by decide +kernel
theorem dX10_round_13 : decode cX10_round 13 = .ok (.bipush 6, 2) := by decide +kernel
theorem dX10_round_15 : decode cX10_round 15 = .ok (.invokestatic 147, 3) := by decide +kernel
theorem dX10_round_18 : decode cX10_round 18 = .ok (.ifCond .eq 8, 3) := by decide +kernel
theorem dX10_round_21 : decode cX10_round 21 = .ok (.iload_n 3, 1) := by decide +kernel
theorem dX10_round_22 : decode cX10_round 22 = .ok (.iconst (-1), 1) := by decide +kernel
theorem dX10_round_23 : decode cX10_round 23 = .ok (.if_icmp .ge 8, 3) := by decide +kernel
theorem dX10_round_26 : decode cX10_round 26 = .ok (.aload_n 0, 1) := by decide +kernel
theorem dX10_round_27 : decode cX10_round 27 = .ok (.invokevirtual 209, 3) := by decide +kernel
theorem dX10_round_30 : decode cX10_round 30 = .ok (.ireturn, 1) := by decide +kernel
theorem dX10_round_31 : decode cX10_round 31 = .ok (.iload_n 3, 1) := by decide +kernel
theorem dX10_round_32 : decode cX10_round 32 = .ok (.iload_n 2, 1) := by decide +kernel
theorem dX10_round_33 : decode cX10_round 33 = .ok (.if_icmp .lt 6, 3) := by decide +kernel
theorem dX10_round_36 : decode cX10_round 36 = .ok (.bipush (-5), 2) := by decide +kernel
theorem dX10_round_38 : decode cX10_round 38 = .ok (.ireturn, 1) := by decide +kernel
theorem dX10_round_39 : decode cX10_round 39 = .ok (.aload_n 0, 1) := by decide +kernel
theorem dX10_round_40 : decode cX10_round 40 = .ok (.getfield 58, 3) := by decide +kernel
theorem dX10_round_43 : decode cX10_round 43 = .ok (.aload_n 0, 1) := by decide +kernel
theorem dX10_round_44 : decode cX10_round 44 = .ok (.getfield 36, 3) := by decide +kernel
theorem dX10_round_47 : decode cX10_round 47 = .ok (.getfield 140, 3) := by decide +kernel
theorem dX10_round_50 : decode cX10_round 50 = .ok (.invokevirtual 201, 3) := by decide +kernel
theorem dX10_round_53 : decode cX10_round 53 = .ok (.aload_n 0, 1) := by decide +kernel
theorem dX10_round_54 : decode cX10_round 54 = .ok (.getfield 65, 3) := by decide +kernel
theorem dX10_round_57 : decode cX10_round 57 = .ok (.invokevirtual 212, 3) := by decide +kernel
theorem dX10_round_60 : decode cX10_round 60 = .ok (.aload_n 0, 1) := by decide +kernel
theorem dX10_round_61 : decode cX10_round 61 = .ok (.aload_n 0, 1) := by decide +kernel
theorem dX10_round_62 : decode cX10_round 62 = .ok (.getfield 36, 3) := by decide +kernel
theorem dX10_round_65 : decode cX10_round 65 = .ok (.getfield 140, 3) := by decide +kernel
theorem dX10_round_68 : decode cX10_round 68 = .ok (.getfield 170, 3) := by decide +kernel
theorem dX10_round_71 : decode cX10_round 71 = .ok (.iload_n 1, 1) := by decide +kernel
theorem dX10_round_72 : decode cX10_round 72 = .ok (.iaload, 1) := by decide +kernel
theorem dX10_round_73 : decode cX10_round 73 = .ok (.iconst 0, 1) := by decide +kernel
theorem dX10_round_74 : decode cX10_round 74 = .ok (.iload_n 2, 1) := by decide +kernel
theorem dX10_round_75 : decode cX10_round 75 = .ok (.iconst 0, 1) := by decide +kernel
theorem dX10_round_76 : decode cX10_round 76 = .ok (.invokevirtual 214, 3) := by decide +kernel
theorem dX10_round_79 : decode cX10_round 79 = .ok (.iload_n 3, 1) := by decide +kernel
theorem dX10_round_80 : decode cX10_round 80 = .ok (.iconst (-1), 1) := by decide +kernel
theorem dX10_round_81 : decode cX10_round 81 = .ok (.if_icmp .ne 13, 3) := by decide +kernel
theorem dX10_round_84 : decode cX10_round 84 = .ok (.aload_n 0, 1) := by decide +kernel
theorem dX10_round_85 : decode cX10_round 85 = .ok (.getfield 65, 3) := by decide +kernel
theorem dX10_round_88 : decode cX10_round 88 = .ok (.getfield 218, 3) := by decide +kernel
theorem dX10_round_91 : decode cX10_round 91 = .ok (.goto 12, 3) := by decide +kernel
theorem dX10_round_94 : decode cX10_round 94 = .ok (.aload_n 0, 1) := by decide +kernel
theorem dX10_round_95 : decode cX10_round 95 = .ok (.getfield 65, 3) := by decide +kernel
theorem dX10_round_98 : decode cX10_round 98 = .ok (.getfield 221, 3) := by decide +kernel
theorem dX10_round_101 : decode cX10_round 101 = .ok (.iload_n 3, 1) := by decide +kernel
theorem dX10_round_102 : decode cX10_round 102 = .ok (.iaload, 1) := by decide +kernel
theorem dX10_round_103 : decode cX10_round 103 = .ok (.ireturn, 1) := by decide +kernel
set_option maxRecDepth 20000 in
theorem ggX10_places_X10_isBelow : GoodIn wsX10_places wsX10_isBelow := goodIn_r _ [11] (by decide +kernel) (by decide +kernel)
set_option maxRecDepth 20000 in
theorem gX10_places_X10_isBelow : GoodIn wsX10_places (va_wsS RX10 86 yX10_isBelow wsX10_isBelow) := goodIn_app (goodIn_of _ (by decide +kernel)) ggX10_places_X10_isBelow
set_option maxRecDepth 20000 in
theorem ggX10_places_X4_hasGleaner : GoodIn wsX10_places wsX4_hasGleaner := goodIn_r _ [16, 17, 9, 10, 11, 130, 131, 132, 133, 134, 135, 136, 137, 138, 139, 140] (by decide +kernel) (by decide +kernel)
set_option maxRecDepth 20000 in
theorem gX10_places_X4_hasGleaner : GoodIn wsX10_places (wsV RX10 167 RX4 yX4_hasGleaner wsX4_hasGleaner) := goodIn_app (goodIn_of _ (by decide +kernel)) ggX10_places_X4_hasGleaner
set_option maxRecDepth 20000 in
theorem ggX10_places_X10_refuseTen : GoodIn wsX10_places wsX10_refuseTen := goodIn_r _ [21, 22, 118, 119, 120, 121, 122, 123, 124, 125, 126, 127, 128, 129] (by decide +kernel) (by decide +kernel)
set_option maxRecDepth 20000 in
theorem gX10_places_X10_refuseTen : GoodIn wsX10_places (wsV RX10 209 RX10 yX10_refuseTen wsX10_refuseTen) := goodIn_app (goodIn_of _ (by decide +kernel)) ggX10_places_X10_refuseTen
set_option maxRecDepth 20000 in
theorem ggX10_places_X10_showAll : GoodIn wsX10_places wsX10_showAll := goodIn_r _ [26, 1, 27, 28, 3, 29, 30, 31, 15, 32, 33, 34, 35, 36, 37, 38, 39, 40, 41, 42, 43, 44, 45, 46, 47, 48, 49, 50, 51, 52, 53, 54, 55, 56, 57, 58, 59, 60, 61, 62, 63, 64, 65, 66, 67, 68, 69, 70, 71, 72, 73, 74, 75, 76, 77, 78, 79, 80, 81, 82, 83, 84, 118, 119, 120, 121, 122, 123, 124, 125, 126, 127, 128, 129, 130, 131, 132, 133, 134, 135, 136, 137, 138, 139, 140, 141, 142, 143, 144, 145, 146] (by decide +kernel) (by decide +kernel)
set_option maxRecDepth 20000 in
theorem gX10_places_X10_showAll : GoodIn wsX10_places (wsV RX10 222 RX10 yX10_showAll wsX10_showAll) := goodIn_app (goodIn_of _ (by decide +kernel)) ggX10_places_X10_showAll
set_option maxRecDepth 20000 in
theorem ggX10_places_X0_begin : GoodIn wsX10_places wsX0_begin := goodIn_r _ [89, 90, 147, 148, 149] (by decide +kernel) (by decide +kernel)
set_option maxRecDepth 20000 in
theorem gX10_places_X0_begin : GoodIn wsX10_places (wsV RX10 212 RX0 yX0_begin wsX0_begin) := goodIn_app (goodIn_of _ (by decide +kernel)) ggX10_places_X0_begin
set_option maxRecDepth 20000 in
theorem ggX10_places_X10_settle : GoodIn wsX10_places wsX10_settle := goodIn_r _ [94, 1, 2, 5, 27, 95, 96, 97, 98, 99, 10, 100, 28, 101, 102, 103, 104, 105, 106, 79, 46, 80, 107, 108, 109, 88, 110, 90, 111, 112, 113, 114, 115, 116, 117, 91, 92, 93, 118, 119, 120, 121, 122, 123, 124, 125, 126, 127, 128, 129, 130, 131, 132, 133, 134, 135, 136, 137, 138, 139, 140, 147, 148, 149] (by decide +kernel) (by decide +kernel)
set_option maxRecDepth 20000 in
theorem gX10_places_X10_settle : GoodIn wsX10_places (wsV RX10 225 RX10 yX10_settle wsX10_settle) := goodIn_app (goodIn_of _ (by decide +kernel)) ggX10_places_X10_settle
theorem dX10_places_0 : decode cX10_places 0 = .ok (.iload_n 1, 1) := by decide +kernel
theorem dX10_places_1 : decode cX10_places 1 = .ok (.iconst 2, 1) := by decide +kernel
theorem dX10_places_2 : decode cX10_places 2 = .ok (.invokestatic 86, 3) := by decide +kernel
theorem dX10_places_5 : decode cX10_places 5 = .ok (.ifCond .eq 19, 3) := by decide +kernel
theorem dX10_places_8 : decode cX10_places 8 = .ok (.iload_n 2, 1) := by decide +kernel
theorem dX10_places_9 : decode cX10_places 9 = .ok (.iconst (-1), 1) := by decide +kernel
theorem dX10_places_10 : decode cX10_places 10 = .ok (.if_icmp .eq 19, 3) := by decide +kernel
theorem dX10_places_13 : decode cX10_places 13 = .ok (.aload_n 0, 1) := by decide +kernel
theorem dX10_places_14 : decode cX10_places 14 = .ok (.getfield 36, 3) := by decide +kernel
theorem dX10_places_17 : decode cX10_places 17 = .ok (.iload_n 2, 1) := by decide +kernel
theorem dX10_places_18 : decode cX10_places 18 = .ok (.invokevirtual 167, 3) := by decide +kernel
theorem dX10_places_21 : decode cX10_places 21 = .ok (.ifCond .ne 8, 3) := by decide +kernel
theorem dX10_places_24 : decode cX10_places 24 = .ok (.aload_n 0, 1) := by decide +kernel
theorem dX10_places_25 : decode cX10_places 25 = .ok (.invokevirtual 209, 3) := by decide +kernel
theorem dX10_places_28 : decode cX10_places 28 = .ok (.ireturn, 1) := by decide +kernel
theorem dX10_places_29 : decode cX10_places 29 = .ok (.aload_n 0, 1) := by decide +kernel
theorem dX10_places_30 : decode cX10_places 30 = .ok (.getfield 36, 3) := by decide +kernel
theorem dX10_places_33 : decode cX10_places 33 = .ok (.getfield 115, 3) := by decide +kernel
theorem dX10_places_36 : decode cX10_places 36 = .ok (.ifCond .ne 5, 3) := by decide +kernel
theorem dX10_places_39 : decode cX10_places 39 = .ok (.iconst 0, 1) := by decide +kernel
theorem dX10_places_40 : decode cX10_places 40 = .ok (.ireturn, 1) := by decide +kernel
theorem dX10_places_41 : decode cX10_places 41 = .ok (.aload_n 0, 1) := by decide +kernel
theorem dX10_places_42 : decode cX10_places 42 = .ok (.aload_n 0, 1) := by decide +kernel
theorem dX10_places_43 : decode cX10_places 43 = .ok (.getfield 36, 3) := by decide +kernel
theorem dX10_places_46 : decode cX10_places 46 = .ok (.getfield 140, 3) := by decide +kernel
theorem dX10_places_49 : decode cX10_places 49 = .ok (.getfield 151, 3) := by decide +kernel
theorem dX10_places_52 : decode cX10_places 52 = .ok (.invokevirtual 222, 3) := by decide +kernel
theorem dX10_places_55 : decode cX10_places 55 = .ok (.aload_n 0, 1) := by decide +kernel
theorem dX10_places_56 : decode cX10_places 56 = .ok (.getfield 65, 3) := by decide +kernel
theorem dX10_places_59 : decode cX10_places 59 = .ok (.invokevirtual 212, 3) := by decide +kernel
theorem dX10_places_62 : decode cX10_places 62 = .ok (.aload_n 0, 1) := by decide +kernel
theorem dX10_places_63 : decode cX10_places 63 = .ok (.iload_n 1, 1) := by decide +kernel
theorem dX10_places_64 : decode cX10_places 64 = .ok (.iconst 0, 1) := by decide +kernel
theorem dX10_places_65 : decode cX10_places 65 = .ok (.iconst 0, 1) := by decide +kernel
theorem dX10_places_66 : decode cX10_places 66 = .ok (.invokevirtual 225, 3) := by decide +kernel
theorem dX10_places_69 : decode cX10_places 69 = .ok (.iload_n 2, 1) := by decide +kernel
theorem dX10_places_70 : decode cX10_places 70 = .ok (.iconst (-1), 1) := by decide +kernel
theorem dX10_places_71 : decode cX10_places 71 = .ok (.if_icmp .ne 13, 3) := by decide +kernel
theorem dX10_places_74 : decode cX10_places 74 = .ok (.aload_n 0, 1) := by decide +kernel
theorem dX10_places_75 : decode cX10_places 75 = .ok (.getfield 65, 3) := by decide +kernel
theorem dX10_places_78 : decode cX10_places 78 = .ok (.getfield 218, 3) := by decide +kernel
theorem dX10_places_81 : decode cX10_places 81 = .ok (.goto 12, 3) := by decide +kernel
theorem dX10_places_84 : decode cX10_places 84 = .ok (.aload_n 0, 1) := by decide +kernel
theorem dX10_places_85 : decode cX10_places 85 = .ok (.getfield 65, 3) := by decide +kernel
theorem dX10_places_88 : decode cX10_places 88 = .ok (.getfield 221, 3) := by decide +kernel
theorem dX10_places_91 : decode cX10_places 91 = .ok (.iload_n 2, 1) := by decide +kernel
theorem dX10_places_92 : decode cX10_places 92 = .ok (.iaload, 1) := by decide +kernel
theorem dX10_places_93 : decode cX10_places 93 = .ok (.ireturn, 1) := by decide +kernel
set_option maxRecDepth 20000 in
theorem ggX10_which_X10_isBelow : GoodIn wsX10_which wsX10_isBelow := goodIn_r _ [7] (by decide +kernel) (by decide +kernel)
set_option maxRecDepth 20000 in
theorem gX10_which_X10_isBelow : GoodIn wsX10_which (va_wsS RX10 86 yX10_isBelow wsX10_isBelow) := goodIn_app (goodIn_of _ (by decide +kernel)) ggX10_which_X10_isBelow
set_option maxRecDepth 20000 in
theorem ggX10_which_X10_refuseBad : GoodIn wsX10_which wsX10_refuseBad := goodIn_r _ [11, 12, 75, 76, 77, 78, 79, 80, 81, 82, 83, 84, 85, 86] (by decide +kernel) (by decide +kernel)
set_option maxRecDepth 20000 in
theorem gX10_which_X10_refuseBad : GoodIn wsX10_which (wsV RX10 90 RX10 yX10_refuseBad wsX10_refuseBad) := goodIn_app (goodIn_of _ (by decide +kernel)) ggX10_which_X10_refuseBad
set_option maxRecDepth 20000 in
theorem ggX10_which_X10_showAll : GoodIn wsX10_which wsX10_showAll := goodIn_r _ [16, 1, 2, 3, 17, 18, 19, 20, 21, 22, 23, 24, 25, 26, 27, 28, 29, 30, 31, 32, 33, 34, 35, 36, 37, 38, 39, 40, 41, 42, 43, 44, 45, 46, 47, 48, 49, 50, 51, 52, 53, 54, 55, 56, 57, 58, 59, 60, 61, 62, 63, 64, 65, 66, 67, 68, 69, 70, 71, 72, 73, 74, 75, 76, 77, 78, 79, 80, 81, 82, 83, 84, 85, 86, 87, 88, 89, 90, 91, 92, 93, 94, 95, 96, 97, 98, 99, 100, 101, 102, 103] (by decide +kernel) (by decide +kernel)
set_option maxRecDepth 20000 in
theorem gX10_which_X10_showAll : GoodIn wsX10_which (wsV RX10 222 RX10 yX10_showAll wsX10_showAll) := goodIn_app (goodIn_of _ (by decide +kernel)) ggX10_which_X10_showAll
theorem dX10_which_0 : decode cX10_which 0 = .ok (.iload_n 1, 1) := by decide +kernel
theorem dX10_which_1 : decode cX10_which 1 = .ok (.bipush 12, 2) := by decide +kernel
theorem dX10_which_3 : decode cX10_which 3 = .ok (.invokestatic 86, 3) := by decide +kernel
theorem dX10_which_6 : decode cX10_which 6 = .ok (.ifCond .ne 8, 3) := by decide +kernel
theorem dX10_which_9 : decode cX10_which 9 = .ok (.aload_n 0, 1) := by decide +kernel
theorem dX10_which_10 : decode cX10_which 10 = .ok (.invokevirtual 90, 3) := by decide +kernel
theorem dX10_which_13 : decode cX10_which 13 = .ok (.ireturn, 1) := by decide +kernel
theorem dX10_which_14 : decode cX10_which 14 = .ok (.aload_n 0, 1) := by decide +kernel
theorem dX10_which_15 : decode cX10_which 15 = .ok (.iload_n 1, 1) := by decide +kernel
theorem dX10_which_16 : decode cX10_which 16 = .ok (.invokevirtual 222, 3) := by decide +kernel
theorem dX10_which_19 : decode cX10_which 19 = .ok (.iconst (-1), 1) := by decide +kernel
theorem dX10_which_20 : decode cX10_which 20 = .ok (.istore_n 2, 1) := by decide +kernel
theorem dX10_which_21 : decode cX10_which 21 = .ok (.iconst 0, 1) := by decide +kernel
theorem dX10_which_22 : decode cX10_which 22 = .ok (.istore_n 3, 1) := by decide +kernel
theorem dX10_which_23 : decode cX10_which 23 = .ok (.iload_n 3, 1) := by decide +kernel
theorem dX10_which_24 : decode cX10_which 24 = .ok (.aload_n 0, 1) := by decide +kernel
theorem dX10_which_25 : decode cX10_which 25 = .ok (.getfield 36, 3) := by decide +kernel
theorem dX10_which_28 : decode cX10_which 28 = .ok (.getfield 94, 3) := by decide +kernel
theorem dX10_which_31 : decode cX10_which 31 = .ok (.if_icmp .ge 31, 3) := by decide +kernel
theorem dX10_which_34 : decode cX10_which 34 = .ok (.iload_n 2, 1) := by decide +kernel
theorem dX10_which_35 : decode cX10_which 35 = .ok (.iconst (-1), 1) := by decide +kernel
theorem dX10_which_36 : decode cX10_which 36 = .ok (.if_icmp .eq 18, 3) := by decide +kernel
theorem dX10_which_39 : decode cX10_which 39 = .ok (.aload_n 0, 1) := by decide +kernel
theorem dX10_which_40 : decode cX10_which 40 = .ok (.getfield 69, 3) := by decide +kernel
theorem dX10_which_43 : decode cX10_which 43 = .ok (.iload_n 3, 1) := by decide +kernel
theorem dX10_which_44 : decode cX10_which 44 = .ok (.iaload, 1) := by decide +kernel
theorem dX10_which_45 : decode cX10_which 45 = .ok (.aload_n 0, 1) := by decide +kernel
theorem dX10_which_46 : decode cX10_which 46 = .ok (.getfield 69, 3) := by decide +kernel
theorem dX10_which_49 : decode cX10_which 49 = .ok (.iload_n 2, 1) := by decide +kernel
theorem dX10_which_50 : decode cX10_which 50 = .ok (.iaload, 1) := by decide +kernel
theorem dX10_which_51 : decode cX10_which 51 = .ok (.if_icmp .le 5, 3) := by decide +kernel
theorem dX10_which_54 : decode cX10_which 54 = .ok (.iload_n 3, 1) := by decide +kernel
theorem dX10_which_55 : decode cX10_which 55 = .ok (.istore_n 2, 1) := by decide +kernel
theorem dX10_which_56 : decode cX10_which 56 = .ok (.iinc 3 1, 3) := by decide +kernel
theorem dX10_which_59 : decode cX10_which 59 = .ok (.goto (-36), 3) := by decide +kernel
theorem dX10_which_62 : decode cX10_which 62 = .ok (.iload_n 2, 1) := by decide +kernel
theorem dX10_which_63 : decode cX10_which 63 = .ok (.ireturn, 1) := by decide +kernel
set_option maxRecDepth 20000 in
theorem ggX10_lasts_X4_hasGleaner : GoodIn wsX10_lasts wsX4_hasGleaner := goodIn_r _ [8, 9, 10, 11, 12, 36, 37, 38, 39, 40, 41, 42, 43, 44, 45, 46] (by decide +kernel) (by decide +kernel)
set_option maxRecDepth 20000 in
theorem gX10_lasts_X4_hasGleaner : GoodIn wsX10_lasts (wsV RX10 167 RX4 yX4_hasGleaner wsX4_hasGleaner) := goodIn_app (goodIn_of _ (by decide +kernel)) ggX10_lasts_X4_hasGleaner
set_option maxRecDepth 20000 in
theorem ggX10_lasts_X10_isIn : GoodIn wsX10_lasts wsX10_isIn := goodIn_r _ [15] (by decide +kernel) (by decide +kernel)
set_option maxRecDepth 20000 in
theorem gX10_lasts_X10_isIn : GoodIn wsX10_lasts (va_wsS RX10 147 yX10_isIn wsX10_isIn) := goodIn_app (goodIn_of _ (by decide +kernel)) ggX10_lasts_X10_isIn
set_option maxRecDepth 20000 in
theorem ggX10_lasts_X10_refuseBad : GoodIn wsX10_lasts wsX10_refuseBad := goodIn_r _ [19, 20, 24, 25, 26, 27, 28, 29, 30, 31, 32, 33, 34, 35] (by decide +kernel) (by decide +kernel)
set_option maxRecDepth 20000 in
theorem gX10_lasts_X10_refuseBad : GoodIn wsX10_lasts (wsV RX10 90 RX10 yX10_refuseBad wsX10_refuseBad) := goodIn_app (goodIn_of _ (by decide +kernel)) ggX10_lasts_X10_refuseBad
set_option maxRecDepth 20000 in
theorem ggX10_lasts_X10_faded : GoodIn wsX10_lasts wsX10_faded := goodIn_r _ [23] (by decide +kernel) (by decide +kernel)
set_option maxRecDepth 20000 in
theorem gX10_lasts_X10_faded : GoodIn wsX10_lasts (va_wsS RX10 229 yX10_faded wsX10_faded) := goodIn_app (goodIn_of _ (by decide +kernel)) ggX10_lasts_X10_faded
theorem dX10_lasts_0 : decode cX10_lasts 0 = .ok (.aload_n 0, 1) := by decide +kernel
theorem dX10_lasts_1 : decode cX10_lasts 1 = .ok (.getfield 36, 3) := by decide +kernel
theorem dX10_lasts_4 : decode cX10_lasts 4 = .ok (.iload_n 1, 1) := by decide +kernel
theorem dX10_lasts_5 : decode cX10_lasts 5 = .ok (.invokevirtual 167, 3) := by decide +kernel
theorem dX10_lasts_8 : decode cX10_lasts 8 = .ok (.ifCond .eq 14, 3) := by decide +kernel
theorem dX10_lasts_11 : decode cX10_lasts 11 = .ok (.iload_n 2, 1) := by decide +kernel
theorem dX10_lasts_12 : decode cX10_lasts 12 = .ok (.iconst 1, 1) := by decide +kernel
theorem dX10_lasts_13 : decode cX10_lasts 13 = .ok (.sipush 999, 3) := by decide +kernel
theorem dX10_lasts_16 : decode cX10_lasts 16 = .ok (.invokestatic 147, 3) := by decide +kernel
theorem dX10_lasts_19 : decode cX10_lasts 19 = .ok (.ifCond .ne 8, 3) := by decide +kernel
theorem dX10_lasts_22 : decode cX10_lasts 22 = .ok (.aload_n 0, 1) := by decide +kernel
theorem dX10_lasts_23 : decode cX10_lasts 23 = .ok (.invokevirtual 90, 3) := by decide +kernel
theorem dX10_lasts_26 : decode cX10_lasts 26 = .ok (.ireturn, 1) := by decide +kernel
theorem dX10_lasts_27 : decode cX10_lasts 27 = .ok (.aload_n 0, 1) := by decide +kernel
theorem dX10_lasts_28 : decode cX10_lasts 28 = .ok (.getfield 36, 3) := by decide +kernel
theorem dX10_lasts_31 : decode cX10_lasts 31 = .ok (.getfield 140, 3) := by decide +kernel
theorem dX10_lasts_34 : decode cX10_lasts 34 = .ok (.getfield 191, 3) := by decide +kernel
theorem dX10_lasts_37 : decode cX10_lasts 37 = .ok (.iload_n 1, 1) := by decide +kernel
theorem dX10_lasts_38 : decode cX10_lasts 38 = .ok (.iaload, 1) := by decide +kernel
theorem dX10_lasts_39 : decode cX10_lasts 39 = .ok (.istore_n 3, 1) := by decide +kernel
theorem dX10_lasts_40 : decode cX10_lasts 40 = .ok (.iconst 0, 1) := by decide +kernel
theorem dX10_lasts_41 : decode cX10_lasts 41 = .ok (.istore 4, 2) := by decide +kernel
theorem dX10_lasts_43 : decode cX10_lasts 43 = .ok (.iload 4, 2) := by decide +kernel
theorem dX10_lasts_45 : decode cX10_lasts 45 = .ok (.sipush 999, 3) := by decide +kernel
theorem dX10_lasts_48 : decode cX10_lasts 48 = .ok (.if_icmp .gt 19, 3) := by decide +kernel
theorem dX10_lasts_51 : decode cX10_lasts 51 = .ok (.iload_n 3, 1) := by decide +kernel
theorem dX10_lasts_52 : decode cX10_lasts 52 = .ok (.iload_n 2, 1) := by decide +kernel
theorem dX10_lasts_53 : decode cX10_lasts 53 = .ok (.if_icmp .lt 14, 3) := by decide +kernel
theorem dX10_lasts_56 : decode cX10_lasts 56 = .ok (.iload_n 3, 1) := by decide +kernel
theorem dX10_lasts_57 : decode cX10_lasts 57 = .ok (.invokestatic 229, 3) := by decide +kernel
theorem dX10_lasts_60 : decode cX10_lasts 60 = .ok (.istore_n 3, 1) := by decide +kernel
theorem dX10_lasts_61 : decode cX10_lasts 61 = .ok (.iinc 4 1, 3) := by decide +kernel
theorem dX10_lasts_64 : decode cX10_lasts 64 = .ok (.goto (-21), 3) := by decide +kernel
theorem dX10_lasts_67 : decode cX10_lasts 67 = .ok (.iload 4, 2) := by decide +kernel
theorem dX10_lasts_69 : decode cX10_lasts 69 = .ok (.ireturn, 1) := by decide +kernel
set_option maxRecDepth 20000 in
theorem ggX10_enough_X10_isIn : GoodIn wsX10_enough wsX10_isIn := goodIn_r _ [6] (by decide +kernel) (by decide +kernel)
set_option maxRecDepth 20000 in
theorem gX10_enough_X10_isIn : GoodIn wsX10_enough (va_wsS RX10 147 yX10_isIn wsX10_isIn) := goodIn_app (goodIn_of _ (by decide +kernel)) ggX10_enough_X10_isIn
set_option maxRecDepth 20000 in
theorem ggX10_enough_X10_refuseBad : GoodIn wsX10_enough wsX10_refuseBad := goodIn_r _ [10, 11, 27, 28, 29, 30, 31, 32, 33, 34, 35, 36, 37, 38] (by decide +kernel) (by decide +kernel)
set_option maxRecDepth 20000 in
theorem gX10_enough_X10_refuseBad : GoodIn wsX10_enough (wsV RX10 90 RX10 yX10_refuseBad wsX10_refuseBad) := goodIn_app (goodIn_of _ (by decide +kernel)) ggX10_enough_X10_refuseBad
set_option maxRecDepth 20000 in
theorem ggX10_enough_J6_bitCount_0f7a4 : GoodIn wsX10_enough wsJ6_bitCount_0f7a4 := goodIn_r _ [15, 16, 17, 18] (by decide +kernel) (by decide +kernel)
set_option maxRecDepth 20000 in
theorem gX10_enough_J6_bitCount_0f7a4 : GoodIn wsX10_enough (va_wsS RX10 232 yJ6_bitCount_0f7a4 wsJ6_bitCount_0f7a4) := goodIn_app (goodIn_of _ (by decide +kernel)) ggX10_enough_J6_bitCount_0f7a4
set_option maxRecDepth 20000 in
theorem ggX10_enough_X4_storesOf : GoodIn wsX10_enough wsX4_storesOf := goodIn_r _ [23, 24, 25, 26, 39, 40, 41, 42, 43, 44, 45, 46, 47, 48, 49, 50, 51, 52, 53, 54, 55] (by decide +kernel) (by decide +kernel)
set_option maxRecDepth 20000 in
theorem gX10_enough_X4_storesOf : GoodIn wsX10_enough (wsV RX10 237 RX4 yX4_storesOf wsX4_storesOf) := goodIn_app (goodIn_of _ (by decide +kernel)) ggX10_enough_X4_storesOf
theorem dX10_enough_0 : decode cX10_enough 0 = .ok (.iload_n 1, 1) := by decide +kernel
theorem dX10_enough_1 : decode cX10_enough 1 = .ok (.iconst 0, 1) := by decide +kernel
theorem dX10_enough_2 : decode cX10_enough 2 = .ok (.sipush 999, 3) := by decide +kernel
theorem dX10_enough_5 : decode cX10_enough 5 = .ok (.invokestatic 147, 3) := by decide +kernel
theorem dX10_enough_8 : decode cX10_enough 8 = .ok (.ifCond .ne 8, 3) := by decide +kernel
theorem dX10_enough_11 : decode cX10_enough 11 = .ok (.aload_n 0, 1) := by decide +kernel
theorem dX10_enough_12 : decode cX10_enough 12 = .ok (.invokevirtual 90, 3) := by decide +kernel
theorem dX10_enough_15 : decode cX10_enough 15 = .ok (.ireturn, 1) := by decide +kernel
theorem dX10_enough_16 : decode cX10_enough 16 = .ok (.iconst (-1), 1) := by decide +kernel
theorem dX10_enough_17 : decode cX10_enough 17 = .ok (.istore_n 2, 1) := by decide +kernel
theorem dX10_enough_18 : decode cX10_enough 18 = .ok (.iconst 0, 1) := by decide +kernel
theorem dX10_enough_19 : decode cX10_enough 19 = .ok (.istore_n 3, 1) := by decide +kernel
theorem dX10_enough_20 : decode cX10_enough 20 = .ok (.iload_n 3, 1) := by decide +kernel
theorem dX10_enough_21 : decode cX10_enough 21 = .ok (.iconst 1, 1) := by decide +kernel
theorem dX10_enough_22 : decode cX10_enough 22 = .ok (.aload_n 0, 1) := by decide +kernel
theorem dX10_enough_23 : decode cX10_enough 23 = .ok (.getfield 36, 3) := by decide +kernel
theorem dX10_enough_26 : decode cX10_enough 26 = .ok (.getfield 115, 3) := by decide +kernel
theorem dX10_enough_29 : decode cX10_enough 29 = .ok (.ishl, 1) := by decide +kernel
theorem dX10_enough_30 : decode cX10_enough 30 = .ok (.if_icmp .ge 51, 3) := by decide +kernel
theorem dX10_enough_33 : decode cX10_enough 33 = .ok (.iload_n 2, 1) := by decide +kernel
theorem dX10_enough_34 : decode cX10_enough 34 = .ok (.iconst (-1), 1) := by decide +kernel
theorem dX10_enough_35 : decode cX10_enough 35 = .ok (.if_icmp .eq 14, 3) := by decide +kernel
theorem dX10_enough_38 : decode cX10_enough 38 = .ok (.iload_n 3, 1) := by decide +kernel
theorem dX10_enough_39 : decode cX10_enough 39 = .ok (.invokestatic 232, 3) := by decide +kernel
theorem dX10_enough_42 : decode cX10_enough 42 = .ok (.iload_n 2, 1) := by decide +kernel
theorem dX10_enough_43 : decode cX10_enough 43 = .ok (.invokestatic 232, 3) := by decide +kernel
theorem dX10_enough_46 : decode cX10_enough 46 = .ok (.if_icmp .ge 7, 3) := by decide +kernel
theorem dX10_enough_49 : decode cX10_enough 49 = .ok (.iconst 1, 1) := by decide +kernel
theorem dX10_enough_50 : decode cX10_enough 50 = .ok (.goto 4, 3) := by decide +kernel
theorem dX10_enough_53 : decode cX10_enough 53 = .ok (.iconst 0, 1) := by decide +kernel
theorem dX10_enough_54 : decode cX10_enough 54 = .ok (.istore 4, 2) := by decide +kernel
theorem dX10_enough_56 : decode cX10_enough 56 = .ok (.iload 4, 2) := by decide +kernel
theorem dX10_enough_58 : decode cX10_enough 58 = .ok (.ifCond .eq 17, 3) := by decide +kernel
theorem dX10_enough_61 : decode cX10_enough 61 = .ok (.aload_n 0, 1) := by decide +kernel
theorem dX10_enough_62 : decode cX10_enough 62 = .ok (.getfield 36, 3) := by decide +kernel
theorem dX10_enough_65 : decode cX10_enough 65 = .ok (.iload_n 3, 1) := by decide +kernel
theorem dX10_enough_66 : decode cX10_enough 66 = .ok (.invokevirtual 237, 3) := by decide +kernel
theorem dX10_enough_69 : decode cX10_enough 69 = .ok (.iload_n 1, 1) := by decide +kernel
theorem dX10_enough_70 : decode cX10_enough 70 = .ok (.if_icmp .lt 5, 3) := by decide +kernel
theorem dX10_enough_73 : decode cX10_enough 73 = .ok (.iload_n 3, 1) := by decide +kernel
theorem dX10_enough_74 : decode cX10_enough 74 = .ok (.istore_n 2, 1) := by decide +kernel
theorem dX10_enough_75 : decode cX10_enough 75 = .ok (.iinc 3 1, 3) := by decide +kernel
theorem dX10_enough_78 : decode cX10_enough 78 = .ok (.goto (-58), 3) := by decide +kernel
theorem dX10_enough_81 : decode cX10_enough 81 = .ok (.iload_n 2, 1) := by decide +kernel
theorem dX10_enough_82 : decode cX10_enough 82 = .ok (.ireturn, 1) := by decide +kernel
set_option maxRecDepth 20000 in
theorem ggX10_missed_X4_hasField : GoodIn wsX10_missed wsX4_hasField := goodIn_r _ [7, 8, 9, 10, 11, 46, 47, 48, 49, 50, 51, 52, 53, 54, 55, 56] (by decide +kernel) (by decide +kernel)
set_option maxRecDepth 20000 in
theorem gX10_missed_X4_hasField : GoodIn wsX10_missed (wsV RX10 112 RX4 yX4_hasField wsX4_hasField) := goodIn_app (goodIn_of _ (by decide +kernel)) ggX10_missed_X4_hasField
set_option maxRecDepth 20000 in
theorem ggX10_missed_X10_isBelow : GoodIn wsX10_missed wsX10_isBelow := goodIn_r _ [11] (by decide +kernel) (by decide +kernel)
set_option maxRecDepth 20000 in
theorem gX10_missed_X10_isBelow : GoodIn wsX10_missed (va_wsS RX10 86 yX10_isBelow wsX10_isBelow) := goodIn_app (goodIn_of _ (by decide +kernel)) ggX10_missed_X10_isBelow
set_option maxRecDepth 20000 in
theorem ggX10_missed_X10_isLight : GoodIn wsX10_missed wsX10_isLight := goodIn_r _ [15, 16, 17, 10, 18] (by decide +kernel) (by decide +kernel)
set_option maxRecDepth 20000 in
theorem gX10_missed_X10_isLight : GoodIn wsX10_missed (va_wsS RX10 101 yX10_isLight wsX10_isLight) := goodIn_app (goodIn_of _ (by decide +kernel)) ggX10_missed_X10_isLight
set_option maxRecDepth 20000 in
theorem ggX10_missed_X10_isIn : GoodIn wsX10_missed wsX10_isIn := goodIn_r _ [18] (by decide +kernel) (by decide +kernel)
set_option maxRecDepth 20000 in
theorem gX10_missed_X10_isIn : GoodIn wsX10_missed (va_wsS RX10 147 yX10_isIn wsX10_isIn) := goodIn_app (goodIn_of _ (by decide +kernel)) ggX10_missed_X10_isIn
set_option maxRecDepth 20000 in
theorem ggX10_missed_X10_refuseBad : GoodIn wsX10_missed wsX10_refuseBad := goodIn_r _ [22, 23, 34, 35, 36, 37, 38, 39, 40, 41, 42, 43, 44, 45] (by decide +kernel) (by decide +kernel)
set_option maxRecDepth 20000 in
theorem gX10_missed_X10_refuseBad : GoodIn wsX10_missed (wsV RX10 90 RX10 yX10_refuseBad wsX10_refuseBad) := goodIn_app (goodIn_of _ (by decide +kernel)) ggX10_missed_X10_refuseBad
set_option maxRecDepth 20000 in
theorem ggX10_missed_X10_refuseFull : GoodIn wsX10_missed wsX10_refuseFull := goodIn_r _ [27, 23, 34, 35, 36, 37, 38, 39, 40, 41, 42, 43, 44, 45] (by decide +kernel) (by decide +kernel)
set_option maxRecDepth 20000 in
theorem gX10_missed_X10_refuseFull : GoodIn wsX10_missed (wsV RX10 105 RX10 yX10_refuseFull wsX10_refuseFull) := goodIn_app (goodIn_of _ (by decide +kernel)) ggX10_missed_X10_refuseFull
set_option maxRecDepth 20000 in
theorem ggX10_missed_X4_addMissed : GoodIn wsX10_missed wsX4_addMissed := goodIn_r _ [31, 32, 33, 46, 47, 48, 49, 50, 51, 52, 53, 54, 55, 56] (by decide +kernel) (by decide +kernel)
set_option maxRecDepth 20000 in
theorem gX10_missed_X4_addMissed : GoodIn wsX10_missed (wsV RX10 243 RX4 yX4_addMissed wsX4_addMissed) := goodIn_app (goodIn_of _ (by decide +kernel)) ggX10_missed_X4_addMissed
theorem dX10_missed_0 : decode cX10_missed 0 = .ok (.aload_n 0, 1) := by decide +kernel
theorem dX10_missed_1 : decode cX10_missed 1 = .ok (.getfield 36, 3) := by decide +kernel
theorem dX10_missed_4 : decode cX10_missed 4 = .ok (.iload_n 1, 1) := by decide +kernel
theorem dX10_missed_5 : decode cX10_missed 5 = .ok (.invokevirtual 112, 3) := by decide +kernel
theorem dX10_missed_8 : decode cX10_missed 8 = .ok (.ifCond .eq 30, 3) := by decide +kernel
theorem dX10_missed_11 : decode cX10_missed 11 = .ok (.iload_n 2, 1) := by decide +kernel
theorem dX10_missed_12 : decode cX10_missed 12 = .ok (.bipush 12, 2) := by decide +kernel
theorem dX10_missed_14 : decode cX10_missed 14 = .ok (.invokestatic 86, 3) := by decide +kernel
theorem dX10_missed_17 : decode cX10_missed 17 = .ok (.ifCond .eq 21, 3) := by decide +kernel
theorem dX10_missed_20 : decode cX10_missed 20 = .ok (.iload_n 3, 1) := by decide +kernel
theorem dX10_missed_21 : decode cX10_missed 21 = .ok (.invokestatic 101, 3) := by decide +kernel
theorem dX10_missed_24 : decode cX10_missed 24 = .ok (.ifCond .eq 14, 3) := by decide +kernel
theorem dX10_missed_27 : decode cX10_missed 27 = .ok (.iload 4, 2) := by decide +kernel
theorem dX10_missed_29 : decode cX10_missed 29 = .ok (.iconst 0, 1) := by decide +kernel
theorem dX10_missed_30 : decode cX10_missed 30 = .ok (.bipush 60, 2) := by decide +kernel
theorem dX10_missed_32 : decode cX10_missed 32 = .ok (.invokestatic 147, 3) := by decide +kernel
theorem dX10_missed_35 : decode cX10_missed 35 = .ok (.ifCond .ne 8, 3) := by decide +kernel
theorem dX10_missed_38 : decode cX10_missed 38 = .ok (.aload_n 0, 1) := by decide +kernel
theorem dX10_missed_39 : decode cX10_missed 39 = .ok (.invokevirtual 90, 3) := by decide +kernel
theorem dX10_missed_42 : decode cX10_missed 42 = .ok (.ireturn, 1) := by decide +kernel
theorem dX10_missed_43 : decode cX10_missed 43 = .ok (.aload_n 0, 1) := by decide +kernel
theorem dX10_missed_44 : decode cX10_missed 44 = .ok (.getfield 36, 3) := by decide +kernel
theorem dX10_missed_47 : decode cX10_missed 47 = .ok (.getfield 240, 3) := by decide +kernel
theorem dX10_missed_50 : decode cX10_missed 50 = .ok (.iconst 4, 1) := by decide +kernel
theorem dX10_missed_51 : decode cX10_missed 51 = .ok (.if_icmp .lt 8, 3) := by decide +kernel
theorem dX10_missed_54 : decode cX10_missed 54 = .ok (.aload_n 0, 1) := by decide +kernel
theorem dX10_missed_55 : decode cX10_missed 55 = .ok (.invokevirtual 105, 3) := by decide +kernel
theorem dX10_missed_58 : decode cX10_missed 58 = .ok (.ireturn, 1) := by decide +kernel
theorem dX10_missed_59 : decode cX10_missed 59 = .ok (.aload_n 0, 1) := by decide +kernel
theorem dX10_missed_60 : decode cX10_missed 60 = .ok (.getfield 36, 3) := by decide +kernel
theorem dX10_missed_63 : decode cX10_missed 63 = .ok (.iload_n 1, 1) := by decide +kernel
theorem dX10_missed_64 : decode cX10_missed 64 = .ok (.iload_n 2, 1) := by decide +kernel
theorem dX10_missed_65 : decode cX10_missed 65 = .ok (.iload_n 3, 1) := by decide +kernel
theorem dX10_missed_66 : decode cX10_missed 66 = .ok (.iload 4, 2) := by decide +kernel
theorem dX10_missed_68 : decode cX10_missed 68 = .ok (.invokevirtual 243, 3) := by decide +kernel
theorem dX10_missed_71 : decode cX10_missed 71 = .ok (.ireturn, 1) := by decide +kernel
set_option maxRecDepth 20000 in
theorem ggX10_clouds_X4_missedFit : GoodIn wsX10_clouds wsX4_missedFit := goodIn_r _ [6, 7, 8, 9, 10, 11, 12, 13, 14, 15, 16, 17, 18, 19, 20, 21, 22, 23, 24, 25, 26, 27, 28, 29, 30, 31, 32, 33, 34, 35, 36, 37, 38, 39, 40, 41, 42, 43, 44, 45, 46, 47, 48, 49, 50, 51, 52, 53, 54, 55, 56, 57, 58, 71, 72, 73, 74, 75, 76, 77, 78, 79, 80, 81] (by decide +kernel) (by decide +kernel)
set_option maxRecDepth 20000 in
theorem gX10_clouds_X4_missedFit : GoodIn wsX10_clouds (wsV RX10 247 RX4 yX4_missedFit wsX4_missedFit) := goodIn_app (goodIn_of _ (by decide +kernel)) ggX10_clouds_X4_missedFit
theorem dX10_clouds_0 : decode cX10_clouds 0 = .ok (.iconst 0, 1) := by decide +kernel
theorem dX10_clouds_1 : decode cX10_clouds 1 = .ok (.istore_n 1, 1) := by decide +kernel
theorem dX10_clouds_2 : decode cX10_clouds 2 = .ok (.iconst 0, 1) := by decide +kernel
theorem dX10_clouds_3 : decode cX10_clouds 3 = .ok (.istore_n 2, 1) := by decide +kernel
theorem dX10_clouds_4 : decode cX10_clouds 4 = .ok (.iload_n 2, 1) := by decide +kernel
theorem dX10_clouds_5 : decode cX10_clouds 5 = .ok (.bipush 10, 2) := by decide +kernel
theorem dX10_clouds_7 : decode cX10_clouds 7 = .ok (.if_icmp .ge 26, 3) := by decide +kernel
theorem dX10_clouds_10 : decode cX10_clouds 10 = .ok (.aload_n 0, 1) := by decide +kernel
theorem dX10_clouds_11 : decode cX10_clouds 11 = .ok (.getfield 36, 3) := by decide +kernel
theorem dX10_clouds_14 : decode cX10_clouds 14 = .ok (.iload_n 2, 1) := by decide +kernel
theorem dX10_clouds_15 : decode cX10_clouds 15 = .ok (.invokevirtual 247, 3) := by decide +kernel
theorem dX10_clouds_18 : decode cX10_clouds 18 = .ok (.ifCond .eq 9, 3) := by decide +kernel
theorem dX10_clouds_21 : decode cX10_clouds 21 = .ok (.iload_n 1, 1) := by decide +kernel
theorem dX10_clouds_22 : decode cX10_clouds 22 = .ok (.iconst 1, 1) := by decide +kernel
theorem dX10_clouds_23 : decode cX10_clouds 23 = .ok (.iload_n 2, 1) := by decide +kernel
theorem dX10_clouds_24 : decode cX10_clouds 24 = .ok (.ishl, 1) := by decide +kernel
theorem dX10_clouds_25 : decode cX10_clouds 25 = .ok (.ior, 1) := by decide +kernel
theorem dX10_clouds_26 : decode cX10_clouds 26 = .ok (.istore_n 1, 1) := by decide +kernel
theorem dX10_clouds_27 : decode cX10_clouds 27 = .ok (.iinc 2 1, 3) := by decide +kernel
theorem dX10_clouds_30 : decode cX10_clouds 30 = .ok (.goto (-26), 3) := by decide +kernel
theorem dX10_clouds_33 : decode cX10_clouds 33 = .ok (.iload_n 1, 1) := by decide +kernel
theorem dX10_clouds_34 : decode cX10_clouds 34 = .ok (.ireturn, 1) := by decide +kernel
set_option maxRecDepth 20000 in
theorem ggX10_note_X4_hasField : GoodIn wsX10_note wsX4_hasField := goodIn_r _ [7, 8, 9, 10, 11, 46, 47, 48, 49, 50, 51, 52, 53, 54, 55, 56] (by decide +kernel) (by decide +kernel)
set_option maxRecDepth 20000 in
theorem gX10_note_X4_hasField : GoodIn wsX10_note (wsV RX10 112 RX4 yX4_hasField wsX4_hasField) := goodIn_app (goodIn_of _ (by decide +kernel)) ggX10_note_X4_hasField
set_option maxRecDepth 20000 in
theorem ggX10_note_X10_isBelow : GoodIn wsX10_note wsX10_isBelow := goodIn_r _ [11] (by decide +kernel) (by decide +kernel)
set_option maxRecDepth 20000 in
theorem gX10_note_X10_isBelow : GoodIn wsX10_note (va_wsS RX10 86 yX10_isBelow wsX10_isBelow) := goodIn_app (goodIn_of _ (by decide +kernel)) ggX10_note_X10_isBelow
set_option maxRecDepth 20000 in
theorem ggX10_note_X10_isLight : GoodIn wsX10_note wsX10_isLight := goodIn_r _ [15, 16, 17, 10, 18] (by decide +kernel) (by decide +kernel)
set_option maxRecDepth 20000 in
theorem gX10_note_X10_isLight : GoodIn wsX10_note (va_wsS RX10 101 yX10_isLight wsX10_isLight) := goodIn_app (goodIn_of _ (by decide +kernel)) ggX10_note_X10_isLight
set_option maxRecDepth 20000 in
theorem ggX10_note_X10_refuseBad : GoodIn wsX10_note wsX10_refuseBad := goodIn_r _ [22, 23, 34, 35, 36, 37, 38, 39, 40, 41, 42, 43, 44, 45] (by decide +kernel) (by decide +kernel)
set_option maxRecDepth 20000 in
theorem gX10_note_X10_refuseBad : GoodIn wsX10_note (wsV RX10 90 RX10 yX10_refuseBad wsX10_refuseBad) := goodIn_app (goodIn_of _ (by decide +kernel)) ggX10_note_X10_refuseBad
set_option maxRecDepth 20000 in
theorem ggX10_note_X10_isIn : GoodIn wsX10_note wsX10_isIn := goodIn_r _ [18] (by decide +kernel) (by decide +kernel)
set_option maxRecDepth 20000 in
theorem gX10_note_X10_isIn : GoodIn wsX10_note (va_wsS RX10 147 yX10_isIn wsX10_isIn) := goodIn_app (goodIn_of _ (by decide +kernel)) ggX10_note_X10_isIn
set_option maxRecDepth 20000 in
theorem ggX10_note_X10_refuseFull : GoodIn wsX10_note wsX10_refuseFull := goodIn_r _ [27, 23, 34, 35, 36, 37, 38, 39, 40, 41, 42, 43, 44, 45] (by decide +kernel) (by decide +kernel)
set_option maxRecDepth 20000 in
theorem gX10_note_X10_refuseFull : GoodIn wsX10_note (wsV RX10 105 RX10 yX10_refuseFull wsX10_refuseFull) := goodIn_app (goodIn_of _ (by decide +kernel)) ggX10_note_X10_refuseFull
set_option maxRecDepth 20000 in
theorem ggX10_note_X4_addNote : GoodIn wsX10_note wsX4_addNote := goodIn_r _ [31, 32, 33, 46, 47, 48, 49, 50, 51, 52, 53, 54, 55, 56] (by decide +kernel) (by decide +kernel)
set_option maxRecDepth 20000 in
theorem gX10_note_X4_addNote : GoodIn wsX10_note (wsV RX10 253 RX4 yX4_addNote wsX4_addNote) := goodIn_app (goodIn_of _ (by decide +kernel)) ggX10_note_X4_addNote
theorem dX10_note_0 : decode cX10_note 0 = .ok (.aload_n 0, 1) := by decide +kernel
theorem dX10_note_1 : decode cX10_note 1 = .ok (.getfield 36, 3) := by decide +kernel
theorem dX10_note_4 : decode cX10_note 4 = .ok (.iload_n 1, 1) := by decide +kernel
theorem dX10_note_5 : decode cX10_note 5 = .ok (.invokevirtual 112, 3) := by decide +kernel
theorem dX10_note_8 : decode cX10_note 8 = .ok (.ifCond .eq 19, 3) := by decide +kernel
theorem dX10_note_11 : decode cX10_note 11 = .ok (.iload_n 2, 1) := by decide +kernel
theorem dX10_note_12 : decode cX10_note 12 = .ok (.bipush 12, 2) := by decide +kernel
theorem dX10_note_14 : decode cX10_note 14 = .ok (.invokestatic 86, 3) := by decide +kernel
theorem dX10_note_17 : decode cX10_note 17 = .ok (.ifCond .eq 10, 3) := by decide +kernel
theorem dX10_note_20 : decode cX10_note 20 = .ok (.iload_n 3, 1) := by decide +kernel
theorem dX10_note_21 : decode cX10_note 21 = .ok (.invokestatic 101, 3) := by decide +kernel
theorem dX10_note_24 : decode cX10_note 24 = .ok (.ifCond .ne 8, 3) := by decide +kernel
theorem dX10_note_27 : decode cX10_note 27 = .ok (.aload_n 0, 1) := by decide +kernel
theorem dX10_note_28 : decode cX10_note 28 = .ok (.invokevirtual 90, 3) := by decide +kernel
theorem dX10_note_31 : decode cX10_note 31 = .ok (.ireturn, 1) := by decide +kernel
theorem dX10_note_32 : decode cX10_note 32 = .ok (.iload 4, 2) := by decide +kernel
theorem dX10_note_34 : decode cX10_note 34 = .ok (.bipush 10, 2) := by decide +kernel
theorem dX10_note_36 : decode cX10_note 36 = .ok (.invokestatic 86, 3) := by decide +kernel
theorem dX10_note_39 : decode cX10_note 39 = .ok (.ifCond .eq 14, 3) := by decide +kernel
theorem dX10_note_42 : decode cX10_note 42 = .ok (.iload 5, 2) := by decide +kernel
theorem dX10_note_44 : decode cX10_note 44 = .ok (.iconst 0, 1) := by decide +kernel
theorem dX10_note_45 : decode cX10_note 45 = .ok (.bipush 99, 2) := by decide +kernel
theorem dX10_note_47 : decode cX10_note 47 = .ok (.invokestatic 147, 3) := by decide +kernel
theorem dX10_note_50 : decode cX10_note 50 = .ok (.ifCond .ne 8, 3) := by decide +kernel
theorem dX10_note_53 : decode cX10_note 53 = .ok (.aload_n 0, 1) := by decide +kernel
theorem dX10_note_54 : decode cX10_note 54 = .ok (.invokevirtual 90, 3) := by decide +kernel
theorem dX10_note_57 : decode cX10_note 57 = .ok (.ireturn, 1) := by decide +kernel
theorem dX10_note_58 : decode cX10_note 58 = .ok (.aload_n 0, 1) := by decide +kernel
theorem dX10_note_59 : decode cX10_note 59 = .ok (.getfield 36, 3) := by decide +kernel
theorem dX10_note_62 : decode cX10_note 62 = .ok (.getfield 250, 3) := by decide +kernel
theorem dX10_note_65 : decode cX10_note 65 = .ok (.bipush 6, 2) := by decide +kernel
theorem dX10_note_67 : decode cX10_note 67 = .ok (.if_icmp .lt 8, 3) := by decide +kernel
theorem dX10_note_70 : decode cX10_note 70 = .ok (.aload_n 0, 1) := by decide +kernel
theorem dX10_note_71 : decode cX10_note 71 = .ok (.invokevirtual 105, 3) := by decide +kernel
theorem dX10_note_74 : decode cX10_note 74 = .ok (.ireturn, 1) := by decide +kernel
theorem dX10_note_75 : decode cX10_note 75 = .ok (.aload_n 0, 1) := by decide +kernel
theorem dX10_note_76 : decode cX10_note 76 = .ok (.getfield 36, 3) := by decide +kernel
theorem dX10_note_79 : decode cX10_note 79 = .ok (.iload_n 1, 1) := by decide +kernel
theorem dX10_note_80 : decode cX10_note 80 = .ok (.iload_n 2, 1) := by decide +kernel
theorem dX10_note_81 : decode cX10_note 81 = .ok (.iload_n 3, 1) := by decide +kernel
theorem dX10_note_82 : decode cX10_note 82 = .ok (.iload 4, 2) := by decide +kernel
theorem dX10_note_84 : decode cX10_note 84 = .ok (.iload 5, 2) := by decide +kernel
theorem dX10_note_86 : decode cX10_note 86 = .ok (.invokevirtual 253, 3) := by decide +kernel
theorem dX10_note_89 : decode cX10_note 89 = .ok (.ireturn, 1) := by decide +kernel
set_option maxRecDepth 20000 in
theorem ggX10_forget_X10_isBelow : GoodIn wsX10_forget wsX10_isBelow := goodIn_r _ [7] (by decide +kernel) (by decide +kernel)
set_option maxRecDepth 20000 in
theorem gX10_forget_X10_isBelow : GoodIn wsX10_forget (va_wsS RX10 86 yX10_isBelow wsX10_isBelow) := goodIn_app (goodIn_of _ (by decide +kernel)) ggX10_forget_X10_isBelow
set_option maxRecDepth 20000 in
theorem ggX10_forget_X10_refuseBad : GoodIn wsX10_forget wsX10_refuseBad := goodIn_r _ [11, 12, 13, 14, 15, 16, 17, 18, 19, 20, 21, 22, 23, 24] (by decide +kernel) (by decide +kernel)
set_option maxRecDepth 20000 in
theorem gX10_forget_X10_refuseBad : GoodIn wsX10_forget (wsV RX10 90 RX10 yX10_refuseBad wsX10_refuseBad) := goodIn_app (goodIn_of _ (by decide +kernel)) ggX10_forget_X10_refuseBad
theorem dX10_forget_0 : decode cX10_forget 0 = .ok (.iload_n 1, 1) := by decide +kernel
theorem dX10_forget_1 : decode cX10_forget 1 = .ok (.iconst 2, 1) := by decide +kernel
theorem dX10_forget_2 : decode cX10_forget 2 = .ok (.invokestatic 86, 3) := by decide +kernel
theorem dX10_forget_5 : decode cX10_forget 5 = .ok (.ifCond .ne 8, 3) := by decide +kernel
theorem dX10_forget_8 : decode cX10_forget 8 = .ok (.aload_n 0, 1) := by decide +kernel
theorem dX10_forget_9 : decode cX10_forget 9 = .ok (.invokevirtual 90, 3) := by decide +kernel
theorem dX10_forget_12 : decode cX10_forget 12 = .ok (.ireturn, 1) := by decide +kernel
theorem dX10_forget_13 : decode cX10_forget 13 = .ok (.iload_n 1, 1) := by decide +kernel
theorem dX10_forget_14 : decode cX10_forget 14 = .ok (.ifCond .ne 13, 3) := by decide +kernel
theorem dX10_forget_17 : decode cX10_forget 17 = .ok (.aload_n 0, 1) := by decide +kernel
theorem dX10_forget_18 : decode cX10_forget 18 = .ok (.getfield 36, 3) := by decide +kernel
theorem dX10_forget_21 : decode cX10_forget 21 = .ok (.getfield 240, 3) := by decide +kernel
theorem dX10_forget_24 : decode cX10_forget 24 = .ok (.goto 10, 3) := by decide +kernel
theorem dX10_forget_27 : decode cX10_forget 27 = .ok (.aload_n 0, 1) := by decide +kernel
theorem dX10_forget_28 : decode cX10_forget 28 = .ok (.getfield 36, 3) := by decide +kernel
theorem dX10_forget_31 : decode cX10_forget 31 = .ok (.getfield 250, 3) := by decide +kernel
theorem dX10_forget_34 : decode cX10_forget 34 = .ok (.istore_n 2, 1) := by decide +kernel
theorem dX10_forget_35 : decode cX10_forget 35 = .ok (.iload_n 1, 1) := by decide +kernel
theorem dX10_forget_36 : decode cX10_forget 36 = .ok (.ifCond .ne 14, 3) := by decide +kernel
theorem dX10_forget_39 : decode cX10_forget 39 = .ok (.aload_n 0, 1) := by decide +kernel
theorem dX10_forget_40 : decode cX10_forget 40 = .ok (.getfield 36, 3) := by decide +kernel
theorem dX10_forget_43 : decode cX10_forget 43 = .ok (.iconst 0, 1) := by decide +kernel
theorem dX10_forget_44 : decode cX10_forget 44 = .ok (.putfield 240, 3) := by decide +kernel
theorem dX10_forget_47 : decode cX10_forget 47 = .ok (.goto 11, 3) := by decide +kernel
theorem dX10_forget_50 : decode cX10_forget 50 = .ok (.aload_n 0, 1) := by decide +kernel
theorem dX10_forget_51 : decode cX10_forget 51 = .ok (.getfield 36, 3) := by decide +kernel
theorem dX10_forget_54 : decode cX10_forget 54 = .ok (.iconst 0, 1) := by decide +kernel
theorem dX10_forget_55 : decode cX10_forget 55 = .ok (.putfield 250, 3) := by decide +kernel
theorem dX10_forget_58 : decode cX10_forget 58 = .ok (.iload_n 2, 1) := by decide +kernel
theorem dX10_forget_59 : decode cX10_forget 59 = .ok (.ireturn, 1) := by decide +kernel
set_option maxRecDepth 20000 in
theorem ggX10_is_X4_hasField : GoodIn wsX10_is wsX4_hasField := goodIn_r _ [6, 7, 8, 9, 10, 87, 88, 89, 90, 91, 92, 93, 94, 95, 96, 97] (by decide +kernel) (by decide +kernel)
set_option maxRecDepth 20000 in
theorem gX10_is_X4_hasField : GoodIn wsX10_is (wsV RX10 112 RX4 yX4_hasField wsX4_hasField) := goodIn_app (goodIn_of _ (by decide +kernel)) ggX10_is_X4_hasField
set_option maxRecDepth 20000 in
theorem ggX10_is_X10_refuseBad : GoodIn wsX10_is wsX10_refuseBad := goodIn_r _ [14, 15, 75, 76, 77, 78, 79, 80, 81, 82, 83, 84, 85, 86] (by decide +kernel) (by decide +kernel)
set_option maxRecDepth 20000 in
theorem gX10_is_X10_refuseBad : GoodIn wsX10_is (wsV RX10 90 RX10 yX10_refuseBad wsX10_refuseBad) := goodIn_app (goodIn_of _ (by decide +kernel)) ggX10_is_X10_refuseBad
set_option maxRecDepth 20000 in
theorem ggX10_is_X4_kindsThatFit : GoodIn wsX10_is wsX4_kindsThatFit := goodIn_r _ [19, 20, 21, 22, 23, 5, 24, 25, 26, 27, 28, 29, 30, 31, 32, 33, 34, 35, 36, 37, 38, 39, 40, 41, 42, 43, 44, 45, 46, 47, 48, 49, 50, 51, 52, 53, 54, 55, 56, 57, 58, 59, 60, 61, 62, 63, 64, 65, 66, 67, 68, 69, 70, 71, 72, 73, 74, 87, 88, 89, 90, 91, 92, 93, 94, 95, 96, 97] (by decide +kernel) (by decide +kernel)
set_option maxRecDepth 20000 in
theorem gX10_is_X4_kindsThatFit : GoodIn wsX10_is (wsV RX10 257 RX4 yX4_kindsThatFit wsX4_kindsThatFit) := goodIn_app (goodIn_of _ (by decide +kernel)) ggX10_is_X4_kindsThatFit
theorem dX10_is_0 : decode cX10_is 0 = .ok (.aload_n 0, 1) := by decide +kernel
theorem dX10_is_1 : decode cX10_is 1 = .ok (.getfield 36, 3) := by decide +kernel
theorem dX10_is_4 : decode cX10_is 4 = .ok (.iload_n 1, 1) := by decide +kernel
theorem dX10_is_5 : decode cX10_is 5 = .ok (.invokevirtual 112, 3) := by decide +kernel
theorem dX10_is_8 : decode cX10_is 8 = .ok (.ifCond .ne 8, 3) := by decide +kernel
theorem dX10_is_11 : decode cX10_is 11 = .ok (.aload_n 0, 1) := by decide +kernel
theorem dX10_is_12 : decode cX10_is 12 = .ok (.invokevirtual 90, 3) := by decide +kernel
theorem dX10_is_15 : decode cX10_is 15 = .ok (.ireturn, 1) := by decide +kernel
theorem dX10_is_16 : decode cX10_is 16 = .ok (.aload_n 0, 1) := by decide +kernel
theorem dX10_is_17 : decode cX10_is 17 = .ok (.getfield 36, 3) := by decide +kernel
theorem dX10_is_20 : decode cX10_is 20 = .ok (.iload_n 1, 1) := by decide +kernel
theorem dX10_is_21 : decode cX10_is 21 = .ok (.invokevirtual 257, 3) := by decide +kernel
theorem dX10_is_24 : decode cX10_is 24 = .ok (.ireturn, 1) := by decide +kernel
set_option maxRecDepth 20000 in
theorem ggX10_look_X4_hasField : GoodIn wsX10_look wsX4_hasField := goodIn_r _ [8, 9, 10, 11, 12, 97, 98, 99, 100, 101, 102, 103, 104, 105, 106, 107] (by decide +kernel) (by decide +kernel)
set_option maxRecDepth 20000 in
theorem gX10_look_X4_hasField : GoodIn wsX10_look (wsV RX10 112 RX4 yX4_hasField wsX4_hasField) := goodIn_app (goodIn_of _ (by decide +kernel)) ggX10_look_X4_hasField
set_option maxRecDepth 20000 in
theorem ggX10_look_X10_refuseBad : GoodIn wsX10_look wsX10_refuseBad := goodIn_r _ [16, 17, 85, 86, 87, 88, 89, 90, 91, 92, 93, 94, 95, 96] (by decide +kernel) (by decide +kernel)
set_option maxRecDepth 20000 in
theorem gX10_look_X10_refuseBad : GoodIn wsX10_look (wsV RX10 90 RX10 yX10_refuseBad wsX10_refuseBad) := goodIn_app (goodIn_of _ (by decide +kernel)) ggX10_look_X10_refuseBad
set_option maxRecDepth 20000 in
theorem ggX10_look_X4_kindsThatFit : GoodIn wsX10_look wsX4_kindsThatFit := goodIn_r _ [21, 22, 23, 24, 25, 7, 26, 27, 28, 29, 30, 31, 32, 33, 34, 35, 36, 37, 38, 39, 40, 41, 42, 43, 44, 45, 46, 47, 48, 49, 50, 51, 52, 53, 54, 55, 56, 57, 58, 59, 60, 61, 62, 63, 64, 65, 66, 67, 68, 69, 70, 71, 72, 73, 74, 75, 76, 97, 98, 99, 100, 101, 102, 103, 104, 105, 106, 107] (by decide +kernel) (by decide +kernel)
set_option maxRecDepth 20000 in
theorem gX10_look_X4_kindsThatFit : GoodIn wsX10_look (wsV RX10 257 RX4 yX4_kindsThatFit wsX4_kindsThatFit) := goodIn_app (goodIn_of _ (by decide +kernel)) ggX10_look_X4_kindsThatFit
set_option maxRecDepth 20000 in
theorem ggX10_look_X10_mostAlike : GoodIn wsX10_look wsX10_mostAlike := goodIn_r _ [80, 81, 82, 37, 38, 39, 83, 30, 31, 32, 33, 34, 35, 36, 40, 41, 42, 43, 44, 45, 46, 47, 48, 49, 50, 51, 52, 53, 54, 55, 56, 57, 58, 59, 60, 61, 62, 63, 84, 65, 66, 67, 68, 69, 70, 71, 72, 73, 74, 75, 76, 85, 86, 87, 88, 89, 90, 91, 92, 93, 94, 95, 96] (by decide +kernel) (by decide +kernel)
set_option maxRecDepth 20000 in
theorem gX10_look_X10_mostAlike : GoodIn wsX10_look (wsV RX10 260 RX10 yX10_mostAlike wsX10_mostAlike) := goodIn_app (goodIn_of _ (by decide +kernel)) ggX10_look_X10_mostAlike
theorem dX10_look_0 : decode cX10_look 0 = .ok (.aload_n 0, 1) := by decide +kernel
theorem dX10_look_1 : decode cX10_look 1 = .ok (.getfield 36, 3) := by decide +kernel
theorem dX10_look_4 : decode cX10_look 4 = .ok (.iload_n 1, 1) := by decide +kernel
theorem dX10_look_5 : decode cX10_look 5 = .ok (.invokevirtual 112, 3) := by decide +kernel
theorem dX10_look_8 : decode cX10_look 8 = .ok (.ifCond .ne 8, 3) := by decide +kernel
theorem dX10_look_11 : decode cX10_look 11 = .ok (.aload_n 0, 1) := by decide +kernel
theorem dX10_look_12 : decode cX10_look 12 = .ok (.invokevirtual 90, 3) := by decide +kernel
theorem dX10_look_15 : decode cX10_look 15 = .ok (.ireturn, 1) := by decide +kernel
theorem dX10_look_16 : decode cX10_look 16 = .ok (.aload_n 0, 1) := by decide +kernel
theorem dX10_look_17 : decode cX10_look 17 = .ok (.getfield 36, 3) := by decide +kernel
theorem dX10_look_20 : decode cX10_look 20 = .ok (.iload_n 1, 1) := by decide +kernel
theorem dX10_look_21 : decode cX10_look 21 = .ok (.invokevirtual 257, 3) := by decide +kernel
theorem dX10_look_24 : decode cX10_look 24 = .ok (.istore_n 2, 1) := by decide +kernel
theorem dX10_look_25 : decode cX10_look 25 = .ok (.iload_n 2, 1) := by decide +kernel
theorem dX10_look_26 : decode cX10_look 26 = .ok (.ifCond .ne 5, 3) := by decide +kernel
theorem dX10_look_29 : decode cX10_look 29 = .ok (.iconst (-1), 1) := by decide +kernel
theorem dX10_look_30 : decode cX10_look 30 = .ok (.ireturn, 1) := by decide +kernel
theorem dX10_look_31 : decode cX10_look 31 = .ok (.iconst (-1), 1) := by decide +kernel
theorem dX10_look_32 : decode cX10_look 32 = .ok (.istore_n 3, 1) := by decide +kernel
theorem dX10_look_33 : decode cX10_look 33 = .ok (.bipush 7, 2) := by decide +kernel
theorem dX10_look_35 : decode cX10_look 35 = .ok (.istore 4, 2) := by decide +kernel
theorem dX10_look_37 : decode cX10_look 37 = .ok (.iconst 0, 1) := by decide +kernel
theorem dX10_look_38 : decode cX10_look 38 = .ok (.istore 5, 2) := by decide +kernel
theorem dX10_look_40 : decode cX10_look 40 = .ok (.iload 5, 2) := by decide +kernel
theorem dX10_look_42 : decode cX10_look 42 = .ok (.bipush 12, 2) := by decide +kernel
theorem dX10_look_44 : decode cX10_look 44 = .ok (.if_icmp .ge 68, 3) := by decide +kernel
theorem dX10_look_47 : decode cX10_look 47 = .ok (.iconst 0, 1) := by decide +kernel
theorem dX10_look_48 : decode cX10_look 48 = .ok (.istore 6, 2) := by decide +kernel
theorem dX10_look_50 : decode cX10_look 50 = .ok (.iload 6, 2) := by decide +kernel
theorem dX10_look_52 : decode cX10_look 52 = .ok (.bipush 10, 2) := by decide +kernel
theorem dX10_look_54 : decode cX10_look 54 = .ok (.if_icmp .ge 52, 3) := by decide +kernel
theorem dX10_look_57 : decode cX10_look 57 = .ok (.aload_n 0, 1) := by decide +kernel
theorem dX10_look_58 : decode cX10_look 58 = .ok (.iload_n 2, 1) := by decide +kernel
theorem dX10_look_59 : decode cX10_look 59 = .ok (.iload 5, 2) := by decide +kernel
theorem dX10_look_61 : decode cX10_look 61 = .ok (.aload_n 0, 1) := by decide +kernel
theorem dX10_look_62 : decode cX10_look 62 = .ok (.getfield 36, 3) := by decide +kernel
theorem dX10_look_65 : decode cX10_look 65 = .ok (.getfield 140, 3) := by decide +kernel
theorem dX10_look_68 : decode cX10_look 68 = .ok (.getfield 185, 3) := by decide +kernel
theorem dX10_look_71 : decode cX10_look 71 = .ok (.iload_n 1, 1) := by decide +kernel
theorem dX10_look_72 : decode cX10_look 72 = .ok (.iaload, 1) := by decide +kernel
theorem dX10_look_73 : decode cX10_look 73 = .ok (.iload 6, 2) := by decide +kernel
theorem dX10_look_75 : decode cX10_look 75 = .ok (.invokevirtual 260, 3) := by decide +kernel
theorem dX10_look_78 : decode cX10_look 78 = .ok (.istore 7, 2) := by decide +kernel
theorem dX10_look_80 : decode cX10_look 80 = .ok (.iload 7, 2) := by decide +kernel
theorem dX10_look_82 : decode cX10_look 82 = .ok (.iload 4, 2) := by decide +kernel
theorem dX10_look_84 : decode cX10_look 84 = .ok (.if_icmp .ge 16, 3) := by decide +kernel
theorem dX10_look_87 : decode cX10_look 87 = .ok (.iload 7, 2) := by decide +kernel
theorem dX10_look_89 : decode cX10_look 89 = .ok (.istore 4, 2) := by decide +kernel
theorem dX10_look_91 : decode cX10_look 91 = .ok (.bipush 100, 2) := by decide +kernel
theorem dX10_look_93 : decode cX10_look 93 = .ok (.iload 5, 2) := by decide +kernel
theorem dX10_look_95 : decode cX10_look 95 = .ok (.imul, 1) := by decide +kernel
theorem dX10_look_96 : decode cX10_look 96 = .ok (.iload 6, 2) := by decide +kernel
theorem dX10_look_98 : decode cX10_look 98 = .ok (.iadd, 1) := by decide +kernel
theorem dX10_look_99 : decode cX10_look 99 = .ok (.istore_n 3, 1) := by decide +kernel
theorem dX10_look_100 : decode cX10_look 100 = .ok (.iinc 6 1, 3) := by decide +kernel
theorem dX10_look_103 : decode cX10_look 103 = .ok (.goto (-53), 3) := by decide +kernel
theorem dX10_look_106 : decode cX10_look 106 = .ok (.iinc 5 1, 3) := by decide +kernel
theorem dX10_look_109 : decode cX10_look 109 = .ok (.goto (-69), 3) := by decide +kernel
theorem dX10_look_112 : decode cX10_look 112 = .ok (.iload_n 3, 1) := by decide +kernel
theorem dX10_look_113 : decode cX10_look 113 = .ok (.ireturn, 1) := by decide +kernel
set_option maxRecDepth 20000 in
theorem ggX10_two_X4_hasGleaner : GoodIn wsX10_two wsX4_hasGleaner := goodIn_r _ [10, 11, 12, 13, 14, 104, 105, 106, 107, 108, 109, 110, 111, 112, 113, 114] (by decide +kernel) (by decide +kernel)
set_option maxRecDepth 20000 in
theorem gX10_two_X4_hasGleaner : GoodIn wsX10_two (wsV RX10 167 RX4 yX4_hasGleaner wsX4_hasGleaner) := goodIn_app (goodIn_of _ (by decide +kernel)) ggX10_two_X4_hasGleaner
set_option maxRecDepth 20000 in
theorem ggX10_two_X10_refuseTen : GoodIn wsX10_two wsX10_refuseTen := goodIn_r _ [18, 19, 92, 93, 94, 95, 96, 97, 98, 99, 100, 101, 102, 103] (by decide +kernel) (by decide +kernel)
set_option maxRecDepth 20000 in
theorem gX10_two_X10_refuseTen : GoodIn wsX10_two (wsV RX10 209 RX10 yX10_refuseTen wsX10_refuseTen) := goodIn_app (goodIn_of _ (by decide +kernel)) ggX10_two_X10_refuseTen
set_option maxRecDepth 20000 in
theorem ggX10_two_X10_showAll : GoodIn wsX10_two wsX10_showAll := goodIn_r _ [23, 1, 4, 24, 2, 25, 26, 27, 9, 28, 29, 30, 31, 32, 33, 34, 35, 36, 37, 38, 39, 40, 41, 42, 43, 44, 45, 46, 47, 48, 49, 50, 51, 52, 53, 54, 55, 56, 57, 58, 59, 60, 61, 62, 63, 64, 65, 66, 67, 68, 69, 70, 71, 72, 73, 74, 75, 76, 77, 78, 79, 80, 92, 93, 94, 95, 96, 97, 98, 99, 100, 101, 102, 103, 104, 105, 106, 107, 108, 109, 110, 111, 112, 113, 114, 115, 116, 117, 118, 119, 120] (by decide +kernel) (by decide +kernel)
set_option maxRecDepth 20000 in
theorem gX10_two_X10_showAll : GoodIn wsX10_two (wsV RX10 222 RX10 yX10_showAll wsX10_showAll) := goodIn_app (goodIn_of _ (by decide +kernel)) ggX10_two_X10_showAll
set_option maxRecDepth 20000 in
theorem ggX10_two_X10_staysPut : GoodIn wsX10_two wsX10_staysPut := goodIn_r _ [84, 1, 4, 85, 86, 87, 13, 88, 24, 89, 90, 42, 91, 92, 93, 94, 95, 96, 97, 98, 99, 100, 101, 102, 103, 104, 105, 106, 107, 108, 109, 110, 111, 112, 113, 114] (by decide +kernel) (by decide +kernel)
set_option maxRecDepth 20000 in
theorem gX10_two_X10_staysPut : GoodIn wsX10_two (wsV RX10 263 RX10 yX10_staysPut wsX10_staysPut) := goodIn_app (goodIn_of _ (by decide +kernel)) ggX10_two_X10_staysPut
theorem dX10_two_0 : decode cX10_two 0 = .ok (.aload_n 0, 1) := by decide +kernel
theorem dX10_two_1 : decode cX10_two 1 = .ok (.getfield 36, 3) := by decide +kernel
theorem dX10_two_4 : decode cX10_two 4 = .ok (.iload_n 1, 1) := by decide +kernel
theorem dX10_two_5 : decode cX10_two 5 = .ok (.invokevirtual 167, 3) := by decide +kernel
theorem dX10_two_8 : decode cX10_two 8 = .ok (.ifCond .eq 24, 3) := by decide +kernel
theorem dX10_two_11 : decode cX10_two 11 = .ok (.aload_n 0, 1) := by decide +kernel
theorem dX10_two_12 : decode cX10_two 12 = .ok (.getfield 36, 3) := by decide +kernel
theorem dX10_two_15 : decode cX10_two 15 = .ok (.iload_n 2, 1) := by decide +kernel
theorem dX10_two_16 : decode cX10_two 16 = .ok (.invokevirtual 167, 3) := by decide +kernel
theorem dX10_two_19 : decode cX10_two 19 = .ok (.ifCond .eq 13, 3) := by decide +kernel
theorem dX10_two_22 : decode cX10_two 22 = .ok (.iload_n 1, 1) := by decide +kernel
theorem dX10_two_23 : decode cX10_two 23 = .ok (.iload_n 2, 1) := by decide +kernel
theorem dX10_two_24 : decode cX10_two 24 = .ok (.if_icmp .eq 8, 3) := by decide +kernel
theorem dX10_two_27 : decode cX10_two 27 = .ok (.iload_n 3, 1) := by decide +kernel
theorem dX10_two_28 : decode cX10_two 28 = .ok (.iconst (-1), 1) := by decide +kernel
theorem dX10_two_29 : decode cX10_two 29 = .ok (.if_icmp .ge 8, 3) := by decide +kernel
theorem dX10_two_32 : decode cX10_two 32 = .ok (.aload_n 0, 1) := by decide +kernel
theorem dX10_two_33 : decode cX10_two 33 = .ok (.invokevirtual 209, 3) := by decide +kernel
theorem dX10_two_36 : decode cX10_two 36 = .ok (.ireturn, 1) := by decide +kernel
theorem dX10_two_37 : decode cX10_two 37 = .ok (.aload_n 0, 1) := by decide +kernel
theorem dX10_two_38 : decode cX10_two 38 = .ok (.aload_n 0, 1) := by decide +kernel
theorem dX10_two_39 : decode cX10_two 39 = .ok (.getfield 36, 3) := by decide +kernel
theorem dX10_two_42 : decode cX10_two 42 = .ok (.getfield 140, 3) := by decide +kernel
theorem dX10_two_45 : decode cX10_two 45 = .ok (.getfield 151, 3) := by decide +kernel
theorem dX10_two_48 : decode cX10_two 48 = .ok (.invokevirtual 222, 3) := by decide +kernel
theorem dX10_two_51 : decode cX10_two 51 = .ok (.iconst 0, 1) := by decide +kernel
theorem dX10_two_52 : decode cX10_two 52 = .ok (.istore 4, 2) := by decide +kernel
theorem dX10_two_54 : decode cX10_two 54 = .ok (.iconst 0, 1) := by decide +kernel
theorem dX10_two_55 : decode cX10_two 55 = .ok (.istore 5, 2) := by decide +kernel
theorem dX10_two_57 : decode cX10_two 57 = .ok (.iload 5, 2) := by decide +kernel
theorem dX10_two_59 : decode cX10_two 59 = .ok (.aload_n 0, 1) := by decide +kernel
theorem dX10_two_60 : decode cX10_two 60 = .ok (.getfield 36, 3) := by decide +kernel
theorem dX10_two_63 : decode cX10_two 63 = .ok (.getfield 94, 3) := by decide +kernel
theorem dX10_two_66 : decode cX10_two 66 = .ok (.if_icmp .ge 97, 3) := by decide +kernel
theorem dX10_two_69 : decode cX10_two 69 = .ok (.iconst 0, 1) := by decide +kernel
theorem dX10_two_70 : decode cX10_two 70 = .ok (.istore 6, 2) := by decide +kernel
theorem dX10_two_72 : decode cX10_two 72 = .ok (.iload 6, 2) := by decide +kernel
theorem dX10_two_74 : decode cX10_two 74 = .ok (.aload_n 0, 1) := by decide +kernel
theorem dX10_two_75 : decode cX10_two 75 = .ok (.getfield 36, 3) := by decide +kernel
theorem dX10_two_78 : decode cX10_two 78 = .ok (.getfield 94, 3) := by decide +kernel
theorem dX10_two_81 : decode cX10_two 81 = .ok (.if_icmp .ge 76, 3) := by decide +kernel
theorem dX10_two_84 : decode cX10_two 84 = .ok (.aload_n 0, 1) := by decide +kernel
theorem dX10_two_85 : decode cX10_two 85 = .ok (.aload_n 0, 1) := by decide +kernel
theorem dX10_two_86 : decode cX10_two 86 = .ok (.getfield 36, 3) := by decide +kernel
theorem dX10_two_89 : decode cX10_two 89 = .ok (.getfield 140, 3) := by decide +kernel
theorem dX10_two_92 : decode cX10_two 92 = .ok (.getfield 170, 3) := by decide +kernel
theorem dX10_two_95 : decode cX10_two 95 = .ok (.iload_n 1, 1) := by decide +kernel
theorem dX10_two_96 : decode cX10_two 96 = .ok (.iaload, 1) := by decide +kernel
theorem dX10_two_97 : decode cX10_two 97 = .ok (.iload 5, 2) := by decide +kernel
theorem dX10_two_99 : decode cX10_two 99 = .ok (.iload 6, 2) := by decide +kernel
theorem dX10_two_101 : decode cX10_two 101 = .ok (.invokevirtual 263, 3) := by decide +kernel
theorem dX10_two_104 : decode cX10_two 104 = .ok (.ifCond .eq 47, 3) := by decide +kernel
theorem dX10_two_107 : decode cX10_two 107 = .ok (.aload_n 0, 1) := by decide +kernel
theorem dX10_two_108 : decode cX10_two 108 = .ok (.aload_n 0, 1) := by decide +kernel
theorem dX10_two_109 : decode cX10_two 109 = .ok (.getfield 36, 3) := by decide +kernel
theorem dX10_two_112 : decode cX10_two 112 = .ok (.getfield 140, 3) := by decide +kernel
theorem dX10_two_115 : decode cX10_two 115 = .ok (.getfield 170, 3) := by decide +kernel
theorem dX10_two_118 : decode cX10_two 118 = .ok (.iload_n 2, 1) := by decide +kernel
theorem dX10_two_119 : decode cX10_two 119 = .ok (.iaload, 1) := by decide +kernel
theorem dX10_two_120 : decode cX10_two 120 = .ok (.iload 6, 2) := by decide +kernel
theorem dX10_two_122 : decode cX10_two 122 = .ok (.iload 5, 2) := by decide +kernel
theorem dX10_two_124 : decode cX10_two 124 = .ok (.invokevirtual 263, 3) := by decide +kernel
theorem dX10_two_127 : decode cX10_two 127 = .ok (.ifCond .ne 6, 3) := by decide +kernel
theorem dX10_two_130 : decode cX10_two 130 = .ok (.goto 21, 3) := by decide +kernel
theorem dX10_two_133 : decode cX10_two 133 = .ok (.iload 4, 2) := by decide +kernel
theorem dX10_two_135 : decode cX10_two 135 = .ok (.iload_n 3, 1) := by decide +kernel
theorem dX10_two_136 : decode cX10_two 136 = .ok (.if_icmp .ne 12, 3) := by decide +kernel
theorem dX10_two_139 : decode cX10_two 139 = .ok (.bipush 6, 2) := by decide +kernel
theorem dX10_two_141 : decode cX10_two 141 = .ok (.iload 5, 2) := by decide +kernel
theorem dX10_two_143 : decode cX10_two 143 = .ok (.imul, 1) := by decide +kernel
theorem dX10_two_144 : decode cX10_two 144 = .ok (.iload 6, 2) := by decide +kernel
theorem dX10_two_146 : decode cX10_two 146 = .ok (.iadd, 1) := by decide +kernel
theorem dX10_two_147 : decode cX10_two 147 = .ok (.ireturn, 1) := by decide +kernel
theorem dX10_two_148 : decode cX10_two 148 = .ok (.iinc 4 1, 3) := by decide +kernel
theorem dX10_two_151 : decode cX10_two 151 = .ok (.iinc 6 1, 3) := by decide +kernel
theorem dX10_two_154 : decode cX10_two 154 = .ok (.goto (-82), 3) := by decide +kernel
theorem dX10_two_157 : decode cX10_two 157 = .ok (.iinc 5 1, 3) := by decide +kernel
theorem dX10_two_160 : decode cX10_two 160 = .ok (.goto (-103), 3) := by decide +kernel
theorem dX10_two_163 : decode cX10_two 163 = .ok (.iload_n 3, 1) := by decide +kernel
theorem dX10_two_164 : decode cX10_two 164 = .ok (.iconst (-1), 1) := by decide +kernel
theorem dX10_two_165 : decode cX10_two 165 = .ok (.if_icmp .ne 8, 3) := by decide +kernel
theorem dX10_two_168 : decode cX10_two 168 = .ok (.iload 4, 2) := by decide +kernel
theorem dX10_two_170 : decode cX10_two 170 = .ok (.goto 5, 3) := by decide +kernel
theorem dX10_two_173 : decode cX10_two 173 = .ok (.bipush (-5), 2) := by decide +kernel
theorem dX10_two_175 : decode cX10_two 175 = .ok (.ireturn, 1) := by decide +kernel
set_option maxRecDepth 20000 in
theorem ggX10_rains_X4_hasField : GoodIn wsX10_rains wsX4_hasField := goodIn_r _ [16, 17, 18, 19, 20, 112, 113, 114, 115, 116, 117, 118, 119, 120, 121, 122] (by decide +kernel) (by decide +kernel)
set_option maxRecDepth 20000 in
theorem gX10_rains_X4_hasField : GoodIn wsX10_rains (wsV RX10 112 RX4 yX4_hasField wsX4_hasField) := goodIn_app (goodIn_of _ (by decide +kernel)) ggX10_rains_X4_hasField
set_option maxRecDepth 20000 in
theorem ggX10_rains_X10_isIn : GoodIn wsX10_rains wsX10_isIn := goodIn_r _ [23] (by decide +kernel) (by decide +kernel)
set_option maxRecDepth 20000 in
theorem gX10_rains_X10_isIn : GoodIn wsX10_rains (va_wsS RX10 147 yX10_isIn wsX10_isIn) := goodIn_app (goodIn_of _ (by decide +kernel)) ggX10_rains_X10_isIn
set_option maxRecDepth 20000 in
theorem ggX10_rains_X10_refuseBad : GoodIn wsX10_rains wsX10_refuseBad := goodIn_r _ [27, 28, 100, 101, 102, 103, 104, 105, 106, 107, 108, 109, 110, 111] (by decide +kernel) (by decide +kernel)
set_option maxRecDepth 20000 in
theorem gX10_rains_X10_refuseBad : GoodIn wsX10_rains (wsV RX10 90 RX10 yX10_refuseBad wsX10_refuseBad) := goodIn_app (goodIn_of _ (by decide +kernel)) ggX10_rains_X10_refuseBad
set_option maxRecDepth 20000 in
theorem ggX10_rains_X4_shows : GoodIn wsX10_rains wsX4_shows := goodIn_r _ [32, 33, 34, 35, 36, 37, 38, 39, 40, 41, 42, 43, 44, 45, 8, 46, 47, 48, 49, 50, 51, 52, 53, 54, 55, 56, 57, 58, 59, 60, 61, 62, 63, 64, 65, 66, 67, 68, 69, 70, 71, 72, 73, 74, 75, 76, 77, 7, 9, 78, 79, 80, 81, 112, 113, 114, 115, 116, 117, 118, 119, 120, 121, 122, 123, 124, 125, 126, 127, 128] (by decide +kernel) (by decide +kernel)
set_option maxRecDepth 20000 in
theorem gX10_rains_X4_shows : GoodIn wsX10_rains (wsV RX10 197 RX4 yX4_shows wsX4_shows) := goodIn_app (goodIn_of _ (by decide +kernel)) ggX10_rains_X4_shows
set_option maxRecDepth 20000 in
theorem ggX10_rains_X1_become : GoodIn wsX10_rains wsX1_become := goodIn_r _ [86, 87, 88, 89, 90, 91, 92, 93, 94, 95, 96, 123, 124, 125, 126, 127, 128] (by decide +kernel) (by decide +kernel)
set_option maxRecDepth 20000 in
theorem gX10_rains_X1_become : GoodIn wsX10_rains (wsV RX10 201 RX1 yX1_become wsX1_become) := goodIn_app (goodIn_of _ (by decide +kernel)) ggX10_rains_X1_become
set_option maxRecDepth 20000 in
theorem ggX10_rains_X10_commonDivisor : GoodIn wsX10_rains wsX10_commonDivisor := goodIn_r _ [99] (by decide +kernel) (by decide +kernel)
set_option maxRecDepth 20000 in
theorem gX10_rains_X10_commonDivisor : GoodIn wsX10_rains (va_wsS RX10 266 yX10_commonDivisor wsX10_commonDivisor) := goodIn_app (goodIn_of _ (by decide +kernel)) ggX10_rains_X10_commonDivisor
theorem dX10_rains_0 : decode cX10_rains 0 = .ok (.aload_n 0, 1) := by decide +kernel
theorem dX10_rains_1 : decode cX10_rains 1 = .ok (.getfield 36, 3) := by decide +kernel
theorem dX10_rains_4 : decode cX10_rains 4 = .ok (.iload_n 1, 1) := by decide +kernel
theorem dX10_rains_5 : decode cX10_rains 5 = .ok (.invokevirtual 112, 3) := by decide +kernel
theorem dX10_rains_8 : decode cX10_rains 8 = .ok (.ifCond .eq 13, 3) := by decide +kernel
theorem dX10_rains_11 : decode cX10_rains 11 = .ok (.iload_n 2, 1) := by decide +kernel
theorem dX10_rains_12 : decode cX10_rains 12 = .ok (.iconst 0, 1) := by decide +kernel
theorem dX10_rains_13 : decode cX10_rains 13 = .ok (.bipush 10, 2) := by decide +kernel
theorem dX10_rains_15 : decode cX10_rains 15 = .ok (.invokestatic 147, 3) := by decide +kernel
theorem dX10_rains_18 : decode cX10_rains 18 = .ok (.ifCond .ne 8, 3) := by decide +kernel
theorem dX10_rains_21 : decode cX10_rains 21 = .ok (.aload_n 0, 1) := by decide +kernel
theorem dX10_rains_22 : decode cX10_rains 22 = .ok (.invokevirtual 90, 3) := by decide +kernel
theorem dX10_rains_25 : decode cX10_rains 25 = .ok (.ireturn, 1) := by decide +kernel
theorem dX10_rains_26 : decode cX10_rains 26 = .ok (.aload_n 0, 1) := by decide +kernel
theorem dX10_rains_27 : decode cX10_rains 27 = .ok (.getfield 36, 3) := by decide +kernel
theorem dX10_rains_30 : decode cX10_rains 30 = .ok (.aload_n 0, 1) := by decide +kernel
theorem dX10_rains_31 : decode cX10_rains 31 = .ok (.getfield 36, 3) := by decide +kernel
theorem dX10_rains_34 : decode cX10_rains 34 = .ok (.getfield 140, 3) := by decide +kernel
theorem dX10_rains_37 : decode cX10_rains 37 = .ok (.iload_n 1, 1) := by decide +kernel
theorem dX10_rains_38 : decode cX10_rains 38 = .ok (.aload_n 0, 1) := by decide +kernel
theorem dX10_rains_39 : decode cX10_rains 39 = .ok (.getfield 36, 3) := by decide +kernel
theorem dX10_rains_42 : decode cX10_rains 42 = .ok (.getfield 140, 3) := by decide +kernel
theorem dX10_rains_45 : decode cX10_rains 45 = .ok (.getfield 151, 3) := by decide +kernel
theorem dX10_rains_48 : decode cX10_rains 48 = .ok (.invokevirtual 197, 3) := by decide +kernel
theorem dX10_rains_51 : decode cX10_rains 51 = .ok (.istore_n 3, 1) := by decide +kernel
theorem dX10_rains_52 : decode cX10_rains 52 = .ok (.aload_n 0, 1) := by decide +kernel
theorem dX10_rains_53 : decode cX10_rains 53 = .ok (.getfield 58, 3) := by decide +kernel
theorem dX10_rains_56 : decode cX10_rains 56 = .ok (.aload_n 0, 1) := by decide +kernel
theorem dX10_rains_57 : decode cX10_rains 57 = .ok (.getfield 36, 3) := by decide +kernel
theorem dX10_rains_60 : decode cX10_rains 60 = .ok (.getfield 140, 3) := by decide +kernel
theorem dX10_rains_63 : decode cX10_rains 63 = .ok (.invokevirtual 201, 3) := by decide +kernel
theorem dX10_rains_66 : decode cX10_rains 66 = .ok (.aload_n 0, 1) := by decide +kernel
theorem dX10_rains_67 : decode cX10_rains 67 = .ok (.getfield 58, 3) := by decide +kernel
theorem dX10_rains_70 : decode cX10_rains 70 = .ok (.bipush 9, 2) := by decide +kernel
theorem dX10_rains_72 : decode cX10_rains 72 = .ok (.aload_n 0, 1) := by decide +kernel
theorem dX10_rains_73 : decode cX10_rains 73 = .ok (.getfield 58, 3) := by decide +kernel
theorem dX10_rains_76 : decode cX10_rains 76 = .ok (.getfield 173, 3) := by decide +kernel
theorem dX10_rains_79 : decode cX10_rains 79 = .ok (.iconst 5, 1) := by decide +kernel
theorem dX10_rains_80 : decode cX10_rains 80 = .ok (.iadd, 1) := by decide +kernel
theorem dX10_rains_81 : decode cX10_rains 81 = .ok (.invokestatic 204, 3) := by decide +kernel
theorem dX10_rains_84 : decode cX10_rains 84 = .ok (.putfield 173, 3) := by decide +kernel
theorem dX10_rains_87 : decode cX10_rains 87 = .ok (.aload_n 0, 1) := by decide +kernel
theorem dX10_rains_88 : decode cX10_rains 88 = .ok (.getfield 36, 3) := by decide +kernel
theorem dX10_rains_91 : decode cX10_rains 91 = .ok (.aload_n 0, 1) := by decide +kernel
theorem dX10_rains_92 : decode cX10_rains 92 = .ok (.getfield 58, 3) := by decide +kernel
theorem dX10_rains_95 : decode cX10_rains 95 = .ok (.iload_n 1, 1) := by decide +kernel
theorem dX10_rains_96 : decode cX10_rains 96 = .ok (.aload_n 0, 1) := by decide +kernel
theorem dX10_rains_97 : decode cX10_rains 97 = .ok (.getfield 58, 3) := by decide +kernel
theorem dX10_rains_100 : decode cX10_rains 100 = .ok (.getfield 151, 3) := by decide +kernel
theorem dX10_rains_103 : decode cX10_rains 103 = .ok (.invokevirtual 197, 3) := by decide +kernel
theorem dX10_rains_106 : decode cX10_rains 106 = .ok (.istore 4, 2) := by decide +kernel
theorem dX10_rains_108 : decode cX10_rains 108 = .ok (.iload_n 2, 1) := by decide +kernel
theorem dX10_rains_109 : decode cX10_rains 109 = .ok (.iload 4, 2) := by decide +kernel
theorem dX10_rains_111 : decode cX10_rains 111 = .ok (.imul, 1) := by decide +kernel
theorem dX10_rains_112 : decode cX10_rains 112 = .ok (.bipush 10, 2) := by decide +kernel
theorem dX10_rains_114 : decode cX10_rains 114 = .ok (.iload_n 2, 1) := by decide +kernel
theorem dX10_rains_115 : decode cX10_rains 115 = .ok (.isub, 1) := by decide +kernel
theorem dX10_rains_116 : decode cX10_rains 116 = .ok (.iload_n 3, 1) := by decide +kernel
theorem dX10_rains_117 : decode cX10_rains 117 = .ok (.imul, 1) := by decide +kernel
theorem dX10_rains_118 : decode cX10_rains 118 = .ok (.iadd, 1) := by decide +kernel
theorem dX10_rains_119 : decode cX10_rains 119 = .ok (.istore 5, 2) := by decide +kernel
theorem dX10_rains_121 : decode cX10_rains 121 = .ok (.iload 5, 2) := by decide +kernel
theorem dX10_rains_123 : decode cX10_rains 123 = .ok (.bipush 10, 2) := by decide +kernel
theorem dX10_rains_125 : decode cX10_rains 125 = .ok (.invokestatic 266, 3) := by decide +kernel
theorem dX10_rains_128 : decode cX10_rains 128 = .ok (.istore 6, 2) := by decide +kernel
theorem dX10_rains_130 : decode cX10_rains 130 = .ok (.aload_n 0, 1) := by decide +kernel
theorem dX10_rains_131 : decode cX10_rains 131 = .ok (.iload 5, 2) := by decide +kernel
theorem dX10_rains_133 : decode cX10_rains 133 = .ok (.iload 6, 2) := by decide +kernel
theorem dX10_rains_135 : decode cX10_rains 135 = .ok (.idiv, 1) := by decide +kernel
theorem dX10_rains_136 : decode cX10_rains 136 = .ok (.putfield 79, 3) := by decide +kernel
theorem dX10_rains_139 : decode cX10_rains 139 = .ok (.aload_n 0, 1) := by decide +kernel
theorem dX10_rains_140 : decode cX10_rains 140 = .ok (.bipush 10, 2) := by decide +kernel
theorem dX10_rains_142 : decode cX10_rains 142 = .ok (.iload 6, 2) := by decide +kernel
theorem dX10_rains_144 : decode cX10_rains 144 = .ok (.idiv, 1) := by decide +kernel
theorem dX10_rains_145 : decode cX10_rains 145 = .ok (.putfield 83, 3) := by decide +kernel
theorem dX10_rains_148 : decode cX10_rains 148 = .ok (.iconst 1, 1) := by decide +kernel
theorem dX10_rains_149 : decode cX10_rains 149 = .ok (.ireturn, 1) := by decide +kernel
set_option maxRecDepth 20000 in
theorem ggX10_summers_X10_isBelow : GoodIn wsX10_summers wsX10_isBelow := goodIn_r _ [15] (by decide +kernel) (by decide +kernel)
set_option maxRecDepth 20000 in
theorem gX10_summers_X10_isBelow : GoodIn wsX10_summers (va_wsS RX10 86 yX10_isBelow wsX10_isBelow) := goodIn_app (goodIn_of _ (by decide +kernel)) ggX10_summers_X10_isBelow
set_option maxRecDepth 20000 in
theorem ggX10_summers_X10_isIn : GoodIn wsX10_summers wsX10_isIn := goodIn_r _ [18] (by decide +kernel) (by decide +kernel)
set_option maxRecDepth 20000 in
theorem gX10_summers_X10_isIn : GoodIn wsX10_summers (va_wsS RX10 147 yX10_isIn wsX10_isIn) := goodIn_app (goodIn_of _ (by decide +kernel)) ggX10_summers_X10_isIn
set_option maxRecDepth 20000 in
theorem ggX10_summers_X10_refuseBad : GoodIn wsX10_summers wsX10_refuseBad := goodIn_r _ [22, 23, 126, 127, 128, 129, 130, 131, 132, 133, 134, 135, 136, 137] (by decide +kernel) (by decide +kernel)
set_option maxRecDepth 20000 in
theorem gX10_summers_X10_refuseBad : GoodIn wsX10_summers (wsV RX10 90 RX10 yX10_refuseBad wsX10_refuseBad) := goodIn_app (goodIn_of _ (by decide +kernel)) ggX10_summers_X10_refuseBad
set_option maxRecDepth 20000 in
theorem ggX10_summers_X1_become : GoodIn wsX10_summers wsX1_become := goodIn_r _ [28, 29, 30, 31, 32, 33, 34, 35, 36, 37, 38, 149, 150, 151, 152, 153, 154] (by decide +kernel) (by decide +kernel)
set_option maxRecDepth 20000 in
theorem gX10_summers_X1_become : GoodIn wsX10_summers (wsV RX10 201 RX1 yX1_become wsX1_become) := goodIn_app (goodIn_of _ (by decide +kernel)) ggX10_summers_X1_become
set_option maxRecDepth 20000 in
theorem ggX10_summers_X4_fade : GoodIn wsX10_summers wsX4_fade := goodIn_r _ [43, 44, 45, 46, 47, 48, 49, 50, 51, 52, 53, 54, 14, 55, 138, 139, 140, 141, 142, 143, 144, 145, 146, 147, 148, 149, 150, 151, 152, 153, 154] (by decide +kernel) (by decide +kernel)
set_option maxRecDepth 20000 in
theorem gX10_summers_X4_fade : GoodIn wsX10_summers (wsV RX10 160 RX4 yX4_fade wsX4_fade) := goodIn_app (goodIn_of _ (by decide +kernel)) ggX10_summers_X4_fade
set_option maxRecDepth 20000 in
theorem ggX10_summers_X4_gather : GoodIn wsX10_summers wsX4_gather := goodIn_r _ [59, 46, 53, 60, 61, 62, 42, 63, 64, 65, 66, 67, 44, 68, 69, 70, 71, 72, 73, 74, 47, 75, 76, 77, 78, 79, 80, 81, 82, 83, 84, 50, 85, 86, 87, 88, 89, 90, 91, 92, 93, 94, 95, 96, 97, 98, 99, 100, 101, 102, 103, 104, 105, 106, 107, 108, 109, 110, 111, 112, 113, 114, 115, 116, 49, 51, 117, 118, 119, 120, 121, 122, 123, 124, 45, 48, 125, 138, 139, 140, 141, 142, 143, 144, 145, 146, 147, 148, 149, 150, 151, 152, 153, 154] (by decide +kernel) (by decide +kernel)
set_option maxRecDepth 20000 in
theorem gX10_summers_X4_gather : GoodIn wsX10_summers (wsV RX10 143 RX4 yX4_gather wsX4_gather) := goodIn_app (goodIn_of _ (by decide +kernel)) ggX10_summers_X4_gather
theorem dX10_summers_0 : decode cX10_summers 0 = .ok (.iload_n 1, 1) := by decide +kernel
theorem dX10_summers_1 : decode cX10_summers 1 = .ok (.ldc_w 269, 3) := by decide +kernel
theorem dX10_summers_4 : decode cX10_summers 4 = .ok (.invokestatic 86, 3) := by decide +kernel
theorem dX10_summers_7 : decode cX10_summers 7 = .ok (.ifCond .eq 13, 3) := by decide +kernel
theorem dX10_summers_10 : decode cX10_summers 10 = .ok (.iload_n 2, 1) := by decide +kernel
theorem dX10_summers_11 : decode cX10_summers 11 = .ok (.iconst 0, 1) := by decide +kernel
theorem dX10_summers_12 : decode cX10_summers 12 = .ok (.bipush 60, 2) := by decide +kernel
theorem dX10_summers_14 : decode cX10_summers 14 = .ok (.invokestatic 147, 3) := by decide +kernel
theorem dX10_summers_17 : decode cX10_summers 17 = .ok (.ifCond .ne 8, 3) := by decide +kernel
theorem dX10_summers_20 : decode cX10_summers 20 = .ok (.aload_n 0, 1) := by decide +kernel
theorem dX10_summers_21 : decode cX10_summers 21 = .ok (.invokevirtual 90, 3) := by decide +kernel
theorem dX10_summers_24 : decode cX10_summers 24 = .ok (.ireturn, 1) := by decide +kernel
theorem dX10_summers_25 : decode cX10_summers 25 = .ok (.aload_n 0, 1) := by decide +kernel
theorem dX10_summers_26 : decode cX10_summers 26 = .ok (.getfield 58, 3) := by decide +kernel
theorem dX10_summers_29 : decode cX10_summers 29 = .ok (.aload_n 0, 1) := by decide +kernel
theorem dX10_summers_30 : decode cX10_summers 30 = .ok (.getfield 36, 3) := by decide +kernel
theorem dX10_summers_33 : decode cX10_summers 33 = .ok (.getfield 140, 3) := by decide +kernel
theorem dX10_summers_36 : decode cX10_summers 36 = .ok (.invokevirtual 201, 3) := by decide +kernel
theorem dX10_summers_39 : decode cX10_summers 39 = .ok (.iload_n 1, 1) := by decide +kernel
theorem dX10_summers_40 : decode cX10_summers 40 = .ok (.i2l, 1) := by decide +kernel
theorem dX10_summers_41 : decode cX10_summers 41 = .ok (.lstore_n 3, 1) := by decide +kernel
theorem dX10_summers_42 : decode cX10_summers 42 = .ok (.iconst 0, 1) := by decide +kernel
theorem dX10_summers_43 : decode cX10_summers 43 = .ok (.istore 5, 2) := by decide +kernel
theorem dX10_summers_45 : decode cX10_summers 45 = .ok (.iconst 0, 1) := by decide +kernel
theorem dX10_summers_46 : decode cX10_summers 46 = .ok (.istore 6, 2) := by decide +kernel
theorem dX10_summers_48 : decode cX10_summers 48 = .ok (.iload 6, 2) := by decide +kernel
theorem dX10_summers_50 : decode cX10_summers 50 = .ok (.iload_n 2, 1) := by decide +kernel
theorem dX10_summers_51 : decode cX10_summers 51 = .ok (.if_icmp .ge 80, 3) := by decide +kernel
theorem dX10_summers_54 : decode cX10_summers 54 = .ok (.lload_n 3, 1) := by decide +kernel
theorem dX10_summers_55 : decode cX10_summers 55 = .ok (.ldc2_w 270, 3) := by decide +kernel
theorem dX10_summers_58 : decode cX10_summers 58 = .ok (.lmul, 1) := by decide +kernel
theorem dX10_summers_59 : decode cX10_summers 59 = .ok (.ldc2_w 272, 3) := by decide +kernel
theorem dX10_summers_62 : decode cX10_summers 62 = .ok (.ladd, 1) := by decide +kernel
theorem dX10_summers_63 : decode cX10_summers 63 = .ok (.ldc2_w 274, 3) := by decide +kernel
theorem dX10_summers_66 : decode cX10_summers 66 = .ok (.lrem, 1) := by decide +kernel
theorem dX10_summers_67 : decode cX10_summers 67 = .ok (.lstore_n 3, 1) := by decide +kernel
theorem dX10_summers_68 : decode cX10_summers 68 = .ok (.aload_n 0, 1) := by decide +kernel
theorem dX10_summers_69 : decode cX10_summers 69 = .ok (.getfield 58, 3) := by decide +kernel
theorem dX10_summers_72 : decode cX10_summers 72 = .ok (.getfield 151, 3) := by decide +kernel
theorem dX10_summers_75 : decode cX10_summers 75 = .ok (.bipush 12, 2) := by decide +kernel
theorem dX10_summers_77 : decode cX10_summers 77 = .ok (.if_icmp .lt 14, 3) := by decide +kernel
theorem dX10_summers_80 : decode cX10_summers 80 = .ok (.aload_n 0, 1) := by decide +kernel
theorem dX10_summers_81 : decode cX10_summers 81 = .ok (.getfield 36, 3) := by decide +kernel
theorem dX10_summers_84 : decode cX10_summers 84 = .ok (.aload_n 0, 1) := by decide +kernel
theorem dX10_summers_85 : decode cX10_summers 85 = .ok (.getfield 58, 3) := by decide +kernel
theorem dX10_summers_88 : decode cX10_summers 88 = .ok (.invokevirtual 160, 3) := by decide +kernel
theorem dX10_summers_91 : decode cX10_summers 91 = .ok (.aload_n 0, 1) := by decide +kernel
theorem dX10_summers_92 : decode cX10_summers 92 = .ok (.getfield 58, 3) := by decide +kernel
theorem dX10_summers_95 : decode cX10_summers 95 = .ok (.lload_n 3, 1) := by decide +kernel
theorem dX10_summers_96 : decode cX10_summers 96 = .ok (.ldc2_w 276, 3) := by decide +kernel
theorem dX10_summers_99 : decode cX10_summers 99 = .ok (.ldiv, 1) := by decide +kernel
theorem dX10_summers_100 : decode cX10_summers 100 = .ok (.ldc2_w 278, 3) := by decide +kernel
theorem dX10_summers_103 : decode cX10_summers 103 = .ok (.lrem, 1) := by decide +kernel
theorem dX10_summers_104 : decode cX10_summers 104 = .ok (.l2i, 1) := by decide +kernel
theorem dX10_summers_105 : decode cX10_summers 105 = .ok (.putfield 173, 3) := by decide +kernel
theorem dX10_summers_108 : decode cX10_summers 108 = .ok (.iload 5, 2) := by decide +kernel
theorem dX10_summers_110 : decode cX10_summers 110 = .ok (.aload_n 0, 1) := by decide +kernel
theorem dX10_summers_111 : decode cX10_summers 111 = .ok (.getfield 36, 3) := by decide +kernel
theorem dX10_summers_114 : decode cX10_summers 114 = .ok (.aload_n 0, 1) := by decide +kernel
theorem dX10_summers_115 : decode cX10_summers 115 = .ok (.getfield 58, 3) := by decide +kernel
theorem dX10_summers_118 : decode cX10_summers 118 = .ok (.iconst 1, 1) := by decide +kernel
theorem dX10_summers_119 : decode cX10_summers 119 = .ok (.invokevirtual 143, 3) := by decide +kernel
theorem dX10_summers_122 : decode cX10_summers 122 = .ok (.iadd, 1) := by decide +kernel
theorem dX10_summers_123 : decode cX10_summers 123 = .ok (.istore 5, 2) := by decide +kernel
theorem dX10_summers_125 : decode cX10_summers 125 = .ok (.iinc 6 1, 3) := by decide +kernel
theorem dX10_summers_128 : decode cX10_summers 128 = .ok (.goto (-80), 3) := by decide +kernel
theorem dX10_summers_131 : decode cX10_summers 131 = .ok (.iload 5, 2) := by decide +kernel
theorem dX10_summers_133 : decode cX10_summers 133 = .ok (.ireturn, 1) := by decide +kernel
set_option maxRecDepth 20000 in
theorem ggX10_part_X10_isBelow : GoodIn wsX10_part wsX10_isBelow := goodIn_r _ [6] (by decide +kernel) (by decide +kernel)
set_option maxRecDepth 20000 in
theorem gX10_part_X10_isBelow : GoodIn wsX10_part (va_wsS RX10 86 yX10_isBelow wsX10_isBelow) := goodIn_app (goodIn_of _ (by decide +kernel)) ggX10_part_X10_isBelow
set_option maxRecDepth 20000 in
theorem ggX10_part_X10_refuseBad : GoodIn wsX10_part wsX10_refuseBad := goodIn_r _ [10, 11, 12, 13, 14, 15, 16, 17, 18, 19, 20, 21, 22, 23] (by decide +kernel) (by decide +kernel)
set_option maxRecDepth 20000 in
theorem gX10_part_X10_refuseBad : GoodIn wsX10_part (wsV RX10 90 RX10 yX10_refuseBad wsX10_refuseBad) := goodIn_app (goodIn_of _ (by decide +kernel)) ggX10_part_X10_refuseBad
theorem dX10_part_0 : decode cX10_part 0 = .ok (.iload_n 1, 1) := by decide +kernel
theorem dX10_part_1 : decode cX10_part 1 = .ok (.iconst 2, 1) := by decide +kernel
theorem dX10_part_2 : decode cX10_part 2 = .ok (.invokestatic 86, 3) := by decide +kernel
theorem dX10_part_5 : decode cX10_part 5 = .ok (.ifCond .ne 9, 3) := by decide +kernel
theorem dX10_part_8 : decode cX10_part 8 = .ok (.aload_n 0, 1) := by decide +kernel
theorem dX10_part_9 : decode cX10_part 9 = .ok (.invokevirtual 90, 3) := by decide +kernel
theorem dX10_part_12 : decode cX10_part 12 = .ok (.i2l, 1) := by decide +kernel
theorem dX10_part_13 : decode cX10_part 13 = .ok (.lreturn, 1) := by decide +kernel
theorem dX10_part_14 : decode cX10_part 14 = .ok (.iload_n 1, 1) := by decide +kernel
theorem dX10_part_15 : decode cX10_part 15 = .ok (.ifCond .ne 11, 3) := by decide +kernel
theorem dX10_part_18 : decode cX10_part 18 = .ok (.aload_n 0, 1) := by decide +kernel
theorem dX10_part_19 : decode cX10_part 19 = .ok (.getfield 79, 3) := by decide +kernel
theorem dX10_part_22 : decode cX10_part 22 = .ok (.i2l, 1) := by decide +kernel
theorem dX10_part_23 : decode cX10_part 23 = .ok (.goto 8, 3) := by decide +kernel
theorem dX10_part_26 : decode cX10_part 26 = .ok (.aload_n 0, 1) := by decide +kernel
theorem dX10_part_27 : decode cX10_part 27 = .ok (.getfield 83, 3) := by decide +kernel
theorem dX10_part_30 : decode cX10_part 30 = .ok (.i2l, 1) := by decide +kernel
theorem dX10_part_31 : decode cX10_part 31 = .ok (.lreturn, 1) := by decide +kernel
set_option maxRecDepth 20000 in
theorem ggX10_image_X10_isBelow : GoodIn wsX10_image wsX10_isBelow := goodIn_r _ [7] (by decide +kernel) (by decide +kernel)
set_option maxRecDepth 20000 in
theorem gX10_image_X10_isBelow : GoodIn wsX10_image (va_wsS RX10 86 yX10_isBelow wsX10_isBelow) := goodIn_app (goodIn_of _ (by decide +kernel)) ggX10_image_X10_isBelow
set_option maxRecDepth 20000 in
theorem ggX10_image_X10_refuseBad : GoodIn wsX10_image wsX10_refuseBad := goodIn_r _ [11, 12, 44, 45, 46, 47, 48, 49, 50, 51, 52, 53, 54, 55] (by decide +kernel) (by decide +kernel)
set_option maxRecDepth 20000 in
theorem gX10_image_X10_refuseBad : GoodIn wsX10_image (wsV RX10 90 RX10 yX10_refuseBad wsX10_refuseBad) := goodIn_app (goodIn_of _ (by decide +kernel)) ggX10_image_X10_refuseBad
set_option maxRecDepth 20000 in
theorem ggX10_image_X4_become : GoodIn wsX10_image wsX4_become := goodIn_r _ [17, 18, 19, 20, 21, 22, 23, 24, 25, 26, 27, 28, 29, 30, 31, 32, 33, 34, 35, 36, 37, 38, 39, 40, 41, 42, 43, 56, 57, 58, 59, 60, 61, 62, 63, 64, 65, 66, 67, 68, 69, 70, 71, 72] (by decide +kernel) (by decide +kernel)
set_option maxRecDepth 20000 in
theorem gX10_image_X4_become : GoodIn wsX10_image (wsV RX10 280 RX4 yX4_become wsX4_become) := goodIn_app (goodIn_of _ (by decide +kernel)) ggX10_image_X4_become
theorem dX10_image_0 : decode cX10_image 0 = .ok (.iload_n 1, 1) := by decide +kernel
theorem dX10_image_1 : decode cX10_image 1 = .ok (.iconst 2, 1) := by decide +kernel
theorem dX10_image_2 : decode cX10_image 2 = .ok (.invokestatic 86, 3) := by decide +kernel
theorem dX10_image_5 : decode cX10_image 5 = .ok (.ifCond .ne 8, 3) := by decide +kernel
theorem dX10_image_8 : decode cX10_image 8 = .ok (.aload_n 0, 1) := by decide +kernel
theorem dX10_image_9 : decode cX10_image 9 = .ok (.invokevirtual 90, 3) := by decide +kernel
theorem dX10_image_12 : decode cX10_image 12 = .ok (.ireturn, 1) := by decide +kernel
theorem dX10_image_13 : decode cX10_image 13 = .ok (.aload_n 0, 1) := by decide +kernel
theorem dX10_image_14 : decode cX10_image 14 = .ok (.getfield 40, 3) := by decide +kernel
theorem dX10_image_17 : decode cX10_image 17 = .ok (.iload_n 1, 1) := by decide +kernel
theorem dX10_image_18 : decode cX10_image 18 = .ok (.aaload, 1) := by decide +kernel
theorem dX10_image_19 : decode cX10_image 19 = .ok (.aload_n 0, 1) := by decide +kernel
theorem dX10_image_20 : decode cX10_image 20 = .ok (.getfield 36, 3) := by decide +kernel
theorem dX10_image_23 : decode cX10_image 23 = .ok (.invokevirtual 280, 3) := by decide +kernel
theorem dX10_image_26 : decode cX10_image 26 = .ok (.aload_n 0, 1) := by decide +kernel
theorem dX10_image_27 : decode cX10_image 27 = .ok (.getfield 44, 3) := by decide +kernel
theorem dX10_image_30 : decode cX10_image 30 = .ok (.iload_n 1, 1) := by decide +kernel
theorem dX10_image_31 : decode cX10_image 31 = .ok (.iconst 1, 1) := by decide +kernel
theorem dX10_image_32 : decode cX10_image 32 = .ok (.bastore, 1) := by decide +kernel
theorem dX10_image_33 : decode cX10_image 33 = .ok (.iconst 1, 1) := by decide +kernel
theorem dX10_image_34 : decode cX10_image 34 = .ok (.ireturn, 1) := by decide +kernel
set_option maxRecDepth 20000 in
theorem ggX10_from_X10_isBelow : GoodIn wsX10_from wsX10_isBelow := goodIn_r _ [7] (by decide +kernel) (by decide +kernel)
set_option maxRecDepth 20000 in
theorem gX10_from_X10_isBelow : GoodIn wsX10_from (va_wsS RX10 86 yX10_isBelow wsX10_isBelow) := goodIn_app (goodIn_of _ (by decide +kernel)) ggX10_from_X10_isBelow
set_option maxRecDepth 20000 in
theorem ggX10_from_X10_refuseBad : GoodIn wsX10_from wsX10_refuseBad := goodIn_r _ [11, 12, 48, 49, 50, 51, 52, 53, 54, 55, 56, 57, 58, 59] (by decide +kernel) (by decide +kernel)
set_option maxRecDepth 20000 in
theorem gX10_from_X10_refuseBad : GoodIn wsX10_from (wsV RX10 90 RX10 yX10_refuseBad wsX10_refuseBad) := goodIn_app (goodIn_of _ (by decide +kernel)) ggX10_from_X10_refuseBad
set_option maxRecDepth 20000 in
theorem ggX10_from_X10_refuseNo : GoodIn wsX10_from wsX10_refuseNo := goodIn_r _ [16, 12, 48, 49, 50, 51, 52, 53, 54, 55, 56, 57, 58, 59] (by decide +kernel) (by decide +kernel)
set_option maxRecDepth 20000 in
theorem gX10_from_X10_refuseNo : GoodIn wsX10_from (wsV RX10 154 RX10 yX10_refuseNo wsX10_refuseNo) := goodIn_app (goodIn_of _ (by decide +kernel)) ggX10_from_X10_refuseNo
set_option maxRecDepth 20000 in
theorem ggX10_from_X4_become : GoodIn wsX10_from wsX4_become := goodIn_r _ [21, 22, 23, 24, 25, 26, 27, 28, 29, 30, 31, 32, 33, 34, 35, 36, 37, 38, 39, 40, 41, 42, 43, 44, 45, 46, 47, 60, 61, 62, 63, 64, 65, 66, 67, 68, 69, 70, 71, 72, 73, 74, 75, 76] (by decide +kernel) (by decide +kernel)
set_option maxRecDepth 20000 in
theorem gX10_from_X4_become : GoodIn wsX10_from (wsV RX10 280 RX4 yX4_become wsX4_become) := goodIn_app (goodIn_of _ (by decide +kernel)) ggX10_from_X4_become
theorem dX10_from_0 : decode cX10_from 0 = .ok (.iload_n 1, 1) := by decide +kernel
theorem dX10_from_1 : decode cX10_from 1 = .ok (.iconst 2, 1) := by decide +kernel
theorem dX10_from_2 : decode cX10_from 2 = .ok (.invokestatic 86, 3) := by decide +kernel
theorem dX10_from_5 : decode cX10_from 5 = .ok (.ifCond .ne 8, 3) := by decide +kernel
theorem dX10_from_8 : decode cX10_from 8 = .ok (.aload_n 0, 1) := by decide +kernel
theorem dX10_from_9 : decode cX10_from 9 = .ok (.invokevirtual 90, 3) := by decide +kernel
theorem dX10_from_12 : decode cX10_from 12 = .ok (.ireturn, 1) := by decide +kernel
theorem dX10_from_13 : decode cX10_from 13 = .ok (.aload_n 0, 1) := by decide +kernel
theorem dX10_from_14 : decode cX10_from 14 = .ok (.getfield 44, 3) := by decide +kernel
theorem dX10_from_17 : decode cX10_from 17 = .ok (.iload_n 1, 1) := by decide +kernel
theorem dX10_from_18 : decode cX10_from 18 = .ok (.baload, 1) := by decide +kernel
theorem dX10_from_19 : decode cX10_from 19 = .ok (.ifCond .ne 8, 3) := by decide +kernel
theorem dX10_from_22 : decode cX10_from 22 = .ok (.aload_n 0, 1) := by decide +kernel
theorem dX10_from_23 : decode cX10_from 23 = .ok (.invokevirtual 154, 3) := by decide +kernel
theorem dX10_from_26 : decode cX10_from 26 = .ok (.ireturn, 1) := by decide +kernel
theorem dX10_from_27 : decode cX10_from 27 = .ok (.aload_n 0, 1) := by decide +kernel
theorem dX10_from_28 : decode cX10_from 28 = .ok (.getfield 36, 3) := by decide +kernel
theorem dX10_from_31 : decode cX10_from 31 = .ok (.aload_n 0, 1) := by decide +kernel
theorem dX10_from_32 : decode cX10_from 32 = .ok (.getfield 40, 3) := by decide +kernel
theorem dX10_from_35 : decode cX10_from 35 = .ok (.iload_n 1, 1) := by decide +kernel
theorem dX10_from_36 : decode cX10_from 36 = .ok (.aaload, 1) := by decide +kernel
theorem dX10_from_37 : decode cX10_from 37 = .ok (.invokevirtual 280, 3) := by decide +kernel
theorem dX10_from_40 : decode cX10_from 40 = .ok (.iconst 1, 1) := by decide +kernel
theorem dX10_from_41 : decode cX10_from 41 = .ok (.ireturn, 1) := by decide +kernel
set_option maxRecDepth 20000 in
theorem ggX10_status_X10_isBelow : GoodIn wsX10_status wsX10_isBelow := goodIn_r _ [5] (by decide +kernel) (by decide +kernel)
set_option maxRecDepth 20000 in
theorem gX10_status_X10_isBelow : GoodIn wsX10_status (va_wsS RX10 86 yX10_isBelow wsX10_isBelow) := goodIn_app (goodIn_of _ (by decide +kernel)) ggX10_status_X10_isBelow
set_option maxRecDepth 20000 in
theorem ggX10_status_X10_refuseBad : GoodIn wsX10_status wsX10_refuseBad := goodIn_r _ [9, 1, 10, 11, 12, 13, 14, 15, 16, 17, 18, 19, 20, 21] (by decide +kernel) (by decide +kernel)
set_option maxRecDepth 20000 in
theorem gX10_status_X10_refuseBad : GoodIn wsX10_status (wsV RX10 90 RX10 yX10_refuseBad wsX10_refuseBad) := goodIn_app (goodIn_of _ (by decide +kernel)) ggX10_status_X10_refuseBad
theorem dX10_status_0 : decode cX10_status 0 = .ok (.iload_n 1, 1) := by decide +kernel
theorem dX10_status_1 : decode cX10_status 1 = .ok (.iconst 3, 1) := by decide +kernel
theorem dX10_status_2 : decode cX10_status 2 = .ok (.invokestatic 86, 3) := by decide +kernel
theorem dX10_status_5 : decode cX10_status 5 = .ok (.ifCond .ne 10, 3) := by decide +kernel
theorem dX10_status_8 : decode cX10_status 8 = .ok (.aload_n 0, 1) := by decide +kernel
theorem dX10_status_9 : decode cX10_status 9 = .ok (.invokevirtual 90, 3) := by decide +kernel
theorem dX10_status_12 : decode cX10_status 12 = .ok (.pop, 1) := by decide +kernel
theorem dX10_status_13 : decode cX10_status 13 = .ok (.iconst (-1), 1) := by decide +kernel
theorem dX10_status_14 : decode cX10_status 14 = .ok (.ireturn, 1) := by decide +kernel
theorem dX10_status_15 : decode cX10_status 15 = .ok (.aload_n 0, 1) := by decide +kernel
theorem dX10_status_16 : decode cX10_status 16 = .ok (.getfield 76, 3) := by decide +kernel
theorem dX10_status_19 : decode cX10_status 19 = .ok (.iload_n 1, 1) := by decide +kernel
theorem dX10_status_20 : decode cX10_status 20 = .ok (.iaload, 1) := by decide +kernel
theorem dX10_status_21 : decode cX10_status 21 = .ok (.ireturn, 1) := by decide +kernel
set_option maxRecDepth 20000 in
theorem ggX10_count_X10_isBelow : GoodIn wsX10_count wsX10_isBelow := goodIn_r _ [4] (by decide +kernel) (by decide +kernel)
set_option maxRecDepth 20000 in
theorem gX10_count_X10_isBelow : GoodIn wsX10_count (va_wsS RX10 86 yX10_isBelow wsX10_isBelow) := goodIn_app (goodIn_of _ (by decide +kernel)) ggX10_count_X10_isBelow
set_option maxRecDepth 20000 in
theorem ggX10_count_X10_refuseBad : GoodIn wsX10_count wsX10_refuseBad := goodIn_r _ [8, 9, 26, 27, 28, 29, 30, 31, 32, 33, 34, 35, 36, 37] (by decide +kernel) (by decide +kernel)
set_option maxRecDepth 20000 in
theorem gX10_count_X10_refuseBad : GoodIn wsX10_count (wsV RX10 90 RX10 yX10_refuseBad wsX10_refuseBad) := goodIn_app (goodIn_of _ (by decide +kernel)) ggX10_count_X10_refuseBad
set_option maxRecDepth 20000 in
theorem ggX10_count_X10_howMany : GoodIn wsX10_count wsX10_howMany := goodIn_r _ [13, 14, 15, 16, 17, 18, 19, 20, 21, 22, 23, 24, 25, 26, 27, 28, 29, 30, 31, 32, 33, 34, 35, 36, 37, 38, 39, 40, 41, 42, 43, 44, 45, 46, 47, 48, 49, 50, 51, 52, 53, 54, 55, 56, 57, 58, 59, 60, 61, 62, 63, 64, 65, 66] (by decide +kernel) (by decide +kernel)
set_option maxRecDepth 20000 in
theorem gX10_count_X10_howMany : GoodIn wsX10_count (wsV RX10 283 RX10 yX10_howMany wsX10_howMany) := goodIn_app (goodIn_of _ (by decide +kernel)) ggX10_count_X10_howMany
theorem dX10_count_0 : decode cX10_count 0 = .ok (.iload_n 1, 1) := by decide +kernel
theorem dX10_count_1 : decode cX10_count 1 = .ok (.bipush 9, 2) := by decide +kernel
theorem dX10_count_3 : decode cX10_count 3 = .ok (.invokestatic 86, 3) := by decide +kernel
theorem dX10_count_6 : decode cX10_count 6 = .ok (.ifCond .ne 8, 3) := by decide +kernel
theorem dX10_count_9 : decode cX10_count 9 = .ok (.aload_n 0, 1) := by decide +kernel
theorem dX10_count_10 : decode cX10_count 10 = .ok (.invokevirtual 90, 3) := by decide +kernel
theorem dX10_count_13 : decode cX10_count 13 = .ok (.ireturn, 1) := by decide +kernel
theorem dX10_count_14 : decode cX10_count 14 = .ok (.aload_n 0, 1) := by decide +kernel
theorem dX10_count_15 : decode cX10_count 15 = .ok (.iload_n 1, 1) := by decide +kernel
theorem dX10_count_16 : decode cX10_count 16 = .ok (.invokevirtual 283, 3) := by decide +kernel
theorem dX10_count_19 : decode cX10_count 19 = .ok (.ireturn, 1) := by decide +kernel
set_option maxRecDepth 20000 in
theorem ggX10_digest_X10_howMany : GoodIn wsX10_digest wsX10_howMany := goodIn_r _ [20, 2, 3, 7, 5, 21, 22, 23, 10, 12, 24, 25, 26, 34, 35, 36, 37, 38, 39, 40, 41, 42, 43, 44, 45, 46, 47, 48, 49, 50, 51, 52, 53, 54, 55, 56, 57, 58, 59, 60, 61, 62, 63, 64, 65, 66, 67, 68, 69, 70, 71, 72, 73, 74] (by decide +kernel) (by decide +kernel)
set_option maxRecDepth 20000 in
theorem gX10_digest_X10_howMany : GoodIn wsX10_digest (wsV RX10 283 RX10 yX10_howMany wsX10_howMany) := goodIn_app (goodIn_of _ (by decide +kernel)) ggX10_digest_X10_howMany
set_option maxRecDepth 20000 in
theorem ggX10_digest_X10_mix : GoodIn wsX10_digest wsX10_mix := goodIn_r _ [29, 30] (by decide +kernel) (by decide +kernel)
set_option maxRecDepth 20000 in
theorem gX10_digest_X10_mix : GoodIn wsX10_digest (va_wsS RX10 288 yX10_mix wsX10_mix) := goodIn_app (goodIn_of _ (by decide +kernel)) ggX10_digest_X10_mix
set_option maxRecDepth 20000 in
theorem ggX10_digest_X10_mixRow : GoodIn wsX10_digest wsX10_mixRow := goodIn_r _ [33, 27, 28, 19, 29, 30] (by decide +kernel) (by decide +kernel)
set_option maxRecDepth 20000 in
theorem gX10_digest_X10_mixRow : GoodIn wsX10_digest (va_wsS RX10 296 yX10_mixRow wsX10_mixRow) := goodIn_app (goodIn_of _ (by decide +kernel)) ggX10_digest_X10_mixRow
theorem dX10_digest_0 : decode cX10_digest 0 = .ok (.ldc2_w 286, 3) := by decide +kernel
theorem dX10_digest_3 : decode cX10_digest 3 = .ok (.lstore_n 1, 1) := by decide +kernel
theorem dX10_digest_4 : decode cX10_digest 4 = .ok (.iconst 0, 1) := by decide +kernel
theorem dX10_digest_5 : decode cX10_digest 5 = .ok (.istore_n 3, 1) := by decide +kernel
theorem dX10_digest_6 : decode cX10_digest 6 = .ok (.iload_n 3, 1) := by decide +kernel
theorem dX10_digest_7 : decode cX10_digest 7 = .ok (.bipush 9, 2) := by decide +kernel
theorem dX10_digest_9 : decode cX10_digest 9 = .ok (.if_icmp .ge 20, 3) := by decide +kernel
theorem dX10_digest_12 : decode cX10_digest 12 = .ok (.lload_n 1, 1) := by decide +kernel
theorem dX10_digest_13 : decode cX10_digest 13 = .ok (.aload_n 0, 1) := by decide +kernel
theorem dX10_digest_14 : decode cX10_digest 14 = .ok (.iload_n 3, 1) := by decide +kernel
theorem dX10_digest_15 : decode cX10_digest 15 = .ok (.invokevirtual 283, 3) := by decide +kernel
theorem dX10_digest_18 : decode cX10_digest 18 = .ok (.i2l, 1) := by decide +kernel
theorem dX10_digest_19 : decode cX10_digest 19 = .ok (.invokestatic 288, 3) := by decide +kernel
theorem dX10_digest_22 : decode cX10_digest 22 = .ok (.lstore_n 1, 1) := by decide +kernel
theorem dX10_digest_23 : decode cX10_digest 23 = .ok (.iinc 3 1, 3) := by decide +kernel
theorem dX10_digest_26 : decode cX10_digest 26 = .ok (.goto (-20), 3) := by decide +kernel
theorem dX10_digest_29 : decode cX10_digest 29 = .ok (.iconst 0, 1) := by decide +kernel
theorem dX10_digest_30 : decode cX10_digest 30 = .ok (.istore_n 3, 1) := by decide +kernel
theorem dX10_digest_31 : decode cX10_digest 31 = .ok (.iload_n 3, 1) := by decide +kernel
theorem dX10_digest_32 : decode cX10_digest 32 = .ok (.aload_n 0, 1) := by decide +kernel
theorem dX10_digest_33 : decode cX10_digest 33 = .ok (.getfield 36, 3) := by decide +kernel
theorem dX10_digest_36 : decode cX10_digest 36 = .ok (.getfield 94, 3) := by decide +kernel
theorem dX10_digest_39 : decode cX10_digest 39 = .ok (.if_icmp .ge 40, 3) := by decide +kernel
theorem dX10_digest_42 : decode cX10_digest 42 = .ok (.lload_n 1, 1) := by decide +kernel
theorem dX10_digest_43 : decode cX10_digest 43 = .ok (.aload_n 0, 1) := by decide +kernel
theorem dX10_digest_44 : decode cX10_digest 44 = .ok (.getfield 36, 3) := by decide +kernel
theorem dX10_digest_47 : decode cX10_digest 47 = .ok (.getfield 182, 3) := by decide +kernel
theorem dX10_digest_50 : decode cX10_digest 50 = .ok (.iload_n 3, 1) := by decide +kernel
theorem dX10_digest_51 : decode cX10_digest 51 = .ok (.iaload, 1) := by decide +kernel
theorem dX10_digest_52 : decode cX10_digest 52 = .ok (.i2l, 1) := by decide +kernel
theorem dX10_digest_53 : decode cX10_digest 53 = .ok (.invokestatic 288, 3) := by decide +kernel
theorem dX10_digest_56 : decode cX10_digest 56 = .ok (.aload_n 0, 1) := by decide +kernel
theorem dX10_digest_57 : decode cX10_digest 57 = .ok (.getfield 36, 3) := by decide +kernel
theorem dX10_digest_60 : decode cX10_digest 60 = .ok (.getfield 140, 3) := by decide +kernel
theorem dX10_digest_63 : decode cX10_digest 63 = .ok (.getfield 185, 3) := by decide +kernel
theorem dX10_digest_66 : decode cX10_digest 66 = .ok (.iload_n 3, 1) := by decide +kernel
theorem dX10_digest_67 : decode cX10_digest 67 = .ok (.iaload, 1) := by decide +kernel
theorem dX10_digest_68 : decode cX10_digest 68 = .ok (.i2l, 1) := by decide +kernel
theorem dX10_digest_69 : decode cX10_digest 69 = .ok (.invokestatic 288, 3) := by decide +kernel
theorem dX10_digest_72 : decode cX10_digest 72 = .ok (.lstore_n 1, 1) := by decide +kernel
theorem dX10_digest_73 : decode cX10_digest 73 = .ok (.iinc 3 1, 3) := by decide +kernel
theorem dX10_digest_76 : decode cX10_digest 76 = .ok (.goto (-45), 3) := by decide +kernel
theorem dX10_digest_79 : decode cX10_digest 79 = .ok (.iconst 0, 1) := by decide +kernel
theorem dX10_digest_80 : decode cX10_digest 80 = .ok (.istore_n 3, 1) := by decide +kernel
theorem dX10_digest_81 : decode cX10_digest 81 = .ok (.iload_n 3, 1) := by decide +kernel
theorem dX10_digest_82 : decode cX10_digest 82 = .ok (.aload_n 0, 1) := by decide +kernel
theorem dX10_digest_83 : decode cX10_digest 83 = .ok (.getfield 36, 3) := by decide +kernel
theorem dX10_digest_86 : decode cX10_digest 86 = .ok (.getfield 115, 3) := by decide +kernel
theorem dX10_digest_89 : decode cX10_digest 89 = .ok (.if_icmp .ge 43, 3) := by decide +kernel
theorem dX10_digest_92 : decode cX10_digest 92 = .ok (.lload_n 1, 1) := by decide +kernel
theorem dX10_digest_93 : decode cX10_digest 93 = .ok (.aload_n 0, 1) := by decide +kernel
theorem dX10_digest_94 : decode cX10_digest 94 = .ok (.getfield 36, 3) := by decide +kernel
theorem dX10_digest_97 : decode cX10_digest 97 = .ok (.getfield 140, 3) := by decide +kernel
theorem dX10_digest_100 : decode cX10_digest 100 = .ok (.getfield 170, 3) := by decide +kernel
theorem dX10_digest_103 : decode cX10_digest 103 = .ok (.iload_n 3, 1) := by decide +kernel
theorem dX10_digest_104 : decode cX10_digest 104 = .ok (.iaload, 1) := by decide +kernel
theorem dX10_digest_105 : decode cX10_digest 105 = .ok (.i2l, 1) := by decide +kernel
theorem dX10_digest_106 : decode cX10_digest 106 = .ok (.invokestatic 288, 3) := by decide +kernel
theorem dX10_digest_109 : decode cX10_digest 109 = .ok (.aload_n 0, 1) := by decide +kernel
theorem dX10_digest_110 : decode cX10_digest 110 = .ok (.getfield 36, 3) := by decide +kernel
theorem dX10_digest_113 : decode cX10_digest 113 = .ok (.getfield 140, 3) := by decide +kernel
theorem dX10_digest_116 : decode cX10_digest 116 = .ok (.getfield 191, 3) := by decide +kernel
theorem dX10_digest_119 : decode cX10_digest 119 = .ok (.iload_n 3, 1) := by decide +kernel
theorem dX10_digest_120 : decode cX10_digest 120 = .ok (.iaload, 1) := by decide +kernel
theorem dX10_digest_121 : decode cX10_digest 121 = .ok (.i2l, 1) := by decide +kernel
theorem dX10_digest_122 : decode cX10_digest 122 = .ok (.invokestatic 288, 3) := by decide +kernel
theorem dX10_digest_125 : decode cX10_digest 125 = .ok (.lstore_n 1, 1) := by decide +kernel
theorem dX10_digest_126 : decode cX10_digest 126 = .ok (.iinc 3 1, 3) := by decide +kernel
theorem dX10_digest_129 : decode cX10_digest 129 = .ok (.goto (-48), 3) := by decide +kernel
theorem dX10_digest_132 : decode cX10_digest 132 = .ok (.iconst 0, 1) := by decide +kernel
theorem dX10_digest_133 : decode cX10_digest 133 = .ok (.istore_n 3, 1) := by decide +kernel
theorem dX10_digest_134 : decode cX10_digest 134 = .ok (.iload_n 3, 1) := by decide +kernel
theorem dX10_digest_135 : decode cX10_digest 135 = .ok (.aload_n 0, 1) := by decide +kernel
theorem dX10_digest_136 : decode cX10_digest 136 = .ok (.getfield 36, 3) := by decide +kernel
theorem dX10_digest_139 : decode cX10_digest 139 = .ok (.getfield 240, 3) := by decide +kernel
theorem dX10_digest_142 : decode cX10_digest 142 = .ok (.if_icmp .ge 23, 3) := by decide +kernel
theorem dX10_digest_145 : decode cX10_digest 145 = .ok (.lload_n 1, 1) := by decide +kernel
theorem dX10_digest_146 : decode cX10_digest 146 = .ok (.aload_n 0, 1) := by decide +kernel
theorem dX10_digest_147 : decode cX10_digest 147 = .ok (.getfield 36, 3) := by decide +kernel
theorem dX10_digest_150 : decode cX10_digest 150 = .ok (.getfield 292, 3) := by decide +kernel
theorem dX10_digest_153 : decode cX10_digest 153 = .ok (.iload_n 3, 1) := by decide +kernel
theorem dX10_digest_154 : decode cX10_digest 154 = .ok (.aaload, 1) := by decide +kernel
theorem dX10_digest_155 : decode cX10_digest 155 = .ok (.invokestatic 296, 3) := by decide +kernel
theorem dX10_digest_158 : decode cX10_digest 158 = .ok (.lstore_n 1, 1) := by decide +kernel
theorem dX10_digest_159 : decode cX10_digest 159 = .ok (.iinc 3 1, 3) := by decide +kernel
theorem dX10_digest_162 : decode cX10_digest 162 = .ok (.goto (-28), 3) := by decide +kernel
theorem dX10_digest_165 : decode cX10_digest 165 = .ok (.iconst 0, 1) := by decide +kernel
theorem dX10_digest_166 : decode cX10_digest 166 = .ok (.istore_n 3, 1) := by decide +kernel
theorem dX10_digest_167 : decode cX10_digest 167 = .ok (.iload_n 3, 1) := by decide +kernel
theorem dX10_digest_168 : decode cX10_digest 168 = .ok (.aload_n 0, 1) := by decide +kernel
theorem dX10_digest_169 : decode cX10_digest 169 = .ok (.getfield 36, 3) := by decide +kernel
theorem dX10_digest_172 : decode cX10_digest 172 = .ok (.getfield 250, 3) := by decide +kernel
theorem dX10_digest_175 : decode cX10_digest 175 = .ok (.if_icmp .ge 23, 3) := by decide +kernel
theorem dX10_digest_178 : decode cX10_digest 178 = .ok (.lload_n 1, 1) := by decide +kernel
theorem dX10_digest_179 : decode cX10_digest 179 = .ok (.aload_n 0, 1) := by decide +kernel
theorem dX10_digest_180 : decode cX10_digest 180 = .ok (.getfield 36, 3) := by decide +kernel
theorem dX10_digest_183 : decode cX10_digest 183 = .ok (.getfield 300, 3) := by decide +kernel
theorem dX10_digest_186 : decode cX10_digest 186 = .ok (.iload_n 3, 1) := by decide +kernel
theorem dX10_digest_187 : decode cX10_digest 187 = .ok (.aaload, 1) := by decide +kernel
theorem dX10_digest_188 : decode cX10_digest 188 = .ok (.invokestatic 296, 3) := by decide +kernel
theorem dX10_digest_191 : decode cX10_digest 191 = .ok (.lstore_n 1, 1) := by decide +kernel
theorem dX10_digest_192 : decode cX10_digest 192 = .ok (.iinc 3 1, 3) := by decide +kernel
theorem dX10_digest_195 : decode cX10_digest 195 = .ok (.goto (-28), 3) := by decide +kernel
theorem dX10_digest_198 : decode cX10_digest 198 = .ok (.lload_n 1, 1) := by decide +kernel
theorem dX10_digest_199 : decode cX10_digest 199 = .ok (.aload_n 0, 1) := by decide +kernel
theorem dX10_digest_200 : decode cX10_digest 200 = .ok (.getfield 79, 3) := by decide +kernel
theorem dX10_digest_203 : decode cX10_digest 203 = .ok (.i2l, 1) := by decide +kernel
theorem dX10_digest_204 : decode cX10_digest 204 = .ok (.invokestatic 288, 3) := by decide +kernel
theorem dX10_digest_207 : decode cX10_digest 207 = .ok (.aload_n 0, 1) := by decide +kernel
theorem dX10_digest_208 : decode cX10_digest 208 = .ok (.getfield 83, 3) := by decide +kernel
theorem dX10_digest_211 : decode cX10_digest 211 = .ok (.i2l, 1) := by decide +kernel
theorem dX10_digest_212 : decode cX10_digest 212 = .ok (.invokestatic 288, 3) := by decide +kernel
theorem dX10_digest_215 : decode cX10_digest 215 = .ok (.lreturn, 1) := by decide +kernel
theorem dX10_refuseBad_0 : decode cX10_refuseBad 0 = .ok (.aload_n 0, 1) := by decide +kernel
theorem dX10_refuseBad_1 : decode cX10_refuseBad 1 = .ok (.getfield 76, 3) := by decide +kernel
theorem dX10_refuseBad_4 : decode cX10_refuseBad 4 = .ok (.iconst 0, 1) := by decide +kernel
theorem dX10_refuseBad_5 : decode cX10_refuseBad 5 = .ok (.dup2, 1) := by decide +kernel
theorem dX10_refuseBad_6 : decode cX10_refuseBad 6 = .ok (.iaload, 1) := by decide +kernel
theorem dX10_refuseBad_7 : decode cX10_refuseBad 7 = .ok (.iconst 1, 1) := by decide +kernel
theorem dX10_refuseBad_8 : decode cX10_refuseBad 8 = .ok (.iadd, 1) := by decide +kernel
theorem dX10_refuseBad_9 : decode cX10_refuseBad 9 = .ok (.iastore, 1) := by decide +kernel
theorem dX10_refuseBad_10 : decode cX10_refuseBad 10 = .ok (.bipush (-2), 2) := by decide +kernel
theorem dX10_refuseBad_12 : decode cX10_refuseBad 12 = .ok (.ireturn, 1) := by decide +kernel
theorem dX10_refuseNo_0 : decode cX10_refuseNo 0 = .ok (.aload_n 0, 1) := by decide +kernel
theorem dX10_refuseNo_1 : decode cX10_refuseNo 1 = .ok (.getfield 76, 3) := by decide +kernel
theorem dX10_refuseNo_4 : decode cX10_refuseNo 4 = .ok (.iconst 1, 1) := by decide +kernel
theorem dX10_refuseNo_5 : decode cX10_refuseNo 5 = .ok (.dup2, 1) := by decide +kernel
theorem dX10_refuseNo_6 : decode cX10_refuseNo 6 = .ok (.iaload, 1) := by decide +kernel
theorem dX10_refuseNo_7 : decode cX10_refuseNo 7 = .ok (.iconst 1, 1) := by decide +kernel
theorem dX10_refuseNo_8 : decode cX10_refuseNo 8 = .ok (.iadd, 1) := by decide +kernel
theorem dX10_refuseNo_9 : decode cX10_refuseNo 9 = .ok (.iastore, 1) := by decide +kernel
theorem dX10_refuseNo_10 : decode cX10_refuseNo 10 = .ok (.bipush (-3), 2) := by decide +kernel
theorem dX10_refuseNo_12 : decode cX10_refuseNo 12 = .ok (.ireturn, 1) := by decide +kernel
theorem dX10_refuseFull_0 : decode cX10_refuseFull 0 = .ok (.aload_n 0, 1) := by decide +kernel
theorem dX10_refuseFull_1 : decode cX10_refuseFull 1 = .ok (.getfield 76, 3) := by decide +kernel
theorem dX10_refuseFull_4 : decode cX10_refuseFull 4 = .ok (.iconst 2, 1) := by decide +kernel
theorem dX10_refuseFull_5 : decode cX10_refuseFull 5 = .ok (.dup2, 1) := by decide +kernel
theorem dX10_refuseFull_6 : decode cX10_refuseFull 6 = .ok (.iaload, 1) := by decide +kernel
theorem dX10_refuseFull_7 : decode cX10_refuseFull 7 = .ok (.iconst 1, 1) := by decide +kernel
theorem dX10_refuseFull_8 : decode cX10_refuseFull 8 = .ok (.iadd, 1) := by decide +kernel
theorem dX10_refuseFull_9 : decode cX10_refuseFull 9 = .ok (.iastore, 1) := by decide +kernel
theorem dX10_refuseFull_10 : decode cX10_refuseFull 10 = .ok (.bipush (-4), 2) := by decide +kernel
theorem dX10_refuseFull_12 : decode cX10_refuseFull 12 = .ok (.ireturn, 1) := by decide +kernel
theorem dX10_refuseTen_0 : decode cX10_refuseTen 0 = .ok (.aload_n 0, 1) := by decide +kernel
theorem dX10_refuseTen_1 : decode cX10_refuseTen 1 = .ok (.getfield 76, 3) := by decide +kernel
theorem dX10_refuseTen_4 : decode cX10_refuseTen 4 = .ok (.iconst 0, 1) := by decide +kernel
theorem dX10_refuseTen_5 : decode cX10_refuseTen 5 = .ok (.dup2, 1) := by decide +kernel
theorem dX10_refuseTen_6 : decode cX10_refuseTen 6 = .ok (.iaload, 1) := by decide +kernel
theorem dX10_refuseTen_7 : decode cX10_refuseTen 7 = .ok (.iconst 1, 1) := by decide +kernel
theorem dX10_refuseTen_8 : decode cX10_refuseTen 8 = .ok (.iadd, 1) := by decide +kernel
theorem dX10_refuseTen_9 : decode cX10_refuseTen 9 = .ok (.iastore, 1) := by decide +kernel
theorem dX10_refuseTen_10 : decode cX10_refuseTen 10 = .ok (.bipush (-10), 2) := by decide +kernel
theorem dX10_refuseTen_12 : decode cX10_refuseTen 12 = .ok (.ireturn, 1) := by decide +kernel
theorem dX10_isIn_0 : decode cX10_isIn 0 = .ok (.iload_n 0, 1) := by decide +kernel
theorem dX10_isIn_1 : decode cX10_isIn 1 = .ok (.iload_n 1, 1) := by decide +kernel
theorem dX10_isIn_2 : decode cX10_isIn 2 = .ok (.if_icmp .lt 12, 3) := by decide +kernel
theorem dX10_isIn_5 : decode cX10_isIn 5 = .ok (.iload_n 0, 1) := by decide +kernel
theorem dX10_isIn_6 : decode cX10_isIn 6 = .ok (.iload_n 2, 1) := by decide +kernel
theorem dX10_isIn_7 : decode cX10_isIn 7 = .ok (.if_icmp .gt 7, 3) := by decide +kernel
theorem dX10_isIn_10 : decode cX10_isIn 10 = .ok (.iconst 1, 1) := by decide +kernel
theorem dX10_isIn_11 : decode cX10_isIn 11 = .ok (.goto 4, 3) := by decide +kernel
theorem dX10_isIn_14 : decode cX10_isIn 14 = .ok (.iconst 0, 1) := by decide +kernel
theorem dX10_isIn_15 : decode cX10_isIn 15 = .ok (.ireturn, 1) := by decide +kernel
theorem dX10_isBelow_0 : decode cX10_isBelow 0 = .ok (.iload_n 0, 1) := by decide +kernel
theorem dX10_isBelow_1 : decode cX10_isBelow 1 = .ok (.ifCond .lt 12, 3) := by decide +kernel
theorem dX10_isBelow_4 : decode cX10_isBelow 4 = .ok (.iload_n 0, 1) := by decide +kernel
theorem dX10_isBelow_5 : decode cX10_isBelow 5 = .ok (.iload_n 1, 1) := by decide +kernel
theorem dX10_isBelow_6 : decode cX10_isBelow 6 = .ok (.if_icmp .ge 7, 3) := by decide +kernel
theorem dX10_isBelow_9 : decode cX10_isBelow 9 = .ok (.iconst 1, 1) := by decide +kernel
theorem dX10_isBelow_10 : decode cX10_isBelow 10 = .ok (.goto 4, 3) := by decide +kernel
theorem dX10_isBelow_13 : decode cX10_isBelow 13 = .ok (.iconst 0, 1) := by decide +kernel
theorem dX10_isBelow_14 : decode cX10_isBelow 14 = .ok (.ireturn, 1) := by decide +kernel
set_option maxRecDepth 20000 in
theorem ggX10_isLight_X10_isIn : GoodIn wsX10_isLight wsX10_isIn := goodIn_r _ [4] (by decide +kernel) (by decide +kernel)
set_option maxRecDepth 20000 in
theorem gX10_isLight_X10_isIn : GoodIn wsX10_isLight (va_wsS RX10 147 yX10_isIn wsX10_isIn) := goodIn_app (goodIn_of _ (by decide +kernel)) ggX10_isLight_X10_isIn
theorem dX10_isLight_0 : decode cX10_isLight 0 = .ok (.iload_n 0, 1) := by decide +kernel
theorem dX10_isLight_1 : decode cX10_isLight 1 = .ok (.iconst 0, 1) := by decide +kernel
theorem dX10_isLight_2 : decode cX10_isLight 2 = .ok (.bipush 60, 2) := by decide +kernel
theorem dX10_isLight_4 : decode cX10_isLight 4 = .ok (.invokestatic 147, 3) := by decide +kernel
theorem dX10_isLight_7 : decode cX10_isLight 7 = .ok (.ireturn, 1) := by decide +kernel
theorem dX10_howMany_0 : decode cX10_howMany 0 = .ok (.iload_n 1, 1) := by decide +kernel
theorem dX10_howMany_1 : decode cX10_howMany 1 = .ok (.tableswitch 120 0 7 #[47, 55, 63, 74, 85, 96, 104, 112], 47) := by decide +kernel
theorem dX10_howMany_48 : decode cX10_howMany 48 = .ok (.aload_n 0, 1) := by decide +kernel
theorem dX10_howMany_49 : decode cX10_howMany 49 = .ok (.getfield 36, 3) := by decide +kernel
theorem dX10_howMany_52 : decode cX10_howMany 52 = .ok (.getfield 94, 3) := by decide +kernel
theorem dX10_howMany_55 : decode cX10_howMany 55 = .ok (.ireturn, 1) := by decide +kernel
theorem dX10_howMany_56 : decode cX10_howMany 56 = .ok (.aload_n 0, 1) := by decide +kernel
theorem dX10_howMany_57 : decode cX10_howMany 57 = .ok (.getfield 36, 3) := by decide +kernel
theorem dX10_howMany_60 : decode cX10_howMany 60 = .ok (.getfield 115, 3) := by decide +kernel
theorem dX10_howMany_63 : decode cX10_howMany 63 = .ok (.ireturn, 1) := by decide +kernel
theorem dX10_howMany_64 : decode cX10_howMany 64 = .ok (.aload_n 0, 1) := by decide +kernel
theorem dX10_howMany_65 : decode cX10_howMany 65 = .ok (.getfield 36, 3) := by decide +kernel
theorem dX10_howMany_68 : decode cX10_howMany 68 = .ok (.getfield 140, 3) := by decide +kernel
theorem dX10_howMany_71 : decode cX10_howMany 71 = .ok (.getfield 151, 3) := by decide +kernel
theorem dX10_howMany_74 : decode cX10_howMany 74 = .ok (.ireturn, 1) := by decide +kernel
theorem dX10_howMany_75 : decode cX10_howMany 75 = .ok (.aload_n 0, 1) := by decide +kernel
theorem dX10_howMany_76 : decode cX10_howMany 76 = .ok (.getfield 36, 3) := by decide +kernel
theorem dX10_howMany_79 : decode cX10_howMany 79 = .ok (.getfield 140, 3) := by decide +kernel
theorem dX10_howMany_82 : decode cX10_howMany 82 = .ok (.getfield 173, 3) := by decide +kernel
theorem dX10_howMany_85 : decode cX10_howMany 85 = .ok (.ireturn, 1) := by decide +kernel
theorem dX10_howMany_86 : decode cX10_howMany 86 = .ok (.aload_n 0, 1) := by decide +kernel
theorem dX10_howMany_87 : decode cX10_howMany 87 = .ok (.getfield 36, 3) := by decide +kernel
theorem dX10_howMany_90 : decode cX10_howMany 90 = .ok (.getfield 140, 3) := by decide +kernel
theorem dX10_howMany_93 : decode cX10_howMany 93 = .ok (.getfield 164, 3) := by decide +kernel
theorem dX10_howMany_96 : decode cX10_howMany 96 = .ok (.ireturn, 1) := by decide +kernel
theorem dX10_howMany_97 : decode cX10_howMany 97 = .ok (.aload_n 0, 1) := by decide +kernel
theorem dX10_howMany_98 : decode cX10_howMany 98 = .ok (.getfield 36, 3) := by decide +kernel
theorem dX10_howMany_101 : decode cX10_howMany 101 = .ok (.getfield 240, 3) := by decide +kernel
theorem dX10_howMany_104 : decode cX10_howMany 104 = .ok (.ireturn, 1) := by decide +kernel
theorem dX10_howMany_105 : decode cX10_howMany 105 = .ok (.aload_n 0, 1) := by decide +kernel
theorem dX10_howMany_106 : decode cX10_howMany 106 = .ok (.getfield 36, 3) := by decide +kernel
theorem dX10_howMany_109 : decode cX10_howMany 109 = .ok (.getfield 250, 3) := by decide +kernel
theorem dX10_howMany_112 : decode cX10_howMany 112 = .ok (.ireturn, 1) := by decide +kernel
theorem dX10_howMany_113 : decode cX10_howMany 113 = .ok (.aload_n 0, 1) := by decide +kernel
theorem dX10_howMany_114 : decode cX10_howMany 114 = .ok (.getfield 36, 3) := by decide +kernel
theorem dX10_howMany_117 : decode cX10_howMany 117 = .ok (.getfield 176, 3) := by decide +kernel
theorem dX10_howMany_120 : decode cX10_howMany 120 = .ok (.ireturn, 1) := by decide +kernel
theorem dX10_howMany_121 : decode cX10_howMany 121 = .ok (.aload_n 0, 1) := by decide +kernel
theorem dX10_howMany_122 : decode cX10_howMany 122 = .ok (.getfield 51, 3) := by decide +kernel
theorem dX10_howMany_125 : decode cX10_howMany 125 = .ok (.getfield 122, 3) := by decide +kernel
theorem dX10_howMany_128 : decode cX10_howMany 128 = .ok (.ireturn, 1) := by decide +kernel
theorem dX10_mix_0 : decode cX10_mix 0 = .ok (.ldc2_w 303, 3) := by decide +kernel
theorem dX10_mix_3 : decode cX10_mix 3 = .ok (.lload_n 0, 1) := by decide +kernel
theorem dX10_mix_4 : decode cX10_mix 4 = .ok (.lmul, 1) := by decide +kernel
theorem dX10_mix_5 : decode cX10_mix 5 = .ok (.lload_n 2, 1) := by decide +kernel
theorem dX10_mix_6 : decode cX10_mix 6 = .ok (.ladd, 1) := by decide +kernel
theorem dX10_mix_7 : decode cX10_mix 7 = .ok (.lreturn, 1) := by decide +kernel
set_option maxRecDepth 20000 in
theorem ggX10_mixRow_X10_mix : GoodIn wsX10_mixRow wsX10_mix := goodIn_r _ [4, 5] (by decide +kernel) (by decide +kernel)
set_option maxRecDepth 20000 in
theorem gX10_mixRow_X10_mix : GoodIn wsX10_mixRow (va_wsS RX10 288 yX10_mix wsX10_mix) := goodIn_app (goodIn_of _ (by decide +kernel)) ggX10_mixRow_X10_mix
theorem dX10_mixRow_0 : decode cX10_mixRow 0 = .ok (.lload_n 0, 1) := by decide +kernel
theorem dX10_mixRow_1 : decode cX10_mixRow 1 = .ok (.lstore_n 3, 1) := by decide +kernel
theorem dX10_mixRow_2 : decode cX10_mixRow 2 = .ok (.aload_n 2, 1) := by decide +kernel
theorem dX10_mixRow_3 : decode cX10_mixRow 3 = .ok (.astore 5, 2) := by decide +kernel
theorem dX10_mixRow_5 : decode cX10_mixRow 5 = .ok (.aload 5, 2) := by decide +kernel
theorem dX10_mixRow_7 : decode cX10_mixRow 7 = .ok (.arraylength, 1) := by decide +kernel
theorem dX10_mixRow_8 : decode cX10_mixRow 8 = .ok (.istore 6, 2) := by decide +kernel
theorem dX10_mixRow_10 : decode cX10_mixRow 10 = .ok (.iconst 0, 1) := by decide +kernel
theorem dX10_mixRow_11 : decode cX10_mixRow 11 = .ok (.istore 7, 2) := by decide +kernel
theorem dX10_mixRow_13 : decode cX10_mixRow 13 = .ok (.iload 7, 2) := by decide +kernel
theorem dX10_mixRow_15 : decode cX10_mixRow 15 = .ok (.iload 6, 2) := by decide +kernel
theorem dX10_mixRow_17 : decode cX10_mixRow 17 = .ok (.if_icmp .ge 24, 3) := by decide +kernel
theorem dX10_mixRow_20 : decode cX10_mixRow 20 = .ok (.aload 5, 2) := by decide +kernel
theorem dX10_mixRow_22 : decode cX10_mixRow 22 = .ok (.iload 7, 2) := by decide +kernel
theorem dX10_mixRow_24 : decode cX10_mixRow 24 = .ok (.iaload, 1) := by decide +kernel
theorem dX10_mixRow_25 : decode cX10_mixRow 25 = .ok (.istore 8, 2) := by decide +kernel
theorem dX10_mixRow_27 : decode cX10_mixRow 27 = .ok (.lload_n 3, 1) := by decide +kernel
theorem dX10_mixRow_28 : decode cX10_mixRow 28 = .ok (.iload 8, 2) := by decide +kernel
theorem dX10_mixRow_30 : decode cX10_mixRow 30 = .ok (.i2l, 1) := by decide +kernel
theorem dX10_mixRow_31 : decode cX10_mixRow 31 = .ok (.invokestatic 288, 3) := by decide +kernel
theorem dX10_mixRow_34 : decode cX10_mixRow 34 = .ok (.lstore_n 3, 1) := by decide +kernel
theorem dX10_mixRow_35 : decode cX10_mixRow 35 = .ok (.iinc 7 1, 3) := by decide +kernel
theorem dX10_mixRow_38 : decode cX10_mixRow 38 = .ok (.goto (-25), 3) := by decide +kernel
theorem dX10_mixRow_41 : decode cX10_mixRow 41 = .ok (.lload_n 3, 1) := by decide +kernel
theorem dX10_mixRow_42 : decode cX10_mixRow 42 = .ok (.lreturn, 1) := by decide +kernel
theorem dX10_faded_0 : decode cX10_faded 0 = .ok (.iload_n 0, 1) := by decide +kernel
theorem dX10_faded_1 : decode cX10_faded 1 = .ok (.iload_n 0, 1) := by decide +kernel
theorem dX10_faded_2 : decode cX10_faded 2 = .ok (.iconst 3, 1) := by decide +kernel
theorem dX10_faded_3 : decode cX10_faded 3 = .ok (.iadd, 1) := by decide +kernel
theorem dX10_faded_4 : decode cX10_faded 4 = .ok (.iconst 4, 1) := by decide +kernel
theorem dX10_faded_5 : decode cX10_faded 5 = .ok (.idiv, 1) := by decide +kernel
theorem dX10_faded_6 : decode cX10_faded 6 = .ok (.isub, 1) := by decide +kernel
theorem dX10_faded_7 : decode cX10_faded 7 = .ok (.ireturn, 1) := by decide +kernel
theorem dX10_commonDivisor_0 : decode cX10_commonDivisor 0 = .ok (.iload_n 0, 1) := by decide +kernel
theorem dX10_commonDivisor_1 : decode cX10_commonDivisor 1 = .ok (.istore_n 2, 1) := by decide +kernel
theorem dX10_commonDivisor_2 : decode cX10_commonDivisor 2 = .ok (.iload_n 1, 1) := by decide +kernel
theorem dX10_commonDivisor_3 : decode cX10_commonDivisor 3 = .ok (.istore_n 3, 1) := by decide +kernel
theorem dX10_commonDivisor_4 : decode cX10_commonDivisor 4 = .ok (.iconst 0, 1) := by decide +kernel
theorem dX10_commonDivisor_5 : decode cX10_commonDivisor 5 = .ok (.istore 4, 2) := by decide +kernel
theorem dX10_commonDivisor_7 : decode cX10_commonDivisor 7 = .ok (.iload 4, 2) := by decide +kernel
theorem dX10_commonDivisor_9 : decode cX10_commonDivisor 9 = .ok (.bipush 64, 2) := by decide +kernel
theorem dX10_commonDivisor_11 : decode cX10_commonDivisor 11 = .ok (.if_icmp .ge 23, 3) := by decide +kernel
theorem dX10_commonDivisor_14 : decode cX10_commonDivisor 14 = .ok (.iload_n 3, 1) := by decide +kernel
theorem dX10_commonDivisor_15 : decode cX10_commonDivisor 15 = .ok (.ifCond .eq 19, 3) := by decide +kernel
theorem dX10_commonDivisor_18 : decode cX10_commonDivisor 18 = .ok (.iload_n 2, 1) := by decide +kernel
theorem dX10_commonDivisor_19 : decode cX10_commonDivisor 19 = .ok (.iload_n 3, 1) := by decide +kernel
theorem dX10_commonDivisor_20 : decode cX10_commonDivisor 20 = .ok (.irem, 1) := by decide +kernel
theorem dX10_commonDivisor_21 : decode cX10_commonDivisor 21 = .ok (.istore 5, 2) := by decide +kernel
theorem dX10_commonDivisor_23 : decode cX10_commonDivisor 23 = .ok (.iload_n 3, 1) := by decide +kernel
theorem dX10_commonDivisor_24 : decode cX10_commonDivisor 24 = .ok (.istore_n 2, 1) := by decide +kernel
theorem dX10_commonDivisor_25 : decode cX10_commonDivisor 25 = .ok (.iload 5, 2) := by decide +kernel
theorem dX10_commonDivisor_27 : decode cX10_commonDivisor 27 = .ok (.istore_n 3, 1) := by decide +kernel
theorem dX10_commonDivisor_28 : decode cX10_commonDivisor 28 = .ok (.iinc 4 1, 3) := by decide +kernel
theorem dX10_commonDivisor_31 : decode cX10_commonDivisor 31 = .ok (.goto (-24), 3) := by decide +kernel
theorem dX10_commonDivisor_34 : decode cX10_commonDivisor 34 = .ok (.iload_n 2, 1) := by decide +kernel
theorem dX10_commonDivisor_35 : decode cX10_commonDivisor 35 = .ok (.ifCond .ne 7, 3) := by decide +kernel
theorem dX10_commonDivisor_38 : decode cX10_commonDivisor 38 = .ok (.iconst 1, 1) := by decide +kernel
theorem dX10_commonDivisor_39 : decode cX10_commonDivisor 39 = .ok (.goto 4, 3) := by decide +kernel
theorem dX10_commonDivisor_42 : decode cX10_commonDivisor 42 = .ok (.iload_n 2, 1) := by decide +kernel
theorem dX10_commonDivisor_43 : decode cX10_commonDivisor 43 = .ok (.ireturn, 1) := by decide +kernel
set_option maxRecDepth 20000 in
theorem ggX10_showAll_X4_shows : GoodIn wsX10_showAll wsX4_shows := goodIn_r _ [9, 10, 11, 12, 13, 14, 15, 16, 17, 18, 19, 20, 21, 22, 23, 24, 25, 26, 27, 28, 29, 30, 31, 32, 33, 34, 35, 36, 37, 38, 39, 40, 41, 42, 43, 44, 45, 46, 47, 48, 49, 50, 51, 52, 53, 54, 55, 56, 57, 58, 59, 60, 61, 74, 75, 76, 77, 78, 79, 80, 81, 82, 83, 84, 85, 86, 87, 88, 89, 90] (by decide +kernel) (by decide +kernel)
set_option maxRecDepth 20000 in
theorem gX10_showAll_X4_shows : GoodIn wsX10_showAll (wsV RX10 197 RX4 yX4_shows wsX4_shows) := goodIn_app (goodIn_of _ (by decide +kernel)) ggX10_showAll_X4_shows
theorem dX10_showAll_0 : decode cX10_showAll 0 = .ok (.iconst 0, 1) := by decide +kernel
theorem dX10_showAll_1 : decode cX10_showAll 1 = .ok (.istore_n 2, 1) := by decide +kernel
theorem dX10_showAll_2 : decode cX10_showAll 2 = .ok (.iload_n 2, 1) := by decide +kernel
theorem dX10_showAll_3 : decode cX10_showAll 3 = .ok (.aload_n 0, 1) := by decide +kernel
theorem dX10_showAll_4 : decode cX10_showAll 4 = .ok (.getfield 36, 3) := by decide +kernel
theorem dX10_showAll_7 : decode cX10_showAll 7 = .ok (.getfield 94, 3) := by decide +kernel
theorem dX10_showAll_10 : decode cX10_showAll 10 = .ok (.if_icmp .ge 31, 3) := by decide +kernel
theorem dX10_showAll_13 : decode cX10_showAll 13 = .ok (.aload_n 0, 1) := by decide +kernel
theorem dX10_showAll_14 : decode cX10_showAll 14 = .ok (.getfield 69, 3) := by decide +kernel
theorem dX10_showAll_17 : decode cX10_showAll 17 = .ok (.iload_n 2, 1) := by decide +kernel
theorem dX10_showAll_18 : decode cX10_showAll 18 = .ok (.aload_n 0, 1) := by decide +kernel
theorem dX10_showAll_19 : decode cX10_showAll 19 = .ok (.getfield 36, 3) := by decide +kernel
theorem dX10_showAll_22 : decode cX10_showAll 22 = .ok (.aload_n 0, 1) := by decide +kernel
theorem dX10_showAll_23 : decode cX10_showAll 23 = .ok (.getfield 36, 3) := by decide +kernel
theorem dX10_showAll_26 : decode cX10_showAll 26 = .ok (.getfield 140, 3) := by decide +kernel
theorem dX10_showAll_29 : decode cX10_showAll 29 = .ok (.iload_n 2, 1) := by decide +kernel
theorem dX10_showAll_30 : decode cX10_showAll 30 = .ok (.iload_n 1, 1) := by decide +kernel
theorem dX10_showAll_31 : decode cX10_showAll 31 = .ok (.invokevirtual 197, 3) := by decide +kernel
theorem dX10_showAll_34 : decode cX10_showAll 34 = .ok (.iastore, 1) := by decide +kernel
theorem dX10_showAll_35 : decode cX10_showAll 35 = .ok (.iinc 2 1, 3) := by decide +kernel
theorem dX10_showAll_38 : decode cX10_showAll 38 = .ok (.goto (-36), 3) := by decide +kernel
theorem dX10_showAll_41 : decode cX10_showAll 41 = .ok (.return_, 1) := by decide +kernel
set_option maxRecDepth 20000 in
theorem ggX10_roam_X0_offer : GoodIn wsX10_roam wsX0_offer := goodIn_r _ [8, 9, 10, 11, 12, 13, 14, 15, 16, 17, 18, 19, 105, 106, 107] (by decide +kernel) (by decide +kernel)
set_option maxRecDepth 20000 in
theorem gX10_roam_X0_offer : GoodIn wsX10_roam (wsV RX10 305 RX0 yX0_offer wsX0_offer) := goodIn_app (goodIn_of _ (by decide +kernel)) ggX10_roam_X0_offer
set_option maxRecDepth 20000 in
theorem ggX10_roam_X4_hasField : GoodIn wsX10_roam wsX4_hasField := goodIn_r _ [24, 25, 26, 27, 28, 108, 109, 110, 111, 112, 113, 114, 115, 116, 117, 118] (by decide +kernel) (by decide +kernel)
set_option maxRecDepth 20000 in
theorem gX10_roam_X4_hasField : GoodIn wsX10_roam (wsV RX10 112 RX4 yX4_hasField wsX4_hasField) := goodIn_app (goodIn_of _ (by decide +kernel)) ggX10_roam_X4_hasField
set_option maxRecDepth 20000 in
theorem ggX10_roam_X10_stay : GoodIn wsX10_roam wsX10_stay := goodIn_r _ [35, 36, 37, 2, 38, 39, 40, 14, 41, 42, 43, 44, 23, 45, 46, 47, 48, 49, 50, 51, 52, 53, 54, 55, 56, 57, 58, 59, 60, 61, 62, 63, 64, 65, 66, 67, 68, 69, 70, 71, 72, 73, 74, 75, 76, 77, 78, 79, 80, 81, 82, 83, 84, 85, 86, 87, 88, 13, 15, 89, 90, 91, 92, 32, 33, 34, 27, 0, 1, 3, 4, 5, 6, 7, 8, 9, 10, 11, 12, 16, 17, 18, 19, 20, 21, 22, 24, 25, 26, 28, 29, 30, 31, 93, 94, 95, 96, 97, 98, 99, 100, 101, 102, 103, 104, 105, 106, 107, 108, 109, 110, 111, 112, 113, 114, 115, 116, 117, 118, 119, 120, 121, 122, 123, 124] (by decide +kernel) (by decide +kernel)
set_option maxRecDepth 20000 in
theorem gX10_roam_X10_stay : GoodIn wsX10_roam (wsV RX10 312 RX10 yX10_stay wsX10_stay) := goodIn_app (goodIn_of _ (by decide +kernel)) ggX10_roam_X10_stay
set_option maxRecDepth 20000 in
theorem ggX10_roam_X10_roam : GoodIn wsX10_roam wsX10_roam := goodIn_r _ [0, 1, 2, 3, 4, 5, 6, 7, 8, 9, 10, 11, 12, 13, 14, 15, 16, 17, 18, 19, 20, 21, 22, 23, 24, 25, 26, 27, 28, 29, 30, 31, 32, 33, 34, 35, 36, 37, 38, 39, 40, 41, 42, 43, 44, 45, 46, 47, 48, 49, 50, 51, 52, 53, 54, 55, 56, 57, 58, 59, 60, 61, 62, 63, 64, 65, 66, 67, 68, 69, 70, 71, 72, 73, 74, 75, 76, 77, 78, 79, 80, 81, 82, 83, 84, 85, 86, 87, 88, 89, 90, 91, 92, 93, 94, 95, 96, 97, 98, 99, 100, 101, 102, 103, 104, 105, 106, 107, 108, 109, 110, 111, 112, 113, 114, 115, 116, 117, 118, 119, 120, 121, 122, 123, 124] (by decide +kernel) (by decide +kernel)
set_option maxRecDepth 20000 in
theorem gX10_roam_X10_roam : GoodIn wsX10_roam (wsV RX10 214 RX10 yX10_roam wsX10_roam) := goodIn_app (goodIn_of _ (by decide +kernel)) ggX10_roam_X10_roam
theorem dX10_roam_0 : decode cX10_roam 0 = .ok (.iload_n 2, 1) := by decide +kernel
theorem dX10_roam_1 : decode cX10_roam 1 = .ok (.iload_n 3, 1) := by decide +kernel
theorem dX10_roam_2 : decode cX10_roam 2 = .ok (.if_icmp .lt 14, 3) := by decide +kernel
theorem dX10_roam_5 : decode cX10_roam 5 = .ok (.aload_n 0, 1) := by decide +kernel
theorem dX10_roam_6 : decode cX10_roam 6 = .ok (.getfield 65, 3) := by decide +kernel
theorem dX10_roam_9 : decode cX10_roam 9 = .ok (.iload 4, 2) := by decide +kernel
theorem dX10_roam_11 : decode cX10_roam 11 = .ok (.iload_n 3, 1) := by decide +kernel
theorem dX10_roam_12 : decode cX10_roam 12 = .ok (.invokevirtual 305, 3) := by decide +kernel
theorem dX10_roam_15 : decode cX10_roam 15 = .ok (.return_, 1) := by decide +kernel
theorem dX10_roam_16 : decode cX10_roam 16 = .ok (.iload_n 1, 1) := by decide +kernel
theorem dX10_roam_17 : decode cX10_roam 17 = .ok (.iconst 1, 1) := by decide +kernel
theorem dX10_roam_18 : decode cX10_roam 18 = .ok (.isub, 1) := by decide +kernel
theorem dX10_roam_19 : decode cX10_roam 19 = .ok (.istore 5, 2) := by decide +kernel
theorem dX10_roam_21 : decode cX10_roam 21 = .ok (.iload 5, 2) := by decide +kernel
theorem dX10_roam_23 : decode cX10_roam 23 = .ok (.iload_n 1, 1) := by decide +kernel
theorem dX10_roam_24 : decode cX10_roam 24 = .ok (.iconst 1, 1) := by decide +kernel
theorem dX10_roam_25 : decode cX10_roam 25 = .ok (.iadd, 1) := by decide +kernel
theorem dX10_roam_26 : decode cX10_roam 26 = .ok (.if_icmp .gt 65, 3) := by decide +kernel
theorem dX10_roam_29 : decode cX10_roam 29 = .ok (.aload_n 0, 1) := by decide +kernel
theorem dX10_roam_30 : decode cX10_roam 30 = .ok (.getfield 36, 3) := by decide +kernel
theorem dX10_roam_33 : decode cX10_roam 33 = .ok (.iload 5, 2) := by decide +kernel
theorem dX10_roam_35 : decode cX10_roam 35 = .ok (.invokevirtual 112, 3) := by decide +kernel
theorem dX10_roam_38 : decode cX10_roam 38 = .ok (.ifCond .ne 6, 3) := by decide +kernel
theorem dX10_roam_41 : decode cX10_roam 41 = .ok (.goto 44, 3) := by decide +kernel
theorem dX10_roam_44 : decode cX10_roam 44 = .ok (.aload_n 0, 1) := by decide +kernel
theorem dX10_roam_45 : decode cX10_roam 45 = .ok (.getfield 65, 3) := by decide +kernel
theorem dX10_roam_48 : decode cX10_roam 48 = .ok (.getfield 309, 3) := by decide +kernel
theorem dX10_roam_51 : decode cX10_roam 51 = .ok (.iload_n 2, 1) := by decide +kernel
theorem dX10_roam_52 : decode cX10_roam 52 = .ok (.iload 5, 2) := by decide +kernel
theorem dX10_roam_54 : decode cX10_roam 54 = .ok (.iastore, 1) := by decide +kernel
theorem dX10_roam_55 : decode cX10_roam 55 = .ok (.iload 5, 2) := by decide +kernel
theorem dX10_roam_57 : decode cX10_roam 57 = .ok (.iload_n 1, 1) := by decide +kernel
theorem dX10_roam_58 : decode cX10_roam 58 = .ok (.if_icmp .ne 15, 3) := by decide +kernel
theorem dX10_roam_61 : decode cX10_roam 61 = .ok (.aload_n 0, 1) := by decide +kernel
theorem dX10_roam_62 : decode cX10_roam 62 = .ok (.iload_n 1, 1) := by decide +kernel
theorem dX10_roam_63 : decode cX10_roam 63 = .ok (.iload_n 2, 1) := by decide +kernel
theorem dX10_roam_64 : decode cX10_roam 64 = .ok (.iload_n 3, 1) := by decide +kernel
theorem dX10_roam_65 : decode cX10_roam 65 = .ok (.iload 4, 2) := by decide +kernel
theorem dX10_roam_67 : decode cX10_roam 67 = .ok (.invokevirtual 312, 3) := by decide +kernel
theorem dX10_roam_70 : decode cX10_roam 70 = .ok (.goto 15, 3) := by decide +kernel
theorem dX10_roam_73 : decode cX10_roam 73 = .ok (.aload_n 0, 1) := by decide +kernel
theorem dX10_roam_74 : decode cX10_roam 74 = .ok (.iload 5, 2) := by decide +kernel
theorem dX10_roam_76 : decode cX10_roam 76 = .ok (.iload_n 2, 1) := by decide +kernel
theorem dX10_roam_77 : decode cX10_roam 77 = .ok (.iconst 1, 1) := by decide +kernel
theorem dX10_roam_78 : decode cX10_roam 78 = .ok (.iadd, 1) := by decide +kernel
theorem dX10_roam_79 : decode cX10_roam 79 = .ok (.iload_n 3, 1) := by decide +kernel
theorem dX10_roam_80 : decode cX10_roam 80 = .ok (.iload 4, 2) := by decide +kernel
theorem dX10_roam_82 : decode cX10_roam 82 = .ok (.invokevirtual 214, 3) := by decide +kernel
theorem dX10_roam_85 : decode cX10_roam 85 = .ok (.iinc 5 1, 3) := by decide +kernel
theorem dX10_roam_88 : decode cX10_roam 88 = .ok (.goto (-67), 3) := by decide +kernel
theorem dX10_roam_91 : decode cX10_roam 91 = .ok (.return_, 1) := by decide +kernel
set_option maxRecDepth 20000 in
theorem ggX10_stay_X4_shows : GoodIn wsX10_stay wsX4_shows := goodIn_r _ [13, 14, 15, 16, 17, 18, 19, 20, 21, 22, 23, 24, 25, 6, 7, 8, 26, 27, 28, 29, 30, 31, 32, 33, 34, 35, 36, 37, 38, 39, 40, 41, 42, 43, 44, 45, 46, 47, 48, 49, 50, 51, 52, 53, 54, 55, 56, 57, 58, 59, 60, 61, 62, 108, 109, 110, 111, 112, 113, 114, 115, 116, 117, 118, 119, 120, 121, 122, 123, 124] (by decide +kernel) (by decide +kernel)
set_option maxRecDepth 20000 in
theorem gX10_stay_X4_shows : GoodIn wsX10_stay (wsV RX10 197 RX4 yX4_shows wsX4_shows) := goodIn_app (goodIn_of _ (by decide +kernel)) ggX10_stay_X4_shows
set_option maxRecDepth 20000 in
theorem ggX10_stay_X10_roam : GoodIn wsX10_stay wsX10_roam := goodIn_r _ [67, 68, 3, 69, 70, 71, 72, 73, 74, 75, 76, 77, 78, 57, 7, 58, 79, 80, 81, 82, 83, 84, 85, 12, 86, 87, 88, 66, 89, 90, 91, 92, 63, 64, 65, 0, 1, 2, 4, 5, 6, 8, 9, 10, 11, 13, 14, 15, 16, 17, 18, 19, 20, 21, 22, 23, 24, 25, 26, 27, 28, 29, 30, 31, 32, 33, 34, 35, 36, 37, 38, 39, 40, 41, 42, 43, 44, 45, 46, 47, 48, 49, 50, 51, 52, 53, 54, 55, 56, 59, 60, 61, 62, 93, 94, 95, 96, 97, 98, 99, 100, 101, 102, 103, 104, 105, 106, 107, 108, 109, 110, 111, 112, 113, 114, 115, 116, 117, 118, 119, 120, 121, 122, 123, 124] (by decide +kernel) (by decide +kernel)
set_option maxRecDepth 20000 in
theorem gX10_stay_X10_roam : GoodIn wsX10_stay (wsV RX10 214 RX10 yX10_roam wsX10_roam) := goodIn_app (goodIn_of _ (by decide +kernel)) ggX10_stay_X10_roam
theorem dX10_stay_0 : decode cX10_stay 0 = .ok (.aload_n 0, 1) := by decide +kernel
theorem dX10_stay_1 : decode cX10_stay 1 = .ok (.getfield 58, 3) := by decide +kernel
theorem dX10_stay_4 : decode cX10_stay 4 = .ok (.getfield 185, 3) := by decide +kernel
theorem dX10_stay_7 : decode cX10_stay 7 = .ok (.iload_n 1, 1) := by decide +kernel
theorem dX10_stay_8 : decode cX10_stay 8 = .ok (.iaload, 1) := by decide +kernel
theorem dX10_stay_9 : decode cX10_stay 9 = .ok (.istore 5, 2) := by decide +kernel
theorem dX10_stay_11 : decode cX10_stay 11 = .ok (.aload_n 0, 1) := by decide +kernel
theorem dX10_stay_12 : decode cX10_stay 12 = .ok (.getfield 36, 3) := by decide +kernel
theorem dX10_stay_15 : decode cX10_stay 15 = .ok (.aload_n 0, 1) := by decide +kernel
theorem dX10_stay_16 : decode cX10_stay 16 = .ok (.getfield 58, 3) := by decide +kernel
theorem dX10_stay_19 : decode cX10_stay 19 = .ok (.iload_n 1, 1) := by decide +kernel
theorem dX10_stay_20 : decode cX10_stay 20 = .ok (.aload_n 0, 1) := by decide +kernel
theorem dX10_stay_21 : decode cX10_stay 21 = .ok (.getfield 58, 3) := by decide +kernel
theorem dX10_stay_24 : decode cX10_stay 24 = .ok (.getfield 151, 3) := by decide +kernel
theorem dX10_stay_27 : decode cX10_stay 27 = .ok (.iload_n 2, 1) := by decide +kernel
theorem dX10_stay_28 : decode cX10_stay 28 = .ok (.iadd, 1) := by decide +kernel
theorem dX10_stay_29 : decode cX10_stay 29 = .ok (.invokevirtual 197, 3) := by decide +kernel
theorem dX10_stay_32 : decode cX10_stay 32 = .ok (.istore 6, 2) := by decide +kernel
theorem dX10_stay_34 : decode cX10_stay 34 = .ok (.aload_n 0, 1) := by decide +kernel
theorem dX10_stay_35 : decode cX10_stay 35 = .ok (.getfield 58, 3) := by decide +kernel
theorem dX10_stay_38 : decode cX10_stay 38 = .ok (.getfield 185, 3) := by decide +kernel
theorem dX10_stay_41 : decode cX10_stay 41 = .ok (.iload_n 1, 1) := by decide +kernel
theorem dX10_stay_42 : decode cX10_stay 42 = .ok (.iconst 0, 1) := by decide +kernel
theorem dX10_stay_43 : decode cX10_stay 43 = .ok (.iload 5, 2) := by decide +kernel
theorem dX10_stay_45 : decode cX10_stay 45 = .ok (.iload 6, 2) := by decide +kernel
theorem dX10_stay_47 : decode cX10_stay 47 = .ok (.isub, 1) := by decide +kernel
theorem dX10_stay_48 : decode cX10_stay 48 = .ok (.invokestatic 315, 3) := by decide +kernel
theorem dX10_stay_51 : decode cX10_stay 51 = .ok (.iastore, 1) := by decide +kernel
theorem dX10_stay_52 : decode cX10_stay 52 = .ok (.aload_n 0, 1) := by decide +kernel
theorem dX10_stay_53 : decode cX10_stay 53 = .ok (.iload_n 1, 1) := by decide +kernel
theorem dX10_stay_54 : decode cX10_stay 54 = .ok (.iload_n 2, 1) := by decide +kernel
theorem dX10_stay_55 : decode cX10_stay 55 = .ok (.iconst 1, 1) := by decide +kernel
theorem dX10_stay_56 : decode cX10_stay 56 = .ok (.iadd, 1) := by decide +kernel
theorem dX10_stay_57 : decode cX10_stay 57 = .ok (.iload_n 3, 1) := by decide +kernel
theorem dX10_stay_58 : decode cX10_stay 58 = .ok (.iload 4, 2) := by decide +kernel
theorem dX10_stay_60 : decode cX10_stay 60 = .ok (.iload 6, 2) := by decide +kernel
theorem dX10_stay_62 : decode cX10_stay 62 = .ok (.iadd, 1) := by decide +kernel
theorem dX10_stay_63 : decode cX10_stay 63 = .ok (.invokevirtual 214, 3) := by decide +kernel
theorem dX10_stay_66 : decode cX10_stay 66 = .ok (.aload_n 0, 1) := by decide +kernel
theorem dX10_stay_67 : decode cX10_stay 67 = .ok (.getfield 58, 3) := by decide +kernel
theorem dX10_stay_70 : decode cX10_stay 70 = .ok (.getfield 185, 3) := by decide +kernel
theorem dX10_stay_73 : decode cX10_stay 73 = .ok (.iload_n 1, 1) := by decide +kernel
theorem dX10_stay_74 : decode cX10_stay 74 = .ok (.iload 5, 2) := by decide +kernel
theorem dX10_stay_76 : decode cX10_stay 76 = .ok (.iastore, 1) := by decide +kernel
theorem dX10_stay_77 : decode cX10_stay 77 = .ok (.return_, 1) := by decide +kernel
set_option maxRecDepth 20000 in
theorem ggX10_settle_X10_allGet : GoodIn wsX10_settle wsX10_allGet := goodIn_r _ [11, 1, 4, 6, 12, 38, 39, 40, 41, 42, 43, 44, 45, 46, 47, 48, 49, 50, 51, 52, 53, 54, 55, 56, 57, 58, 59, 60] (by decide +kernel) (by decide +kernel)
set_option maxRecDepth 20000 in
theorem gX10_settle_X10_allGet : GoodIn wsX10_settle (wsV RX10 318 RX10 yX10_allGet wsX10_allGet) := goodIn_app (goodIn_of _ (by decide +kernel)) ggX10_settle_X10_allGet
set_option maxRecDepth 20000 in
theorem ggX10_settle_X10_poorestGets : GoodIn wsX10_settle wsX10_poorestGets := goodIn_r _ [16, 17, 1, 4, 6, 12, 18, 19, 20, 21, 38, 39, 40, 41, 42, 43, 44, 45, 46, 47, 48, 49, 50, 51, 52, 53, 54, 55, 56, 57, 58, 59, 60] (by decide +kernel) (by decide +kernel)
set_option maxRecDepth 20000 in
theorem gX10_settle_X10_poorestGets : GoodIn wsX10_settle (wsV RX10 321 RX10 yX10_poorestGets wsX10_poorestGets) := goodIn_app (goodIn_of _ (by decide +kernel)) ggX10_settle_X10_poorestGets
set_option maxRecDepth 20000 in
theorem ggX10_settle_X0_offer : GoodIn wsX10_settle wsX0_offer := goodIn_r _ [26, 27, 28, 29, 30, 19, 20, 21, 31, 32, 33, 34, 61, 62, 63] (by decide +kernel) (by decide +kernel)
set_option maxRecDepth 20000 in
theorem gX10_settle_X0_offer : GoodIn wsX10_settle (wsV RX10 305 RX0 yX0_offer wsX0_offer) := goodIn_app (goodIn_of _ (by decide +kernel)) ggX10_settle_X0_offer
set_option maxRecDepth 20000 in
theorem ggX10_settle_X10_settle : GoodIn wsX10_settle wsX10_settle := goodIn_r _ [0, 1, 2, 3, 4, 5, 6, 7, 8, 9, 10, 11, 12, 13, 14, 15, 16, 17, 18, 19, 20, 21, 22, 23, 24, 25, 26, 27, 28, 29, 30, 31, 32, 33, 34, 35, 36, 37, 38, 39, 40, 41, 42, 43, 44, 45, 46, 47, 48, 49, 50, 51, 52, 53, 54, 55, 56, 57, 58, 59, 60, 61, 62, 63] (by decide +kernel) (by decide +kernel)
set_option maxRecDepth 20000 in
theorem gX10_settle_X10_settle : GoodIn wsX10_settle (wsV RX10 225 RX10 yX10_settle wsX10_settle) := goodIn_app (goodIn_of _ (by decide +kernel)) ggX10_settle_X10_settle
theorem dX10_settle_0 : decode cX10_settle 0 = .ok (.iload_n 2, 1) := by decide +kernel
theorem dX10_settle_1 : decode cX10_settle 1 = .ok (.aload_n 0, 1) := by decide +kernel
theorem dX10_settle_2 : decode cX10_settle 2 = .ok (.getfield 36, 3) := by decide +kernel
theorem dX10_settle_5 : decode cX10_settle 5 = .ok (.getfield 115, 3) := by decide +kernel
theorem dX10_settle_8 : decode cX10_settle 8 = .ok (.if_icmp .lt 27, 3) := by decide +kernel
theorem dX10_settle_11 : decode cX10_settle 11 = .ok (.aload_n 0, 1) := by decide +kernel
theorem dX10_settle_12 : decode cX10_settle 12 = .ok (.getfield 65, 3) := by decide +kernel
theorem dX10_settle_15 : decode cX10_settle 15 = .ok (.iload_n 1, 1) := by decide +kernel
theorem dX10_settle_16 : decode cX10_settle 16 = .ok (.ifCond .ne 10, 3) := by decide +kernel
theorem dX10_settle_19 : decode cX10_settle 19 = .ok (.aload_n 0, 1) := by decide +kernel
theorem dX10_settle_20 : decode cX10_settle 20 = .ok (.invokevirtual 318, 3) := by decide +kernel
theorem dX10_settle_23 : decode cX10_settle 23 = .ok (.goto 7, 3) := by decide +kernel
theorem dX10_settle_26 : decode cX10_settle 26 = .ok (.aload_n 0, 1) := by decide +kernel
theorem dX10_settle_27 : decode cX10_settle 27 = .ok (.invokevirtual 321, 3) := by decide +kernel
theorem dX10_settle_30 : decode cX10_settle 30 = .ok (.iload_n 2, 1) := by decide +kernel
theorem dX10_settle_31 : decode cX10_settle 31 = .ok (.invokevirtual 305, 3) := by decide +kernel
theorem dX10_settle_34 : decode cX10_settle 34 = .ok (.return_, 1) := by decide +kernel
theorem dX10_settle_35 : decode cX10_settle 35 = .ok (.iload_n 3, 1) := by decide +kernel
theorem dX10_settle_36 : decode cX10_settle 36 = .ok (.istore 4, 2) := by decide +kernel
theorem dX10_settle_38 : decode cX10_settle 38 = .ok (.iload 4, 2) := by decide +kernel
theorem dX10_settle_40 : decode cX10_settle 40 = .ok (.aload_n 0, 1) := by decide +kernel
theorem dX10_settle_41 : decode cX10_settle 41 = .ok (.getfield 36, 3) := by decide +kernel
theorem dX10_settle_44 : decode cX10_settle 44 = .ok (.getfield 94, 3) := by decide +kernel
theorem dX10_settle_47 : decode cX10_settle 47 = .ok (.if_icmp .ge 52, 3) := by decide +kernel
theorem dX10_settle_50 : decode cX10_settle 50 = .ok (.aload_n 0, 1) := by decide +kernel
theorem dX10_settle_51 : decode cX10_settle 51 = .ok (.getfield 65, 3) := by decide +kernel
theorem dX10_settle_54 : decode cX10_settle 54 = .ok (.getfield 309, 3) := by decide +kernel
theorem dX10_settle_57 : decode cX10_settle 57 = .ok (.iload_n 2, 1) := by decide +kernel
theorem dX10_settle_58 : decode cX10_settle 58 = .ok (.iload 4, 2) := by decide +kernel
theorem dX10_settle_60 : decode cX10_settle 60 = .ok (.iastore, 1) := by decide +kernel
theorem dX10_settle_61 : decode cX10_settle 61 = .ok (.aload_n 0, 1) := by decide +kernel
theorem dX10_settle_62 : decode cX10_settle 62 = .ok (.getfield 73, 3) := by decide +kernel
theorem dX10_settle_65 : decode cX10_settle 65 = .ok (.iload 4, 2) := by decide +kernel
theorem dX10_settle_67 : decode cX10_settle 67 = .ok (.dup2, 1) := by decide +kernel
theorem dX10_settle_68 : decode cX10_settle 68 = .ok (.iaload, 1) := by decide +kernel
theorem dX10_settle_69 : decode cX10_settle 69 = .ok (.iconst 1, 1) := by decide +kernel
theorem dX10_settle_70 : decode cX10_settle 70 = .ok (.iadd, 1) := by decide +kernel
theorem dX10_settle_71 : decode cX10_settle 71 = .ok (.iastore, 1) := by decide +kernel
theorem dX10_settle_72 : decode cX10_settle 72 = .ok (.aload_n 0, 1) := by decide +kernel
theorem dX10_settle_73 : decode cX10_settle 73 = .ok (.iload_n 1, 1) := by decide +kernel
theorem dX10_settle_74 : decode cX10_settle 74 = .ok (.iload_n 2, 1) := by decide +kernel
theorem dX10_settle_75 : decode cX10_settle 75 = .ok (.iconst 1, 1) := by decide +kernel
theorem dX10_settle_76 : decode cX10_settle 76 = .ok (.iadd, 1) := by decide +kernel
theorem dX10_settle_77 : decode cX10_settle 77 = .ok (.iload 4, 2) := by decide +kernel
theorem dX10_settle_79 : decode cX10_settle 79 = .ok (.invokevirtual 225, 3) := by decide +kernel
theorem dX10_settle_82 : decode cX10_settle 82 = .ok (.aload_n 0, 1) := by decide +kernel
theorem dX10_settle_83 : decode cX10_settle 83 = .ok (.getfield 73, 3) := by decide +kernel
theorem dX10_settle_86 : decode cX10_settle 86 = .ok (.iload 4, 2) := by decide +kernel
theorem dX10_settle_88 : decode cX10_settle 88 = .ok (.dup2, 1) := by decide +kernel
theorem dX10_settle_89 : decode cX10_settle 89 = .ok (.iaload, 1) := by decide +kernel
theorem dX10_settle_90 : decode cX10_settle 90 = .ok (.iconst 1, 1) := by decide +kernel
theorem dX10_settle_91 : decode cX10_settle 91 = .ok (.isub, 1) := by decide +kernel
theorem dX10_settle_92 : decode cX10_settle 92 = .ok (.iastore, 1) := by decide +kernel
theorem dX10_settle_93 : decode cX10_settle 93 = .ok (.iinc 4 1, 3) := by decide +kernel
theorem dX10_settle_96 : decode cX10_settle 96 = .ok (.goto (-58), 3) := by decide +kernel
theorem dX10_settle_99 : decode cX10_settle 99 = .ok (.return_, 1) := by decide +kernel
theorem dX10_allGet_0 : decode cX10_allGet 0 = .ok (.iconst 0, 1) := by decide +kernel
theorem dX10_allGet_1 : decode cX10_allGet 1 = .ok (.istore_n 1, 1) := by decide +kernel
theorem dX10_allGet_2 : decode cX10_allGet 2 = .ok (.iconst 0, 1) := by decide +kernel
theorem dX10_allGet_3 : decode cX10_allGet 3 = .ok (.istore_n 2, 1) := by decide +kernel
theorem dX10_allGet_4 : decode cX10_allGet 4 = .ok (.iload_n 2, 1) := by decide +kernel
theorem dX10_allGet_5 : decode cX10_allGet 5 = .ok (.aload_n 0, 1) := by decide +kernel
theorem dX10_allGet_6 : decode cX10_allGet 6 = .ok (.getfield 36, 3) := by decide +kernel
theorem dX10_allGet_9 : decode cX10_allGet 9 = .ok (.getfield 94, 3) := by decide +kernel
theorem dX10_allGet_12 : decode cX10_allGet 12 = .ok (.if_icmp .ge 41, 3) := by decide +kernel
theorem dX10_allGet_15 : decode cX10_allGet 15 = .ok (.aload_n 0, 1) := by decide +kernel
theorem dX10_allGet_16 : decode cX10_allGet 16 = .ok (.getfield 73, 3) := by decide +kernel
theorem dX10_allGet_19 : decode cX10_allGet 19 = .ok (.iload_n 2, 1) := by decide +kernel
theorem dX10_allGet_20 : decode cX10_allGet 20 = .ok (.iaload, 1) := by decide +kernel
theorem dX10_allGet_21 : decode cX10_allGet 21 = .ok (.ifCond .le 26, 3) := by decide +kernel
theorem dX10_allGet_24 : decode cX10_allGet 24 = .ok (.iload_n 1, 1) := by decide +kernel
theorem dX10_allGet_25 : decode cX10_allGet 25 = .ok (.aload_n 0, 1) := by decide +kernel
theorem dX10_allGet_26 : decode cX10_allGet 26 = .ok (.getfield 69, 3) := by decide +kernel
theorem dX10_allGet_29 : decode cX10_allGet 29 = .ok (.iload_n 2, 1) := by decide +kernel
theorem dX10_allGet_30 : decode cX10_allGet 30 = .ok (.iaload, 1) := by decide +kernel
theorem dX10_allGet_31 : decode cX10_allGet 31 = .ok (.aload_n 0, 1) := by decide +kernel
theorem dX10_allGet_32 : decode cX10_allGet 32 = .ok (.getfield 73, 3) := by decide +kernel
theorem dX10_allGet_35 : decode cX10_allGet 35 = .ok (.iload_n 2, 1) := by decide +kernel
theorem dX10_allGet_36 : decode cX10_allGet 36 = .ok (.iaload, 1) := by decide +kernel
theorem dX10_allGet_37 : decode cX10_allGet 37 = .ok (.idiv, 1) := by decide +kernel
theorem dX10_allGet_38 : decode cX10_allGet 38 = .ok (.aload_n 0, 1) := by decide +kernel
theorem dX10_allGet_39 : decode cX10_allGet 39 = .ok (.getfield 73, 3) := by decide +kernel
theorem dX10_allGet_42 : decode cX10_allGet 42 = .ok (.iload_n 2, 1) := by decide +kernel
theorem dX10_allGet_43 : decode cX10_allGet 43 = .ok (.iaload, 1) := by decide +kernel
theorem dX10_allGet_44 : decode cX10_allGet 44 = .ok (.imul, 1) := by decide +kernel
theorem dX10_allGet_45 : decode cX10_allGet 45 = .ok (.iadd, 1) := by decide +kernel
theorem dX10_allGet_46 : decode cX10_allGet 46 = .ok (.istore_n 1, 1) := by decide +kernel
theorem dX10_allGet_47 : decode cX10_allGet 47 = .ok (.iinc 2 1, 3) := by decide +kernel
theorem dX10_allGet_50 : decode cX10_allGet 50 = .ok (.goto (-46), 3) := by decide +kernel
theorem dX10_allGet_53 : decode cX10_allGet 53 = .ok (.iload_n 1, 1) := by decide +kernel
theorem dX10_allGet_54 : decode cX10_allGet 54 = .ok (.ireturn, 1) := by decide +kernel
theorem dX10_poorestGets_0 : decode cX10_poorestGets 0 = .ok (.ldc_w 324, 3) := by decide +kernel
theorem dX10_poorestGets_3 : decode cX10_poorestGets 3 = .ok (.istore_n 1, 1) := by decide +kernel
theorem dX10_poorestGets_4 : decode cX10_poorestGets 4 = .ok (.iconst 0, 1) := by decide +kernel
theorem dX10_poorestGets_5 : decode cX10_poorestGets 5 = .ok (.istore_n 2, 1) := by decide +kernel
theorem dX10_poorestGets_6 : decode cX10_poorestGets 6 = .ok (.iload_n 2, 1) := by decide +kernel
theorem dX10_poorestGets_7 : decode cX10_poorestGets 7 = .ok (.aload_n 0, 1) := by decide +kernel
theorem dX10_poorestGets_8 : decode cX10_poorestGets 8 = .ok (.getfield 36, 3) := by decide +kernel
theorem dX10_poorestGets_11 : decode cX10_poorestGets 11 = .ok (.getfield 94, 3) := by decide +kernel
theorem dX10_poorestGets_14 : decode cX10_poorestGets 14 = .ok (.if_icmp .ge 36, 3) := by decide +kernel
theorem dX10_poorestGets_17 : decode cX10_poorestGets 17 = .ok (.aload_n 0, 1) := by decide +kernel
theorem dX10_poorestGets_18 : decode cX10_poorestGets 18 = .ok (.getfield 73, 3) := by decide +kernel
theorem dX10_poorestGets_21 : decode cX10_poorestGets 21 = .ok (.iload_n 2, 1) := by decide +kernel
theorem dX10_poorestGets_22 : decode cX10_poorestGets 22 = .ok (.iaload, 1) := by decide +kernel
theorem dX10_poorestGets_23 : decode cX10_poorestGets 23 = .ok (.ifCond .le 21, 3) := by decide +kernel
theorem dX10_poorestGets_26 : decode cX10_poorestGets 26 = .ok (.iload_n 1, 1) := by decide +kernel
theorem dX10_poorestGets_27 : decode cX10_poorestGets 27 = .ok (.aload_n 0, 1) := by decide +kernel
theorem dX10_poorestGets_28 : decode cX10_poorestGets 28 = .ok (.getfield 69, 3) := by decide +kernel
theorem dX10_poorestGets_31 : decode cX10_poorestGets 31 = .ok (.iload_n 2, 1) := by decide +kernel
theorem dX10_poorestGets_32 : decode cX10_poorestGets 32 = .ok (.iaload, 1) := by decide +kernel
theorem dX10_poorestGets_33 : decode cX10_poorestGets 33 = .ok (.aload_n 0, 1) := by decide +kernel
theorem dX10_poorestGets_34 : decode cX10_poorestGets 34 = .ok (.getfield 73, 3) := by decide +kernel
theorem dX10_poorestGets_37 : decode cX10_poorestGets 37 = .ok (.iload_n 2, 1) := by decide +kernel
theorem dX10_poorestGets_38 : decode cX10_poorestGets 38 = .ok (.iaload, 1) := by decide +kernel
theorem dX10_poorestGets_39 : decode cX10_poorestGets 39 = .ok (.idiv, 1) := by decide +kernel
theorem dX10_poorestGets_40 : decode cX10_poorestGets 40 = .ok (.invokestatic 204, 3) := by decide +kernel
theorem dX10_poorestGets_43 : decode cX10_poorestGets 43 = .ok (.istore_n 1, 1) := by decide +kernel
theorem dX10_poorestGets_44 : decode cX10_poorestGets 44 = .ok (.iinc 2 1, 3) := by decide +kernel
theorem dX10_poorestGets_47 : decode cX10_poorestGets 47 = .ok (.goto (-41), 3) := by decide +kernel
theorem dX10_poorestGets_50 : decode cX10_poorestGets 50 = .ok (.iload_n 1, 1) := by decide +kernel
theorem dX10_poorestGets_51 : decode cX10_poorestGets 51 = .ok (.ireturn, 1) := by decide +kernel
set_option maxRecDepth 20000 in
theorem ggX10_mostAlike_X2_sight : GoodIn wsX10_mostAlike wsX2_sight := goodIn_r _ [12, 13, 3, 4, 5, 14, 15, 16, 17, 18, 19, 20, 7, 21, 22, 23, 24, 25] (by decide +kernel) (by decide +kernel)
set_option maxRecDepth 20000 in
theorem gX10_mostAlike_X2_sight_u325X2 : GoodIn wsX10_mostAlike (va_wsO RX10 325 RX2 "GleanDusk$Plain" ⟨"GleanDusk$Plain", "sight", "(III)I"⟩ yX2_sight wsX2_sight) := goodIn_app (goodIn_of _ (by decide +kernel)) ggX10_mostAlike_X2_sight
set_option maxRecDepth 20000 in
theorem ggX10_mostAlike_X3_sight : GoodIn wsX10_mostAlike wsX3_sight := goodIn_r _ [29, 30, 31, 32, 33, 34, 35, 36, 7, 37, 22, 23, 24, 25, 3, 4, 5] (by decide +kernel) (by decide +kernel)
set_option maxRecDepth 20000 in
theorem gX10_mostAlike_X3_sight_u325X3 : GoodIn wsX10_mostAlike (va_wsO RX10 325 RX3 "GleanDusk$Plain" ⟨"GleanDusk$Plain", "sight", "(III)I"⟩ yX3_sight wsX3_sight) := goodIn_app (goodIn_of _ (by decide +kernel)) ggX10_mostAlike_X3_sight
set_option maxRecDepth 20000 in
theorem ggX10_mostAlike_X5_sight : GoodIn wsX10_mostAlike wsX5_sight := goodIn_r _ [24, 25, 3, 4, 5] (by decide +kernel) (by decide +kernel)
set_option maxRecDepth 20000 in
theorem gX10_mostAlike_X5_sight : GoodIn wsX10_mostAlike (wsV RX10 325 RX5 yX5_sight wsX5_sight) := goodIn_app (goodIn_of _ (by decide +kernel)) ggX10_mostAlike_X5_sight
set_option maxRecDepth 20000 in
theorem ggX10_mostAlike_X6_sight : GoodIn wsX10_mostAlike wsX6_sight := goodIn_r _ [43, 44, 45, 4, 46, 47, 7, 48, 22, 23, 24, 25, 3, 5] (by decide +kernel) (by decide +kernel)
set_option maxRecDepth 20000 in
theorem gX10_mostAlike_X6_sight_u325X6 : GoodIn wsX10_mostAlike (va_wsO RX10 325 RX6 "GleanDusk$Plain" ⟨"GleanDusk$Plain", "sight", "(III)I"⟩ yX6_sight wsX6_sight) := goodIn_app (goodIn_of _ (by decide +kernel)) ggX10_mostAlike_X6_sight
set_option maxRecDepth 20000 in
theorem ggX10_mostAlike_X8_sight : GoodIn wsX10_mostAlike wsX8_sight := goodIn_r _ [19, 20, 7, 21, 22, 23, 24, 25, 3, 4, 5] (by decide +kernel) (by decide +kernel)
set_option maxRecDepth 20000 in
theorem gX10_mostAlike_X8_sight_u325X8 : GoodIn wsX10_mostAlike (va_wsO RX10 325 RX8 "GleanDusk$Plain" ⟨"GleanDusk$Plain", "sight", "(III)I"⟩ yX8_sight wsX8_sight) := goodIn_app (goodIn_of _ (by decide +kernel)) ggX10_mostAlike_X8_sight
set_option maxRecDepth 20000 in
theorem ggX10_mostAlike_X9_sight : GoodIn wsX10_mostAlike wsX9_sight := goodIn_r _ [35, 36, 7, 37, 22, 23, 24, 25, 3, 4, 5] (by decide +kernel) (by decide +kernel)
set_option maxRecDepth 20000 in
theorem gX10_mostAlike_X9_sight_u325X9 : GoodIn wsX10_mostAlike (va_wsO RX10 325 RX9 "GleanDusk$Plain" ⟨"GleanDusk$Plain", "sight", "(III)I"⟩ yX9_sight wsX9_sight) := goodIn_app (goodIn_of _ (by decide +kernel)) ggX10_mostAlike_X9_sight
theorem dX10_mostAlike_0 : decode cX10_mostAlike 0 = .ok (.iconst 0, 1) := by decide +kernel
theorem dX10_mostAlike_1 : decode cX10_mostAlike 1 = .ok (.istore 5, 2) := by decide +kernel
theorem dX10_mostAlike_3 : decode cX10_mostAlike 3 = .ok (.iconst 0, 1) := by decide +kernel
theorem dX10_mostAlike_4 : decode cX10_mostAlike 4 = .ok (.istore 6, 2) := by decide +kernel
theorem dX10_mostAlike_6 : decode cX10_mostAlike 6 = .ok (.iload 6, 2) := by decide +kernel
theorem dX10_mostAlike_8 : decode cX10_mostAlike 8 = .ok (.bipush 6, 2) := by decide +kernel
theorem dX10_mostAlike_10 : decode cX10_mostAlike 10 = .ok (.if_icmp .ge 97, 3) := by decide +kernel
theorem dX10_mostAlike_13 : decode cX10_mostAlike 13 = .ok (.iload_n 1, 1) := by decide +kernel
theorem dX10_mostAlike_14 : decode cX10_mostAlike 14 = .ok (.iload 6, 2) := by decide +kernel
theorem dX10_mostAlike_16 : decode cX10_mostAlike 16 = .ok (.ishr, 1) := by decide +kernel
theorem dX10_mostAlike_17 : decode cX10_mostAlike 17 = .ok (.iconst 1, 1) := by decide +kernel
theorem dX10_mostAlike_18 : decode cX10_mostAlike 18 = .ok (.iand, 1) := by decide +kernel
theorem dX10_mostAlike_19 : decode cX10_mostAlike 19 = .ok (.ifCond .ne 6, 3) := by decide +kernel
theorem dX10_mostAlike_22 : decode cX10_mostAlike 22 = .ok (.goto 79, 3) := by decide +kernel
theorem dX10_mostAlike_25 : decode cX10_mostAlike 25 = .ok (.aload_n 0, 1) := by decide +kernel
theorem dX10_mostAlike_26 : decode cX10_mostAlike 26 = .ok (.getfield 25, 3) := by decide +kernel
theorem dX10_mostAlike_29 : decode cX10_mostAlike 29 = .ok (.iload 6, 2) := by decide +kernel
theorem dX10_mostAlike_31 : decode cX10_mostAlike 31 = .ok (.aaload, 1) := by decide +kernel
theorem dX10_mostAlike_32 : decode cX10_mostAlike 32 = .ok (.iload_n 2, 1) := by decide +kernel
theorem dX10_mostAlike_33 : decode cX10_mostAlike 33 = .ok (.iload_n 3, 1) := by decide +kernel
theorem dX10_mostAlike_34 : decode cX10_mostAlike 34 = .ok (.iload 4, 2) := by decide +kernel
theorem dX10_mostAlike_36 : decode cX10_mostAlike 36 = .ok (.invokevirtual 325, 3) := by decide +kernel
theorem dX10_mostAlike_39 : decode cX10_mostAlike 39 = .ok (.istore 7, 2) := by decide +kernel
theorem dX10_mostAlike_41 : decode cX10_mostAlike 41 = .ok (.iconst 0, 1) := by decide +kernel
theorem dX10_mostAlike_42 : decode cX10_mostAlike 42 = .ok (.istore 8, 2) := by decide +kernel
theorem dX10_mostAlike_44 : decode cX10_mostAlike 44 = .ok (.iconst 0, 1) := by decide +kernel
theorem dX10_mostAlike_45 : decode cX10_mostAlike 45 = .ok (.istore 9, 2) := by decide +kernel
theorem dX10_mostAlike_47 : decode cX10_mostAlike 47 = .ok (.iload 9, 2) := by decide +kernel
theorem dX10_mostAlike_49 : decode cX10_mostAlike 49 = .ok (.bipush 6, 2) := by decide +kernel
theorem dX10_mostAlike_51 : decode cX10_mostAlike 51 = .ok (.if_icmp .ge 41, 3) := by decide +kernel
theorem dX10_mostAlike_54 : decode cX10_mostAlike 54 = .ok (.iload_n 1, 1) := by decide +kernel
theorem dX10_mostAlike_55 : decode cX10_mostAlike 55 = .ok (.iload 9, 2) := by decide +kernel
theorem dX10_mostAlike_57 : decode cX10_mostAlike 57 = .ok (.ishr, 1) := by decide +kernel
theorem dX10_mostAlike_58 : decode cX10_mostAlike 58 = .ok (.iconst 1, 1) := by decide +kernel
theorem dX10_mostAlike_59 : decode cX10_mostAlike 59 = .ok (.iand, 1) := by decide +kernel
theorem dX10_mostAlike_60 : decode cX10_mostAlike 60 = .ok (.iconst 1, 1) := by decide +kernel
theorem dX10_mostAlike_61 : decode cX10_mostAlike 61 = .ok (.if_icmp .ne 25, 3) := by decide +kernel
theorem dX10_mostAlike_64 : decode cX10_mostAlike 64 = .ok (.aload_n 0, 1) := by decide +kernel
theorem dX10_mostAlike_65 : decode cX10_mostAlike 65 = .ok (.getfield 25, 3) := by decide +kernel
theorem dX10_mostAlike_68 : decode cX10_mostAlike 68 = .ok (.iload 9, 2) := by decide +kernel
theorem dX10_mostAlike_70 : decode cX10_mostAlike 70 = .ok (.aaload, 1) := by decide +kernel
theorem dX10_mostAlike_71 : decode cX10_mostAlike 71 = .ok (.iload_n 2, 1) := by decide +kernel
theorem dX10_mostAlike_72 : decode cX10_mostAlike 72 = .ok (.iload_n 3, 1) := by decide +kernel
theorem dX10_mostAlike_73 : decode cX10_mostAlike 73 = .ok (.iload 4, 2) := by decide +kernel
theorem dX10_mostAlike_75 : decode cX10_mostAlike 75 = .ok (.invokevirtual 325, 3) := by decide +kernel
theorem dX10_mostAlike_78 : decode cX10_mostAlike 78 = .ok (.iload 7, 2) := by decide +kernel
theorem dX10_mostAlike_80 : decode cX10_mostAlike 80 = .ok (.if_icmp .ne 6, 3) := by decide +kernel
theorem dX10_mostAlike_83 : decode cX10_mostAlike 83 = .ok (.iinc 8 1, 3) := by decide +kernel
theorem dX10_mostAlike_86 : decode cX10_mostAlike 86 = .ok (.iinc 9 1, 3) := by decide +kernel
theorem dX10_mostAlike_89 : decode cX10_mostAlike 89 = .ok (.goto (-42), 3) := by decide +kernel
theorem dX10_mostAlike_92 : decode cX10_mostAlike 92 = .ok (.iload 5, 2) := by decide +kernel
theorem dX10_mostAlike_94 : decode cX10_mostAlike 94 = .ok (.iload 8, 2) := by decide +kernel
theorem dX10_mostAlike_96 : decode cX10_mostAlike 96 = .ok (.invokestatic 315, 3) := by decide +kernel
theorem dX10_mostAlike_99 : decode cX10_mostAlike 99 = .ok (.istore 5, 2) := by decide +kernel
theorem dX10_mostAlike_101 : decode cX10_mostAlike 101 = .ok (.iinc 6 1, 3) := by decide +kernel
theorem dX10_mostAlike_104 : decode cX10_mostAlike 104 = .ok (.goto (-98), 3) := by decide +kernel
theorem dX10_mostAlike_107 : decode cX10_mostAlike 107 = .ok (.iload 5, 2) := by decide +kernel
theorem dX10_mostAlike_109 : decode cX10_mostAlike 109 = .ok (.ireturn, 1) := by decide +kernel
set_option maxRecDepth 20000 in
theorem ggX10_staysPut_X10_worth : GoodIn wsX10_staysPut wsX10_worth := goodIn_r _ [7, 8, 9, 10, 11, 12, 13, 14, 15, 16, 17, 18, 19, 20, 21, 22, 23, 24] (by decide +kernel) (by decide +kernel)
set_option maxRecDepth 20000 in
theorem gX10_staysPut_X10_worth : GoodIn wsX10_staysPut (wsV RX10 329 RX10 yX10_worth wsX10_worth) := goodIn_app (goodIn_of _ (by decide +kernel)) ggX10_staysPut_X10_worth
theorem dX10_staysPut_0 : decode cX10_staysPut 0 = .ok (.aload_n 0, 1) := by decide +kernel
theorem dX10_staysPut_1 : decode cX10_staysPut 1 = .ok (.iload_n 1, 1) := by decide +kernel
theorem dX10_staysPut_2 : decode cX10_staysPut 2 = .ok (.iload_n 2, 1) := by decide +kernel
theorem dX10_staysPut_3 : decode cX10_staysPut 3 = .ok (.iload_n 3, 1) := by decide +kernel
theorem dX10_staysPut_4 : decode cX10_staysPut 4 = .ok (.invokevirtual 329, 3) := by decide +kernel
theorem dX10_staysPut_7 : decode cX10_staysPut 7 = .ok (.istore 4, 2) := by decide +kernel
theorem dX10_staysPut_9 : decode cX10_staysPut 9 = .ok (.iconst 0, 1) := by decide +kernel
theorem dX10_staysPut_10 : decode cX10_staysPut 10 = .ok (.istore 5, 2) := by decide +kernel
theorem dX10_staysPut_12 : decode cX10_staysPut 12 = .ok (.iload 5, 2) := by decide +kernel
theorem dX10_staysPut_14 : decode cX10_staysPut 14 = .ok (.aload_n 0, 1) := by decide +kernel
theorem dX10_staysPut_15 : decode cX10_staysPut 15 = .ok (.getfield 36, 3) := by decide +kernel
theorem dX10_staysPut_18 : decode cX10_staysPut 18 = .ok (.getfield 94, 3) := by decide +kernel
theorem dX10_staysPut_21 : decode cX10_staysPut 21 = .ok (.if_icmp .ge 24, 3) := by decide +kernel
theorem dX10_staysPut_24 : decode cX10_staysPut 24 = .ok (.aload_n 0, 1) := by decide +kernel
theorem dX10_staysPut_25 : decode cX10_staysPut 25 = .ok (.iload_n 1, 1) := by decide +kernel
theorem dX10_staysPut_26 : decode cX10_staysPut 26 = .ok (.iload 5, 2) := by decide +kernel
theorem dX10_staysPut_28 : decode cX10_staysPut 28 = .ok (.iload_n 3, 1) := by decide +kernel
theorem dX10_staysPut_29 : decode cX10_staysPut 29 = .ok (.invokevirtual 329, 3) := by decide +kernel
theorem dX10_staysPut_32 : decode cX10_staysPut 32 = .ok (.iload 4, 2) := by decide +kernel
theorem dX10_staysPut_34 : decode cX10_staysPut 34 = .ok (.if_icmp .le 5, 3) := by decide +kernel
theorem dX10_staysPut_37 : decode cX10_staysPut 37 = .ok (.iconst 0, 1) := by decide +kernel
theorem dX10_staysPut_38 : decode cX10_staysPut 38 = .ok (.ireturn, 1) := by decide +kernel
theorem dX10_staysPut_39 : decode cX10_staysPut 39 = .ok (.iinc 5 1, 3) := by decide +kernel
theorem dX10_staysPut_42 : decode cX10_staysPut 42 = .ok (.goto (-30), 3) := by decide +kernel
theorem dX10_staysPut_45 : decode cX10_staysPut 45 = .ok (.iconst 1, 1) := by decide +kernel
theorem dX10_staysPut_46 : decode cX10_staysPut 46 = .ok (.ireturn, 1) := by decide +kernel
theorem dX10_worth_0 : decode cX10_worth 0 = .ok (.iload_n 2, 1) := by decide +kernel
theorem dX10_worth_1 : decode cX10_worth 1 = .ok (.iload_n 3, 1) := by decide +kernel
theorem dX10_worth_2 : decode cX10_worth 2 = .ok (.if_icmp .ne 14, 3) := by decide +kernel
theorem dX10_worth_5 : decode cX10_worth 5 = .ok (.aload_n 0, 1) := by decide +kernel
theorem dX10_worth_6 : decode cX10_worth 6 = .ok (.getfield 69, 3) := by decide +kernel
theorem dX10_worth_9 : decode cX10_worth 9 = .ok (.iload_n 2, 1) := by decide +kernel
theorem dX10_worth_10 : decode cX10_worth 10 = .ok (.iaload, 1) := by decide +kernel
theorem dX10_worth_11 : decode cX10_worth 11 = .ok (.iconst 2, 1) := by decide +kernel
theorem dX10_worth_12 : decode cX10_worth 12 = .ok (.idiv, 1) := by decide +kernel
theorem dX10_worth_13 : decode cX10_worth 13 = .ok (.goto 9, 3) := by decide +kernel
theorem dX10_worth_16 : decode cX10_worth 16 = .ok (.aload_n 0, 1) := by decide +kernel
theorem dX10_worth_17 : decode cX10_worth 17 = .ok (.getfield 69, 3) := by decide +kernel
theorem dX10_worth_20 : decode cX10_worth 20 = .ok (.iload_n 2, 1) := by decide +kernel
theorem dX10_worth_21 : decode cX10_worth 21 = .ok (.iaload, 1) := by decide +kernel
theorem dX10_worth_22 : decode cX10_worth 22 = .ok (.istore 4, 2) := by decide +kernel
theorem dX10_worth_24 : decode cX10_worth 24 = .ok (.iload 4, 2) := by decide +kernel
theorem dX10_worth_26 : decode cX10_worth 26 = .ok (.iload_n 2, 1) := by decide +kernel
theorem dX10_worth_27 : decode cX10_worth 27 = .ok (.iload_n 1, 1) := by decide +kernel
theorem dX10_worth_28 : decode cX10_worth 28 = .ok (.isub, 1) := by decide +kernel
theorem dX10_worth_29 : decode cX10_worth 29 = .ok (.invokestatic 332, 3) := by decide +kernel
theorem dX10_worth_32 : decode cX10_worth 32 = .ok (.isub, 1) := by decide +kernel
theorem dX10_worth_33 : decode cX10_worth 33 = .ok (.ireturn, 1) := by decide +kernel
set_option maxRecDepth 20000 in
theorem ggX11_init_X11_begin : GoodIn wsX11_init wsX11_begin := goodIn_r _ [21] (by decide +kernel) (by decide +kernel)
set_option maxRecDepth 20000 in
theorem gX11_init_X11_begin : GoodIn wsX11_init (va_wsS RX11 48 yX11_begin wsX11_begin) := goodIn_app (goodIn_of _ (by decide +kernel)) ggX11_init_X11_begin
theorem dX11_init_0 : decode cX11_init 0 = .ok (.aload_n 0, 1) := by decide +kernel
theorem dX11_init_1 : decode cX11_init 1 = .ok (.invokespecial 1, 3) := by decide +kernel
theorem dX11_init_4 : decode cX11_init 4 = .ok (.aload_n 0, 1) := by decide +kernel
theorem dX11_init_5 : decode cX11_init 5 = .ok (.sipush 228, 3) := by decide +kernel
theorem dX11_init_8 : decode cX11_init 8 = .ok (.newarray .int, 2) := by decide +kernel
theorem dX11_init_10 : decode cX11_init 10 = .ok (.putfield 7, 3) := by decide +kernel
theorem dX11_init_13 : decode cX11_init 13 = .ok (.aload_n 0, 1) := by decide +kernel
theorem dX11_init_14 : decode cX11_init 14 = .ok (.sipush 456, 3) := by decide +kernel
theorem dX11_init_17 : decode cX11_init 17 = .ok (.newarray .int, 2) := by decide +kernel
theorem dX11_init_19 : decode cX11_init 19 = .ok (.putfield 13, 3) := by decide +kernel
theorem dX11_init_22 : decode cX11_init 22 = .ok (.aload_n 0, 1) := by decide +kernel
theorem dX11_init_23 : decode cX11_init 23 = .ok (.iconst 2, 1) := by decide +kernel
theorem dX11_init_24 : decode cX11_init 24 = .ok (.newarray .boolean, 2) := by decide +kernel
theorem dX11_init_26 : decode cX11_init 26 = .ok (.putfield 16, 3) := by decide +kernel
theorem dX11_init_29 : decode cX11_init 29 = .ok (.aload_n 0, 1) := by decide +kernel
theorem dX11_init_30 : decode cX11_init 30 = .ok (.iconst 3, 1) := by decide +kernel
theorem dX11_init_31 : decode cX11_init 31 = .ok (.newarray .int, 2) := by decide +kernel
theorem dX11_init_33 : decode cX11_init 33 = .ok (.putfield 20, 3) := by decide +kernel
theorem dX11_init_36 : decode cX11_init 36 = .ok (.aload_n 0, 1) := by decide +kernel
theorem dX11_init_37 : decode cX11_init 37 = .ok (.lconst 1, 1) := by decide +kernel
theorem dX11_init_38 : decode cX11_init 38 = .ok (.putfield 23, 3) := by decide +kernel
theorem dX11_init_41 : decode cX11_init 41 = .ok (.aload_n 0, 1) := by decide +kernel
theorem dX11_init_42 : decode cX11_init 42 = .ok (.bipush 30, 2) := by decide +kernel
theorem dX11_init_44 : decode cX11_init 44 = .ok (.newarray .int, 2) := by decide +kernel
theorem dX11_init_46 : decode cX11_init 46 = .ok (.putfield 27, 3) := by decide +kernel
theorem dX11_init_49 : decode cX11_init 49 = .ok (.aload_n 0, 1) := by decide +kernel
theorem dX11_init_50 : decode cX11_init 50 = .ok (.bipush 6, 2) := by decide +kernel
theorem dX11_init_52 : decode cX11_init 52 = .ok (.newarray .int, 2) := by decide +kernel
theorem dX11_init_54 : decode cX11_init 54 = .ok (.putfield 30, 3) := by decide +kernel
theorem dX11_init_57 : decode cX11_init 57 = .ok (.aload_n 0, 1) := by decide +kernel
theorem dX11_init_58 : decode cX11_init 58 = .ok (.bipush 6, 2) := by decide +kernel
theorem dX11_init_60 : decode cX11_init 60 = .ok (.newarray .int, 2) := by decide +kernel
theorem dX11_init_62 : decode cX11_init 62 = .ok (.putfield 33, 3) := by decide +kernel
theorem dX11_init_65 : decode cX11_init 65 = .ok (.aload_n 0, 1) := by decide +kernel
theorem dX11_init_66 : decode cX11_init 66 = .ok (.iconst 5, 1) := by decide +kernel
theorem dX11_init_67 : decode cX11_init 67 = .ok (.newarray .int, 2) := by decide +kernel
theorem dX11_init_69 : decode cX11_init 69 = .ok (.putfield 36, 3) := by decide +kernel
theorem dX11_init_72 : decode cX11_init 72 = .ok (.aload_n 0, 1) := by decide +kernel
theorem dX11_init_73 : decode cX11_init 73 = .ok (.sipush 150, 3) := by decide +kernel
theorem dX11_init_76 : decode cX11_init 76 = .ok (.newarray .int, 2) := by decide +kernel
theorem dX11_init_78 : decode cX11_init 78 = .ok (.putfield 39, 3) := by decide +kernel
theorem dX11_init_81 : decode cX11_init 81 = .ok (.aload_n 0, 1) := by decide +kernel
theorem dX11_init_82 : decode cX11_init 82 = .ok (.bipush 76, 2) := by decide +kernel
theorem dX11_init_84 : decode cX11_init 84 = .ok (.newarray .int, 2) := by decide +kernel
theorem dX11_init_86 : decode cX11_init 86 = .ok (.putfield 42, 3) := by decide +kernel
theorem dX11_init_89 : decode cX11_init 89 = .ok (.aload_n 0, 1) := by decide +kernel
theorem dX11_init_90 : decode cX11_init 90 = .ok (.iconst 2, 1) := by decide +kernel
theorem dX11_init_91 : decode cX11_init 91 = .ok (.newarray .int, 2) := by decide +kernel
theorem dX11_init_93 : decode cX11_init 93 = .ok (.putfield 45, 3) := by decide +kernel
theorem dX11_init_96 : decode cX11_init 96 = .ok (.aload_n 0, 1) := by decide +kernel
theorem dX11_init_97 : decode cX11_init 97 = .ok (.getfield 7, 3) := by decide +kernel
theorem dX11_init_100 : decode cX11_init 100 = .ok (.iconst 0, 1) := by decide +kernel
theorem dX11_init_101 : decode cX11_init 101 = .ok (.invokestatic 48, 3) := by decide +kernel
theorem dX11_init_104 : decode cX11_init 104 = .ok (.return_, 1) := by decide +kernel
theorem dX11_in_0 : decode cX11_in 0 = .ok (.lload_n 0, 1) := by decide +kernel
theorem dX11_in_1 : decode cX11_in 1 = .ok (.lload_n 2, 1) := by decide +kernel
theorem dX11_in_2 : decode cX11_in 2 = .ok (.lcmp, 1) := by decide +kernel
theorem dX11_in_3 : decode cX11_in 3 = .ok (.ifCond .lt 14, 3) := by decide +kernel
theorem dX11_in_6 : decode cX11_in 6 = .ok (.lload_n 0, 1) := by decide +kernel
theorem dX11_in_7 : decode cX11_in 7 = .ok (.lload 4, 2) := by decide +kernel
theorem dX11_in_9 : decode cX11_in 9 = .ok (.lcmp, 1) := by decide +kernel
theorem dX11_in_10 : decode cX11_in 10 = .ok (.ifCond .gt 7, 3) := by decide +kernel
theorem dX11_in_13 : decode cX11_in 13 = .ok (.iconst 1, 1) := by decide +kernel
theorem dX11_in_14 : decode cX11_in 14 = .ok (.goto 4, 3) := by decide +kernel
theorem dX11_in_17 : decode cX11_in 17 = .ok (.iconst 0, 1) := by decide +kernel
theorem dX11_in_18 : decode cX11_in 18 = .ok (.ireturn, 1) := by decide +kernel
theorem dX11_bad_0 : decode cX11_bad 0 = .ok (.aload_n 0, 1) := by decide +kernel
theorem dX11_bad_1 : decode cX11_bad 1 = .ok (.getfield 20, 3) := by decide +kernel
theorem dX11_bad_4 : decode cX11_bad 4 = .ok (.iconst 0, 1) := by decide +kernel
theorem dX11_bad_5 : decode cX11_bad 5 = .ok (.dup2, 1) := by decide +kernel
theorem dX11_bad_6 : decode cX11_bad 6 = .ok (.iaload, 1) := by decide +kernel
theorem dX11_bad_7 : decode cX11_bad 7 = .ok (.iconst 1, 1) := by decide +kernel
theorem dX11_bad_8 : decode cX11_bad 8 = .ok (.iadd, 1) := by decide +kernel
theorem dX11_bad_9 : decode cX11_bad 9 = .ok (.iastore, 1) := by decide +kernel
theorem dX11_bad_10 : decode cX11_bad 10 = .ok (.iload_n 1, 1) := by decide +kernel
theorem dX11_bad_11 : decode cX11_bad 11 = .ok (.ireturn, 1) := by decide +kernel
theorem dX11_no_0 : decode cX11_no 0 = .ok (.aload_n 0, 1) := by decide +kernel
theorem dX11_no_1 : decode cX11_no 1 = .ok (.getfield 20, 3) := by decide +kernel
theorem dX11_no_4 : decode cX11_no 4 = .ok (.iconst 1, 1) := by decide +kernel
theorem dX11_no_5 : decode cX11_no 5 = .ok (.dup2, 1) := by decide +kernel
theorem dX11_no_6 : decode cX11_no 6 = .ok (.iaload, 1) := by decide +kernel
theorem dX11_no_7 : decode cX11_no 7 = .ok (.iconst 1, 1) := by decide +kernel
theorem dX11_no_8 : decode cX11_no 8 = .ok (.iadd, 1) := by decide +kernel
theorem dX11_no_9 : decode cX11_no 9 = .ok (.iastore, 1) := by decide +kernel
theorem dX11_no_10 : decode cX11_no 10 = .ok (.bipush (-3), 2) := by decide +kernel
theorem dX11_no_12 : decode cX11_no 12 = .ok (.ireturn, 1) := by decide +kernel
theorem dX11_full_0 : decode cX11_full 0 = .ok (.aload_n 0, 1) := by decide +kernel
theorem dX11_full_1 : decode cX11_full 1 = .ok (.getfield 20, 3) := by decide +kernel
theorem dX11_full_4 : decode cX11_full 4 = .ok (.iconst 2, 1) := by decide +kernel
theorem dX11_full_5 : decode cX11_full 5 = .ok (.dup2, 1) := by decide +kernel
theorem dX11_full_6 : decode cX11_full 6 = .ok (.iaload, 1) := by decide +kernel
theorem dX11_full_7 : decode cX11_full 7 = .ok (.iconst 1, 1) := by decide +kernel
theorem dX11_full_8 : decode cX11_full 8 = .ok (.iadd, 1) := by decide +kernel
theorem dX11_full_9 : decode cX11_full 9 = .ok (.iastore, 1) := by decide +kernel
theorem dX11_full_10 : decode cX11_full 10 = .ok (.bipush (-4), 2) := by decide +kernel
theorem dX11_full_12 : decode cX11_full 12 = .ok (.ireturn, 1) := by decide +kernel
theorem dX11_bits_0 : decode cX11_bits 0 = .ok (.iconst 0, 1) := by decide +kernel
theorem dX11_bits_1 : decode cX11_bits 1 = .ok (.istore_n 1, 1) := by decide +kernel
theorem dX11_bits_2 : decode cX11_bits 2 = .ok (.iload_n 0, 1) := by decide +kernel
theorem dX11_bits_3 : decode cX11_bits 3 = .ok (.istore_n 2, 1) := by decide +kernel
theorem dX11_bits_4 : decode cX11_bits 4 = .ok (.iload_n 2, 1) := by decide +kernel
theorem dX11_bits_5 : decode cX11_bits 5 = .ok (.ifCond .le 16, 3) := by decide +kernel
theorem dX11_bits_8 : decode cX11_bits 8 = .ok (.iload_n 1, 1) := by decide +kernel
theorem dX11_bits_9 : decode cX11_bits 9 = .ok (.iload_n 2, 1) := by decide +kernel
theorem dX11_bits_10 : decode cX11_bits 10 = .ok (.iconst 1, 1) := by decide +kernel
theorem dX11_bits_11 : decode cX11_bits 11 = .ok (.iand, 1) := by decide +kernel
theorem dX11_bits_12 : decode cX11_bits 12 = .ok (.iadd, 1) := by decide +kernel
theorem dX11_bits_13 : decode cX11_bits 13 = .ok (.istore_n 1, 1) := by decide +kernel
theorem dX11_bits_14 : decode cX11_bits 14 = .ok (.iload_n 2, 1) := by decide +kernel
theorem dX11_bits_15 : decode cX11_bits 15 = .ok (.iconst 1, 1) := by decide +kernel
theorem dX11_bits_16 : decode cX11_bits 16 = .ok (.ishr, 1) := by decide +kernel
theorem dX11_bits_17 : decode cX11_bits 17 = .ok (.istore_n 2, 1) := by decide +kernel
theorem dX11_bits_18 : decode cX11_bits 18 = .ok (.goto (-14), 3) := by decide +kernel
theorem dX11_bits_21 : decode cX11_bits 21 = .ok (.iload_n 1, 1) := by decide +kernel
theorem dX11_bits_22 : decode cX11_bits 22 = .ok (.ireturn, 1) := by decide +kernel
theorem dX11_has_0 : decode cX11_has 0 = .ok (.iload_n 0, 1) := by decide +kernel
theorem dX11_has_1 : decode cX11_has 1 = .ok (.iload_n 1, 1) := by decide +kernel
theorem dX11_has_2 : decode cX11_has 2 = .ok (.ishr, 1) := by decide +kernel
theorem dX11_has_3 : decode cX11_has 3 = .ok (.iconst 1, 1) := by decide +kernel
theorem dX11_has_4 : decode cX11_has 4 = .ok (.iand, 1) := by decide +kernel
theorem dX11_has_5 : decode cX11_has 5 = .ok (.iconst 1, 1) := by decide +kernel
theorem dX11_has_6 : decode cX11_has 6 = .ok (.if_icmp .ne 7, 3) := by decide +kernel
theorem dX11_has_9 : decode cX11_has 9 = .ok (.iconst 1, 1) := by decide +kernel
theorem dX11_has_10 : decode cX11_has 10 = .ok (.goto 4, 3) := by decide +kernel
theorem dX11_has_13 : decode cX11_has 13 = .ok (.iconst 0, 1) := by decide +kernel
theorem dX11_has_14 : decode cX11_has 14 = .ok (.ireturn, 1) := by decide +kernel
theorem dX11_begin_0 : decode cX11_begin 0 = .ok (.iconst 0, 1) := by decide +kernel
theorem dX11_begin_1 : decode cX11_begin 1 = .ok (.istore_n 2, 1) := by decide +kernel
theorem dX11_begin_2 : decode cX11_begin 2 = .ok (.iload_n 2, 1) := by decide +kernel
theorem dX11_begin_3 : decode cX11_begin 3 = .ok (.bipush 76, 2) := by decide +kernel
theorem dX11_begin_5 : decode cX11_begin 5 = .ok (.if_icmp .ge 13, 3) := by decide +kernel
theorem dX11_begin_8 : decode cX11_begin 8 = .ok (.aload_n 0, 1) := by decide +kernel
theorem dX11_begin_9 : decode cX11_begin 9 = .ok (.iload_n 2, 1) := by decide +kernel
theorem dX11_begin_10 : decode cX11_begin 10 = .ok (.iconst 0, 1) := by decide +kernel
theorem dX11_begin_11 : decode cX11_begin 11 = .ok (.iastore, 1) := by decide +kernel
theorem dX11_begin_12 : decode cX11_begin 12 = .ok (.iinc 2 1, 3) := by decide +kernel
theorem dX11_begin_15 : decode cX11_begin 15 = .ok (.goto (-13), 3) := by decide +kernel
theorem dX11_begin_18 : decode cX11_begin 18 = .ok (.aload_n 0, 1) := by decide +kernel
theorem dX11_begin_19 : decode cX11_begin 19 = .ok (.bipush 22, 2) := by decide +kernel
theorem dX11_begin_21 : decode cX11_begin 21 = .ok (.iload_n 1, 1) := by decide +kernel
theorem dX11_begin_22 : decode cX11_begin 22 = .ok (.iastore, 1) := by decide +kernel
theorem dX11_begin_23 : decode cX11_begin 23 = .ok (.return_, 1) := by decide +kernel
theorem dX11_many_0 : decode cX11_many 0 = .ok (.aload_n 0, 1) := by decide +kernel
theorem dX11_many_1 : decode cX11_many 1 = .ok (.getfield 7, 3) := by decide +kernel
theorem dX11_many_4 : decode cX11_many 4 = .ok (.iconst 0, 1) := by decide +kernel
theorem dX11_many_5 : decode cX11_many 5 = .ok (.iaload, 1) := by decide +kernel
theorem dX11_many_6 : decode cX11_many 6 = .ok (.ireturn, 1) := by decide +kernel
theorem dX11_manyGleaners_0 : decode cX11_manyGleaners 0 = .ok (.aload_n 0, 1) := by decide +kernel
theorem dX11_manyGleaners_1 : decode cX11_manyGleaners 1 = .ok (.getfield 7, 3) := by decide +kernel
theorem dX11_manyGleaners_4 : decode cX11_manyGleaners 4 = .ok (.iconst 1, 1) := by decide +kernel
theorem dX11_manyGleaners_5 : decode cX11_manyGleaners 5 = .ok (.iaload, 1) := by decide +kernel
theorem dX11_manyGleaners_6 : decode cX11_manyGleaners 6 = .ok (.ireturn, 1) := by decide +kernel
set_option maxRecDepth 20000 in
theorem ggX11_isField_X11_many : GoodIn wsX11_isField wsX11_many := goodIn_r _ [5, 6, 10, 11, 12, 13, 14, 15, 16, 17, 18, 19, 20, 21, 22, 23, 24, 25, 26, 27] (by decide +kernel) (by decide +kernel)
set_option maxRecDepth 20000 in
theorem gX11_isField_X11_many : GoodIn wsX11_isField (wsV RX11 52 RX11 yX11_many wsX11_many) := goodIn_app (goodIn_of _ (by decide +kernel)) ggX11_isField_X11_many
set_option maxRecDepth 20000 in
theorem ggX11_isField_X11_in : GoodIn wsX11_isField wsX11_in := goodIn_r _ [9] (by decide +kernel) (by decide +kernel)
set_option maxRecDepth 20000 in
theorem gX11_isField_X11_in : GoodIn wsX11_isField (va_wsS RX11 56 yX11_in wsX11_in) := goodIn_app (goodIn_of _ (by decide +kernel)) ggX11_isField_X11_in
theorem dX11_isField_0 : decode cX11_isField 0 = .ok (.iload_n 1, 1) := by decide +kernel
theorem dX11_isField_1 : decode cX11_isField 1 = .ok (.i2l, 1) := by decide +kernel
theorem dX11_isField_2 : decode cX11_isField 2 = .ok (.lconst 0, 1) := by decide +kernel
theorem dX11_isField_3 : decode cX11_isField 3 = .ok (.aload_n 0, 1) := by decide +kernel
theorem dX11_isField_4 : decode cX11_isField 4 = .ok (.invokevirtual 52, 3) := by decide +kernel
theorem dX11_isField_7 : decode cX11_isField 7 = .ok (.iconst 1, 1) := by decide +kernel
theorem dX11_isField_8 : decode cX11_isField 8 = .ok (.isub, 1) := by decide +kernel
theorem dX11_isField_9 : decode cX11_isField 9 = .ok (.i2l, 1) := by decide +kernel
theorem dX11_isField_10 : decode cX11_isField 10 = .ok (.invokestatic 56, 3) := by decide +kernel
theorem dX11_isField_13 : decode cX11_isField 13 = .ok (.ireturn, 1) := by decide +kernel
set_option maxRecDepth 20000 in
theorem ggX11_isGleaner_X11_manyGleaners : GoodIn wsX11_isGleaner wsX11_manyGleaners := goodIn_r _ [5, 6, 10, 11, 12, 13, 14, 15, 16, 17, 18, 19, 20, 21, 22, 23, 24, 25, 26, 27] (by decide +kernel) (by decide +kernel)
set_option maxRecDepth 20000 in
theorem gX11_isGleaner_X11_manyGleaners : GoodIn wsX11_isGleaner (wsV RX11 60 RX11 yX11_manyGleaners wsX11_manyGleaners) := goodIn_app (goodIn_of _ (by decide +kernel)) ggX11_isGleaner_X11_manyGleaners
set_option maxRecDepth 20000 in
theorem ggX11_isGleaner_X11_in : GoodIn wsX11_isGleaner wsX11_in := goodIn_r _ [9] (by decide +kernel) (by decide +kernel)
set_option maxRecDepth 20000 in
theorem gX11_isGleaner_X11_in : GoodIn wsX11_isGleaner (va_wsS RX11 56 yX11_in wsX11_in) := goodIn_app (goodIn_of _ (by decide +kernel)) ggX11_isGleaner_X11_in
theorem dX11_isGleaner_0 : decode cX11_isGleaner 0 = .ok (.iload_n 1, 1) := by decide +kernel
theorem dX11_isGleaner_1 : decode cX11_isGleaner 1 = .ok (.i2l, 1) := by decide +kernel
theorem dX11_isGleaner_2 : decode cX11_isGleaner 2 = .ok (.lconst 0, 1) := by decide +kernel
theorem dX11_isGleaner_3 : decode cX11_isGleaner 3 = .ok (.aload_n 0, 1) := by decide +kernel
theorem dX11_isGleaner_4 : decode cX11_isGleaner 4 = .ok (.invokevirtual 60, 3) := by decide +kernel
theorem dX11_isGleaner_7 : decode cX11_isGleaner 7 = .ok (.iconst 1, 1) := by decide +kernel
theorem dX11_isGleaner_8 : decode cX11_isGleaner 8 = .ok (.isub, 1) := by decide +kernel
theorem dX11_isGleaner_9 : decode cX11_isGleaner 9 = .ok (.i2l, 1) := by decide +kernel
theorem dX11_isGleaner_10 : decode cX11_isGleaner 10 = .ok (.invokestatic 56, 3) := by decide +kernel
theorem dX11_isGleaner_13 : decode cX11_isGleaner 13 = .ok (.ireturn, 1) := by decide +kernel
set_option maxRecDepth 20000 in
theorem ggX11_isStep_X11_in : GoodIn wsX11_isStep wsX11_in := goodIn_r _ [5] (by decide +kernel) (by decide +kernel)
set_option maxRecDepth 20000 in
theorem gX11_isStep_X11_in : GoodIn wsX11_isStep (va_wsS RX11 56 yX11_in wsX11_in) := goodIn_app (goodIn_of _ (by decide +kernel)) ggX11_isStep_X11_in
theorem dX11_isStep_0 : decode cX11_isStep 0 = .ok (.iload_n 0, 1) := by decide +kernel
theorem dX11_isStep_1 : decode cX11_isStep 1 = .ok (.i2l, 1) := by decide +kernel
theorem dX11_isStep_2 : decode cX11_isStep 2 = .ok (.lconst 0, 1) := by decide +kernel
theorem dX11_isStep_3 : decode cX11_isStep 3 = .ok (.ldc2_w 63, 3) := by decide +kernel
theorem dX11_isStep_6 : decode cX11_isStep 6 = .ok (.invokestatic 56, 3) := by decide +kernel
theorem dX11_isStep_9 : decode cX11_isStep 9 = .ok (.ireturn, 1) := by decide +kernel
set_option maxRecDepth 20000 in
theorem ggX11_isCloud_X11_in : GoodIn wsX11_isCloud wsX11_in := goodIn_r _ [5] (by decide +kernel) (by decide +kernel)
set_option maxRecDepth 20000 in
theorem gX11_isCloud_X11_in : GoodIn wsX11_isCloud (va_wsS RX11 56 yX11_in wsX11_in) := goodIn_app (goodIn_of _ (by decide +kernel)) ggX11_isCloud_X11_in
theorem dX11_isCloud_0 : decode cX11_isCloud 0 = .ok (.iload_n 0, 1) := by decide +kernel
theorem dX11_isCloud_1 : decode cX11_isCloud 1 = .ok (.i2l, 1) := by decide +kernel
theorem dX11_isCloud_2 : decode cX11_isCloud 2 = .ok (.lconst 0, 1) := by decide +kernel
theorem dX11_isCloud_3 : decode cX11_isCloud 3 = .ok (.ldc2_w 65, 3) := by decide +kernel
theorem dX11_isCloud_6 : decode cX11_isCloud 6 = .ok (.invokestatic 56, 3) := by decide +kernel
theorem dX11_isCloud_9 : decode cX11_isCloud 9 = .ok (.ireturn, 1) := by decide +kernel
set_option maxRecDepth 20000 in
theorem ggX11_isLight_X11_in : GoodIn wsX11_isLight wsX11_in := goodIn_r _ [5] (by decide +kernel) (by decide +kernel)
set_option maxRecDepth 20000 in
theorem gX11_isLight_X11_in : GoodIn wsX11_isLight (va_wsS RX11 56 yX11_in wsX11_in) := goodIn_app (goodIn_of _ (by decide +kernel)) ggX11_isLight_X11_in
theorem dX11_isLight_0 : decode cX11_isLight 0 = .ok (.iload_n 0, 1) := by decide +kernel
theorem dX11_isLight_1 : decode cX11_isLight 1 = .ok (.i2l, 1) := by decide +kernel
theorem dX11_isLight_2 : decode cX11_isLight 2 = .ok (.lconst 0, 1) := by decide +kernel
theorem dX11_isLight_3 : decode cX11_isLight 3 = .ok (.ldc2_w 67, 3) := by decide +kernel
theorem dX11_isLight_6 : decode cX11_isLight 6 = .ok (.invokestatic 56, 3) := by decide +kernel
theorem dX11_isLight_9 : decode cX11_isLight 9 = .ok (.ireturn, 1) := by decide +kernel
set_option maxRecDepth 20000 in
theorem ggX11_parish_X11_isCloud : GoodIn wsX11_parish wsX11_isCloud := goodIn_r _ [5, 6, 7, 8, 4, 9] (by decide +kernel) (by decide +kernel)
set_option maxRecDepth 20000 in
theorem gX11_parish_X11_isCloud : GoodIn wsX11_parish (va_wsS RX11 69 yX11_isCloud wsX11_isCloud) := goodIn_app (goodIn_of _ (by decide +kernel)) ggX11_parish_X11_isCloud
set_option maxRecDepth 20000 in
theorem ggX11_parish_X11_bad : GoodIn wsX11_parish wsX11_bad := goodIn_r _ [13, 14, 22, 23, 24, 25, 26, 27, 28, 29, 30, 31, 32, 33, 34, 35, 36, 37, 38, 39] (by decide +kernel) (by decide +kernel)
set_option maxRecDepth 20000 in
theorem gX11_parish_X11_bad : GoodIn wsX11_parish (wsV RX11 73 RX11 yX11_bad wsX11_bad) := goodIn_app (goodIn_of _ (by decide +kernel)) ggX11_parish_X11_bad
set_option maxRecDepth 20000 in
theorem ggX11_parish_X11_many : GoodIn wsX11_parish wsX11_many := goodIn_r _ [18, 1, 22, 23, 24, 25, 26, 27, 28, 29, 30, 31, 32, 33, 34, 35, 36, 37, 38, 39] (by decide +kernel) (by decide +kernel)
set_option maxRecDepth 20000 in
theorem gX11_parish_X11_many : GoodIn wsX11_parish (wsV RX11 52 RX11 yX11_many wsX11_many) := goodIn_app (goodIn_of _ (by decide +kernel)) ggX11_parish_X11_many
set_option maxRecDepth 20000 in
theorem ggX11_parish_X11_begin : GoodIn wsX11_parish wsX11_begin := goodIn_r _ [21] (by decide +kernel) (by decide +kernel)
set_option maxRecDepth 20000 in
theorem gX11_parish_X11_begin : GoodIn wsX11_parish (va_wsS RX11 48 yX11_begin wsX11_begin) := goodIn_app (goodIn_of _ (by decide +kernel)) ggX11_parish_X11_begin
theorem dX11_parish_0 : decode cX11_parish 0 = .ok (.iload_n 1, 1) := by decide +kernel
theorem dX11_parish_1 : decode cX11_parish 1 = .ok (.invokestatic 69, 3) := by decide +kernel
theorem dX11_parish_4 : decode cX11_parish 4 = .ok (.ifCond .ne 10, 3) := by decide +kernel
theorem dX11_parish_7 : decode cX11_parish 7 = .ok (.aload_n 0, 1) := by decide +kernel
theorem dX11_parish_8 : decode cX11_parish 8 = .ok (.bipush (-2), 2) := by decide +kernel
theorem dX11_parish_10 : decode cX11_parish 10 = .ok (.invokevirtual 73, 3) := by decide +kernel
theorem dX11_parish_13 : decode cX11_parish 13 = .ok (.ireturn, 1) := by decide +kernel
theorem dX11_parish_14 : decode cX11_parish 14 = .ok (.aload_n 0, 1) := by decide +kernel
theorem dX11_parish_15 : decode cX11_parish 15 = .ok (.invokevirtual 52, 3) := by decide +kernel
theorem dX11_parish_18 : decode cX11_parish 18 = .ok (.istore_n 2, 1) := by decide +kernel
theorem dX11_parish_19 : decode cX11_parish 19 = .ok (.aload_n 0, 1) := by decide +kernel
theorem dX11_parish_20 : decode cX11_parish 20 = .ok (.getfield 7, 3) := by decide +kernel
theorem dX11_parish_23 : decode cX11_parish 23 = .ok (.iload_n 1, 1) := by decide +kernel
theorem dX11_parish_24 : decode cX11_parish 24 = .ok (.invokestatic 48, 3) := by decide +kernel
theorem dX11_parish_27 : decode cX11_parish 27 = .ok (.iload_n 2, 1) := by decide +kernel
theorem dX11_parish_28 : decode cX11_parish 28 = .ok (.ireturn, 1) := by decide +kernel
theorem dX11_layField_0 : decode cX11_layField 0 = .ok (.aload_n 0, 1) := by decide +kernel
theorem dX11_layField_1 : decode cX11_layField 1 = .ok (.bipush 24, 2) := by decide +kernel
theorem dX11_layField_3 : decode cX11_layField 3 = .ok (.aload_n 0, 1) := by decide +kernel
theorem dX11_layField_4 : decode cX11_layField 4 = .ok (.iconst 0, 1) := by decide +kernel
theorem dX11_layField_5 : decode cX11_layField 5 = .ok (.iaload, 1) := by decide +kernel
theorem dX11_layField_6 : decode cX11_layField 6 = .ok (.iadd, 1) := by decide +kernel
theorem dX11_layField_7 : decode cX11_layField 7 = .ok (.iload_n 1, 1) := by decide +kernel
theorem dX11_layField_8 : decode cX11_layField 8 = .ok (.iastore, 1) := by decide +kernel
theorem dX11_layField_9 : decode cX11_layField 9 = .ok (.aload_n 0, 1) := by decide +kernel
theorem dX11_layField_10 : decode cX11_layField 10 = .ok (.iconst 5, 1) := by decide +kernel
theorem dX11_layField_11 : decode cX11_layField 11 = .ok (.aload_n 0, 1) := by decide +kernel
theorem dX11_layField_12 : decode cX11_layField 12 = .ok (.iconst 0, 1) := by decide +kernel
theorem dX11_layField_13 : decode cX11_layField 13 = .ok (.iaload, 1) := by decide +kernel
theorem dX11_layField_14 : decode cX11_layField 14 = .ok (.iadd, 1) := by decide +kernel
theorem dX11_layField_15 : decode cX11_layField 15 = .ok (.iload_n 2, 1) := by decide +kernel
theorem dX11_layField_16 : decode cX11_layField 16 = .ok (.iastore, 1) := by decide +kernel
theorem dX11_layField_17 : decode cX11_layField 17 = .ok (.aload_n 0, 1) := by decide +kernel
theorem dX11_layField_18 : decode cX11_layField 18 = .ok (.iconst 0, 1) := by decide +kernel
theorem dX11_layField_19 : decode cX11_layField 19 = .ok (.dup2, 1) := by decide +kernel
theorem dX11_layField_20 : decode cX11_layField 20 = .ok (.iaload, 1) := by decide +kernel
theorem dX11_layField_21 : decode cX11_layField 21 = .ok (.iconst 1, 1) := by decide +kernel
theorem dX11_layField_22 : decode cX11_layField 22 = .ok (.iadd, 1) := by decide +kernel
theorem dX11_layField_23 : decode cX11_layField 23 = .ok (.iastore, 1) := by decide +kernel
theorem dX11_layField_24 : decode cX11_layField 24 = .ok (.return_, 1) := by decide +kernel
set_option maxRecDepth 20000 in
theorem ggX11_field_X11_in : GoodIn wsX11_field wsX11_in := goodIn_r _ [6] (by decide +kernel) (by decide +kernel)
set_option maxRecDepth 20000 in
theorem gX11_field_X11_in : GoodIn wsX11_field (va_wsS RX11 56 yX11_in wsX11_in) := goodIn_app (goodIn_of _ (by decide +kernel)) ggX11_field_X11_in
set_option maxRecDepth 20000 in
theorem ggX11_field_X11_isLight : GoodIn wsX11_field wsX11_isLight := goodIn_r _ [9, 10, 3, 4, 5, 6] (by decide +kernel) (by decide +kernel)
set_option maxRecDepth 20000 in
theorem gX11_field_X11_isLight : GoodIn wsX11_field (va_wsS RX11 79 yX11_isLight wsX11_isLight) := goodIn_app (goodIn_of _ (by decide +kernel)) ggX11_field_X11_isLight
set_option maxRecDepth 20000 in
theorem ggX11_field_X11_bad : GoodIn wsX11_field wsX11_bad := goodIn_r _ [14, 15, 27, 28, 29, 30, 31, 32, 33, 34, 35, 36, 37, 38, 39, 40, 41, 42, 43, 44] (by decide +kernel) (by decide +kernel)
set_option maxRecDepth 20000 in
theorem gX11_field_X11_bad : GoodIn wsX11_field (wsV RX11 73 RX11 yX11_bad wsX11_bad) := goodIn_app (goodIn_of _ (by decide +kernel)) ggX11_field_X11_bad
set_option maxRecDepth 20000 in
theorem ggX11_field_X11_many : GoodIn wsX11_field wsX11_many := goodIn_r _ [19, 2, 27, 28, 29, 30, 31, 32, 33, 34, 35, 36, 37, 38, 39, 40, 41, 42, 43, 44] (by decide +kernel) (by decide +kernel)
set_option maxRecDepth 20000 in
theorem gX11_field_X11_many : GoodIn wsX11_field (wsV RX11 52 RX11 yX11_many wsX11_many) := goodIn_app (goodIn_of _ (by decide +kernel)) ggX11_field_X11_many
set_option maxRecDepth 20000 in
theorem ggX11_field_X11_full : GoodIn wsX11_field wsX11_full := goodIn_r _ [23, 15, 27, 28, 29, 30, 31, 32, 33, 34, 35, 36, 37, 38, 39, 40, 41, 42, 43, 44] (by decide +kernel) (by decide +kernel)
set_option maxRecDepth 20000 in
theorem gX11_field_X11_full : GoodIn wsX11_field (wsV RX11 82 RX11 yX11_full wsX11_full) := goodIn_app (goodIn_of _ (by decide +kernel)) ggX11_field_X11_full
set_option maxRecDepth 20000 in
theorem ggX11_field_X11_layField : GoodIn wsX11_field wsX11_layField := goodIn_r _ [26] (by decide +kernel) (by decide +kernel)
set_option maxRecDepth 20000 in
theorem gX11_field_X11_layField : GoodIn wsX11_field (va_wsS RX11 85 yX11_layField wsX11_layField) := goodIn_app (goodIn_of _ (by decide +kernel)) ggX11_field_X11_layField
theorem dX11_field_0 : decode cX11_field 0 = .ok (.iload_n 1, 1) := by decide +kernel
theorem dX11_field_1 : decode cX11_field 1 = .ok (.i2l, 1) := by decide +kernel
theorem dX11_field_2 : decode cX11_field 2 = .ok (.lconst 0, 1) := by decide +kernel
theorem dX11_field_3 : decode cX11_field 3 = .ok (.ldc2_w 77, 3) := by decide +kernel
theorem dX11_field_6 : decode cX11_field 6 = .ok (.invokestatic 56, 3) := by decide +kernel
theorem dX11_field_9 : decode cX11_field 9 = .ok (.ifCond .eq 10, 3) := by decide +kernel
theorem dX11_field_12 : decode cX11_field 12 = .ok (.iload_n 2, 1) := by decide +kernel
theorem dX11_field_13 : decode cX11_field 13 = .ok (.invokestatic 79, 3) := by decide +kernel
theorem dX11_field_16 : decode cX11_field 16 = .ok (.ifCond .ne 10, 3) := by decide +kernel
theorem dX11_field_19 : decode cX11_field 19 = .ok (.aload_n 0, 1) := by decide +kernel
theorem dX11_field_20 : decode cX11_field 20 = .ok (.bipush (-2), 2) := by decide +kernel
theorem dX11_field_22 : decode cX11_field 22 = .ok (.invokevirtual 73, 3) := by decide +kernel
theorem dX11_field_25 : decode cX11_field 25 = .ok (.ireturn, 1) := by decide +kernel
theorem dX11_field_26 : decode cX11_field 26 = .ok (.aload_n 0, 1) := by decide +kernel
theorem dX11_field_27 : decode cX11_field 27 = .ok (.invokevirtual 52, 3) := by decide +kernel
theorem dX11_field_30 : decode cX11_field 30 = .ok (.bipush 6, 2) := by decide +kernel
theorem dX11_field_32 : decode cX11_field 32 = .ok (.if_icmp .ne 8, 3) := by decide +kernel
theorem dX11_field_35 : decode cX11_field 35 = .ok (.aload_n 0, 1) := by decide +kernel
theorem dX11_field_36 : decode cX11_field 36 = .ok (.invokevirtual 82, 3) := by decide +kernel
theorem dX11_field_39 : decode cX11_field 39 = .ok (.ireturn, 1) := by decide +kernel
theorem dX11_field_40 : decode cX11_field 40 = .ok (.aload_n 0, 1) := by decide +kernel
theorem dX11_field_41 : decode cX11_field 41 = .ok (.getfield 7, 3) := by decide +kernel
theorem dX11_field_44 : decode cX11_field 44 = .ok (.iload_n 1, 1) := by decide +kernel
theorem dX11_field_45 : decode cX11_field 45 = .ok (.iload_n 2, 1) := by decide +kernel
theorem dX11_field_46 : decode cX11_field 46 = .ok (.invokestatic 85, 3) := by decide +kernel
theorem dX11_field_49 : decode cX11_field 49 = .ok (.aload_n 0, 1) := by decide +kernel
theorem dX11_field_50 : decode cX11_field 50 = .ok (.getfield 7, 3) := by decide +kernel
theorem dX11_field_53 : decode cX11_field 53 = .ok (.iconst 4, 1) := by decide +kernel
theorem dX11_field_54 : decode cX11_field 54 = .ok (.iconst 0, 1) := by decide +kernel
theorem dX11_field_55 : decode cX11_field 55 = .ok (.iastore, 1) := by decide +kernel
theorem dX11_field_56 : decode cX11_field 56 = .ok (.aload_n 0, 1) := by decide +kernel
theorem dX11_field_57 : decode cX11_field 57 = .ok (.invokevirtual 52, 3) := by decide +kernel
theorem dX11_field_60 : decode cX11_field 60 = .ok (.iconst 1, 1) := by decide +kernel
theorem dX11_field_61 : decode cX11_field 61 = .ok (.isub, 1) := by decide +kernel
theorem dX11_field_62 : decode cX11_field 62 = .ok (.ireturn, 1) := by decide +kernel
theorem dX11_layGleaner_0 : decode cX11_layGleaner 0 = .ok (.aload_n 0, 1) := by decide +kernel
theorem dX11_layGleaner_1 : decode cX11_layGleaner 1 = .ok (.bipush 11, 2) := by decide +kernel
theorem dX11_layGleaner_3 : decode cX11_layGleaner 3 = .ok (.aload_n 0, 1) := by decide +kernel
theorem dX11_layGleaner_4 : decode cX11_layGleaner 4 = .ok (.iconst 1, 1) := by decide +kernel
theorem dX11_layGleaner_5 : decode cX11_layGleaner 5 = .ok (.iaload, 1) := by decide +kernel
theorem dX11_layGleaner_6 : decode cX11_layGleaner 6 = .ok (.iadd, 1) := by decide +kernel
theorem dX11_layGleaner_7 : decode cX11_layGleaner 7 = .ok (.iload_n 1, 1) := by decide +kernel
theorem dX11_layGleaner_8 : decode cX11_layGleaner 8 = .ok (.iastore, 1) := by decide +kernel
theorem dX11_layGleaner_9 : decode cX11_layGleaner 9 = .ok (.aload_n 0, 1) := by decide +kernel
