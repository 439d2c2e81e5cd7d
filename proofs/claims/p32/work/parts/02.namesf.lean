theorem dX10_round_38 : decode cX10_round 38 = .ok (.ireturn, 1) := by decide +kernel
theorem dX10_round_39 : decode cX10_round 39 = .ok (.aload_n 0, 1) := by decide +kernel
theorem dX10_round_40 : decode cX10_round 40 = .ok (.getfield 58, 3) := by decide +kernel
theorem dX10_round_43 : decode cX10_round 43 = .ok (.aload_n 0, 1) := by decide +kernel
theorem dX10_round_44 : decode cX10_round 44 = .ok (.getfield 36, 3) := by decide +kernel
theorem dX10_round_47 : decode cX10_round 47 = .ok (.getfield 140, 3) := by decide +kernel
theorem dX10_round_50 : decode cX10_round 50 = .ok (.invokevirtual 201, 3) := by decide +kernel
theorem dX10_round_53 : decode cX10_round 53 = .ok (.aload_n 0, 1) := by decide +kernel
theorem dX10_round_54 : decode cX10_round 54 = .ok (.getfield 65, 3) := by decide +kernel
theorem dX10_round_57 : decode cX10_round 57 = .ok (.invokevirtual 212, 3) := by decide +kernel
theorem dX10_round_60 : decode cX10_round 60 = .ok (.aload_n 0, 1) := by decide +kernel
theorem dX10_round_61 : decode cX10_round 61 = .ok (.aload_n 0, 1) := by decide +kernel
theorem dX10_round_62 : decode cX10_round 62 = .ok (.getfield 36, 3) := by decide +kernel
theorem dX10_round_65 : decode cX10_round 65 = .ok (.getfield 140, 3) := by decide +kernel
theorem dX10_round_68 : decode cX10_round 68 = .ok (.getfield 170, 3) := by decide +kernel
theorem dX10_round_71 : decode cX10_round 71 = .ok (.iload_n 1, 1) := by decide +kernel
theorem dX10_round_72 : decode cX10_round 72 = .ok (.iaload, 1) := by decide +kernel
theorem dX10_round_73 : decode cX10_round 73 = .ok (.iconst 0, 1) := by decide +kernel
theorem dX10_round_74 : decode cX10_round 74 = .ok (.iload_n 2, 1) := by decide +kernel
theorem dX10_round_75 : decode cX10_round 75 = .ok (.iconst 0, 1) := by decide +kernel
theorem dX10_round_76 : decode cX10_round 76 = .ok (.invokevirtual 214, 3) := by decide +kernel
theorem dX10_round_79 : decode cX10_round 79 = .ok (.iload_n 3, 1) := by decide +kernel
theorem dX10_round_80 : decode cX10_round 80 = .ok (.iconst (-1), 1) := by decide +kernel
theorem dX10_round_81 : decode cX10_round 81 = .ok (.if_icmp .ne 13, 3) := by decide +kernel
theorem dX10_round_84 : decode cX10_round 84 = .ok (.aload_n 0, 1) := by decide +kernel
theorem dX10_round_85 : decode cX10_round 85 = .ok (.getfield 65, 3) := by decide +kernel
theorem dX10_round_88 : decode cX10_round 88 = .ok (.getfield 218, 3) := by decide +kernel
theorem dX10_round_91 : decode cX10_round 91 = .ok (.goto 12, 3) := by decide +kernel
theorem dX10_round_94 : decode cX10_round 94 = .ok (.aload_n 0, 1) := by decide +kernel
theorem dX10_round_95 : decode cX10_round 95 = .ok (.getfield 65, 3) := by decide +kernel
theorem dX10_round_98 : decode cX10_round 98 = .ok (.getfield 221, 3) := by decide +kernel
theorem dX10_round_101 : decode cX10_round 101 = .ok (.iload_n 3, 1) := by decide +kernel
theorem dX10_round_102 : decode cX10_round 102 = .ok (.iaload, 1) := by decide +kernel
theorem dX10_round_103 : decode cX10_round 103 = .ok (.ireturn, 1) := by decide +kernel
set_option maxRecDepth 20000 in
theorem ggX10_places_X10_isBelow : GoodIn wsX10_places wsX10_isBelow := goodIn_r _ [11] (by decide +kernel) (by decide +kernel)
set_option maxRecDepth 20000 in
theorem gX10_places_X10_isBelow : GoodIn wsX10_places (va_wsS RX10 86 yX10_isBelow wsX10_isBelow) := goodIn_app (goodIn_of _ (by decide +kernel)) ggX10_places_X10_isBelow
set_option maxRecDepth 20000 in
theorem ggX10_places_X4_hasGleaner : GoodIn wsX10_places wsX4_hasGleaner := goodIn_r _ [16, 17, 9, 10, 11, 130, 131, 132, 133, 134, 135, 136, 137, 138, 139, 140] (by decide +kernel) (by decide +kernel)
set_option maxRecDepth 20000 in
theorem gX10_places_X4_hasGleaner : GoodIn wsX10_places (wsV RX10 167 RX4 yX4_hasGleaner wsX4_hasGleaner) := goodIn_app (goodIn_of _ (by decide +kernel)) ggX10_places_X4_hasGleaner
set_option maxRecDepth 20000 in
theorem ggX10_places_X10_refuseTen : GoodIn wsX10_places wsX10_refuseTen := goodIn_r _ [21, 22, 118, 119, 120, 121, 122, 123, 124, 125, 126, 127, 128, 129] (by decide +kernel) (by decide +kernel)
set_option maxRecDepth 20000 in
theorem gX10_places_X10_refuseTen : GoodIn wsX10_places (wsV RX10 209 RX10 yX10_refuseTen wsX10_refuseTen) := goodIn_app (goodIn_of _ (by decide +kernel)) ggX10_places_X10_refuseTen
set_option maxRecDepth 20000 in
theorem ggX10_places_X10_showAll : GoodIn wsX10_places wsX10_showAll := goodIn_r _ [26, 1, 27, 28, 3, 29, 30, 31, 15, 32, 33, 34, 35, 36, 37, 38, 39, 40, 41, 42, 43, 44, 45, 46, 47, 48, 49, 50, 51, 52, 53, 54, 55, 56, 57, 58, 59, 60, 61, 62, 63, 64, 65, 66, 67, 68, 69, 70, 71, 72, 73, 74, 75, 76, 77, 78, 79, 80, 81, 82, 83, 84, 118, 119, 120, 121, 122, 123, 124, 125, 126, 127, 128, 129, 130, 131, 132, 133, 134, 135, 136, 137, 138, 139, 140, 141, 142, 143, 144, 145, 146] (by decide +kernel) (by decide +kernel)
set_option maxRecDepth 20000 in
theorem gX10_places_X10_showAll : GoodIn wsX10_places (wsV RX10 222 RX10 yX10_showAll wsX10_showAll) := goodIn_app (goodIn_of _ (by decide +kernel)) ggX10_places_X10_showAll
set_option maxRecDepth 20000 in
theorem ggX10_places_X0_begin : GoodIn wsX10_places wsX0_begin := goodIn_r _ [89, 90, 147, 148, 149] (by decide +kernel) (by decide +kernel)
set_option maxRecDepth 20000 in
theorem gX10_places_X0_begin : GoodIn wsX10_places (wsV RX10 212 RX0 yX0_begin wsX0_begin) := goodIn_app (goodIn_of _ (by decide +kernel)) ggX10_places_X0_begin
set_option maxRecDepth 20000 in
theorem ggX10_places_X10_settle : GoodIn wsX10_places wsX10_settle := goodIn_r _ [94, 1, 2, 5, 27, 95, 96, 97, 98, 99, 10, 100, 28, 101, 102, 103, 104, 105, 106, 79, 46, 80, 107, 108, 109, 88, 110, 90, 111, 112, 113, 114, 115, 116, 117, 91, 92, 93, 118, 119, 120, 121, 122, 123, 124, 125, 126, 127, 128, 129, 130, 131, 132, 133, 134, 135, 136, 137, 138, 139, 140, 147, 148, 149] (by decide +kernel) (by decide +kernel)
set_option maxRecDepth 20000 in
theorem gX10_places_X10_settle : GoodIn wsX10_places (wsV RX10 225 RX10 yX10_settle wsX10_settle) := goodIn_app (goodIn_of _ (by decide +kernel)) ggX10_places_X10_settle
theorem dX10_places_0 : decode cX10_places 0 = .ok (.iload_n 1, 1) := by decide +kernel
theorem dX10_places_1 : decode cX10_places 1 = .ok (.iconst 2, 1) := by decide +kernel
theorem dX10_places_2 : decode cX10_places 2 = .ok (.invokestatic 86, 3) := by decide +kernel
theorem dX10_places_5 : decode cX10_places 5 = .ok (.ifCond .eq 19, 3) := by decide +kernel
theorem dX10_places_8 : decode cX10_places 8 = .ok (.iload_n 2, 1) := by decide +kernel
theorem dX10_places_9 : decode cX10_places 9 = .ok (.iconst (-1), 1) := by decide +kernel
theorem dX10_places_10 : decode cX10_places 10 = .ok (.if_icmp .eq 19, 3) := by decide +kernel
theorem dX10_places_13 : decode cX10_places 13 = .ok (.aload_n 0, 1) := by decide +kernel
theorem dX10_places_14 : decode cX10_places 14 = .ok (.getfield 36, 3) := by decide +kernel
theorem dX10_places_17 : decode cX10_places 17 = .ok (.iload_n 2, 1) := by decide +kernel
theorem dX10_places_18 : decode cX10_places 18 = .ok (.invokevirtual 167, 3) := by decide +kernel
theorem dX10_places_21 : decode cX10_places 21 = .ok (.ifCond .ne 8, 3) := by decide +kernel
theorem dX10_places_24 : decode cX10_places 24 = .ok (.aload_n 0, 1) := by decide +kernel
theorem dX10_places_25 : decode cX10_places 25 = .ok (.invokevirtual 209, 3) := by decide +kernel
theorem dX10_places_28 : decode cX10_places 28 = .ok (.ireturn, 1) := by decide +kernel
theorem dX10_places_29 : decode cX10_places 29 = .ok (.aload_n 0, 1) := by decide +kernel
theorem dX10_places_30 : decode cX10_places 30 = .ok (.getfield 36, 3) := by decide +kernel
theorem dX10_places_33 : decode cX10_places 33 = .ok (.getfield 115, 3) := by decide +kernel
theorem dX10_places_36 : decode cX10_places 36 = .ok (.ifCond .ne 5, 3) := by decide +kernel
theorem dX10_places_39 : decode cX10_places 39 = .ok (.iconst 0, 1) := by decide +kernel
theorem dX10_places_40 : decode cX10_places 40 = .ok (.ireturn, 1) := by decide +kernel
theorem dX10_places_41 : decode cX10_places 41 = .ok (.aload_n 0, 1) := by decide +kernel
theorem dX10_places_42 : decode cX10_places 42 = .ok (.aload_n 0, 1) := by decide +kernel
theorem dX10_places_43 : decode cX10_places 43 = .ok (.getfield 36, 3) := by decide +kernel
theorem dX10_places_46 : decode cX10_places 46 = .ok (.getfield 140, 3) := by decide +kernel
theorem dX10_places_49 : decode cX10_places 49 = .ok (.getfield 151, 3) := by decide +kernel
theorem dX10_places_52 : decode cX10_places 52 = .ok (.invokevirtual 222, 3) := by decide +kernel
theorem dX10_places_55 : decode cX10_places 55 = .ok (.aload_n 0, 1) := by decide +kernel
theorem dX10_places_56 : decode cX10_places 56 = .ok (.getfield 65, 3) := by decide +kernel
theorem dX10_places_59 : decode cX10_places 59 = .ok (.invokevirtual 212, 3) := by decide +kernel
theorem dX10_places_62 : decode cX10_places 62 = .ok (.aload_n 0, 1) := by decide +kernel
theorem dX10_places_63 : decode cX10_places 63 = .ok (.iload_n 1, 1) := by decide +kernel
theorem dX10_places_64 : decode cX10_places 64 = .ok (.iconst 0, 1) := by decide +kernel
theorem dX10_places_65 : decode cX10_places 65 = .ok (.iconst 0, 1) := by decide +kernel
theorem dX10_places_66 : decode cX10_places 66 = .ok (.invokevirtual 225, 3) := by decide +kernel
theorem dX10_places_69 : decode cX10_places 69 = .ok (.iload_n 2, 1) := by decide +kernel
theorem dX10_places_70 : decode cX10_places 70 = .ok (.iconst (-1), 1) := by decide +kernel
theorem dX10_places_71 : decode cX10_places 71 = .ok (.if_icmp .ne 13, 3) := by decide +kernel
theorem dX10_places_74 : decode cX10_places 74 = .ok (.aload_n 0, 1) := by decide +kernel
theorem dX10_places_75 : decode cX10_places 75 = .ok (.getfield 65, 3) := by decide +kernel
theorem dX10_places_78 : decode cX10_places 78 = .ok (.getfield 218, 3) := by decide +kernel
theorem dX10_places_81 : decode cX10_places 81 = .ok (.goto 12, 3) := by decide +kernel
theorem dX10_places_84 : decode cX10_places 84 = .ok (.aload_n 0, 1) := by decide +kernel
theorem dX10_places_85 : decode cX10_places 85 = .ok (.getfield 65, 3) := by decide +kernel
theorem dX10_places_88 : decode cX10_places 88 = .ok (.getfield 221, 3) := by decide +kernel
theorem dX10_places_91 : decode cX10_places 91 = .ok (.iload_n 2, 1) := by decide +kernel
theorem dX10_places_92 : decode cX10_places 92 = .ok (.iaload, 1) := by decide +kernel
theorem dX10_places_93 : decode cX10_places 93 = .ok (.ireturn, 1) := by decide +kernel
set_option maxRecDepth 20000 in
theorem ggX10_which_X10_isBelow : GoodIn wsX10_which wsX10_isBelow := goodIn_r _ [7] (by decide +kernel) (by decide +kernel)
set_option maxRecDepth 20000 in
theorem gX10_which_X10_isBelow : GoodIn wsX10_which (va_wsS RX10 86 yX10_isBelow wsX10_isBelow) := goodIn_app (goodIn_of _ (by decide +kernel)) ggX10_which_X10_isBelow
set_option maxRecDepth 20000 in
theorem ggX10_which_X10_refuseBad : GoodIn wsX10_which wsX10_refuseBad := goodIn_r _ [11, 12, 75, 76, 77, 78, 79, 80, 81, 82, 83, 84, 85, 86] (by decide +kernel) (by decide +kernel)
set_option maxRecDepth 20000 in
theorem gX10_which_X10_refuseBad : GoodIn wsX10_which (wsV RX10 90 RX10 yX10_refuseBad wsX10_refuseBad) := goodIn_app (goodIn_of _ (by decide +kernel)) ggX10_which_X10_refuseBad
set_option maxRecDepth 20000 in
theorem ggX10_which_X10_showAll : GoodIn wsX10_which wsX10_showAll := goodIn_r _ [16, 1, 2, 3, 17, 18, 19, 20, 21, 22, 23, 24, 25, 26, 27, 28, 29, 30, 31, 32, 33, 34, 35, 36, 37, 38, 39, 40, 41, 42, 43, 44, 45, 46, 47, 48, 49, 50, 51, 52, 53, 54, 55, 56, 57, 58, 59, 60, 61, 62, 63, 64, 65, 66, 67, 68, 69, 70, 71, 72, 73, 74, 75, 76, 77, 78, 79, 80, 81, 82, 83, 84, 85, 86, 87, 88, 89, 90, 91, 92, 93, 94, 95, 96, 97, 98, 99, 100, 101, 102, 103] (by decide +kernel) (by decide +kernel)
set_option maxRecDepth 20000 in
theorem gX10_which_X10_showAll : GoodIn wsX10_which (wsV RX10 222 RX10 yX10_showAll wsX10_showAll) := goodIn_app (goodIn_of _ (by decide +kernel)) ggX10_which_X10_showAll
theorem dX10_which_0 : decode cX10_which 0 = .ok (.iload_n 1, 1) := by decide +kernel
theorem dX10_which_1 : decode cX10_which 1 = .ok (.bipush 12, 2) := by decide +kernel
theorem dX10_which_3 : decode cX10_which 3 = .ok (.invokestatic 86, 3) := by decide +kernel
theorem dX10_which_6 : decode cX10_which 6 = .ok (.ifCond .ne 8, 3) := by decide +kernel
theorem dX10_which_9 : decode cX10_which 9 = .ok (.aload_n 0, 1) := by decide +kernel
theorem dX10_which_10 : decode cX10_which 10 = .ok (.invokevirtual 90, 3) := by decide +kernel
theorem dX10_which_13 : decode cX10_which 13 = .ok (.ireturn, 1) := by decide +kernel
theorem dX10_which_14 : decode cX10_which 14 = .ok (.aload_n 0, 1) := by decide +kernel
theorem dX10_which_15 : decode cX10_which 15 = .ok (.iload_n 1, 1) := by decide +kernel
theorem dX10_which_16 : decode cX10_which 16 = .ok (.invokevirtual 222, 3) := by decide +kernel
theorem dX10_which_19 : decode cX10_which 19 = .ok (.iconst (-1), 1) := by decide +kernel
theorem dX10_which_20 : decode cX10_which 20 = .ok (.istore_n 2, 1) := by decide +kernel
theorem dX10_which_21 : decode cX10_which 21 = .ok (.iconst 0, 1) := by decide +kernel
theorem dX10_which_22 : decode cX10_which 22 = .ok (.istore_n 3, 1) := by decide +kernel
theorem dX10_which_23 : decode cX10_which 23 = .ok (.iload_n 3, 1) := by decide +kernel
theorem dX10_which_24 : decode cX10_which 24 = .ok (.aload_n 0, 1) := by decide +kernel
theorem dX10_which_25 : decode cX10_which 25 = .ok (.getfield 36, 3) := by decide +kernel
theorem dX10_which_28 : decode cX10_which 28 = .ok (.getfield 94, 3) := by decide +kernel
theorem dX10_which_31 : decode cX10_which 31 = .ok (.if_icmp .ge 31, 3) := by decide +kernel
theorem dX10_which_34 : decode cX10_which 34 = .ok (.iload_n 2, 1) := by decide +kernel
theorem dX10_which_35 : decode cX10_which 35 = .ok (.iconst (-1), 1) := by decide +kernel
theorem dX10_which_36 : decode cX10_which 36 = .ok (.if_icmp .eq 18, 3) := by decide +kernel
theorem dX10_which_39 : decode cX10_which 39 = .ok (.aload_n 0, 1) := by decide +kernel
theorem dX10_which_40 : decode cX10_which 40 = .ok (.getfield 69, 3) := by decide +kernel
theorem dX10_which_43 : decode cX10_which 43 = .ok (.iload_n 3, 1) := by decide +kernel
theorem dX10_which_44 : decode cX10_which 44 = .ok (.iaload, 1) := by decide +kernel
theorem dX10_which_45 : decode cX10_which 45 = .ok (.aload_n 0, 1) := by decide +kernel
theorem dX10_which_46 : decode cX10_which 46 = .ok (.getfield 69, 3) := by decide +kernel
theorem dX10_which_49 : decode cX10_which 49 = .ok (.iload_n 2, 1) := by decide +kernel
theorem dX10_which_50 : decode cX10_which 50 = .ok (.iaload, 1) := by decide +kernel
theorem dX10_which_51 : decode cX10_which 51 = .ok (.if_icmp .le 5, 3) := by decide +kernel
theorem dX10_which_54 : decode cX10_which 54 = .ok (.iload_n 3, 1) := by decide +kernel
theorem dX10_which_55 : decode cX10_which 55 = .ok (.istore_n 2, 1) := by decide +kernel
theorem dX10_which_56 : decode cX10_which 56 = .ok (.iinc 3 1, 3) := by decide +kernel
theorem dX10_which_59 : decode cX10_which 59 = .ok (.goto (-36), 3) := by decide +kernel
theorem dX10_which_62 : decode cX10_which 62 = .ok (.iload_n 2, 1) := by decide +kernel
theorem dX10_which_63 : decode cX10_which 63 = .ok (.ireturn, 1) := by decide +kernel
set_option maxRecDepth 20000 in
theorem ggX10_lasts_X4_hasGleaner : GoodIn wsX10_lasts wsX4_hasGleaner := goodIn_r _ [8, 9, 10, 11, 12, 36, 37, 38, 39, 40, 41, 42, 43, 44, 45, 46] (by decide +kernel) (by decide +kernel)
set_option maxRecDepth 20000 in
theorem gX10_lasts_X4_hasGleaner : GoodIn wsX10_lasts (wsV RX10 167 RX4 yX4_hasGleaner wsX4_hasGleaner) := goodIn_app (goodIn_of _ (by decide +kernel)) ggX10_lasts_X4_hasGleaner
set_option maxRecDepth 20000 in
theorem ggX10_lasts_X10_isIn : GoodIn wsX10_lasts wsX10_isIn := goodIn_r _ [15] (by decide +kernel) (by decide +kernel)
set_option maxRecDepth 20000 in
theorem gX10_lasts_X10_isIn : GoodIn wsX10_lasts (va_wsS RX10 147 yX10_isIn wsX10_isIn) := goodIn_app (goodIn_of _ (by decide +kernel)) ggX10_lasts_X10_isIn
set_option maxRecDepth 20000 in
theorem ggX10_lasts_X10_refuseBad : GoodIn wsX10_lasts wsX10_refuseBad := goodIn_r _ [19, 20, 24, 25, 26, 27, 28, 29, 30, 31, 32, 33, 34, 35] (by decide +kernel) (by decide +kernel)
set_option maxRecDepth 20000 in
theorem gX10_lasts_X10_refuseBad : GoodIn wsX10_lasts (wsV RX10 90 RX10 yX10_refuseBad wsX10_refuseBad) := goodIn_app (goodIn_of _ (by decide +kernel)) ggX10_lasts_X10_refuseBad
set_option maxRecDepth 20000 in
theorem ggX10_lasts_X10_faded : GoodIn wsX10_lasts wsX10_faded := goodIn_r _ [23] (by decide +kernel) (by decide +kernel)
set_option maxRecDepth 20000 in
theorem gX10_lasts_X10_faded : GoodIn wsX10_lasts (va_wsS RX10 229 yX10_faded wsX10_faded) := goodIn_app (goodIn_of _ (by decide +kernel)) ggX10_lasts_X10_faded
theorem dX10_lasts_0 : decode cX10_lasts 0 = .ok (.aload_n 0, 1) := by decide +kernel
theorem dX10_lasts_1 : decode cX10_lasts 1 = .ok (.getfield 36, 3) := by decide +kernel
theorem dX10_lasts_4 : decode cX10_lasts 4 = .ok (.iload_n 1, 1) := by decide +kernel
theorem dX10_lasts_5 : decode cX10_lasts 5 = .ok (.invokevirtual 167, 3) := by decide +kernel
theorem dX10_lasts_8 : decode cX10_lasts 8 = .ok (.ifCond .eq 14, 3) := by decide +kernel
theorem dX10_lasts_11 : decode cX10_lasts 11 = .ok (.iload_n 2, 1) := by decide +kernel
theorem dX10_lasts_12 : decode cX10_lasts 12 = .ok (.iconst 1, 1) := by decide +kernel
theorem dX10_lasts_13 : decode cX10_lasts 13 = .ok (.sipush 999, 3) := by decide +kernel
theorem dX10_lasts_16 : decode cX10_lasts 16 = .ok (.invokestatic 147, 3) := by decide +kernel
theorem dX10_lasts_19 : decode cX10_lasts 19 = .ok (.ifCond .ne 8, 3) := by decide +kernel
theorem dX10_lasts_22 : decode cX10_lasts 22 = .ok (.aload_n 0, 1) := by decide +kernel
theorem dX10_lasts_23 : decode cX10_lasts 23 = .ok (.invokevirtual 90, 3) := by decide +kernel
theorem dX10_lasts_26 : decode cX10_lasts 26 = .ok (.ireturn, 1) := by decide +kernel
theorem dX10_lasts_27 : decode cX10_lasts 27 = .ok (.aload_n 0, 1) := by decide +kernel
theorem dX10_lasts_28 : decode cX10_lasts 28 = .ok (.getfield 36, 3) := by decide +kernel
theorem dX10_lasts_31 : decode cX10_lasts 31 = .ok (.getfield 140, 3) := by decide +kernel
theorem dX10_lasts_34 : decode cX10_lasts 34 = .ok (.getfield 191, 3) := by decide +kernel
theorem dX10_lasts_37 : decode cX10_lasts 37 = .ok (.iload_n 1, 1) := by decide +kernel
theorem dX10_lasts_38 : decode cX10_lasts 38 = .ok (.iaload, 1) := by decide +kernel
theorem dX10_lasts_39 : decode cX10_lasts 39 = .ok (.istore_n 3, 1) := by decide +kernel
theorem dX10_lasts_40 : decode cX10_lasts 40 = .ok (.iconst 0, 1) := by decide +kernel
theorem dX10_lasts_41 : decode cX10_lasts 41 = .ok (.istore 4, 2) := by decide +kernel
theorem dX10_lasts_43 : decode cX10_lasts 43 = .ok (.iload 4, 2) := by decide +kernel
theorem dX10_lasts_45 : decode cX10_lasts 45 = .ok (.sipush 999, 3) := by decide +kernel
theorem dX10_lasts_48 : decode cX10_lasts 48 = .ok (.if_icmp .gt 19, 3) := by decide +kernel
theorem dX10_lasts_51 : decode cX10_lasts 51 = .ok (.iload_n 3, 1) := by decide +kernel
theorem dX10_lasts_52 : decode cX10_lasts 52 = .ok (.iload_n 2, 1) := by decide +kernel
theorem dX10_lasts_53 : decode cX10_lasts 53 = .ok (.if_icmp .lt 14, 3) := by decide +kernel
theorem dX10_lasts_56 : decode cX10_lasts 56 = .ok (.iload_n 3, 1) := by decide +kernel
theorem dX10_lasts_57 : decode cX10_lasts 57 = .ok (.invokestatic 229, 3) := by decide +kernel
theorem dX10_lasts_60 : decode cX10_lasts 60 = .ok (.istore_n 3, 1) := by decide +kernel
theorem dX10_lasts_61 : decode cX10_lasts 61 = .ok (.iinc 4 1, 3) := by decide +kernel
theorem dX10_lasts_64 : decode cX10_lasts 64 = .ok (.goto (-21), 3) := by decide +kernel
theorem dX10_lasts_67 : decode cX10_lasts 67 = .ok (.iload 4, 2) := by decide +kernel
theorem dX10_lasts_69 : decode cX10_lasts 69 = .ok (.ireturn, 1) := by decide +kernel
set_option maxRecDepth 20000 in
theorem ggX10_enough_X10_isIn : GoodIn wsX10_enough wsX10_isIn := goodIn_r _ [6] (by decide +kernel) (by decide +kernel)
set_option maxRecDepth 20000 in
theorem gX10_enough_X10_isIn : GoodIn wsX10_enough (va_wsS RX10 147 yX10_isIn wsX10_isIn) := goodIn_app (goodIn_of _ (by decide +kernel)) ggX10_enough_X10_isIn
set_option maxRecDepth 20000 in
theorem ggX10_enough_X10_refuseBad : GoodIn wsX10_enough wsX10_refuseBad := goodIn_r _ [10, 11, 27, 28, 29, 30, 31, 32, 33, 34, 35, 36, 37, 38] (by decide +kernel) (by decide +kernel)
set_option maxRecDepth 20000 in
theorem gX10_enough_X10_refuseBad : GoodIn wsX10_enough (wsV RX10 90 RX10 yX10_refuseBad wsX10_refuseBad) := goodIn_app (goodIn_of _ (by decide +kernel)) ggX10_enough_X10_refuseBad
set_option maxRecDepth 20000 in
theorem ggX10_enough_J6_bitCount_0f7a4 : GoodIn wsX10_enough wsJ6_bitCount_0f7a4 := goodIn_r _ [15, 16, 17, 18] (by decide +kernel) (by decide +kernel)
set_option maxRecDepth 20000 in
theorem gX10_enough_J6_bitCount_0f7a4 : GoodIn wsX10_enough (va_wsS RX10 232 yJ6_bitCount_0f7a4 wsJ6_bitCount_0f7a4) := goodIn_app (goodIn_of _ (by decide +kernel)) ggX10_enough_J6_bitCount_0f7a4
set_option maxRecDepth 20000 in
theorem ggX10_enough_X4_storesOf : GoodIn wsX10_enough wsX4_storesOf := goodIn_r _ [23, 24, 25, 26, 39, 40, 41, 42, 43, 44, 45, 46, 47, 48, 49, 50, 51, 52, 53, 54, 55] (by decide +kernel) (by decide +kernel)
set_option maxRecDepth 20000 in
theorem gX10_enough_X4_storesOf : GoodIn wsX10_enough (wsV RX10 237 RX4 yX4_storesOf wsX4_storesOf) := goodIn_app (goodIn_of _ (by decide +kernel)) ggX10_enough_X4_storesOf
theorem dX10_enough_0 : decode cX10_enough 0 = .ok (.iload_n 1, 1) := by decide +kernel
theorem dX10_enough_1 : decode cX10_enough 1 = .ok (.iconst 0, 1) := by decide +kernel
theorem dX10_enough_2 : decode cX10_enough 2 = .ok (.sipush 999, 3) := by decide +kernel
theorem dX10_enough_5 : decode cX10_enough 5 = .ok (.invokestatic 147, 3) := by decide +kernel
theorem dX10_enough_8 : decode cX10_enough 8 = .ok (.ifCond .ne 8, 3) := by decide +kernel
theorem dX10_enough_11 : decode cX10_enough 11 = .ok (.aload_n 0, 1) := by decide +kernel
theorem dX10_enough_12 : decode cX10_enough 12 = .ok (.invokevirtual 90, 3) := by decide +kernel
theorem dX10_enough_15 : decode cX10_enough 15 = .ok (.ireturn, 1) := by decide +kernel
theorem dX10_enough_16 : decode cX10_enough 16 = .ok (.iconst (-1), 1) := by decide +kernel
theorem dX10_enough_17 : decode cX10_enough 17 = .ok (.istore_n 2, 1) := by decide +kernel
theorem dX10_enough_18 : decode cX10_enough 18 = .ok (.iconst 0, 1) := by decide +kernel
theorem dX10_enough_19 : decode cX10_enough 19 = .ok (.istore_n 3, 1) := by decide +kernel
theorem dX10_enough_20 : decode cX10_enough 20 = .ok (.iload_n 3, 1) := by decide +kernel
theorem dX10_enough_21 : decode cX10_enough 21 = .ok (.iconst 1, 1) := by decide +kernel
theorem dX10_enough_22 : decode cX10_enough 22 = .ok (.aload_n 0, 1) := by decide +kernel
theorem dX10_enough_23 : decode cX10_enough 23 = .ok (.getfield 36, 3) := by decide +kernel
theorem dX10_enough_26 : decode cX10_enough 26 = .ok (.getfield 115, 3) := by decide +kernel
theorem dX10_enough_29 : decode cX10_enough 29 = .ok (.ishl, 1) := by decide +kernel
theorem dX10_enough_30 : decode cX10_enough 30 = .ok (.if_icmp .ge 51, 3) := by decide +kernel
theorem dX10_enough_33 : decode cX10_enough 33 = .ok (.iload_n 2, 1) := by decide +kernel
theorem dX10_enough_34 : decode cX10_enough 34 = .ok (.iconst (-1), 1) := by decide +kernel
theorem dX10_enough_35 : decode cX10_enough 35 = .ok (.if_icmp .eq 14, 3) := by decide +kernel
theorem dX10_enough_38 : decode cX10_enough 38 = .ok (.iload_n 3, 1) := by decide +kernel
theorem dX10_enough_39 : decode cX10_enough 39 = .ok (.invokestatic 232, 3) := by decide +kernel
theorem dX10_enough_42 : decode cX10_enough 42 = .ok (.iload_n 2, 1) := by decide +kernel
theorem dX10_enough_43 : decode cX10_enough 43 = .ok (.invokestatic 232, 3) := by decide +kernel
theorem dX10_enough_46 : decode cX10_enough 46 = .ok (.if_icmp .ge 7, 3) := by decide +kernel
theorem dX10_enough_49 : decode cX10_enough 49 = .ok (.iconst 1, 1) := by decide +kernel
theorem dX10_enough_50 : decode cX10_enough 50 = .ok (.goto 4, 3) := by decide +kernel
theorem dX10_enough_53 : decode cX10_enough 53 = .ok (.iconst 0, 1) := by decide +kernel
theorem dX10_enough_54 : decode cX10_enough 54 = .ok (.istore 4, 2) := by decide +kernel
theorem dX10_enough_56 : decode cX10_enough 56 = .ok (.iload 4, 2) := by decide +kernel
theorem dX10_enough_58 : decode cX10_enough 58 = .ok (.ifCond .eq 17, 3) := by decide +kernel
theorem dX10_enough_61 : decode cX10_enough 61 = .ok (.aload_n 0, 1) := by decide +kernel
theorem dX10_enough_62 : decode cX10_enough 62 = .ok (.getfield 36, 3) := by decide +kernel
theorem dX10_enough_65 : decode cX10_enough 65 = .ok (.iload_n 3, 1) := by decide +kernel
theorem dX10_enough_66 : decode cX10_enough 66 = .ok (.invokevirtual 237, 3) := by decide +kernel
theorem dX10_enough_69 : decode cX10_enough 69 = .ok (.iload_n 1, 1) := by decide +kernel
theorem dX10_enough_70 : decode cX10_enough 70 = .ok (.if_icmp .lt 5, 3) := by decide +kernel
theorem dX10_enough_73 : decode cX10_enough 73 = .ok (.iload_n 3, 1) := by decide +kernel
theorem dX10_enough_74 : decode cX10_enough 74 = .ok (.istore_n 2, 1) := by decide +kernel
theorem dX10_enough_75 : decode cX10_enough 75 = .ok (.iinc 3 1, 3) := by decide +kernel
theorem dX10_enough_78 : decode cX10_enough 78 = .ok (.goto (-58), 3) := by decide +kernel
theorem dX10_enough_81 : decode cX10_enough 81 = .ok (.iload_n 2, 1) := by decide +kernel
theorem dX10_enough_82 : decode cX10_enough 82 = .ok (.ireturn, 1) := by decide +kernel
set_option maxRecDepth 20000 in
theorem ggX10_missed_X4_hasField : GoodIn wsX10_missed wsX4_hasField := goodIn_r _ [7, 8, 9, 10, 11, 46, 47, 48, 49, 50, 51, 52, 53, 54, 55, 56] (by decide +kernel) (by decide +kernel)
set_option maxRecDepth 20000 in
theorem gX10_missed_X4_hasField : GoodIn wsX10_missed (wsV RX10 112 RX4 yX4_hasField wsX4_hasField) := goodIn_app (goodIn_of _ (by decide +kernel)) ggX10_missed_X4_hasField
set_option maxRecDepth 20000 in
theorem ggX10_missed_X10_isBelow : GoodIn wsX10_missed wsX10_isBelow := goodIn_r _ [11] (by decide +kernel) (by decide +kernel)
set_option maxRecDepth 20000 in
theorem gX10_missed_X10_isBelow : GoodIn wsX10_missed (va_wsS RX10 86 yX10_isBelow wsX10_isBelow) := goodIn_app (goodIn_of _ (by decide +kernel)) ggX10_missed_X10_isBelow
set_option maxRecDepth 20000 in
theorem ggX10_missed_X10_isLight : GoodIn wsX10_missed wsX10_isLight := goodIn_r _ [15, 16, 17, 10, 18] (by decide +kernel) (by decide +kernel)
set_option maxRecDepth 20000 in
theorem gX10_missed_X10_isLight : GoodIn wsX10_missed (va_wsS RX10 101 yX10_isLight wsX10_isLight) := goodIn_app (goodIn_of _ (by decide +kernel)) ggX10_missed_X10_isLight
set_option maxRecDepth 20000 in
theorem ggX10_missed_X10_isIn : GoodIn wsX10_missed wsX10_isIn := goodIn_r _ [18] (by decide +kernel) (by decide +kernel)
set_option maxRecDepth 20000 in
theorem gX10_missed_X10_isIn : GoodIn wsX10_missed (va_wsS RX10 147 yX10_isIn wsX10_isIn) := goodIn_app (goodIn_of _ (by decide +kernel)) ggX10_missed_X10_isIn
set_option maxRecDepth 20000 in
theorem ggX10_missed_X10_refuseBad : GoodIn wsX10_missed wsX10_refuseBad := goodIn_r _ [22, 23, 34, 35, 36, 37, 38, 39, 40, 41, 42, 43, 44, 45] (by decide +kernel) (by decide +kernel)
set_option maxRecDepth 20000 in
theorem gX10_missed_X10_refuseBad : GoodIn wsX10_missed (wsV RX10 90 RX10 yX10_refuseBad wsX10_refuseBad) := goodIn_app (goodIn_of _ (by decide +kernel)) ggX10_missed_X10_refuseBad
set_option maxRecDepth 20000 in
theorem ggX10_missed_X10_refuseFull : GoodIn wsX10_missed wsX10_refuseFull := goodIn_r _ [27, 23, 34, 35, 36, 37, 38, 39, 40, 41, 42, 43, 44, 45] (by decide +kernel) (by decide +kernel)
set_option maxRecDepth 20000 in
theorem gX10_missed_X10_refuseFull : GoodIn wsX10_missed (wsV RX10 105 RX10 yX10_refuseFull wsX10_refuseFull) := goodIn_app (goodIn_of _ (by decide +kernel)) ggX10_missed_X10_refuseFull
set_option maxRecDepth 20000 in
theorem ggX10_missed_X4_addMissed : GoodIn wsX10_missed wsX4_addMissed := goodIn_r _ [31, 32, 33, 46, 47, 48, 49, 50, 51, 52, 53, 54, 55, 56] (by decide +kernel) (by decide +kernel)
set_option maxRecDepth 20000 in
theorem gX10_missed_X4_addMissed : GoodIn wsX10_missed (wsV RX10 243 RX4 yX4_addMissed wsX4_addMissed) := goodIn_app (goodIn_of _ (by decide +kernel)) ggX10_missed_X4_addMissed
theorem dX10_missed_0 : decode cX10_missed 0 = .ok (.aload_n 0, 1) := by decide +kernel
theorem dX10_missed_1 : decode cX10_missed 1 = .ok (.getfield 36, 3) := by decide +kernel
theorem dX10_missed_4 : decode cX10_missed 4 = .ok (.iload_n 1, 1) := by decide +kernel
theorem dX10_missed_5 : decode cX10_missed 5 = .ok (.invokevirtual 112, 3) := by decide +kernel
theorem dX10_missed_8 : decode cX10_missed 8 = .ok (.ifCond .eq 30, 3) := by decide +kernel
theorem dX10_missed_11 : decode cX10_missed 11 = .ok (.iload_n 2, 1) := by decide +kernel
theorem dX10_missed_12 : decode cX10_missed 12 = .ok (.bipush 12, 2) := by decide +kernel
theorem dX10_missed_14 : decode cX10_missed 14 = .ok (.invokestatic 86, 3) := by decide +kernel
theorem dX10_missed_17 : decode cX10_missed 17 = .ok (.ifCond .eq 21, 3) := by decide +kernel
theorem dX10_missed_20 : decode cX10_missed 20 = .ok (.iload_n 3, 1) := by decide +kernel
theorem dX10_missed_21 : decode cX10_missed 21 = .ok (.invokestatic 101, 3) := by decide +kernel
theorem dX10_missed_24 : decode cX10_missed 24 = .ok (.ifCond .eq 14, 3) := by decide +kernel
theorem dX10_missed_27 : decode cX10_missed 27 = .ok (.iload 4, 2) := by decide +kernel
theorem dX10_missed_29 : decode cX10_missed 29 = .ok (.iconst 0, 1) := by decide +kernel
theorem dX10_missed_30 : decode cX10_missed 30 = .ok (.bipush 60, 2) := by decide +kernel
theorem dX10_missed_32 : decode cX10_missed 32 = .ok (.invokestatic 147, 3) := by decide +kernel
theorem dX10_missed_35 : decode cX10_missed 35 = .ok (.ifCond .ne 8, 3) := by decide +kernel
theorem dX10_missed_38 : decode cX10_missed 38 = .ok (.aload_n 0, 1) := by decide +kernel
theorem dX10_missed_39 : decode cX10_missed 39 = .ok (.invokevirtual 90, 3) := by decide +kernel
theorem dX10_missed_42 : decode cX10_missed 42 = .ok (.ireturn, 1) := by decide +kernel
theorem dX10_missed_43 : decode cX10_missed 43 = .ok (.aload_n 0, 1) := by decide +kernel
theorem dX10_missed_44 : decode cX10_missed 44 = .ok (.getfield 36, 3) := by decide +kernel
theorem dX10_missed_47 : decode cX10_missed 47 = .ok (.getfield 240, 3) := by decide +kernel
theorem dX10_missed_50 : decode cX10_missed 50 = .ok (.iconst 4, 1) := by decide +kernel
theorem dX10_missed_51 : decode cX10_missed 51 = .ok (.if_icmp .lt 8, 3) := by decide +kernel
theorem dX10_missed_54 : decode cX10_missed 54 = .ok (.aload_n 0, 1) := by decide +kernel
theorem dX10_missed_55 : decode cX10_missed 55 = .ok (.invokevirtual 105, 3) := by decide +kernel
theorem dX10_missed_58 : decode cX10_missed 58 = .ok (.ireturn, 1) := by decide +kernel
theorem dX10_missed_59 : decode cX10_missed 59 = .ok (.aload_n 0, 1) := by decide +kernel
theorem dX10_missed_60 : decode cX10_missed 60 = .ok (.getfield 36, 3) := by decide +kernel
theorem dX10_missed_63 : decode cX10_missed 63 = .ok (.iload_n 1, 1) := by decide +kernel
theorem dX10_missed_64 : decode cX10_missed 64 = .ok (.iload_n 2, 1) := by decide +kernel
theorem dX10_missed_65 : decode cX10_missed 65 = .ok (.iload_n 3, 1) := by decide +kernel
theorem dX10_missed_66 : decode cX10_missed 66 = .ok (.iload 4, 2) := by decide +kernel
theorem dX10_missed_68 : decode cX10_missed 68 = .ok (.invokevirtual 243, 3) := by decide +kernel
theorem dX10_missed_71 : decode cX10_missed 71 = .ok (.ireturn, 1) := by decide +kernel
set_option maxRecDepth 20000 in
theorem ggX10_clouds_X4_missedFit : GoodIn wsX10_clouds wsX4_missedFit := goodIn_r _ [6, 7, 8, 9, 10, 11, 12, 13, 14, 15, 16, 17, 18, 19, 20, 21, 22, 23, 24, 25, 26, 27, 28, 29, 30, 31, 32, 33, 34, 35, 36, 37, 38, 39, 40, 41, 42, 43, 44, 45, 46, 47, 48, 49, 50, 51, 52, 53, 54, 55, 56, 57, 58, 71, 72, 73, 74, 75, 76, 77, 78, 79, 80, 81] (by decide +kernel) (by decide +kernel)
set_option maxRecDepth 20000 in
theorem gX10_clouds_X4_missedFit : GoodIn wsX10_clouds (wsV RX10 247 RX4 yX4_missedFit wsX4_missedFit) := goodIn_app (goodIn_of _ (by decide +kernel)) ggX10_clouds_X4_missedFit
theorem dX10_clouds_0 : decode cX10_clouds 0 = .ok (.iconst 0, 1) := by decide +kernel
theorem dX10_clouds_1 : decode cX10_clouds 1 = .ok (.istore_n 1, 1) := by decide +kernel
theorem dX10_clouds_2 : decode cX10_clouds 2 = .ok (.iconst 0, 1) := by decide +kernel
theorem dX10_clouds_3 : decode cX10_clouds 3 = .ok (.istore_n 2, 1) := by decide +kernel
theorem dX10_clouds_4 : decode cX10_clouds 4 = .ok (.iload_n 2, 1) := by decide +kernel
theorem dX10_clouds_5 : decode cX10_clouds 5 = .ok (.bipush 10, 2) := by decide +kernel
theorem dX10_clouds_7 : decode cX10_clouds 7 = .ok (.if_icmp .ge 26, 3) := by decide +kernel
theorem dX10_clouds_10 : decode cX10_clouds 10 = .ok (.aload_n 0, 1) := by decide +kernel
theorem dX10_clouds_11 : decode cX10_clouds 11 = .ok (.getfield 36, 3) := by decide +kernel
theorem dX10_clouds_14 : decode cX10_clouds 14 = .ok (.iload_n 2, 1) := by decide +kernel
theorem dX10_clouds_15 : decode cX10_clouds 15 = .ok (.invokevirtual 247, 3) := by decide +kernel
theorem dX10_clouds_18 : decode cX10_clouds 18 = .ok (.ifCond .eq 9, 3) := by decide +kernel
theorem dX10_clouds_21 : decode cX10_clouds 21 = .ok (.iload_n 1, 1) := by decide +kernel
theorem dX10_clouds_22 : decode cX10_clouds 22 = .ok (.iconst 1, 1) := by decide +kernel
theorem dX10_clouds_23 : decode cX10_clouds 23 = .ok (.iload_n 2, 1) := by decide +kernel
theorem dX10_clouds_24 : decode cX10_clouds 24 = .ok (.ishl, 1) := by decide +kernel
theorem dX10_clouds_25 : decode cX10_clouds 25 = .ok (.ior, 1) := by decide +kernel
theorem dX10_clouds_26 : decode cX10_clouds 26 = .ok (.istore_n 1, 1) := by decide +kernel
theorem dX10_clouds_27 : decode cX10_clouds 27 = .ok (.iinc 2 1, 3) := by decide +kernel
theorem dX10_clouds_30 : decode cX10_clouds 30 = .ok (.goto (-26), 3) := by decide +kernel
theorem dX10_clouds_33 : decode cX10_clouds 33 = .ok (.iload_n 1, 1) := by decide +kernel
theorem dX10_clouds_34 : decode cX10_clouds 34 = .ok (.ireturn, 1) := by decide +kernel
set_option maxRecDepth 20000 in
theorem ggX10_note_X4_hasField : GoodIn wsX10_note wsX4_hasField := goodIn_r _ [7, 8, 9, 10, 11, 46, 47, 48, 49, 50, 51, 52, 53, 54, 55, 56] (by decide +kernel) (by decide +kernel)
set_option maxRecDepth 20000 in
theorem gX10_note_X4_hasField : GoodIn wsX10_note (wsV RX10 112 RX4 yX4_hasField wsX4_hasField) := goodIn_app (goodIn_of _ (by decide +kernel)) ggX10_note_X4_hasField
set_option maxRecDepth 20000 in
theorem ggX10_note_X10_isBelow : GoodIn wsX10_note wsX10_isBelow := goodIn_r _ [11] (by decide +kernel) (by decide +kernel)
set_option maxRecDepth 20000 in
theorem gX10_note_X10_isBelow : GoodIn wsX10_note (va_wsS RX10 86 yX10_isBelow wsX10_isBelow) := goodIn_app (goodIn_of _ (by decide +kernel)) ggX10_note_X10_isBelow
set_option maxRecDepth 20000 in
theorem ggX10_note_X10_isLight : GoodIn wsX10_note wsX10_isLight := goodIn_r _ [15, 16, 17, 10, 18] (by decide +kernel) (by decide +kernel)
set_option maxRecDepth 20000 in
theorem gX10_note_X10_isLight : GoodIn wsX10_note (va_wsS RX10 101 yX10_isLight wsX10_isLight) := goodIn_app (goodIn_of _ (by decide +kernel)) ggX10_note_X10_isLight
set_option maxRecDepth 20000 in
theorem ggX10_note_X10_refuseBad : GoodIn wsX10_note wsX10_refuseBad := goodIn_r _ [22, 23, 34, 35, 36, 37, 38, 39, 40, 41, 42, 43, 44, 45] (by decide +kernel) (by decide +kernel)
set_option maxRecDepth 20000 in
theorem gX10_note_X10_refuseBad : GoodIn wsX10_note (wsV RX10 90 RX10 yX10_refuseBad wsX10_refuseBad) := goodIn_app (goodIn_of _ (by decide +kernel)) ggX10_note_X10_refuseBad
set_option maxRecDepth 20000 in
theorem ggX10_note_X10_isIn : GoodIn wsX10_note wsX10_isIn := goodIn_r _ [18] (by decide +kernel) (by decide +kernel)
set_option maxRecDepth 20000 in
theorem gX10_note_X10_isIn : GoodIn wsX10_note (va_wsS RX10 147 yX10_isIn wsX10_isIn) := goodIn_app (goodIn_of _ (by decide +kernel)) ggX10_note_X10_isIn
set_option maxRecDepth 20000 in
theorem ggX10_note_X10_refuseFull : GoodIn wsX10_note wsX10_refuseFull := goodIn_r _ [27, 23, 34, 35, 36, 37, 38, 39, 40, 41, 42, 43, 44, 45] (by decide +kernel) (by decide +kernel)
set_option maxRecDepth 20000 in
theorem gX10_note_X10_refuseFull : GoodIn wsX10_note (wsV RX10 105 RX10 yX10_refuseFull wsX10_refuseFull) := goodIn_app (goodIn_of _ (by decide +kernel)) ggX10_note_X10_refuseFull
set_option maxRecDepth 20000 in
theorem ggX10_note_X4_addNote : GoodIn wsX10_note wsX4_addNote := goodIn_r _ [31, 32, 33, 46, 47, 48, 49, 50, 51, 52, 53, 54, 55, 56] (by decide +kernel) (by decide +kernel)
set_option maxRecDepth 20000 in
theorem gX10_note_X4_addNote : GoodIn wsX10_note (wsV RX10 253 RX4 yX4_addNote wsX4_addNote) := goodIn_app (goodIn_of _ (by decide +kernel)) ggX10_note_X4_addNote
theorem dX10_note_0 : decode cX10_note 0 = .ok (.aload_n 0, 1) := by decide +kernel
theorem dX10_note_1 : decode cX10_note 1 = .ok (.getfield 36, 3) := by decide +kernel
theorem dX10_note_4 : decode cX10_note 4 = .ok (.iload_n 1, 1) := by decide +kernel
theorem dX10_note_5 : decode cX10_note 5 = .ok (.invokevirtual 112, 3) := by decide +kernel
theorem dX10_note_8 : decode cX10_note 8 = .ok (.ifCond .eq 19, 3) := by decide +kernel
theorem dX10_note_11 : decode cX10_note 11 = .ok (.iload_n 2, 1) := by decide +kernel
theorem dX10_note_12 : decode cX10_note 12 = .ok (.bipush 12, 2) := by decide +kernel
theorem dX10_note_14 : decode cX10_note 14 = .ok (.invokestatic 86, 3) := by decide +kernel
theorem dX10_note_17 : decode cX10_note 17 = .ok (.ifCond .eq 10, 3) := by decide +kernel
theorem dX10_note_20 : decode cX10_note 20 = .ok (.iload_n 3, 1) := by decide +kernel
theorem dX10_note_21 : decode cX10_note 21 = .ok (.invokestatic 101, 3) := by decide +kernel
theorem dX10_note_24 : decode cX10_note 24 = .ok (.ifCond .ne 8, 3) := by decide +kernel
theorem dX10_note_27 : decode cX10_note 27 = .ok (.aload_n 0, 1) := by decide +kernel
theorem dX10_note_28 : decode cX10_note 28 = .ok (.invokevirtual 90, 3) := by decide +kernel
theorem dX10_note_31 : decode cX10_note 31 = .ok (.ireturn, 1) := by decide +kernel
theorem dX10_note_32 : decode cX10_note 32 = .ok (.iload 4, 2) := by decide +kernel
theorem dX10_note_34 : decode cX10_note 34 = .ok (.bipush 10, 2) := by decide +kernel
theorem dX10_note_36 : decode cX10_note 36 = .ok (.invokestatic 86, 3) := by decide +kernel
theorem dX10_note_39 : decode cX10_note 39 = .ok (.ifCond .eq 14, 3) := by decide +kernel
theorem dX10_note_42 : decode cX10_note 42 = .ok (.iload 5, 2) := by decide +kernel
theorem dX10_note_44 : decode cX10_note 44 = .ok (.iconst 0, 1) := by decide +kernel
theorem dX10_note_45 : decode cX10_note 45 = .ok (.bipush 99, 2) := by decide +kernel
theorem dX10_note_47 : decode cX10_note 47 = .ok (.invokestatic 147, 3) := by decide +kernel
theorem dX10_note_50 : decode cX10_note 50 = .ok (.ifCond .ne 8, 3) := by decide +kernel
theorem dX10_note_53 : decode cX10_note 53 = .ok (.aload_n 0, 1) := by decide +kernel
theorem dX10_note_54 : decode cX10_note 54 = .ok (.invokevirtual 90, 3) := by decide +kernel
theorem dX10_note_57 : decode cX10_note 57 = .ok (.ireturn, 1) := by decide +kernel
theorem dX10_note_58 : decode cX10_note 58 = .ok (.aload_n 0, 1) := by decide +kernel
theorem dX10_note_59 : decode cX10_note 59 = .ok (.getfield 36, 3) := by decide +kernel
theorem dX10_note_62 : decode cX10_note 62 = .ok (.getfield 250, 3) := by decide +kernel
theorem dX10_note_65 : decode cX10_note 65 = .ok (.bipush 6, 2) := by decide +kernel
theorem dX10_note_67 : decode cX10_note 67 = .ok (.if_icmp .lt 8, 3) := by decide +kernel
theorem dX10_note_70 : decode cX10_note 70 = .ok (.aload_n 0, 1) := by decide +kernel
theorem dX10_note_71 : decode cX10_note 71 = .ok (.invokevirtual 105, 3) := by decide +kernel
theorem dX10_note_74 : decode cX10_note 74 = .ok (.ireturn, 1) := by decide +kernel
theorem dX10_note_75 : decode cX10_note 75 = .ok (.aload_n 0, 1) := by decide +kernel
theorem dX10_note_76 : decode cX10_note 76 = .ok (.getfield 36, 3) := by decide +kernel
theorem dX10_note_79 : decode cX10_note 79 = .ok (.iload_n 1, 1) := by decide +kernel
theorem dX10_note_80 : decode cX10_note 80 = .ok (.iload_n 2, 1) := by decide +kernel
theorem dX10_note_81 : decode cX10_note 81 = .ok (.iload_n 3, 1) := by decide +kernel
theorem dX10_note_82 : decode cX10_note 82 = .ok (.iload 4, 2) := by decide +kernel
theorem dX10_note_84 : decode cX10_note 84 = .ok (.iload 5, 2) := by decide +kernel
theorem dX10_note_86 : decode cX10_note 86 = .ok (.invokevirtual 253, 3) := by decide +kernel
theorem dX10_note_89 : decode cX10_note 89 = .ok (.ireturn, 1) := by decide +kernel
set_option maxRecDepth 20000 in
theorem ggX10_forget_X10_isBelow : GoodIn wsX10_forget wsX10_isBelow := goodIn_r _ [7] (by decide +kernel) (by decide +kernel)
set_option maxRecDepth 20000 in
theorem gX10_forget_X10_isBelow : GoodIn wsX10_forget (va_wsS RX10 86 yX10_isBelow wsX10_isBelow) := goodIn_app (goodIn_of _ (by decide +kernel)) ggX10_forget_X10_isBelow
set_option maxRecDepth 20000 in
theorem ggX10_forget_X10_refuseBad : GoodIn wsX10_forget wsX10_refuseBad := goodIn_r _ [11, 12, 13, 14, 15, 16, 17, 18, 19, 20, 21, 22, 23, 24] (by decide +kernel) (by decide +kernel)
set_option maxRecDepth 20000 in
theorem gX10_forget_X10_refuseBad : GoodIn wsX10_forget (wsV RX10 90 RX10 yX10_refuseBad wsX10_refuseBad) := goodIn_app (goodIn_of _ (by decide +kernel)) ggX10_forget_X10_refuseBad
theorem dX10_forget_0 : decode cX10_forget 0 = .ok (.iload_n 1, 1) := by decide +kernel
theorem dX10_forget_1 : decode cX10_forget 1 = .ok (.iconst 2, 1) := by decide +kernel
theorem dX10_forget_2 : decode cX10_forget 2 = .ok (.invokestatic 86, 3) := by decide +kernel
theorem dX10_forget_5 : decode cX10_forget 5 = .ok (.ifCond .ne 8, 3) := by decide +kernel
theorem dX10_forget_8 : decode cX10_forget 8 = .ok (.aload_n 0, 1) := by decide +kernel
theorem dX10_forget_9 : decode cX10_forget 9 = .ok (.invokevirtual 90, 3) := by decide +kernel
theorem dX10_forget_12 : decode cX10_forget 12 = .ok (.ireturn, 1) := by decide +kernel
theorem dX10_forget_13 : decode cX10_forget 13 = .ok (.iload_n 1, 1) := by decide +kernel
theorem dX10_forget_14 : decode cX10_forget 14 = .ok (.ifCond .ne 13, 3) := by decide +kernel
theorem dX10_forget_17 : decode cX10_forget 17 = .ok (.aload_n 0, 1) := by decide +kernel
theorem dX10_forget_18 : decode cX10_forget 18 = .ok (.getfield 36, 3) := by decide +kernel
theorem dX10_forget_21 : decode cX10_forget 21 = .ok (.getfield 240, 3) := by decide +kernel
theorem dX10_forget_24 : decode cX10_forget 24 = .ok (.goto 10, 3) := by decide +kernel
theorem dX10_forget_27 : decode cX10_forget 27 = .ok (.aload_n 0, 1) := by decide +kernel
theorem dX10_forget_28 : decode cX10_forget 28 = .ok (.getfield 36, 3) := by decide +kernel
theorem dX10_forget_31 : decode cX10_forget 31 = .ok (.getfield 250, 3) := by decide +kernel
theorem dX10_forget_34 : decode cX10_forget 34 = .ok (.istore_n 2, 1) := by decide +kernel
theorem dX10_forget_35 : decode cX10_forget 35 = .ok (.iload_n 1, 1) := by decide +kernel
theorem dX10_forget_36 : decode cX10_forget 36 = .ok (.ifCond .ne 14, 3) := by decide +kernel
theorem dX10_forget_39 : decode cX10_forget 39 = .ok (.aload_n 0, 1) := by decide +kernel
theorem dX10_forget_40 : decode cX10_forget 40 = .ok (.getfield 36, 3) := by decide +kernel
theorem dX10_forget_43 : decode cX10_forget 43 = .ok (.iconst 0, 1) := by decide +kernel
theorem dX10_forget_44 : decode cX10_forget 44 = .ok (.putfield 240, 3) := by decide +kernel
theorem dX10_forget_47 : decode cX10_forget 47 = .ok (.goto 11, 3) := by decide +kernel
theorem dX10_forget_50 : decode cX10_forget 50 = .ok (.aload_n 0, 1) := by decide +kernel
theorem dX10_forget_51 : decode cX10_forget 51 = .ok (.getfield 36, 3) := by decide +kernel
theorem dX10_forget_54 : decode cX10_forget 54 = .ok (.iconst 0, 1) := by decide +kernel
theorem dX10_forget_55 : decode cX10_forget 55 = .ok (.putfield 250, 3) := by decide +kernel
theorem dX10_forget_58 : decode cX10_forget 58 = .ok (.iload_n 2, 1) := by decide +kernel
theorem dX10_forget_59 : decode cX10_forget 59 = .ok (.ireturn, 1) := by decide +kernel
set_option maxRecDepth 20000 in
theorem ggX10_is_X4_hasField : GoodIn wsX10_is wsX4_hasField := goodIn_r _ [6, 7, 8, 9, 10, 87, 88, 89, 90, 91, 92, 93, 94, 95, 96, 97] (by decide +kernel) (by decide +kernel)
set_option maxRecDepth 20000 in
theorem gX10_is_X4_hasField : GoodIn wsX10_is (wsV RX10 112 RX4 yX4_hasField wsX4_hasField) := goodIn_app (goodIn_of _ (by decide +kernel)) ggX10_is_X4_hasField
set_option maxRecDepth 20000 in
theorem ggX10_is_X10_refuseBad : GoodIn wsX10_is wsX10_refuseBad := goodIn_r _ [14, 15, 75, 76, 77, 78, 79, 80, 81, 82, 83, 84, 85, 86] (by decide +kernel) (by decide +kernel)
set_option maxRecDepth 20000 in
theorem gX10_is_X10_refuseBad : GoodIn wsX10_is (wsV RX10 90 RX10 yX10_refuseBad wsX10_refuseBad) := goodIn_app (goodIn_of _ (by decide +kernel)) ggX10_is_X10_refuseBad
set_option maxRecDepth 20000 in
theorem ggX10_is_X4_kindsThatFit : GoodIn wsX10_is wsX4_kindsThatFit := goodIn_r _ [19, 20, 21, 22, 23, 5, 24, 25, 26, 27, 28, 29, 30, 31, 32, 33, 34, 35, 36, 37, 38, 39, 40, 41, 42, 43, 44, 45, 46, 47, 48, 49, 50, 51, 52, 53, 54, 55, 56, 57, 58, 59, 60, 61, 62, 63, 64, 65, 66, 67, 68, 69, 70, 71, 72, 73, 74, 87, 88, 89, 90, 91, 92, 93, 94, 95, 96, 97] (by decide +kernel) (by decide +kernel)
set_option maxRecDepth 20000 in
theorem gX10_is_X4_kindsThatFit : GoodIn wsX10_is (wsV RX10 257 RX4 yX4_kindsThatFit wsX4_kindsThatFit) := goodIn_app (goodIn_of _ (by decide +kernel)) ggX10_is_X4_kindsThatFit
theorem dX10_is_0 : decode cX10_is 0 = .ok (.aload_n 0, 1) := by decide +kernel
theorem dX10_is_1 : decode cX10_is 1 = .ok (.getfield 36, 3) := by decide +kernel
theorem dX10_is_4 : decode cX10_is 4 = .ok (.iload_n 1, 1) := by decide +kernel
theorem dX10_is_5 : decode cX10_is 5 = .ok (.invokevirtual 112, 3) := by decide +kernel
theorem dX10_is_8 : decode cX10_is 8 = .ok (.ifCond .ne 8, 3) := by decide +kernel
theorem dX10_is_11 : decode cX10_is 11 = .ok (.aload_n 0, 1) := by decide +kernel
theorem dX10_is_12 : decode cX10_is 12 = .ok (.invokevirtual 90, 3) := by decide +kernel
theorem dX10_is_15 : decode cX10_is 15 = .ok (.ireturn, 1) := by decide +kernel
theorem dX10_is_16 : decode cX10_is 16 = .ok (.aload_n 0, 1) := by decide +kernel
theorem dX10_is_17 : decode cX10_is 17 = .ok (.getfield 36, 3) := by decide +kernel
theorem dX10_is_20 : decode cX10_is 20 = .ok (.iload_n 1, 1) := by decide +kernel
theorem dX10_is_21 : decode cX10_is 21 = .ok (.invokevirtual 257, 3) := by decide +kernel
theorem dX10_is_24 : decode cX10_is 24 = .ok (.ireturn, 1) := by decide +kernel
set_option maxRecDepth 20000 in
theorem ggX10_look_X4_hasField : GoodIn wsX10_look wsX4_hasField := goodIn_r _ [8, 9, 10, 11, 12, 97, 98, 99, 100, 101, 102, 103, 104, 105, 106, 107] (by decide +kernel) (by decide +kernel)
set_option maxRecDepth 20000 in
theorem gX10_look_X4_hasField : GoodIn wsX10_look (wsV RX10 112 RX4 yX4_hasField wsX4_hasField) := goodIn_app (goodIn_of _ (by decide +kernel)) ggX10_look_X4_hasField
set_option maxRecDepth 20000 in
theorem ggX10_look_X10_refuseBad : GoodIn wsX10_look wsX10_refuseBad := goodIn_r _ [16, 17, 85, 86, 87, 88, 89, 90, 91, 92, 93, 94, 95, 96] (by decide +kernel) (by decide +kernel)
set_option maxRecDepth 20000 in
theorem gX10_look_X10_refuseBad : GoodIn wsX10_look (wsV RX10 90 RX10 yX10_refuseBad wsX10_refuseBad) := goodIn_app (goodIn_of _ (by decide +kernel)) ggX10_look_X10_refuseBad
set_option maxRecDepth 20000 in
theorem ggX10_look_X4_kindsThatFit : GoodIn wsX10_look wsX4_kindsThatFit := goodIn_r _ [21, 22, 23, 24, 25, 7, 26, 27, 28, 29, 30, 31, 32, 33, 34, 35, 36, 37, 38, 39, 40, 41, 42, 43, 44, 45, 46, 47, 48, 49, 50, 51, 52, 53, 54, 55, 56, 57, 58, 59, 60, 61, 62, 63, 64, 65, 66, 67, 68, 69, 70, 71, 72, 73, 74, 75, 76, 97, 98, 99, 100, 101, 102, 103, 104, 105, 106, 107] (by decide +kernel) (by decide +kernel)
set_option maxRecDepth 20000 in
theorem gX10_look_X4_kindsThatFit : GoodIn wsX10_look (wsV RX10 257 RX4 yX4_kindsThatFit wsX4_kindsThatFit) := goodIn_app (goodIn_of _ (by decide +kernel)) ggX10_look_X4_kindsThatFit
set_option maxRecDepth 20000 in
theorem ggX10_look_X10_mostAlike : GoodIn wsX10_look wsX10_mostAlike := goodIn_r _ [80, 81, 82, 37, 38, 39, 83, 30, 31, 32, 33, 34, 35, 36, 40, 41, 42, 43, 44, 45, 46, 47, 48, 49, 50, 51, 52, 53, 54, 55, 56, 57, 58, 59, 60, 61, 62, 63, 84, 65, 66, 67, 68, 69, 70, 71, 72, 73, 74, 75, 76, 85, 86, 87, 88, 89, 90, 91, 92, 93, 94, 95, 96] (by decide +kernel) (by decide +kernel)
set_option maxRecDepth 20000 in
theorem gX10_look_X10_mostAlike : GoodIn wsX10_look (wsV RX10 260 RX10 yX10_mostAlike wsX10_mostAlike) := goodIn_app (goodIn_of _ (by decide +kernel)) ggX10_look_X10_mostAlike
theorem dX10_look_0 : decode cX10_look 0 = .ok (.aload_n 0, 1) := by decide +kernel
theorem dX10_look_1 : decode cX10_look 1 = .ok (.getfield 36, 3) := by decide +kernel
theorem dX10_look_4 : decode cX10_look 4 = .ok (.iload_n 1, 1) := by decide +kernel
theorem dX10_look_5 : decode cX10_look 5 = .ok (.invokevirtual 112, 3) := by decide +kernel
theorem dX10_look_8 : decode cX10_look 8 = .ok (.ifCond .ne 8, 3) := by decide +kernel
theorem dX10_look_11 : decode cX10_look 11 = .ok (.aload_n 0, 1) := by decide +kernel
theorem dX10_look_12 : decode cX10_look 12 = .ok (.invokevirtual 90, 3) := by decide +kernel
theorem dX10_look_15 : decode cX10_look 15 = .ok (.ireturn, 1) := by decide +kernel
theorem dX10_look_16 : decode cX10_look 16 = .ok (.aload_n 0, 1) := by decide +kernel
theorem dX10_look_17 : decode cX10_look 17 = .ok (.getfield 36, 3) := by decide +kernel
theorem dX10_look_20 : decode cX10_look 20 = .ok (.iload_n 1, 1) := by decide +kernel
theorem dX10_look_21 : decode cX10_look 21 = .ok (.invokevirtual 257, 3) := by decide +kernel
theorem dX10_look_24 : decode cX10_look 24 = .ok (.istore_n 2, 1) := by decide +kernel
theorem dX10_look_25 : decode cX10_look 25 = .ok (.iload_n 2, 1) := by decide +kernel
theorem dX10_look_26 : decode cX10_look 26 = .ok (.ifCond .ne 5, 3) := by decide +kernel
theorem dX10_look_29 : decode cX10_look 29 = .ok (.iconst (-1), 1) := by decide +kernel
theorem dX10_look_30 : decode cX10_look 30 = .ok (.ireturn, 1) := by decide +kernel
theorem dX10_look_31 : decode cX10_look 31 = .ok (.iconst (-1), 1) := by decide +kernel
theorem dX10_look_32 : decode cX10_look 32 = .ok (.istore_n 3, 1) := by decide +kernel
theorem dX10_look_33 : decode cX10_look 33 = .ok (.bipush 7, 2) := by decide +kernel
theorem dX10_look_35 : decode cX10_look 35 = .ok (.istore 4, 2) := by decide +kernel
theorem dX10_look_37 : decode cX10_look 37 = .ok (.iconst 0, 1) := by decide +kernel
theorem dX10_look_38 : decode cX10_look 38 = .ok (.istore 5, 2) := by decide +kernel
theorem dX10_look_40 : decode cX10_look 40 = .ok (.iload 5, 2) := by decide +kernel
theorem dX10_look_42 : decode cX10_look 42 = .ok (.bipush 12, 2) := by decide +kernel
theorem dX10_look_44 : decode cX10_look 44 = .ok (.if_icmp .ge 68, 3) := by decide +kernel
theorem dX10_look_47 : decode cX10_look 47 = .ok (.iconst 0, 1) := by decide +kernel
theorem dX10_look_48 : decode cX10_look 48 = .ok (.istore 6, 2) := by decide +kernel
theorem dX10_look_50 : decode cX10_look 50 = .ok (.iload 6, 2) := by decide +kernel
theorem dX10_look_52 : decode cX10_look 52 = .ok (.bipush 10, 2) := by decide +kernel
theorem dX10_look_54 : decode cX10_look 54 = .ok (.if_icmp .ge 52, 3) := by decide +kernel
theorem dX10_look_57 : decode cX10_look 57 = .ok (.aload_n 0, 1) := by decide +kernel
theorem dX10_look_58 : decode cX10_look 58 = .ok (.iload_n 2, 1) := by decide +kernel
theorem dX10_look_59 : decode cX10_look 59 = .ok (.iload 5, 2) := by decide +kernel
theorem dX10_look_61 : decode cX10_look 61 = .ok (.aload_n 0, 1) := by decide +kernel
theorem dX10_look_62 : decode cX10_look 62 = .ok (.getfield 36, 3) := by decide +kernel
theorem dX10_look_65 : decode cX10_look 65 = .ok (.getfield 140, 3) := by decide +kernel
theorem dX10_look_68 : decode cX10_look 68 = .ok (.getfield 185, 3) := by decide +kernel
theorem dX10_look_71 : decode cX10_look 71 = .ok (.iload_n 1, 1) := by decide +kernel
theorem dX10_look_72 : decode cX10_look 72 = .ok (.iaload, 1) := by decide +kernel
theorem dX10_look_73 : decode cX10_look 73 = .ok (.iload 6, 2) := by decide +kernel
theorem dX10_look_75 : decode cX10_look 75 = .ok (.invokevirtual 260, 3) := by decide +kernel
theorem dX10_look_78 : decode cX10_look 78 = .ok (.istore 7, 2) := by decide +kernel
theorem dX10_look_80 : decode cX10_look 80 = .ok (.iload 7, 2) := by decide +kernel
theorem dX10_look_82 : decode cX10_look 82 = .ok (.iload 4, 2) := by decide +kernel
theorem dX10_look_84 : decode cX10_look 84 = .ok (.if_icmp .ge 16, 3) := by decide +kernel
theorem dX10_look_87 : decode cX10_look 87 = .ok (.iload 7, 2) := by decide +kernel
theorem dX10_look_89 : decode cX10_look 89 = .ok (.istore 4, 2) := by decide +kernel
theorem dX10_look_91 : decode cX10_look 91 = .ok (.bipush 100, 2) := by decide +kernel
theorem dX10_look_93 : decode cX10_look 93 = .ok (.iload 5, 2) := by decide +kernel
theorem dX10_look_95 : decode cX10_look 95 = .ok (.imul, 1) := by decide +kernel
theorem dX10_look_96 : decode cX10_look 96 = .ok (.iload 6, 2) := by decide +kernel
theorem dX10_look_98 : decode cX10_look 98 = .ok (.iadd, 1) := by decide +kernel
theorem dX10_look_99 : decode cX10_look 99 = .ok (.istore_n 3, 1) := by decide +kernel
theorem dX10_look_100 : decode cX10_look 100 = .ok (.iinc 6 1, 3) := by decide +kernel
theorem dX10_look_103 : decode cX10_look 103 = .ok (.goto (-53), 3) := by decide +kernel
theorem dX10_look_106 : decode cX10_look 106 = .ok (.iinc 5 1, 3) := by decide +kernel
theorem dX10_look_109 : decode cX10_look 109 = .ok (.goto (-69), 3) := by decide +kernel
theorem dX10_look_112 : decode cX10_look 112 = .ok (.iload_n 3, 1) := by decide +kernel
theorem dX10_look_113 : decode cX10_look 113 = .ok (.ireturn, 1) := by decide +kernel
set_option maxRecDepth 20000 in
theorem ggX10_two_X4_hasGleaner : GoodIn wsX10_two wsX4_hasGleaner := goodIn_r _ [10, 11, 12, 13, 14, 104, 105, 106, 107, 108, 109, 110, 111, 112, 113, 114] (by decide +kernel) (by decide +kernel)
set_option maxRecDepth 20000 in
theorem gX10_two_X4_hasGleaner : GoodIn wsX10_two (wsV RX10 167 RX4 yX4_hasGleaner wsX4_hasGleaner) := goodIn_app (goodIn_of _ (by decide +kernel)) ggX10_two_X4_hasGleaner
set_option maxRecDepth 20000 in
theorem ggX10_two_X10_refuseTen : GoodIn wsX10_two wsX10_refuseTen := goodIn_r _ [18, 19, 92, 93, 94, 95, 96, 97, 98, 99, 100, 101, 102, 103] (by decide +kernel) (by decide +kernel)
set_option maxRecDepth 20000 in
theorem gX10_two_X10_refuseTen : GoodIn wsX10_two (wsV RX10 209 RX10 yX10_refuseTen wsX10_refuseTen) := goodIn_app (goodIn_of _ (by decide +kernel)) ggX10_two_X10_refuseTen
set_option maxRecDepth 20000 in
theorem ggX10_two_X10_showAll : GoodIn wsX10_two wsX10_showAll := goodIn_r _ [23, 1, 4, 24, 2, 25, 26, 27, 9, 28, 29, 30, 31, 32, 33, 34, 35, 36, 37, 38, 39, 40, 41, 42, 43, 44, 45, 46, 47, 48, 49, 50, 51, 52, 53, 54, 55, 56, 57, 58, 59, 60, 61, 62, 63, 64, 65, 66, 67, 68, 69, 70, 71, 72, 73, 74, 75, 76, 77, 78, 79, 80, 92, 93, 94, 95, 96, 97, 98, 99, 100, 101, 102, 103, 104, 105, 106, 107, 108, 109, 110, 111, 112, 113, 114, 115, 116, 117, 118, 119, 120] (by decide +kernel) (by decide +kernel)
set_option maxRecDepth 20000 in
theorem gX10_two_X10_showAll : GoodIn wsX10_two (wsV RX10 222 RX10 yX10_showAll wsX10_showAll) := goodIn_app (goodIn_of _ (by decide +kernel)) ggX10_two_X10_showAll
set_option maxRecDepth 20000 in
theorem ggX10_two_X10_staysPut : GoodIn wsX10_two wsX10_staysPut := goodIn_r _ [84, 1, 4, 85, 86, 87, 13, 88, 24, 89, 90, 42, 91, 92, 93, 94, 95, 96, 97, 98, 99, 100, 101, 102, 103, 104, 105, 106, 107, 108, 109, 110, 111, 112, 113, 114] (by decide +kernel) (by decide +kernel)
set_option maxRecDepth 20000 in
theorem gX10_two_X10_staysPut : GoodIn wsX10_two (wsV RX10 263 RX10 yX10_staysPut wsX10_staysPut) := goodIn_app (goodIn_of _ (by decide +kernel)) ggX10_two_X10_staysPut
theorem dX10_two_0 : decode cX10_two 0 = .ok (.aload_n 0, 1) := by decide +kernel
theorem dX10_two_1 : decode cX10_two 1 = .ok (.getfield 36, 3) := by decide +kernel
theorem dX10_two_4 : decode cX10_two 4 = .ok (.iload_n 1, 1) := by decide +kernel
theorem dX10_two_5 : decode cX10_two 5 = .ok (.invokevirtual 167, 3) := by decide +kernel
theorem dX10_two_8 : decode cX10_two 8 = .ok (.ifCond .eq 24, 3) := by decide +kernel
theorem dX10_two_11 : decode cX10_two 11 = .ok (.aload_n 0, 1) := by decide +kernel
theorem dX10_two_12 : decode cX10_two 12 = .ok (.getfield 36, 3) := by decide +kernel
theorem dX10_two_15 : decode cX10_two 15 = .ok (.iload_n 2, 1) := by decide +kernel
theorem dX10_two_16 : decode cX10_two 16 = .ok (.invokevirtual 167, 3) := by decide +kernel
theorem dX10_two_19 : decode cX10_two 19 = .ok (.ifCond .eq 13, 3) := by decide +kernel
theorem dX10_two_22 : decode cX10_two 22 = .ok (.iload_n 1, 1) := by decide +kernel
theorem dX10_two_23 : decode cX10_two 23 = .ok (.iload_n 2, 1) := by decide +kernel
theorem dX10_two_24 : decode cX10_two 24 = .ok (.if_icmp .eq 8, 3) := by decide +kernel
theorem dX10_two_27 : decode cX10_two 27 = .ok (.iload_n 3, 1) := by decide +kernel
theorem dX10_two_28 : decode cX10_two 28 = .ok (.iconst (-1), 1) := by decide +kernel
theorem dX10_two_29 : decode cX10_two 29 = .ok (.if_icmp .ge 8, 3) := by decide +kernel
theorem dX10_two_32 : decode cX10_two 32 = .ok (.aload_n 0, 1) := by decide +kernel
theorem dX10_two_33 : decode cX10_two 33 = .ok (.invokevirtual 209, 3) := by decide +kernel
theorem dX10_two_36 : decode cX10_two 36 = .ok (.ireturn, 1) := by decide +kernel
theorem dX10_two_37 : decode cX10_two 37 = .ok (.aload_n 0, 1) := by decide +kernel
theorem dX10_two_38 : decode cX10_two 38 = .ok (.aload_n 0, 1) := by decide +kernel
theorem dX10_two_39 : decode cX10_two 39 = .ok (.getfield 36, 3) := by decide +kernel
theorem dX10_two_42 : decode cX10_two 42 = .ok (.getfield 140, 3) := by decide +kernel
theorem dX10_two_45 : decode cX10_two 45 = .ok (.getfield 151, 3) := by decide +kernel
theorem dX10_two_48 : decode cX10_two 48 = .ok (.invokevirtual 222, 3) := by decide +kernel
theorem dX10_two_51 : decode cX10_two 51 = .ok (.iconst 0, 1) := by decide +kernel
theorem dX10_two_52 : decode cX10_two 52 = .ok (.istore 4, 2) := by decide +kernel
theorem dX10_two_54 : decode cX10_two 54 = .ok (.iconst 0, 1) := by decide +kernel
theorem dX10_two_55 : decode cX10_two 55 = .ok (.istore 5, 2) := by decide +kernel
theorem dX10_two_57 : decode cX10_two 57 = .ok (.iload 5, 2) := by decide +kernel
theorem dX10_two_59 : decode cX10_two 59 = .ok (.aload_n 0, 1) := by decide +kernel
theorem dX10_two_60 : decode cX10_two 60 = .ok (.getfield 36, 3) := by decide +kernel
theorem dX10_two_63 : decode cX10_two 63 = .ok (.getfield 94, 3) := by decide +kernel
theorem dX10_two_66 : decode cX10_two 66 = .ok (.if_icmp .ge 97, 3) := by decide +kernel
theorem dX10_two_69 : decode cX10_two 69 = .ok (.iconst 0, 1) := by decide +kernel
theorem dX10_two_70 : decode cX10_two 70 = .ok (.istore 6, 2) := by decide +kernel
theorem dX10_two_72 : decode cX10_two 72 = .ok (.iload 6, 2) := by decide +kernel
theorem dX10_two_74 : decode cX10_two 74 = .ok (.aload_n 0, 1) := by decide +kernel
theorem dX10_two_75 : decode cX10_two 75 = .ok (.getfield 36, 3) := by decide +kernel
theorem dX10_two_78 : decode cX10_two 78 = .ok (.getfield 94, 3) := by decide +kernel
theorem dX10_two_81 : decode cX10_two 81 = .ok (.if_icmp .ge 76, 3) := by decide +kernel
theorem dX10_two_84 : decode cX10_two 84 = .ok (.aload_n 0, 1) := by decide +kernel
theorem dX10_two_85 : decode cX10_two 85 = .ok (.aload_n 0, 1) := by decide +kernel
theorem dX10_two_86 : decode cX10_two 86 = .ok (.getfield 36, 3) := by decide +kernel
theorem dX10_two_89 : decode cX10_two 89 = .ok (.getfield 140, 3) := by decide +kernel
theorem dX10_two_92 : decode cX10_two 92 = .ok (.getfield 170, 3) := by decide +kernel
theorem dX10_two_95 : decode cX10_two 95 = .ok (.iload_n 1, 1) := by decide +kernel
theorem dX10_two_96 : decode cX10_two 96 = .ok (.iaload, 1) := by decide +kernel
theorem dX10_two_97 : decode cX10_two 97 = .ok (.iload 5, 2) := by decide +kernel
theorem dX10_two_99 : decode cX10_two 99 = .ok (.iload 6, 2) := by decide +kernel
theorem dX10_two_101 : decode cX10_two 101 = .ok (.invokevirtual 263, 3) := by decide +kernel
theorem dX10_two_104 : decode cX10_two 104 = .ok (.ifCond .eq 47, 3) := by decide +kernel
theorem dX10_two_107 : decode cX10_two 107 = .ok (.aload_n 0, 1) := by decide +kernel
theorem dX10_two_108 : decode cX10_two 108 = .ok (.aload_n 0, 1) := by decide +kernel
theorem dX10_two_109 : decode cX10_two 109 = .ok (.getfield 36, 3) := by decide +kernel
theorem dX10_two_112 : decode cX10_two 112 = .ok (.getfield 140, 3) := by decide +kernel
theorem dX10_two_115 : decode cX10_two 115 = .ok (.getfield 170, 3) := by decide +kernel
theorem dX10_two_118 : decode cX10_two 118 = .ok (.iload_n 2, 1) := by decide +kernel
theorem dX10_two_119 : decode cX10_two 119 = .ok (.iaload, 1) := by decide +kernel
theorem dX10_two_120 : decode cX10_two 120 = .ok (.iload 6, 2) := by decide +kernel
theorem dX10_two_122 : decode cX10_two 122 = .ok (.iload 5, 2) := by decide +kernel
theorem dX10_two_124 : decode cX10_two 124 = .ok (.invokevirtual 263, 3) := by decide +kernel
theorem dX10_two_127 : decode cX10_two 127 = .ok (.ifCond .ne 6, 3) := by decide +kernel
theorem dX10_two_130 : decode cX10_two 130 = .ok (.goto 21, 3) := by decide +kernel
theorem dX10_two_133 : decode cX10_two 133 = .ok (.iload 4, 2) := by decide +kernel
theorem dX10_two_135 : decode cX10_two 135 = .ok (.iload_n 3, 1) := by decide +kernel
theorem dX10_two_136 : decode cX10_two 136 = .ok (.if_icmp .ne 12, 3) := by decide +kernel
theorem dX10_two_139 : decode cX10_two 139 = .ok (.bipush 6, 2) := by decide +kernel
theorem dX10_two_141 : decode cX10_two 141 = .ok (.iload 5, 2) := by decide +kernel
theorem dX10_two_143 : decode cX10_two 143 = .ok (.imul, 1) := by decide +kernel
theorem dX10_two_144 : decode cX10_two 144 = .ok (.iload 6, 2) := by decide +kernel
theorem dX10_two_146 : decode cX10_two 146 = .ok (.iadd, 1) := by decide +kernel
theorem dX10_two_147 : decode cX10_two 147 = .ok (.ireturn, 1) := by decide +kernel
theorem dX10_two_148 : decode cX10_two 148 = .ok (.iinc 4 1, 3) := by decide +kernel
theorem dX10_two_151 : decode cX10_two 151 = .ok (.iinc 6 1, 3) := by decide +kernel
theorem dX10_two_154 : decode cX10_two 154 = .ok (.goto (-82), 3) := by decide +kernel
theorem dX10_two_157 : decode cX10_two 157 = .ok (.iinc 5 1, 3) := by decide +kernel
theorem dX10_two_160 : decode cX10_two 160 = .ok (.goto (-103), 3) := by decide +kernel
theorem dX10_two_163 : decode cX10_two 163 = .ok (.iload_n 3, 1) := by decide +kernel
theorem dX10_two_164 : decode cX10_two 164 = .ok (.iconst (-1), 1) := by decide +kernel
theorem dX10_two_165 : decode cX10_two 165 = .ok (.if_icmp .ne 8, 3) := by decide +kernel
theorem dX10_two_168 : decode cX10_two 168 = .ok (.iload 4, 2) := by decide +kernel
theorem dX10_two_170 : decode cX10_two 170 = .ok (.goto 5, 3) := by decide +kernel
theorem dX10_two_173 : decode cX10_two 173 = .ok (.bipush (-5), 2) := by decide +kernel
theorem dX10_two_175 : decode cX10_two 175 = .ok (.ireturn, 1) := by decide +kernel
set_option maxRecDepth 20000 in
theorem ggX10_rains_X4_hasField : GoodIn wsX10_rains wsX4_hasField := goodIn_r _ [16, 17, 18, 19, 20, 112, 113, 114, 115, 116, 117, 118, 119, 120, 121, 122] (by decide +kernel) (by decide +kernel)
set_option maxRecDepth 20000 in
theorem gX10_rains_X4_hasField : GoodIn wsX10_rains (wsV RX10 112 RX4 yX4_hasField wsX4_hasField) := goodIn_app (goodIn_of _ (by decide +kernel)) ggX10_rains_X4_hasField
set_option maxRecDepth 20000 in
theorem ggX10_rains_X10_isIn : GoodIn wsX10_rains wsX10_isIn := goodIn_r _ [23] (by decide +kernel) (by decide +kernel)
set_option maxRecDepth 20000 in
theorem gX10_rains_X10_isIn : GoodIn wsX10_rains (va_wsS RX10 147 yX10_isIn wsX10_isIn) := goodIn_app (goodIn_of _ (by decide +kernel)) ggX10_rains_X10_isIn
set_option maxRecDepth 20000 in
theorem ggX10_rains_X10_refuseBad : GoodIn wsX10_rains wsX10_refuseBad := goodIn_r _ [27, 28, 100, 101, 102, 103, 104, 105, 106, 107, 108, 109, 110, 111] (by decide +kernel) (by decide +kernel)
set_option maxRecDepth 20000 in
theorem gX10_rains_X10_refuseBad : GoodIn wsX10_rains (wsV RX10 90 RX10 yX10_refuseBad wsX10_refuseBad) := goodIn_app (goodIn_of _ (by decide +kernel)) ggX10_rains_X10_refuseBad
set_option maxRecDepth 20000 in
theorem ggX10_rains_X4_shows : GoodIn wsX10_rains wsX4_shows := goodIn_r _ [32, 33, 34, 35, 36, 37, 38, 39, 40, 41, 42, 43, 44, 45, 8, 46, 47, 48, 49, 50, 51, 52, 53, 54, 55, 56, 57, 58, 59, 60, 61, 62, 63, 64, 65, 66, 67, 68, 69, 70, 71, 72, 73, 74, 75, 76, 77, 7, 9, 78, 79, 80, 81, 112, 113, 114, 115, 116, 117, 118, 119, 120, 121, 122, 123, 124, 125, 126, 127, 128] (by decide +kernel) (by decide +kernel)
set_option maxRecDepth 20000 in
theorem gX10_rains_X4_shows : GoodIn wsX10_rains (wsV RX10 197 RX4 yX4_shows wsX4_shows) := goodIn_app (goodIn_of _ (by decide +kernel)) ggX10_rains_X4_shows
set_option maxRecDepth 20000 in
theorem ggX10_rains_X1_become : GoodIn wsX10_rains wsX1_become := goodIn_r _ [86, 87, 88, 89, 90, 91, 92, 93, 94, 95, 96, 123, 124, 125, 126, 127, 128] (by decide +kernel) (by decide +kernel)
set_option maxRecDepth 20000 in
theorem gX10_rains_X1_become : GoodIn wsX10_rains (wsV RX10 201 RX1 yX1_become wsX1_become) := goodIn_app (goodIn_of _ (by decide +kernel)) ggX10_rains_X1_become
set_option maxRecDepth 20000 in
theorem ggX10_rains_X10_commonDivisor : GoodIn wsX10_rains wsX10_commonDivisor := goodIn_r _ [99] (by decide +kernel) (by decide +kernel)
set_option maxRecDepth 20000 in
theorem gX10_rains_X10_commonDivisor : GoodIn wsX10_rains (va_wsS RX10 266 yX10_commonDivisor wsX10_commonDivisor) := goodIn_app (goodIn_of _ (by decide +kernel)) ggX10_rains_X10_commonDivisor
theorem dX10_rains_0 : decode cX10_rains 0 = .ok (.aload_n 0, 1) := by decide +kernel
theorem dX10_rains_1 : decode cX10_rains 1 = .ok (.getfield 36, 3) := by decide +kernel
theorem dX10_rains_4 : decode cX10_rains 4 = .ok (.iload_n 1, 1) := by decide +kernel
theorem dX10_rains_5 : decode cX10_rains 5 = .ok (.invokevirtual 112, 3) := by decide +kernel
theorem dX10_rains_8 : decode cX10_rains 8 = .ok (.ifCond .eq 13, 3) := by decide +kernel
theorem dX10_rains_11 : decode cX10_rains 11 = .ok (.iload_n 2, 1) := by decide +kernel
theorem dX10_rains_12 : decode cX10_rains 12 = .ok (.iconst 0, 1) := by decide +kernel
theorem dX10_rains_13 : decode cX10_rains 13 = .ok (.bipush 10, 2) := by decide +kernel
theorem dX10_rains_15 : decode cX10_rains 15 = .ok (.invokestatic 147, 3) := by decide +kernel
theorem dX10_rains_18 : decode cX10_rains 18 = .ok (.ifCond .ne 8, 3) := by decide +kernel
theorem dX10_rains_21 : decode cX10_rains 21 = .ok (.aload_n 0, 1) := by decide +kernel
theorem dX10_rains_22 : decode cX10_rains 22 = .ok (.invokevirtual 90, 3) := by decide +kernel
theorem dX10_rains_25 : decode cX10_rains 25 = .ok (.ireturn, 1) := by decide +kernel
theorem dX10_rains_26 : decode cX10_rains 26 = .ok (.aload_n 0, 1) := by decide +kernel
theorem dX10_rains_27 : decode cX10_rains 27 = .ok (.getfield 36, 3) := by decide +kernel
theorem dX10_rains_30 : decode cX10_rains 30 = .ok (.aload_n 0, 1) := by decide +kernel
theorem dX10_rains_31 : decode cX10_rains 31 = .ok (.getfield 36, 3) := by decide +kernel
theorem dX10_rains_34 : decode cX10_rains 34 = .ok (.getfield 140, 3) := by decide +kernel
theorem dX10_rains_37 : decode cX10_rains 37 = .ok (.iload_n 1, 1) := by decide +kernel
theorem dX10_rains_38 : decode cX10_rains 38 = .ok (.aload_n 0, 1) := by decide +kernel
theorem dX10_rains_39 : decode cX10_rains 39 = .ok (.getfield 36, 3) := by decide +kernel
theorem dX10_rains_42 : decode cX10_rains 42 = .ok (.getfield 140, 3) := by decide +kernel
theorem dX10_rains_45 : decode cX10_rains 45 = .ok (.getfield 151, 3) := by decide +kernel
theorem dX10_rains_48 : decode cX10_rains 48 = .ok (.invokevirtual 197, 3) := by decide +kernel
theorem dX10_rains_51 : decode cX10_rains 51 = .ok (.istore_n 3, 1) := by decide +kernel
theorem dX10_rains_52 : decode cX10_rains 52 = .ok (.aload_n 0, 1) := by decide +kernel
theorem dX10_rains_53 : decode cX10_rains 53 = .ok (.getfield 58, 3) := by decide +kernel
theorem dX10_rains_56 : decode cX10_rains 56 = .ok (.aload_n 0, 1) := by decide +kernel
theorem dX10_rains_57 : decode cX10_rains 57 = .ok (.getfield 36, 3) := by decide +kernel
theorem dX10_rains_60 : decode cX10_rains 60 = .ok (.getfield 140, 3) := by decide +kernel
theorem dX10_rains_63 : decode cX10_rains 63 = .ok (.invokevirtual 201, 3) := by decide +kernel
theorem dX10_rains_66 : decode cX10_rains 66 = .ok (.aload_n 0, 1) := by decide +kernel
theorem dX10_rains_67 : decode cX10_rains 67 = .ok (.getfield 58, 3) := by decide +kernel
theorem dX10_rains_70 : decode cX10_rains 70 = .ok (.bipush 9, 2) := by decide +kernel
theorem dX10_rains_72 : decode cX10_rains 72 = .ok (.aload_n 0, 1) := by decide +kernel
theorem dX10_rains_73 : decode cX10_rains 73 = .ok (.getfield 58, 3) := by decide +kernel
theorem dX10_rains_76 : decode cX10_rains 76 = .ok (.getfield 173, 3) := by decide +kernel
theorem dX10_rains_79 : decode cX10_rains 79 = .ok (.iconst 5, 1) := by decide +kernel
theorem dX10_rains_80 : decode cX10_rains 80 = .ok (.iadd, 1) := by decide +kernel
theorem dX10_rains_81 : decode cX10_rains 81 = .ok (.invokestatic 204, 3) := by decide +kernel
theorem dX10_rains_84 : decode cX10_rains 84 = .ok (.putfield 173, 3) := by decide +kernel
theorem dX10_rains_87 : decode cX10_rains 87 = .ok (.aload_n 0, 1) := by decide +kernel
theorem dX10_rains_88 : decode cX10_rains 88 = .ok (.getfield 36, 3) := by decide +kernel
theorem dX10_rains_91 : decode cX10_rains 91 = .ok (.aload_n 0, 1) := by decide +kernel
theorem dX10_rains_92 : decode cX10_rains 92 = .ok (.getfield 58, 3) := by decide +kernel
theorem dX10_rains_95 : decode cX10_rains 95 = .ok (.iload_n 1, 1) := by decide +kernel
theorem dX10_rains_96 : decode cX10_rains 96 = .ok (.aload_n 0, 1) := by decide +kernel
theorem dX10_rains_97 : decode cX10_rains 97 = .ok (.getfield 58, 3) := by decide +kernel
theorem dX10_rains_100 : decode cX10_rains 100 = .ok (.getfield 151, 3) := by decide +kernel
theorem dX10_rains_103 : decode cX10_rains 103 = .ok (.invokevirtual 197, 3) := by decide +kernel
theorem dX10_rains_106 : decode cX10_rains 106 = .ok (.istore 4, 2) := by decide +kernel
theorem dX10_rains_108 : decode cX10_rains 108 = .ok (.iload_n 2, 1) := by decide +kernel
theorem dX10_rains_109 : decode cX10_rains 109 = .ok (.iload 4, 2) := by decide +kernel
theorem dX10_rains_111 : decode cX10_rains 111 = .ok (.imul, 1) := by decide +kernel
theorem dX10_rains_112 : decode cX10_rains 112 = .ok (.bipush 10, 2) := by decide +kernel
theorem dX10_rains_114 : decode cX10_rains 114 = .ok (.iload_n 2, 1) := by decide +kernel
theorem dX10_rains_115 : decode cX10_rains 115 = .ok (.isub, 1) := by decide +kernel
theorem dX10_rains_116 : decode cX10_rains 116 = .ok (.iload_n 3, 1) := by decide +kernel
theorem dX10_rains_117 : decode cX10_rains 117 = .ok (.imul, 1) := by decide +kernel
theorem dX10_rains_118 : decode cX10_rains 118 = .ok (.iadd, 1) := by decide +kernel
theorem dX10_rains_119 : decode cX10_rains 119 = .ok (.istore 5, 2) := by decide +kernel
theorem dX10_rains_121 : decode cX10_rains 121 = .ok (.iload 5, 2) := by decide +kernel
theorem dX10_rains_123 : decode cX10_rains 123 = .ok (.bipush 10, 2) := by decide +kernel
theorem dX10_rains_125 : decode cX10_rains 125 = .ok (.invokestatic 266, 3) := by decide +kernel
theorem dX10_rains_128 : decode cX10_rains 128 = .ok (.istore 6, 2) := by decide +kernel
theorem dX10_rains_130 : decode cX10_rains 130 = .ok (.aload_n 0, 1) := by decide +kernel
theorem dX10_rains_131 : decode cX10_rains 131 = .ok (.iload 5, 2) := by decide +kernel
theorem dX10_rains_133 : decode cX10_rains 133 = .ok (.iload 6, 2) := by decide +kernel
theorem dX10_rains_135 : decode cX10_rains 135 = .ok (.idiv, 1) := by decide +kernel
theorem dX10_rains_136 : decode cX10_rains 136 = .ok (.putfield 79, 3) := by decide +kernel
theorem dX10_rains_139 : decode cX10_rains 139 = .ok (.aload_n 0, 1) := by decide +kernel
theorem dX10_rains_140 : decode cX10_rains 140 = .ok (.bipush 10, 2) := by decide +kernel
theorem dX10_rains_142 : decode cX10_rains 142 = .ok (.iload 6, 2) := by decide +kernel
theorem dX10_rains_144 : decode cX10_rains 144 = .ok (.idiv, 1) := by decide +kernel
theorem dX10_rains_145 : decode cX10_rains 145 = .ok (.putfield 83, 3) := by decide +kernel
theorem dX10_rains_148 : decode cX10_rains 148 = .ok (.iconst 1, 1) := by decide +kernel
theorem dX10_rains_149 : decode cX10_rains 149 = .ok (.ireturn, 1) := by decide +kernel
set_option maxRecDepth 20000 in
theorem ggX10_summers_X10_isBelow : GoodIn wsX10_summers wsX10_isBelow := goodIn_r _ [15] (by decide +kernel) (by decide +kernel)
set_option maxRecDepth 20000 in
theorem gX10_summers_X10_isBelow : GoodIn wsX10_summers (va_wsS RX10 86 yX10_isBelow wsX10_isBelow) := goodIn_app (goodIn_of _ (by decide +kernel)) ggX10_summers_X10_isBelow
set_option maxRecDepth 20000 in
theorem ggX10_summers_X10_isIn : GoodIn wsX10_summers wsX10_isIn := goodIn_r _ [18] (by decide +kernel) (by decide +kernel)
set_option maxRecDepth 20000 in
theorem gX10_summers_X10_isIn : GoodIn wsX10_summers (va_wsS RX10 147 yX10_isIn wsX10_isIn) := goodIn_app (goodIn_of _ (by decide +kernel)) ggX10_summers_X10_isIn
set_option maxRecDepth 20000 in
theorem ggX10_summers_X10_refuseBad : GoodIn wsX10_summers wsX10_refuseBad := goodIn_r _ [22, 23, 126, 127, 128, 129, 130, 131, 132, 133, 134, 135, 136, 137] (by decide +kernel) (by decide +kernel)
set_option maxRecDepth 20000 in
theorem gX10_summers_X10_refuseBad : GoodIn wsX10_summers (wsV RX10 90 RX10 yX10_refuseBad wsX10_refuseBad) := goodIn_app (goodIn_of _ (by decide +kernel)) ggX10_summers_X10_refuseBad
set_option maxRecDepth 20000 in
theorem ggX10_summers_X1_become : GoodIn wsX10_summers wsX1_become := goodIn_r _ [28, 29, 30, 31, 32, 33, 34, 35, 36, 37, 38, 149, 150, 151, 152, 153, 154] (by decide +kernel) (by decide +kernel)
set_option maxRecDepth 20000 in
theorem gX10_summers_X1_become : GoodIn wsX10_summers (wsV RX10 201 RX1 yX1_become wsX1_become) := goodIn_app (goodIn_of _ (by decide +kernel)) ggX10_summers_X1_become
set_option maxRecDepth 20000 in
theorem ggX10_summers_X4_fade : GoodIn wsX10_summers wsX4_fade := goodIn_r _ [43, 44, 45, 46, 47, 48, 49, 50, 51, 52, 53, 54, 14, 55, 138, 139, 140, 141, 142, 143, 144, 145, 146, 147, 148, 149, 150, 151, 152, 153, 154] (by decide +kernel) (by decide +kernel)
set_option maxRecDepth 20000 in
theorem gX10_summers_X4_fade : GoodIn wsX10_summers (wsV RX10 160 RX4 yX4_fade wsX4_fade) := goodIn_app (goodIn_of _ (by decide +kernel)) ggX10_summers_X4_fade
set_option maxRecDepth 20000 in
theorem ggX10_summers_X4_gather : GoodIn wsX10_summers wsX4_gather := goodIn_r _ [59, 46, 53, 60, 61, 62, 42, 63, 64, 65, 66, 67, 44, 68, 69, 70, 71, 72, 73, 74, 47, 75, 76, 77, 78, 79, 80, 81, 82, 83, 84, 50, 85, 86, 87, 88, 89, 90, 91, 92, 93, 94, 95, 96, 97, 98, 99, 100, 101, 102, 103, 104, 105, 106, 107, 108, 109, 110, 111, 112, 113, 114, 115, 116, 49, 51, 117, 118, 119, 120, 121, 122, 123, 124, 45, 48, 125, 138, 139, 140, 141, 142, 143, 144, 145, 146, 147, 148, 149, 150, 151, 152, 153, 154] (by decide +kernel) (by decide +kernel)
set_option maxRecDepth 20000 in
theorem gX10_summers_X4_gather : GoodIn wsX10_summers (wsV RX10 143 RX4 yX4_gather wsX4_gather) := goodIn_app (goodIn_of _ (by decide +kernel)) ggX10_summers_X4_gather
theorem dX10_summers_0 : decode cX10_summers 0 = .ok (.iload_n 1, 1) := by decide +kernel
theorem dX10_summers_1 : decode cX10_summers 1 = .ok (.ldc_w 269, 3) := by decide +kernel
theorem dX10_summers_4 : decode cX10_summers 4 = .ok (.invokestatic 86, 3) := by decide +kernel
theorem dX10_summers_7 : decode cX10_summers 7 = .ok (.ifCond .eq 13, 3) := by decide +kernel
theorem dX10_summers_10 : decode cX10_summers 10 = .ok (.iload_n 2, 1) := by decide +kernel
theorem dX10_summers_11 : decode cX10_summers 11 = .ok (.iconst 0, 1) := by decide +kernel
theorem dX10_summers_12 : decode cX10_summers 12 = .ok (.bipush 60, 2) := by decide +kernel
theorem dX10_summers_14 : decode cX10_summers 14 = .ok (.invokestatic 147, 3) := by decide +kernel
theorem dX10_summers_17 : decode cX10_summers 17 = .ok (.ifCond .ne 8, 3) := by decide +kernel
theorem dX10_summers_20 : decode cX10_summers 20 = .ok (.aload_n 0, 1) := by decide +kernel
theorem dX10_summers_21 : decode cX10_summers 21 = .ok (.invokevirtual 90, 3) := by decide +kernel
theorem dX10_summers_24 : decode cX10_summers 24 = .ok (.ireturn, 1) := by decide +kernel
theorem dX10_summers_25 : decode cX10_summers 25 = .ok (.aload_n 0, 1) := by decide +kernel
theorem dX10_summers_26 : decode cX10_summers 26 = .ok (.getfield 58, 3) := by decide +kernel
theorem dX10_summers_29 : decode cX10_summers 29 = .ok (.aload_n 0, 1) := by decide +kernel
theorem dX10_summers_30 : decode cX10_summers 30 = .ok (.getfield 36, 3) := by decide +kernel
theorem dX10_summers_33 : decode cX10_summers 33 = .ok (.getfield 140, 3) := by decide +kernel
theorem dX10_summers_36 : decode cX10_summers 36 = .ok (.invokevirtual 201, 3) := by decide +kernel
theorem dX10_summers_39 : decode cX10_summers 39 = .ok (.iload_n 1, 1) := by decide +kernel
theorem dX10_summers_40 : decode cX10_summers 40 = .ok (.i2l, 1) := by decide +kernel
theorem dX10_summers_41 : decode cX10_summers 41 = .ok (.lstore_n 3, 1) := by decide +kernel
theorem dX10_summers_42 : decode cX10_summers 42 = .ok (.iconst 0, 1) := by decide +kernel
theorem dX10_summers_43 : decode cX10_summers 43 = .ok (.istore 5, 2) := by decide +kernel
theorem dX10_summers_45 : decode cX10_summers 45 = .ok (.iconst 0, 1) := by decide +kernel
theorem dX10_summers_46 : decode cX10_summers 46 = .ok (.istore 6, 2) := by decide +kernel
theorem dX10_summers_48 : decode cX10_summers 48 = .ok (.iload 6, 2) := by decide +kernel
theorem dX10_summers_50 : decode cX10_summers 50 = .ok (.iload_n 2, 1) := by decide +kernel
theorem dX10_summers_51 : decode cX10_summers 51 = .ok (.if_icmp .ge 80, 3) := by decide +kernel
theorem dX10_summers_54 : decode cX10_summers 54 = .ok (.lload_n 3, 1) := by decide +kernel
theorem dX10_summers_55 : decode cX10_summers 55 = .ok (.ldc2_w 270, 3) := by decide +kernel
theorem dX10_summers_58 : decode cX10_summers 58 = .ok (.lmul, 1) := by decide +kernel
theorem dX10_summers_59 : decode cX10_summers 59 = .ok (.ldc2_w 272, 3) := by decide +kernel
theorem dX10_summers_62 : decode cX10_summers 62 = .ok (.ladd, 1) := by decide +kernel
theorem dX10_summers_63 : decode cX10_summers 63 = .ok (.ldc2_w 274, 3) := by decide +kernel
theorem dX10_summers_66 : decode cX10_summers 66 = .ok (.lrem, 1) := by decide +kernel
theorem dX10_summers_67 : decode cX10_summers 67 = .ok (.lstore_n 3, 1) := by decide +kernel
theorem dX10_summers_68 : decode cX10_summers 68 = .ok (.aload_n 0, 1) := by decide +kernel
theorem dX10_summers_69 : decode cX10_summers 69 = .ok (.getfield 58, 3) := by decide +kernel
theorem dX10_summers_72 : decode cX10_summers 72 = .ok (.getfield 151, 3) := by decide +kernel
theorem dX10_summers_75 : decode cX10_summers 75 = .ok (.bipush 12, 2) := by decide +kernel
theorem dX10_summers_77 : decode cX10_summers 77 = .ok (.if_icmp .lt 14, 3) := by decide +kernel
theorem dX10_summers_80 : decode cX10_summers 80 = .ok (.aload_n 0, 1) := by decide +kernel
theorem dX10_summers_81 : decode cX10_summers 81 = .ok (.getfield 36, 3) := by decide +kernel
theorem dX10_summers_84 : decode cX10_summers 84 = .ok (.aload_n 0, 1) := by decide +kernel
theorem dX10_summers_85 : decode cX10_summers 85 = .ok (.getfield 58, 3) := by decide +kernel
theorem dX10_summers_88 : decode cX10_summers 88 = .ok (.invokevirtual 160, 3) := by decide +kernel
theorem dX10_summers_91 : decode cX10_summers 91 = .ok (.aload_n 0, 1) := by decide +kernel
theorem dX10_summers_92 : decode cX10_summers 92 = .ok (.getfield 58, 3) := by decide +kernel
theorem dX10_summers_95 : decode cX10_summers 95 = .ok (.lload_n 3, 1) := by decide +kernel
theorem dX10_summers_96 : decode cX10_summers 96 = .ok (.ldc2_w 276, 3) := by decide +kernel
theorem dX10_summers_99 : decode cX10_summers 99 = .ok (.ldiv, 1) := by decide +kernel
theorem dX10_summers_100 : decode cX10_summers 100 = .ok (.ldc2_w 278, 3) := by decide +kernel
theorem dX10_summers_103 : decode cX10_summers 103 = .ok (.lrem, 1) := by decide +kernel
theorem dX10_summers_104 : decode cX10_summers 104 = .ok (.l2i, 1) := by decide +kernel
theorem dX10_summers_105 : decode cX10_summers 105 = .ok (.putfield 173, 3) := by decide +kernel
theorem dX10_summers_108 : decode cX10_summers 108 = .ok (.iload 5, 2) := by decide +kernel
theorem dX10_summers_110 : decode cX10_summers 110 = .ok (.aload_n 0, 1) := by decide +kernel
theorem dX10_summers_111 : decode cX10_summers 111 = .ok (.getfield 36, 3) := by decide +kernel
theorem dX10_summers_114 : decode cX10_summers 114 = .ok (.aload_n 0, 1) := by decide +kernel
theorem dX10_summers_115 : decode cX10_summers 115 = .ok (.getfield 58, 3) := by decide +kernel
theorem dX10_summers_118 : decode cX10_summers 118 = .ok (.iconst 1, 1) := by decide +kernel
theorem dX10_summers_119 : decode cX10_summers 119 = .ok (.invokevirtual 143, 3) := by decide +kernel
theorem dX10_summers_122 : decode cX10_summers 122 = .ok (.iadd, 1) := by decide +kernel
theorem dX10_summers_123 : decode cX10_summers 123 = .ok (.istore 5, 2) := by decide +kernel
theorem dX10_summers_125 : decode cX10_summers 125 = .ok (.iinc 6 1, 3) := by decide +kernel
theorem dX10_summers_128 : decode cX10_summers 128 = .ok (.goto (-80), 3) := by decide +kernel
theorem dX10_summers_131 : decode cX10_summers 131 = .ok (.iload 5, 2) := by decide +kernel
theorem dX10_summers_133 : decode cX10_summers 133 = .ok (.ireturn, 1) := by decide +kernel
set_option maxRecDepth 20000 in
theorem ggX10_part_X10_isBelow : GoodIn wsX10_part wsX10_isBelow := goodIn_r _ [6] (by decide +kernel) (by decide +kernel)
set_option maxRecDepth 20000 in
theorem gX10_part_X10_isBelow : GoodIn wsX10_part (va_wsS RX10 86 yX10_isBelow wsX10_isBelow) := goodIn_app (goodIn_of _ (by decide +kernel)) ggX10_part_X10_isBelow
set_option maxRecDepth 20000 in
theorem ggX10_part_X10_refuseBad : GoodIn wsX10_part wsX10_refuseBad := goodIn_r _ [10, 11, 12, 13, 14, 15, 16, 17, 18, 19, 20, 21, 22, 23] (by decide +kernel) (by decide +kernel)
set_option maxRecDepth 20000 in
theorem gX10_part_X10_refuseBad : GoodIn wsX10_part (wsV RX10 90 RX10 yX10_refuseBad wsX10_refuseBad) := goodIn_app (goodIn_of _ (by decide +kernel)) ggX10_part_X10_refuseBad
theorem dX10_part_0 : decode cX10_part 0 = .ok (.iload_n 1, 1) := by decide +kernel
theorem dX10_part_1 : decode cX10_part 1 = .ok (.iconst 2, 1) := by decide +kernel
theorem dX10_part_2 : decode cX10_part 2 = .ok (.invokestatic 86, 3) := by decide +kernel
theorem dX10_part_5 : decode cX10_part 5 = .ok (.ifCond .ne 9, 3) := by decide +kernel
theorem dX10_part_8 : decode cX10_part 8 = .ok (.aload_n 0, 1) := by decide +kernel
theorem dX10_part_9 : decode cX10_part 9 = .ok (.invokevirtual 90, 3) := by decide +kernel
theorem dX10_part_12 : decode cX10_part 12 = .ok (.i2l, 1) := by decide +kernel
theorem dX10_part_13 : decode cX10_part 13 = .ok (.lreturn, 1) := by decide +kernel
theorem dX10_part_14 : decode cX10_part 14 = .ok (.iload_n 1, 1) := by decide +kernel
theorem dX10_part_15 : decode cX10_part 15 = .ok (.ifCond .ne 11, 3) := by decide +kernel
theorem dX10_part_18 : decode cX10_part 18 = .ok (.aload_n 0, 1) := by decide +kernel
theorem dX10_part_19 : decode cX10_part 19 = .ok (.getfield 79, 3) := by decide +kernel
theorem dX10_part_22 : decode cX10_part 22 = .ok (.i2l, 1) := by decide +kernel
theorem dX10_part_23 : decode cX10_part 23 = .ok (.goto 8, 3) := by decide +kernel
theorem dX10_part_26 : decode cX10_part 26 = .ok (.aload_n 0, 1) := by decide +kernel
theorem dX10_part_27 : decode cX10_part 27 = .ok (.getfield 83, 3) := by decide +kernel
theorem dX10_part_30 : decode cX10_part 30 = .ok (.i2l, 1) := by decide +kernel
theorem dX10_part_31 : decode cX10_part 31 = .ok (.lreturn, 1) := by decide +kernel
set_option maxRecDepth 20000 in
theorem ggX10_image_X10_isBelow : GoodIn wsX10_image wsX10_isBelow := goodIn_r _ [7] (by decide +kernel) (by decide +kernel)
set_option maxRecDepth 20000 in
theorem gX10_image_X10_isBelow : GoodIn wsX10_image (va_wsS RX10 86 yX10_isBelow wsX10_isBelow) := goodIn_app (goodIn_of _ (by decide +kernel)) ggX10_image_X10_isBelow
set_option maxRecDepth 20000 in
theorem ggX10_image_X10_refuseBad : GoodIn wsX10_image wsX10_refuseBad := goodIn_r _ [11, 12, 44, 45, 46, 47, 48, 49, 50, 51, 52, 53, 54, 55] (by decide +kernel) (by decide +kernel)
set_option maxRecDepth 20000 in
theorem gX10_image_X10_refuseBad : GoodIn wsX10_image (wsV RX10 90 RX10 yX10_refuseBad wsX10_refuseBad) := goodIn_app (goodIn_of _ (by decide +kernel)) ggX10_image_X10_refuseBad
set_option maxRecDepth 20000 in
theorem ggX10_image_X4_become : GoodIn wsX10_image wsX4_become := goodIn_r _ [17, 18, 19, 20, 21, 22, 23, 24, 25, 26, 27, 28, 29, 30, 31, 32, 33, 34, 35, 36, 37, 38, 39, 40, 41, 42, 43, 56, 57, 58, 59, 60, 61, 62, 63, 64, 65, 66, 67, 68, 69, 70, 71, 72] (by decide +kernel) (by decide +kernel)
set_option maxRecDepth 20000 in
theorem gX10_image_X4_become : GoodIn wsX10_image (wsV RX10 280 RX4 yX4_become wsX4_become) := goodIn_app (goodIn_of _ (by decide +kernel)) ggX10_image_X4_become
theorem dX10_image_0 : decode cX10_image 0 = .ok (.iload_n 1, 1) := by decide +kernel
theorem dX10_image_1 : decode cX10_image 1 = .ok (.iconst 2, 1) := by decide +kernel
theorem dX10_image_2 : decode cX10_image 2 = .ok (.invokestatic 86, 3) := by decide +kernel
theorem dX10_image_5 : decode cX10_image 5 = .ok (.ifCond .ne 8, 3) := by decide +kernel
theorem dX10_image_8 : decode cX10_image 8 = .ok (.aload_n 0, 1) := by decide +kernel
theorem dX10_image_9 : decode cX10_image 9 = .ok (.invokevirtual 90, 3) := by decide +kernel
theorem dX10_image_12 : decode cX10_image 12 = .ok (.ireturn, 1) := by decide +kernel
theorem dX10_image_13 : decode cX10_image 13 = .ok (.aload_n 0, 1) := by decide +kernel
theorem dX10_image_14 : decode cX10_image 14 = .ok (.getfield 40, 3) := by decide +kernel
theorem dX10_image_17 : decode cX10_image 17 = .ok (.iload_n 1, 1) := by decide +kernel
theorem dX10_image_18 : decode cX10_image 18 = .ok (.aaload, 1) := by decide +kernel
theorem dX10_image_19 : decode cX10_image 19 = .ok (.aload_n 0, 1) := by decide +kernel
theorem dX10_image_20 : decode cX10_image 20 = .ok (.getfield 36, 3) := by decide +kernel
theorem dX10_image_23 : decode cX10_image 23 = .ok (.invokevirtual 280, 3) := by decide +kernel
theorem dX10_image_26 : decode cX10_image 26 = .ok (.aload_n 0, 1) := by decide +kernel
theorem dX10_image_27 : decode cX10_image 27 = .ok (.getfield 44, 3) := by decide +kernel
theorem dX10_image_30 : decode cX10_image 30 = .ok (.iload_n 1, 1) := by decide +kernel
theorem dX10_image_31 : decode cX10_image 31 = .ok (.iconst 1, 1) := by decide +kernel
theorem dX10_image_32 : decode cX10_image 32 = .ok (.bastore, 1) := by decide +kernel
theorem dX10_image_33 : decode cX10_image 33 = .ok (.iconst 1, 1) := by decide +kernel
theorem dX10_image_34 : decode cX10_image 34 = .ok (.ireturn, 1) := by decide +kernel
set_option maxRecDepth 20000 in
theorem ggX10_from_X10_isBelow : GoodIn wsX10_from wsX10_isBelow := goodIn_r _ [7] (by decide +kernel) (by decide +kernel)
set_option maxRecDepth 20000 in
theorem gX10_from_X10_isBelow : GoodIn wsX10_from (va_wsS RX10 86 yX10_isBelow wsX10_isBelow) := goodIn_app (goodIn_of _ (by decide +kernel)) ggX10_from_X10_isBelow
set_option maxRecDepth 20000 in
theorem ggX10_from_X10_refuseBad : GoodIn wsX10_from wsX10_refuseBad := goodIn_r _ [11, 12, 48, 49, 50, 51, 52, 53, 54, 55, 56, 57, 58, 59] (by decide +kernel) (by decide +kernel)
set_option maxRecDepth 20000 in
theorem gX10_from_X10_refuseBad : GoodIn wsX10_from (wsV RX10 90 RX10 yX10_refuseBad wsX10_refuseBad) := goodIn_app (goodIn_of _ (by decide +kernel)) ggX10_from_X10_refuseBad
set_option maxRecDepth 20000 in
theorem ggX10_from_X10_refuseNo : GoodIn wsX10_from wsX10_refuseNo := goodIn_r _ [16, 12, 48, 49, 50, 51, 52, 53, 54, 55, 56, 57, 58, 59] (by decide +kernel) (by decide +kernel)
set_option maxRecDepth 20000 in
theorem gX10_from_X10_refuseNo : GoodIn wsX10_from (wsV RX10 154 RX10 yX10_refuseNo wsX10_refuseNo) := goodIn_app (goodIn_of _ (by decide +kernel)) ggX10_from_X10_refuseNo
set_option maxRecDepth 20000 in
theorem ggX10_from_X4_become : GoodIn wsX10_from wsX4_become := goodIn_r _ [21, 22, 23, 24, 25, 26, 27, 28, 29, 30, 31, 32, 33, 34, 35, 36, 37, 38, 39, 40, 41, 42, 43, 44, 45, 46, 47, 60, 61, 62, 63, 64, 65, 66, 67, 68, 69, 70, 71, 72, 73, 74, 75, 76] (by decide +kernel) (by decide +kernel)
set_option maxRecDepth 20000 in
theorem gX10_from_X4_become : GoodIn wsX10_from (wsV RX10 280 RX4 yX4_become wsX4_become) := goodIn_app (goodIn_of _ (by decide +kernel)) ggX10_from_X4_become
theorem dX10_from_0 : decode cX10_from 0 = .ok (.iload_n 1, 1) := by decide +kernel
theorem dX10_from_1 : decode cX10_from 1 = .ok (.iconst 2, 1) := by decide +kernel
theorem dX10_from_2 : decode cX10_from 2 = .ok (.invokestatic 86, 3) := by decide +kernel
theorem dX10_from_5 : decode cX10_from 5 = .ok (.ifCond .ne 8, 3) := by decide +kernel
theorem dX10_from_8 : decode cX10_from 8 = .ok (.aload_n 0, 1) := by decide +kernel
theorem dX10_from_9 : decode cX10_from 9 = .ok (.invokevirtual 90, 3) := by decide +kernel
theorem dX10_from_12 : decode cX10_from 12 = .ok (.ireturn, 1) := by decide +kernel
theorem dX10_from_13 : decode cX10_from 13 = .ok (.aload_n 0, 1) := by decide +kernel
theorem dX10_from_14 : decode cX10_from 14 = .ok (.getfield 44, 3) := by decide +kernel
theorem dX10_from_17 : decode cX10_from 17 = .ok (.iload_n 1, 1) := by decide +kernel
theorem dX10_from_18 : decode cX10_from 18 = .ok (.baload, 1) := by decide +kernel
theorem dX10_from_19 : decode cX10_from 19 = .ok (.ifCond .ne 8, 3) := by decide +kernel
theorem dX10_from_22 : decode cX10_from 22 = .ok (.aload_n 0, 1) := by decide +kernel
theorem dX10_from_23 : decode cX10_from 23 = .ok (.invokevirtual 154, 3) := by decide +kernel
theorem dX10_from_26 : decode cX10_from 26 = .ok (.ireturn, 1) := by decide +kernel
theorem dX10_from_27 : decode cX10_from 27 = .ok (.aload_n 0, 1) := by decide +kernel
theorem dX10_from_28 : decode cX10_from 28 = .ok (.getfield 36, 3) := by decide +kernel
theorem dX10_from_31 : decode cX10_from 31 = .ok (.aload_n 0, 1) := by decide +kernel
theorem dX10_from_32 : decode cX10_from 32 = .ok (.getfield 40, 3) := by decide +kernel
theorem dX10_from_35 : decode cX10_from 35 = .ok (.iload_n 1, 1) := by decide +kernel
theorem dX10_from_36 : decode cX10_from 36 = .ok (.aaload, 1) := by decide +kernel
theorem dX10_from_37 : decode cX10_from 37 = .ok (.invokevirtual 280, 3) := by decide +kernel
theorem dX10_from_40 : decode cX10_from 40 = .ok (.iconst 1, 1) := by decide +kernel
theorem dX10_from_41 : decode cX10_from 41 = .ok (.ireturn, 1) := by decide +kernel
set_option maxRecDepth 20000 in
theorem ggX10_status_X10_isBelow : GoodIn wsX10_status wsX10_isBelow := goodIn_r _ [5] (by decide +kernel) (by decide +kernel)
set_option maxRecDepth 20000 in
theorem gX10_status_X10_isBelow : GoodIn wsX10_status (va_wsS RX10 86 yX10_isBelow wsX10_isBelow) := goodIn_app (goodIn_of _ (by decide +kernel)) ggX10_status_X10_isBelow
set_option maxRecDepth 20000 in
theorem ggX10_status_X10_refuseBad : GoodIn wsX10_status wsX10_refuseBad := goodIn_r _ [9, 1, 10, 11, 12, 13, 14, 15, 16, 17, 18, 19, 20, 21] (by decide +kernel) (by decide +kernel)
set_option maxRecDepth 20000 in
theorem gX10_status_X10_refuseBad : GoodIn wsX10_status (wsV RX10 90 RX10 yX10_refuseBad wsX10_refuseBad) := goodIn_app (goodIn_of _ (by decide +kernel)) ggX10_status_X10_refuseBad
theorem dX10_status_0 : decode cX10_status 0 = .ok (.iload_n 1, 1) := by decide +kernel
theorem dX10_status_1 : decode cX10_status 1 = .ok (.iconst 3, 1) := by decide +kernel
theorem dX10_status_2 : decode cX10_status 2 = .ok (.invokestatic 86, 3) := by decide +kernel
theorem dX10_status_5 : decode cX10_status 5 = .ok (.ifCond .ne 10, 3) := by decide +kernel
theorem dX10_status_8 : decode cX10_status 8 = .ok (.aload_n 0, 1) := by decide +kernel
theorem dX10_status_9 : decode cX10_status 9 = .ok (.invokevirtual 90, 3) := by decide +kernel
theorem dX10_status_12 : decode cX10_status 12 = .ok (.pop, 1) := by decide +kernel
theorem dX10_status_13 : decode cX10_status 13 = .ok (.iconst (-1), 1) := by decide +kernel
theorem dX10_status_14 : decode cX10_status 14 = .ok (.ireturn, 1) := by decide +kernel
theorem dX10_status_15 : decode cX10_status 15 = .ok (.aload_n 0, 1) := by decide +kernel
theorem dX10_status_16 : decode cX10_status 16 = .ok (.getfield 76, 3) := by decide +kernel
theorem dX10_status_19 : decode cX10_status 19 = .ok (.iload_n 1, 1) := by decide +kernel
theorem dX10_status_20 : decode cX10_status 20 = .ok (.iaload, 1) := by decide +kernel
theorem dX10_status_21 : decode cX10_status 21 = .ok (.ireturn, 1) := by decide +kernel
set_option maxRecDepth 20000 in
theorem ggX10_count_X10_isBelow : GoodIn wsX10_count wsX10_isBelow := goodIn_r _ [4] (by decide +kernel) (by decide +kernel)
set_option maxRecDepth 20000 in
theorem gX10_count_X10_isBelow : GoodIn wsX10_count (va_wsS RX10 86 yX10_isBelow wsX10_isBelow) := goodIn_app (goodIn_of _ (by decide +kernel)) ggX10_count_X10_isBelow
set_option maxRecDepth 20000 in
theorem ggX10_count_X10_refuseBad : GoodIn wsX10_count wsX10_refuseBad := goodIn_r _ [8, 9, 26, 27, 28, 29, 30, 31, 32, 33, 34, 35, 36, 37] (by decide +kernel) (by decide +kernel)
set_option maxRecDepth 20000 in
theorem gX10_count_X10_refuseBad : GoodIn wsX10_count (wsV RX10 90 RX10 yX10_refuseBad wsX10_refuseBad) := goodIn_app (goodIn_of _ (by decide +kernel)) ggX10_count_X10_refuseBad
set_option maxRecDepth 20000 in
theorem ggX10_count_X10_howMany : GoodIn wsX10_count wsX10_howMany := goodIn_r _ [13, 14, 15, 16, 17, 18, 19, 20, 21, 22, 23, 24, 25, 26, 27, 28, 29, 30, 31, 32, 33, 34, 35, 36, 37, 38, 39, 40, 41, 42, 43, 44, 45, 46, 47, 48, 49, 50, 51, 52, 53, 54, 55, 56, 57, 58, 59, 60, 61, 62, 63, 64, 65, 66] (by decide +kernel) (by decide +kernel)
set_option maxRecDepth 20000 in
theorem gX10_count_X10_howMany : GoodIn wsX10_count (wsV RX10 283 RX10 yX10_howMany wsX10_howMany) := goodIn_app (goodIn_of _ (by decide +kernel)) ggX10_count_X10_howMany
theorem dX10_count_0 : decode cX10_count 0 = .ok (.iload_n 1, 1) := by decide +kernel
theorem dX10_count_1 : decode cX10_count 1 = .ok (.bipush 9, 2) := by decide +kernel
theorem dX10_count_3 : decode cX10_count 3 = .ok (.invokestatic 86, 3) := by decide +kernel
theorem dX10_count_6 : decode cX10_count 6 = .ok (.ifCond .ne 8, 3) := by decide +kernel
theorem dX10_count_9 : decode cX10_count 9 = .ok (.aload_n 0, 1) := by decide +kernel
theorem dX10_count_10 : decode cX10_count 10 = .ok (.invokevirtual 90, 3) := by decide +kernel
theorem dX10_count_13 : decode cX10_count 13 = .ok (.ireturn, 1) := by decide +kernel
theorem dX10_count_14 : decode cX10_count 14 = .ok (.aload_n 0, 1) := by decide +kernel
theorem dX10_count_15 : decode cX10_count 15 = .ok (.iload_n 1, 1) := by decide +kernel
theorem dX10_count_16 : decode cX10_count 16 = .ok (.invokevirtual 283, 3) := by decide +kernel
theorem dX10_count_19 : decode cX10_count 19 = .ok (.ireturn, 1) := by decide +kernel
set_option maxRecDepth 20000 in
theorem ggX10_digest_X10_howMany : GoodIn wsX10_digest wsX10_howMany := goodIn_r _ [20, 2, 3, 7, 5, 21, 22, 23, 10, 12, 24, 25, 26, 34, 35, 36, 37, 38, 39, 40, 41, 42, 43, 44, 45, 46, 47, 48, 49, 50, 51, 52, 53, 54, 55, 56, 57, 58, 59, 60, 61, 62, 63, 64, 65, 66, 67, 68, 69, 70, 71, 72, 73, 74] (by decide +kernel) (by decide +kernel)
set_option maxRecDepth 20000 in
theorem gX10_digest_X10_howMany : GoodIn wsX10_digest (wsV RX10 283 RX10 yX10_howMany wsX10_howMany) := goodIn_app (goodIn_of _ (by decide +kernel)) ggX10_digest_X10_howMany
set_option maxRecDepth 20000 in
theorem ggX10_digest_X10_mix : GoodIn wsX10_digest wsX10_mix := goodIn_r _ [29, 30] (by decide +kernel) (by decide +kernel)
set_option maxRecDepth 20000 in
theorem gX10_digest_X10_mix : GoodIn wsX10_digest (va_wsS RX10 288 yX10_mix wsX10_mix) := goodIn_app (goodIn_of _ (by decide +kernel)) ggX10_digest_X10_mix
set_option maxRecDepth 20000 in
theorem ggX10_digest_X10_mixRow : GoodIn wsX10_digest wsX10_mixRow := goodIn_r _ [33, 27, 28, 19, 29, 30] (by decide +kernel) (by decide +kernel)
set_option maxRecDepth 20000 in
theorem gX10_digest_X10_mixRow : GoodIn wsX10_digest (va_wsS RX10 296 yX10_mixRow wsX10_mixRow) := goodIn_app (goodIn_of _ (by decide +kernel)) ggX10_digest_X10_mixRow
theorem dX10_digest_0 : decode cX10_digest 0 = .ok (.ldc2_w 286, 3) := by decide +kernel
theorem dX10_digest_3 : decode cX10_digest 3 = .ok (.lstore_n 1, 1) := by decide +kernel
theorem dX10_digest_4 : decode cX10_digest 4 = .ok (.iconst 0, 1) := by decide +kernel
theorem dX10_digest_5 : decode cX10_digest 5 = .ok (.istore_n 3, 1) := by decide +kernel
theorem dX10_digest_6 : decode cX10_digest 6 = .ok (.iload_n 3, 1) := by decide +kernel
theorem dX10_digest_7 : decode cX10_digest 7 = .ok (.bipush 9, 2) := by decide +kernel
theorem dX10_digest_9 : decode cX10_digest 9 = .ok (.if_icmp .ge 20, 3) := by decide +kernel
theorem dX10_digest_12 : decode cX10_digest 12 = .ok (.lload_n 1, 1) := by decide +kernel
theorem dX10_digest_13 : decode cX10_digest 13 = .ok (.aload_n 0, 1) := by decide +kernel
theorem dX10_digest_14 : decode cX10_digest 14 = .ok (.iload_n 3, 1) := by decide +kernel
theorem dX10_digest_15 : decode cX10_digest 15 = .ok (.invokevirtual 283, 3) := by decide +kernel
theorem dX10_digest_18 : decode cX10_digest 18 = .ok (.i2l, 1) := by decide +kernel
theorem dX10_digest_19 : decode cX10_digest 19 = .ok (.invokestatic 288, 3) := by decide +kernel
theorem dX10_digest_22 : decode cX10_digest 22 = .ok (.lstore_n 1, 1) := by decide +kernel
theorem dX10_digest_23 : decode cX10_digest 23 = .ok (.iinc 3 1, 3) := by decide +kernel
theorem dX10_digest_26 : decode cX10_digest 26 = .ok (.goto (-20), 3) := by decide +kernel
theorem dX10_digest_29 : decode cX10_digest 29 = .ok (.iconst 0, 1) := by decide +kernel
theorem dX10_digest_30 : decode cX10_digest 30 = .ok (.istore_n 3, 1) := by decide +kernel
theorem dX10_digest_31 : decode cX10_digest 31 = .ok (.iload_n 3, 1) := by decide +kernel
theorem dX10_digest_32 : decode cX10_digest 32 = .ok (.aload_n 0, 1) := by decide +kernel
theorem dX10_digest_33 : decode cX10_digest 33 = .ok (.getfield 36, 3) := by decide +kernel
theorem dX10_digest_36 : decode cX10_digest 36 = .ok (.getfield 94, 3) := by decide +kernel
theorem dX10_digest_39 : decode cX10_digest 39 = .ok (.if_icmp .ge 40, 3) := by decide +kernel
theorem dX10_digest_42 : decode cX10_digest 42 = .ok (.lload_n 1, 1) := by decide +kernel
theorem dX10_digest_43 : decode cX10_digest 43 = .ok (.aload_n 0, 1) := by decide +kernel
theorem dX10_digest_44 : decode cX10_digest 44 = .ok (.getfield 36, 3) := by decide +kernel
theorem dX10_digest_47 : decode cX10_digest 47 = .ok (.getfield 182, 3) := by decide +kernel
theorem dX10_digest_50 : decode cX10_digest 50 = .ok (.iload_n 3, 1) := by decide +kernel
theorem dX10_digest_51 : decode cX10_digest 51 = .ok (.iaload, 1) := by decide +kernel
theorem dX10_digest_52 : decode cX10_digest 52 = .ok (.i2l, 1) := by decide +kernel
theorem dX10_digest_53 : decode cX10_digest 53 = .ok (.invokestatic 288, 3) := by decide +kernel
theorem dX10_digest_56 : decode cX10_digest 56 = .ok (.aload_n 0, 1) := by decide +kernel
theorem dX10_digest_57 : decode cX10_digest 57 = .ok (.getfield 36, 3) := by decide +kernel
theorem dX10_digest_60 : decode cX10_digest 60 = .ok (.getfield 140, 3) := by decide +kernel
theorem dX10_digest_63 : decode cX10_digest 63 = .ok (.getfield 185, 3) := by decide +kernel
theorem dX10_digest_66 : decode cX10_digest 66 = .ok (.iload_n 3, 1) := by decide +kernel
theorem dX10_digest_67 : decode cX10_digest 67 = .ok (.iaload, 1) := by decide +kernel
theorem dX10_digest_68 : decode cX10_digest 68 = .ok (.i2l, 1) := by decide +kernel
theorem dX10_digest_69 : decode cX10_digest 69 = .ok (.invokestatic 288, 3) := by decide +kernel
theorem dX10_digest_72 : decode cX10_digest 72 = .ok (.lstore_n 1, 1) := by decide +kernel
theorem dX10_digest_73 : decode cX10_digest 73 = .ok (.iinc 3 1, 3) := by decide +kernel
theorem dX10_digest_76 : decode cX10_digest 76 = .ok (.goto (-45), 3) := by decide +kernel
theorem dX10_digest_79 : decode cX10_digest 79 = .ok (.iconst 0, 1) := by decide +kernel
theorem dX10_digest_80 : decode cX10_digest 80 = .ok (.istore_n 3, 1) := by decide +kernel
theorem dX10_digest_81 : decode cX10_digest 81 = .ok (.iload_n 3, 1) := by decide +kernel
theorem dX10_digest_82 : decode cX10_digest 82 = .ok (.aload_n 0, 1) := by decide +kernel
theorem dX10_digest_83 : decode cX10_digest 83 = .ok (.getfield 36, 3) := by decide +kernel
theorem dX10_digest_86 : decode cX10_digest 86 = .ok (.getfield 115, 3) := by decide +kernel
theorem dX10_digest_89 : decode cX10_digest 89 = .ok (.if_icmp .ge 43, 3) := by decide +kernel
theorem dX10_digest_92 : decode cX10_digest 92 = .ok (.lload_n 1, 1) := by decide +kernel
theorem dX10_digest_93 : decode cX10_digest 93 = .ok (.aload_n 0, 1) := by decide +kernel
theorem dX10_digest_94 : decode cX10_digest 94 = .ok (.getfield 36, 3) := by decide +kernel
theorem dX10_digest_97 : decode cX10_digest 97 = .ok (.getfield 140, 3) := by decide +kernel
theorem dX10_digest_100 : decode cX10_digest 100 = .ok (.getfield 170, 3) := by decide +kernel
theorem dX10_digest_103 : decode cX10_digest 103 = .ok (.iload_n 3, 1) := by decide +kernel
theorem dX10_digest_104 : decode cX10_digest 104 = .ok (.iaload, 1) := by decide +kernel
theorem dX10_digest_105 : decode cX10_digest 105 = .ok (.i2l, 1) := by decide +kernel
theorem dX10_digest_106 : decode cX10_digest 106 = .ok (.invokestatic 288, 3) := by decide +kernel
theorem dX10_digest_109 : decode cX10_digest 109 = .ok (.aload_n 0, 1) := by decide +kernel
theorem dX10_digest_110 : decode cX10_digest 110 = .ok (.getfield 36, 3) := by decide +kernel
theorem dX10_digest_113 : decode cX10_digest 113 = .ok (.getfield 140, 3) := by decide +kernel
theorem dX10_digest_116 : decode cX10_digest 116 = .ok (.getfield 191, 3) := by decide +kernel
theorem dX10_digest_119 : decode cX10_digest 119 = .ok (.iload_n 3, 1) := by decide +kernel
theorem dX10_digest_120 : decode cX10_digest 120 = .ok (.iaload, 1) := by decide +kernel
theorem dX10_digest_121 : decode cX10_digest 121 = .ok (.i2l, 1) := by decide +kernel
theorem dX10_digest_122 : decode cX10_digest 122 = .ok (.invokestatic 288, 3) := by decide +kernel
theorem dX10_digest_125 : decode cX10_digest 125 = .ok (.lstore_n 1, 1) := by decide +kernel
theorem dX10_digest_126 : decode cX10_digest 126 = .ok (.iinc 3 1, 3) := by decide +kernel
theorem dX10_digest_129 : decode cX10_digest 129 = .ok (.goto (-48), 3) := by decide +kernel
theorem dX10_digest_132 : decode cX10_digest 132 = .ok (.iconst 0, 1) := by decide +kernel
theorem dX10_digest_133 : decode cX10_digest 133 = .ok (.istore_n 3, 1) := by decide +kernel
theorem dX10_digest_134 : decode cX10_digest 134 = .ok (.iload_n 3, 1) := by decide +kernel
theorem dX10_digest_135 : decode cX10_digest 135 = .ok (.aload_n 0, 1) := by decide +kernel
theorem dX10_digest_136 : decode cX10_digest 136 = .ok (.getfield 36, 3) := by decide +kernel
theorem dX10_digest_139 : decode cX10_digest 139 = .ok (.getfield 240, 3) := by decide +kernel
theorem dX10_digest_142 : decode cX10_digest 142 = .ok (.if_icmp .ge 23, 3) := by decide +kernel
theorem dX10_digest_145 : decode cX10_digest 145 = .ok (.lload_n 1, 1) := by decide +kernel
theorem dX10_digest_146 : decode cX10_digest 146 = .ok (.aload_n 0, 1) := by decide +kernel
theorem dX10_digest_147 : decode cX10_digest 147 = .ok (.getfield 36, 3) := by decide +kernel
theorem dX10_digest_150 : decode cX10_digest 150 = .ok (.getfield 292, 3) := by decide +kernel
theorem dX10_digest_153 : decode cX10_digest 153 = .ok (.iload_n 3, 1) := by decide +kernel
theorem dX10_digest_154 : decode cX10_digest 154 = .ok (.aaload, 1) := by decide +kernel
theorem dX10_digest_155 : decode cX10_digest 155 = .ok (.invokestatic 296, 3) := by decide +kernel
theorem dX10_digest_158 : decode cX10_digest 158 = .ok (.lstore_n 1, 1) := by decide +kernel
theorem dX10_digest_159 : decode cX10_digest 159 = .ok (.iinc 3 1, 3) := by decide +kernel
theorem dX10_digest_162 : decode cX10_digest 162 = .ok (.goto (-28), 3) := by decide +kernel
theorem dX10_digest_165 : decode cX10_digest 165 = .ok (.iconst 0, 1) := by decide +kernel
theorem dX10_digest_166 : decode cX10_digest 166 = .ok (.istore_n 3, 1) := by decide +kernel
theorem dX10_digest_167 : decode cX10_digest 167 = .ok (.iload_n 3, 1) := by decide +kernel
theorem dX10_digest_168 : decode cX10_digest 168 = .ok (.aload_n 0, 1) := by decide +kernel
theorem dX10_digest_169 : decode cX10_digest 169 = .ok (.getfield 36, 3) := by decide +kernel
theorem dX10_digest_172 : decode cX10_digest 172 = .ok (.getfield 250, 3) := by decide +kernel
theorem dX10_digest_175 : decode cX10_digest 175 = .ok (.if_icmp .ge 23, 3) := by decide +kernel
theorem dX10_digest_178 : decode cX10_digest 178 = .ok (.lload_n 1, 1) := by decide +kernel
theorem dX10_digest_179 : decode cX10_digest 179 = .ok (.aload_n 0, 1) := by decide +kernel
theorem dX10_digest_180 : decode cX10_digest 180 = .ok (.getfield 36, 3) := by decide +kernel
theorem dX10_digest_183 : decode cX10_digest 183 = .ok (.getfield 300, 3) := by decide +kernel
theorem dX10_digest_186 : decode cX10_digest 186 = .ok (.iload_n 3, 1) := by decide +kernel
theorem dX10_digest_187 : decode cX10_digest 187 = .ok (.aaload, 1) := by decide +kernel
theorem dX10_digest_188 : decode cX10_digest 188 = .ok (.invokestatic 296, 3) := by decide +kernel
theorem dX10_digest_191 : decode cX10_digest 191 = .ok (.lstore_n 1, 1) := by decide +kernel
theorem dX10_digest_192 : decode cX10_digest 192 = .ok (.iinc 3 1, 3) := by decide +kernel
theorem dX10_digest_195 : decode cX10_digest 195 = .ok (.goto (-28), 3) := by decide +kernel
theorem dX10_digest_198 : decode cX10_digest 198 = .ok (.lload_n 1, 1) := by decide +kernel
theorem dX10_digest_199 : decode cX10_digest 199 = .ok (.aload_n 0, 1) := by decide +kernel
theorem dX10_digest_200 : decode cX10_digest 200 = .ok (.getfield 79, 3) := by decide +kernel
theorem dX10_digest_203 : decode cX10_digest 203 = .ok (.i2l, 1) := by decide +kernel
theorem dX10_digest_204 : decode cX10_digest 204 = .ok (.invokestatic 288, 3) := by decide +kernel
theorem dX10_digest_207 : decode cX10_digest 207 = .ok (.aload_n 0, 1) := by decide +kernel
theorem dX10_digest_208 : decode cX10_digest 208 = .ok (.getfield 83, 3) := by decide +kernel
theorem dX10_digest_211 : decode cX10_digest 211 = .ok (.i2l, 1) := by decide +kernel
theorem dX10_digest_212 : decode cX10_digest 212 = .ok (.invokestatic 288, 3) := by decide +kernel
theorem dX10_digest_215 : decode cX10_digest 215 = .ok (.lreturn, 1) := by decide +kernel
theorem dX10_refuseBad_0 : decode cX10_refuseBad 0 = .ok (.aload_n 0, 1) := by decide +kernel
theorem dX10_refuseBad_1 : decode cX10_refuseBad 1 = .ok (.getfield 76, 3) := by decide +kernel
theorem dX10_refuseBad_4 : decode cX10_refuseBad 4 = .ok (.iconst 0, 1) := by decide +kernel
theorem dX10_refuseBad_5 : decode cX10_refuseBad 5 = .ok (.dup2, 1) := by decide +kernel
theorem dX10_refuseBad_6 : decode cX10_refuseBad 6 = .ok (.iaload, 1) := by decide +kernel
theorem dX10_refuseBad_7 : decode cX10_refuseBad 7 = .ok (.iconst 1, 1) := by decide +kernel
theorem dX10_refuseBad_8 : decode cX10_refuseBad 8 = .ok (.iadd, 1) := by decide +kernel
theorem dX10_refuseBad_9 : decode cX10_refuseBad 9 = .ok (.iastore, 1) := by decide +kernel
theorem dX10_refuseBad_10 : decode cX10_refuseBad 10 = .ok (.bipush (-2), 2) := by decide +kernel
theorem dX10_refuseBad_12 : decode cX10_refuseBad 12 = .ok (.ireturn, 1) := by decide +kernel
theorem dX10_refuseNo_0 : decode cX10_refuseNo 0 = .ok (.aload_n 0, 1) := by decide +kernel
theorem dX10_refuseNo_1 : decode cX10_refuseNo 1 = .ok (.getfield 76, 3) := by decide +kernel
theorem dX10_refuseNo_4 : decode cX10_refuseNo 4 = .ok (.iconst 1, 1) := by decide +kernel
theorem dX10_refuseNo_5 : decode cX10_refuseNo 5 = .ok (.dup2, 1) := by decide +kernel
theorem dX10_refuseNo_6 : decode cX10_refuseNo 6 = .ok (.iaload, 1) := by decide +kernel
theorem dX10_refuseNo_7 : decode cX10_refuseNo 7 = .ok (.iconst 1, 1) := by decide +kernel
theorem dX10_refuseNo_8 : decode cX10_refuseNo 8 = .ok (.iadd, 1) := by decide +kernel
theorem dX10_refuseNo_9 : decode cX10_refuseNo 9 = .ok (.iastore, 1) := by decide +kernel
theorem dX10_refuseNo_10 : decode cX10_refuseNo 10 = .ok (.bipush (-3), 2) := by decide +kernel
theorem dX10_refuseNo_12 : decode cX10_refuseNo 12 = .ok (.ireturn, 1) := by decide +kernel
theorem dX10_refuseFull_0 : decode cX10_refuseFull 0 = .ok (.aload_n 0, 1) := by decide +kernel
theorem dX10_refuseFull_1 : decode cX10_refuseFull 1 = .ok (.getfield 76, 3) := by decide +kernel
theorem dX10_refuseFull_4 : decode cX10_refuseFull 4 = .ok (.iconst 2, 1) := by decide +kernel
theorem dX10_refuseFull_5 : decode cX10_refuseFull 5 = .ok (.dup2, 1) := by decide +kernel
theorem dX10_refuseFull_6 : decode cX10_refuseFull 6 = .ok (.iaload, 1) := by decide +kernel
theorem dX10_refuseFull_7 : decode cX10_refuseFull 7 = .ok (.iconst 1, 1) := by decide +kernel
theorem dX10_refuseFull_8 : decode cX10_refuseFull 8 = .ok (.iadd, 1) := by decide +kernel
theorem dX10_refuseFull_9 : decode cX10_refuseFull 9 = .ok (.iastore, 1) := by decide +kernel
theorem dX10_refuseFull_10 : decode cX10_refuseFull 10 = .ok (.bipush (-4), 2) := by decide +kernel
theorem dX10_refuseFull_12 : decode cX10_refuseFull 12 = .ok (.ireturn, 1) := by decide +kernel
theorem dX10_refuseTen_0 : decode cX10_refuseTen 0 = .ok (.aload_n 0, 1) := by decide +kernel
theorem dX10_refuseTen_1 : decode cX10_refuseTen 1 = .ok (.getfield 76, 3) := by decide +kernel
theorem dX10_refuseTen_4 : decode cX10_refuseTen 4 = .ok (.iconst 0, 1) := by decide +kernel
theorem dX10_refuseTen_5 : decode cX10_refuseTen 5 = .ok (.dup2, 1) := by decide +kernel
theorem dX10_refuseTen_6 : decode cX10_refuseTen 6 = .ok (.iaload, 1) := by decide +kernel
theorem dX10_refuseTen_7 : decode cX10_refuseTen 7 = .ok (.iconst 1, 1) := by decide +kernel
theorem dX10_refuseTen_8 : decode cX10_refuseTen 8 = .ok (.iadd, 1) := by decide +kernel
theorem dX10_refuseTen_9 : decode cX10_refuseTen 9 = .ok (.iastore, 1) := by decide +kernel
