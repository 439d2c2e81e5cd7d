theorem dX10_refuseTen_10 : decode cX10_refuseTen 10 = .ok (.bipush (-10), 2) := by decide +kernel
theorem dX10_refuseTen_12 : decode cX10_refuseTen 12 = .ok (.ireturn, 1) := by decide +kernel
theorem dX10_isIn_0 : decode cX10_isIn 0 = .ok (.iload_n 0, 1) := by decide +kernel
theorem dX10_isIn_1 : decode cX10_isIn 1 = .ok (.iload_n 1, 1) := by decide +kernel
theorem dX10_isIn_2 : decode cX10_isIn 2 = .ok (.if_icmp .lt 12, 3) := by decide +kernel
theorem dX10_isIn_5 : decode cX10_isIn 5 = .ok (.iload_n 0, 1) := by decide +kernel
theorem dX10_isIn_6 : decode cX10_isIn 6 = .ok (.iload_n 2, 1) := by decide +kernel
theorem dX10_isIn_7 : decode cX10_isIn 7 = .ok (.if_icmp .gt 7, 3) := by decide +kernel
theorem dX10_isIn_10 : decode cX10_isIn 10 = .ok (.iconst 1, 1) := by decide +kernel
theorem dX10_isIn_11 : decode cX10_isIn 11 = .ok (.goto 4, 3) := by decide +kernel
theorem dX10_isIn_14 : decode cX10_isIn 14 = .ok (.iconst 0, 1) := by decide +kernel
theorem dX10_isIn_15 : decode cX10_isIn 15 = .ok (.ireturn, 1) := by decide +kernel
theorem dX10_isBelow_0 : decode cX10_isBelow 0 = .ok (.iload_n 0, 1) := by decide +kernel
theorem dX10_isBelow_1 : decode cX10_isBelow 1 = .ok (.ifCond .lt 12, 3) := by decide +kernel
theorem dX10_isBelow_4 : decode cX10_isBelow 4 = .ok (.iload_n 0, 1) := by decide +kernel
theorem dX10_isBelow_5 : decode cX10_isBelow 5 = .ok (.iload_n 1, 1) := by decide +kernel
theorem dX10_isBelow_6 : decode cX10_isBelow 6 = .ok (.if_icmp .ge 7, 3) := by decide +kernel
theorem dX10_isBelow_9 : decode cX10_isBelow 9 = .ok (.iconst 1, 1) := by decide +kernel
theorem dX10_isBelow_10 : decode cX10_isBelow 10 = .ok (.goto 4, 3) := by decide +kernel
theorem dX10_isBelow_13 : decode cX10_isBelow 13 = .ok (.iconst 0, 1) := by decide +kernel
theorem dX10_isBelow_14 : decode cX10_isBelow 14 = .ok (.ireturn, 1) := by decide +kernel
set_option maxRecDepth 20000 in
theorem ggX10_isLight_X10_isIn : GoodIn wsX10_isLight wsX10_isIn := goodIn_r _ [4] (by decide +kernel) (by decide +kernel)
set_option maxRecDepth 20000 in
theorem gX10_isLight_X10_isIn : GoodIn wsX10_isLight (va_wsS RX10 147 yX10_isIn wsX10_isIn) := goodIn_app (goodIn_of _ (by decide +kernel)) ggX10_isLight_X10_isIn
theorem dX10_isLight_0 : decode cX10_isLight 0 = .ok (.iload_n 0, 1) := by decide +kernel
theorem dX10_isLight_1 : decode cX10_isLight 1 = .ok (.iconst 0, 1) := by decide +kernel
theorem dX10_isLight_2 : decode cX10_isLight 2 = .ok (.bipush 60, 2) := by decide +kernel
theorem dX10_isLight_4 : decode cX10_isLight 4 = .ok (.invokestatic 147, 3) := by decide +kernel
theorem dX10_isLight_7 : decode cX10_isLight 7 = .ok (.ireturn, 1) := by decide +kernel
theorem dX10_howMany_0 : decode cX10_howMany 0 = .ok (.iload_n 1, 1) := by decide +kernel
theorem dX10_howMany_1 : decode cX10_howMany 1 = .ok (.tableswitch 120 0 7 #[47, 55, 63, 74, 85, 96, 104, 112], 47) := by decide +kernel
theorem dX10_howMany_48 : decode cX10_howMany 48 = .ok (.aload_n 0, 1) := by decide +kernel
theorem dX10_howMany_49 : decode cX10_howMany 49 = .ok (.getfield 36, 3) := by decide +kernel
theorem dX10_howMany_52 : decode cX10_howMany 52 = .ok (.getfield 94, 3) := by decide +kernel
theorem dX10_howMany_55 : decode cX10_howMany 55 = .ok (.ireturn, 1) := by decide +kernel
theorem dX10_howMany_56 : decode cX10_howMany 56 = .ok (.aload_n 0, 1) := by decide +kernel
theorem dX10_howMany_57 : decode cX10_howMany 57 = .ok (.getfield 36, 3) := by decide +kernel
theorem dX10_howMany_60 : decode cX10_howMany 60 = .ok (.getfield 115, 3) := by decide +kernel
theorem dX10_howMany_63 : decode cX10_howMany 63 = .ok (.ireturn, 1) := by decide +kernel
theorem dX10_howMany_64 : decode cX10_howMany 64 = .ok (.aload_n 0, 1) := by decide +kernel
theorem dX10_howMany_65 : decode cX10_howMany 65 = .ok (.getfield 36, 3) := by decide +kernel
theorem dX10_howMany_68 : decode cX10_howMany 68 = .ok (.getfield 140, 3) := by decide +kernel
theorem dX10_howMany_71 : decode cX10_howMany 71 = .ok (.getfield 151, 3) := by decide +kernel
theorem dX10_howMany_74 : decode cX10_howMany 74 = .ok (.ireturn, 1) := by decide +kernel
theorem dX10_howMany_75 : decode cX10_howMany 75 = .ok (.aload_n 0, 1) := by decide +kernel
theorem dX10_howMany_76 : decode cX10_howMany 76 = .ok (.getfield 36, 3) := by decide +kernel
theorem dX10_howMany_79 : decode cX10_howMany 79 = .ok (.getfield 140, 3) := by decide +kernel
theorem dX10_howMany_82 : decode cX10_howMany 82 = .ok (.getfield 173, 3) := by decide +kernel
theorem dX10_howMany_85 : decode cX10_howMany 85 = .ok (.ireturn, 1) := by decide +kernel
theorem dX10_howMany_86 : decode cX10_howMany 86 = .ok (.aload_n 0, 1) := by decide +kernel
theorem dX10_howMany_87 : decode cX10_howMany 87 = .ok (.getfield 36, 3) := by decide +kernel
theorem dX10_howMany_90 : decode cX10_howMany 90 = .ok (.getfield 140, 3) := by decide +kernel
theorem dX10_howMany_93 : decode cX10_howMany 93 = .ok (.getfield 164, 3) := by decide +kernel
theorem dX10_howMany_96 : decode cX10_howMany 96 = .ok (.ireturn, 1) := by decide +kernel
theorem dX10_howMany_97 : decode cX10_howMany 97 = .ok (.aload_n 0, 1) := by decide +kernel
theorem dX10_howMany_98 : decode cX10_howMany 98 = .ok (.getfield 36, 3) := by decide +kernel
theorem dX10_howMany_101 : decode cX10_howMany 101 = .ok (.getfield 240, 3) := by decide +kernel
theorem dX10_howMany_104 : decode cX10_howMany 104 = .ok (.ireturn, 1) := by decide +kernel
theorem dX10_howMany_105 : decode cX10_howMany 105 = .ok (.aload_n 0, 1) := by decide +kernel
theorem dX10_howMany_106 : decode cX10_howMany 106 = .ok (.getfield 36, 3) := by decide +kernel
theorem dX10_howMany_109 : decode cX10_howMany 109 = .ok (.getfield 250, 3) := by decide +kernel
theorem dX10_howMany_112 : decode cX10_howMany 112 = .ok (.ireturn, 1) := by decide +kernel
theorem dX10_howMany_113 : decode cX10_howMany 113 = .ok (.aload_n 0, 1) := by decide +kernel
theorem dX10_howMany_114 : decode cX10_howMany 114 = .ok (.getfield 36, 3) := by decide +kernel
theorem dX10_howMany_117 : decode cX10_howMany 117 = .ok (.getfield 176, 3) := by decide +kernel
theorem dX10_howMany_120 : decode cX10_howMany 120 = .ok (.ireturn, 1) := by decide +kernel
theorem dX10_howMany_121 : decode cX10_howMany 121 = .ok (.aload_n 0, 1) := by decide +kernel
theorem dX10_howMany_122 : decode cX10_howMany 122 = .ok (.getfield 51, 3) := by decide +kernel
theorem dX10_howMany_125 : decode cX10_howMany 125 = .ok (.getfield 122, 3) := by decide +kernel
theorem dX10_howMany_128 : decode cX10_howMany 128 = .ok (.ireturn, 1) := by decide +kernel
theorem dX10_mix_0 : decode cX10_mix 0 = .ok (.ldc2_w 303, 3) := by decide +kernel
theorem dX10_mix_3 : decode cX10_mix 3 = .ok (.lload_n 0, 1) := by decide +kernel
theorem dX10_mix_4 : decode cX10_mix 4 = .ok (.lmul, 1) := by decide +kernel
theorem dX10_mix_5 : decode cX10_mix 5 = .ok (.lload_n 2, 1) := by decide +kernel
theorem dX10_mix_6 : decode cX10_mix 6 = .ok (.ladd, 1) := by decide +kernel
theorem dX10_mix_7 : decode cX10_mix 7 = .ok (.lreturn, 1) := by decide +kernel
set_option maxRecDepth 20000 in
theorem ggX10_mixRow_X10_mix : GoodIn wsX10_mixRow wsX10_mix := goodIn_r _ [4, 5] (by decide +kernel) (by decide +kernel)
set_option maxRecDepth 20000 in
theorem gX10_mixRow_X10_mix : GoodIn wsX10_mixRow (va_wsS RX10 288 yX10_mix wsX10_mix) := goodIn_app (goodIn_of _ (by decide +kernel)) ggX10_mixRow_X10_mix
theorem dX10_mixRow_0 : decode cX10_mixRow 0 = .ok (.lload_n 0, 1) := by decide +kernel
theorem dX10_mixRow_1 : decode cX10_mixRow 1 = .ok (.lstore_n 3, 1) := by decide +kernel
theorem dX10_mixRow_2 : decode cX10_mixRow 2 = .ok (.aload_n 2, 1) := by decide +kernel
theorem dX10_mixRow_3 : decode cX10_mixRow 3 = .ok (.astore 5, 2) := by decide +kernel
theorem dX10_mixRow_5 : decode cX10_mixRow 5 = .ok (.aload 5, 2) := by decide +kernel
theorem dX10_mixRow_7 : decode cX10_mixRow 7 = .ok (.arraylength, 1) := by decide +kernel
theorem dX10_mixRow_8 : decode cX10_mixRow 8 = .ok (.istore 6, 2) := by decide +kernel
theorem dX10_mixRow_10 : decode cX10_mixRow 10 = .ok (.iconst 0, 1) := by decide +kernel
theorem dX10_mixRow_11 : decode cX10_mixRow 11 = .ok (.istore 7, 2) := by decide +kernel
theorem dX10_mixRow_13 : decode cX10_mixRow 13 = .ok (.iload 7, 2) := by decide +kernel
theorem dX10_mixRow_15 : decode cX10_mixRow 15 = .ok (.iload 6, 2) := by decide +kernel
theorem dX10_mixRow_17 : decode cX10_mixRow 17 = .ok (.if_icmp .ge 24, 3) := by decide +kernel
theorem dX10_mixRow_20 : decode cX10_mixRow 20 = .ok (.aload 5, 2) := by decide +kernel
theorem dX10_mixRow_22 : decode cX10_mixRow 22 = .ok (.iload 7, 2) := by decide +kernel
theorem dX10_mixRow_24 : decode cX10_mixRow 24 = .ok (.iaload, 1) := by decide +kernel
theorem dX10_mixRow_25 : decode cX10_mixRow 25 = .ok (.istore 8, 2) := by decide +kernel
theorem dX10_mixRow_27 : decode cX10_mixRow 27 = .ok (.lload_n 3, 1) := by decide +kernel
theorem dX10_mixRow_28 : decode cX10_mixRow 28 = .ok (.iload 8, 2) := by decide +kernel
theorem dX10_mixRow_30 : decode cX10_mixRow 30 = .ok (.i2l, 1) := by decide +kernel
theorem dX10_mixRow_31 : decode cX10_mixRow 31 = .ok (.invokestatic 288, 3) := by decide +kernel
theorem dX10_mixRow_34 : decode cX10_mixRow 34 = .ok (.lstore_n 3, 1) := by decide +kernel
theorem dX10_mixRow_35 : decode cX10_mixRow 35 = .ok (.iinc 7 1, 3) := by decide +kernel
theorem dX10_mixRow_38 : decode cX10_mixRow 38 = .ok (.goto (-25), 3) := by decide +kernel
theorem dX10_mixRow_41 : decode cX10_mixRow 41 = .ok (.lload_n 3, 1) := by decide +kernel
theorem dX10_mixRow_42 : decode cX10_mixRow 42 = .ok (.lreturn, 1) := by decide +kernel
theorem dX10_faded_0 : decode cX10_faded 0 = .ok (.iload_n 0, 1) := by decide +kernel
theorem dX10_faded_1 : decode cX10_faded 1 = .ok (.iload_n 0, 1) := by decide +kernel
theorem dX10_faded_2 : decode cX10_faded 2 = .ok (.iconst 3, 1) := by decide +kernel
theorem dX10_faded_3 : decode cX10_faded 3 = .ok (.iadd, 1) := by decide +kernel
theorem dX10_faded_4 : decode cX10_faded 4 = .ok (.iconst 4, 1) := by decide +kernel
theorem dX10_faded_5 : decode cX10_faded 5 = .ok (.idiv, 1) := by decide +kernel
theorem dX10_faded_6 : decode cX10_faded 6 = .ok (.isub, 1) := by decide +kernel
theorem dX10_faded_7 : decode cX10_faded 7 = .ok (.ireturn, 1) := by decide +kernel
theorem dX10_commonDivisor_0 : decode cX10_commonDivisor 0 = .ok (.iload_n 0, 1) := by decide +kernel
theorem dX10_commonDivisor_1 : decode cX10_commonDivisor 1 = .ok (.istore_n 2, 1) := by decide +kernel
theorem dX10_commonDivisor_2 : decode cX10_commonDivisor 2 = .ok (.iload_n 1, 1) := by decide +kernel
theorem dX10_commonDivisor_3 : decode cX10_commonDivisor 3 = .ok (.istore_n 3, 1) := by decide +kernel
theorem dX10_commonDivisor_4 : decode cX10_commonDivisor 4 = .ok (.iconst 0, 1) := by decide +kernel
theorem dX10_commonDivisor_5 : decode cX10_commonDivisor 5 = .ok (.istore 4, 2) := by decide +kernel
theorem dX10_commonDivisor_7 : decode cX10_commonDivisor 7 = .ok (.iload 4, 2) := by decide +kernel
theorem dX10_commonDivisor_9 : decode cX10_commonDivisor 9 = .ok (.bipush 64, 2) := by decide +kernel
theorem dX10_commonDivisor_11 : decode cX10_commonDivisor 11 = .ok (.if_icmp .ge 23, 3) := by decide +kernel
theorem dX10_commonDivisor_14 : decode cX10_commonDivisor 14 = .ok (.iload_n 3, 1) := by decide +kernel
theorem dX10_commonDivisor_15 : decode cX10_commonDivisor 15 = .ok (.ifCond .eq 19, 3) := by decide +kernel
theorem dX10_commonDivisor_18 : decode cX10_commonDivisor 18 = .ok (.iload_n 2, 1) := by decide +kernel
theorem dX10_commonDivisor_19 : decode cX10_commonDivisor 19 = .ok (.iload_n 3, 1) := by decide +kernel
theorem dX10_commonDivisor_20 : decode cX10_commonDivisor 20 = .ok (.irem, 1) := by decide +kernel
theorem dX10_commonDivisor_21 : decode cX10_commonDivisor 21 = .ok (.istore 5, 2) := by decide +kernel
theorem dX10_commonDivisor_23 : decode cX10_commonDivisor 23 = .ok (.iload_n 3, 1) := by decide +kernel
theorem dX10_commonDivisor_24 : decode cX10_commonDivisor 24 = .ok (.istore_n 2, 1) := by decide +kernel
theorem dX10_commonDivisor_25 : decode cX10_commonDivisor 25 = .ok (.iload 5, 2) := by decide +kernel
theorem dX10_commonDivisor_27 : decode cX10_commonDivisor 27 = .ok (.istore_n 3, 1) := by decide +kernel
theorem dX10_commonDivisor_28 : decode cX10_commonDivisor 28 = .ok (.iinc 4 1, 3) := by decide +kernel
theorem dX10_commonDivisor_31 : decode cX10_commonDivisor 31 = .ok (.goto (-24), 3) := by decide +kernel
theorem dX10_commonDivisor_34 : decode cX10_commonDivisor 34 = .ok (.iload_n 2, 1) := by decide +kernel
theorem dX10_commonDivisor_35 : decode cX10_commonDivisor 35 = .ok (.ifCond .ne 7, 3) := by decide +kernel
theorem dX10_commonDivisor_38 : decode cX10_commonDivisor 38 = .ok (.iconst 1, 1) := by decide +kernel
theorem dX10_commonDivisor_39 : decode cX10_commonDivisor 39 = .ok (.goto 4, 3) := by decide +kernel
theorem dX10_commonDivisor_42 : decode cX10_commonDivisor 42 = .ok (.iload_n 2, 1) := by decide +kernel
theorem dX10_commonDivisor_43 : decode cX10_commonDivisor 43 = .ok (.ireturn, 1) := by decide +kernel
set_option maxRecDepth 20000 in
theorem ggX10_showAll_X4_shows : GoodIn wsX10_showAll wsX4_shows := goodIn_r _ [9, 10, 11, 12, 13, 14, 15, 16, 17, 18, 19, 20, 21, 22, 23, 24, 25, 26, 27, 28, 29, 30, 31, 32, 33, 34, 35, 36, 37, 38, 39, 40, 41, 42, 43, 44, 45, 46, 47, 48, 49, 50, 51, 52, 53, 54, 55, 56, 57, 58, 59, 60, 61, 74, 75, 76, 77, 78, 79, 80, 81, 82, 83, 84, 85, 86, 87, 88, 89, 90] (by decide +kernel) (by decide +kernel)
set_option maxRecDepth 20000 in
theorem gX10_showAll_X4_shows : GoodIn wsX10_showAll (wsV RX10 197 RX4 yX4_shows wsX4_shows) := goodIn_app (goodIn_of _ (by decide +kernel)) ggX10_showAll_X4_shows
theorem dX10_showAll_0 : decode cX10_showAll 0 = .ok (.iconst 0, 1) := by decide +kernel
theorem dX10_showAll_1 : decode cX10_showAll 1 = .ok (.istore_n 2, 1) := by decide +kernel
theorem dX10_showAll_2 : decode cX10_showAll 2 = .ok (.iload_n 2, 1) := by decide +kernel
theorem dX10_showAll_3 : decode cX10_showAll 3 = .ok (.aload_n 0, 1) := by decide +kernel
theorem dX10_showAll_4 : decode cX10_showAll 4 = .ok (.getfield 36, 3) := by decide +kernel
theorem dX10_showAll_7 : decode cX10_showAll 7 = .ok (.getfield 94, 3) := by decide +kernel
theorem dX10_showAll_10 : decode cX10_showAll 10 = .ok (.if_icmp .ge 31, 3) := by decide +kernel
theorem dX10_showAll_13 : decode cX10_showAll 13 = .ok (.aload_n 0, 1) := by decide +kernel
theorem dX10_showAll_14 : decode cX10_showAll 14 = .ok (.getfield 69, 3) := by decide +kernel
theorem dX10_showAll_17 : decode cX10_showAll 17 = .ok (.iload_n 2, 1) := by decide +kernel
theorem dX10_showAll_18 : decode cX10_showAll 18 = .ok (.aload_n 0, 1) := by decide +kernel
theorem dX10_showAll_19 : decode cX10_showAll 19 = .ok (.getfield 36, 3) := by decide +kernel
theorem dX10_showAll_22 : decode cX10_showAll 22 = .ok (.aload_n 0, 1) := by decide +kernel
theorem dX10_showAll_23 : decode cX10_showAll 23 = .ok (.getfield 36, 3) := by decide +kernel
theorem dX10_showAll_26 : decode cX10_showAll 26 = .ok (.getfield 140, 3) := by decide +kernel
theorem dX10_showAll_29 : decode cX10_showAll 29 = .ok (.iload_n 2, 1) := by decide +kernel
theorem dX10_showAll_30 : decode cX10_showAll 30 = .ok (.iload_n 1, 1) := by decide +kernel
theorem dX10_showAll_31 : decode cX10_showAll 31 = .ok (.invokevirtual 197, 3) := by decide +kernel
theorem dX10_showAll_34 : decode cX10_showAll 34 = .ok (.iastore, 1) := by decide +kernel
theorem dX10_showAll_35 : decode cX10_showAll 35 = .ok (.iinc 2 1, 3) := by decide +kernel
theorem dX10_showAll_38 : decode cX10_showAll 38 = .ok (.goto (-36), 3) := by decide +kernel
theorem dX10_showAll_41 : decode cX10_showAll 41 = .ok (.return_, 1) := by decide +kernel
set_option maxRecDepth 20000 in
theorem ggX10_roam_X0_offer : GoodIn wsX10_roam wsX0_offer := goodIn_r _ [8, 9, 10, 11, 12, 13, 14, 15, 16, 17, 18, 19, 105, 106, 107] (by decide +kernel) (by decide +kernel)
set_option maxRecDepth 20000 in
theorem gX10_roam_X0_offer : GoodIn wsX10_roam (wsV RX10 305 RX0 yX0_offer wsX0_offer) := goodIn_app (goodIn_of _ (by decide +kernel)) ggX10_roam_X0_offer
set_option maxRecDepth 20000 in
theorem ggX10_roam_X4_hasField : GoodIn wsX10_roam wsX4_hasField := goodIn_r _ [24, 25, 26, 27, 28, 108, 109, 110, 111, 112, 113, 114, 115, 116, 117, 118] (by decide +kernel) (by decide +kernel)
set_option maxRecDepth 20000 in
theorem gX10_roam_X4_hasField : GoodIn wsX10_roam (wsV RX10 112 RX4 yX4_hasField wsX4_hasField) := goodIn_app (goodIn_of _ (by decide +kernel)) ggX10_roam_X4_hasField
set_option maxRecDepth 20000 in
theorem ggX10_roam_X10_stay : GoodIn wsX10_roam wsX10_stay := goodIn_r _ [35, 36, 37, 2, 38, 39, 40, 14, 41, 42, 43, 44, 23, 45, 46, 47, 48, 49, 50, 51, 52, 53, 54, 55, 56, 57, 58, 59, 60, 61, 62, 63, 64, 65, 66, 67, 68, 69, 70, 71, 72, 73, 74, 75, 76, 77, 78, 79, 80, 81, 82, 83, 84, 85, 86, 87, 88, 13, 15, 89, 90, 91, 92, 32, 33, 34, 27, 0, 1, 3, 4, 5, 6, 7, 8, 9, 10, 11, 12, 16, 17, 18, 19, 20, 21, 22, 24, 25, 26, 28, 29, 30, 31, 93, 94, 95, 96, 97, 98, 99, 100, 101, 102, 103, 104, 105, 106, 107, 108, 109, 110, 111, 112, 113, 114, 115, 116, 117, 118, 119, 120, 121, 122, 123, 124] (by decide +kernel) (by decide +kernel)
set_option maxRecDepth 20000 in
theorem gX10_roam_X10_stay : GoodIn wsX10_roam (wsV RX10 312 RX10 yX10_stay wsX10_stay) := goodIn_app (goodIn_of _ (by decide +kernel)) ggX10_roam_X10_stay
set_option maxRecDepth 20000 in
theorem ggX10_roam_X10_roam : GoodIn wsX10_roam wsX10_roam := goodIn_r _ [0, 1, 2, 3, 4, 5, 6, 7, 8, 9, 10, 11, 12, 13, 14, 15, 16, 17, 18, 19, 20, 21, 22, 23, 24, 25, 26, 27, 28, 29, 30, 31, 32, 33, 34, 35, 36, 37, 38, 39, 40, 41, 42, 43, 44, 45, 46, 47, 48, 49, 50, 51, 52, 53, 54, 55, 56, 57, 58, 59, 60, 61, 62, 63, 64, 65, 66, 67, 68, 69, 70, 71, 72, 73, 74, 75, 76, 77, 78, 79, 80, 81, 82, 83, 84, 85, 86, 87, 88, 89, 90, 91, 92, 93, 94, 95, 96, 97, 98, 99, 100, 101, 102, 103, 104, 105, 106, 107, 108, 109, 110, 111, 112, 113, 114, 115, 116, 117, 118, 119, 120, 121, 122, 123, 124] (by decide +kernel) (by decide +kernel)
set_option maxRecDepth 20000 in
theorem gX10_roam_X10_roam : GoodIn wsX10_roam (wsV RX10 214 RX10 yX10_roam wsX10_roam) := goodIn_app (goodIn_of _ (by decide +kernel)) ggX10_roam_X10_roam
theorem dX10_roam_0 : decode cX10_roam 0 = .ok (.iload_n 2, 1) := by decide +kernel
theorem dX10_roam_1 : decode cX10_roam 1 = .ok (.iload_n 3, 1) := by decide +kernel
theorem dX10_roam_2 : decode cX10_roam 2 = .ok (.if_icmp .lt 14, 3) := by decide +kernel
theorem dX10_roam_5 : decode cX10_roam 5 = .ok (.aload_n 0, 1) := by decide +kernel
theorem dX10_roam_6 : decode cX10_roam 6 = .ok (.getfield 65, 3) := by decide +kernel
theorem dX10_roam_9 : decode cX10_roam 9 = .ok (.iload 4, 2) := by decide +kernel
theorem dX10_roam_11 : decode cX10_roam 11 = .ok (.iload_n 3, 1) := by decide +kernel
theorem dX10_roam_12 : decode cX10_roam 12 = .ok (.invokevirtual 305, 3) := by decide +kernel
theorem dX10_roam_15 : decode cX10_roam 15 = .ok (.return_, 1) := by decide +kernel
theorem dX10_roam_16 : decode cX10_roam 16 = .ok (.iload_n 1, 1) := by decide +kernel
theorem dX10_roam_17 : decode cX10_roam 17 = .ok (.iconst 1, 1) := by decide +kernel
theorem dX10_roam_18 : decode cX10_roam 18 = .ok (.isub, 1) := by decide +kernel
theorem dX10_roam_19 : decode cX10_roam 19 = .ok (.istore 5, 2) := by decide +kernel
theorem dX10_roam_21 : decode cX10_roam 21 = .ok (.iload 5, 2) := by decide +kernel
theorem dX10_roam_23 : decode cX10_roam 23 = .ok (.iload_n 1, 1) := by decide +kernel
theorem dX10_roam_24 : decode cX10_roam 24 = .ok (.iconst 1, 1) := by decide +kernel
theorem dX10_roam_25 : decode cX10_roam 25 = .ok (.iadd, 1) := by decide +kernel
theorem dX10_roam_26 : decode cX10_roam 26 = .ok (.if_icmp .gt 65, 3) := by decide +kernel
theorem dX10_roam_29 : decode cX10_roam 29 = .ok (.aload_n 0, 1) := by decide +kernel
theorem dX10_roam_30 : decode cX10_roam 30 = .ok (.getfield 36, 3) := by decide +kernel
theorem dX10_roam_33 : decode cX10_roam 33 = .ok (.iload 5, 2) := by decide +kernel
theorem dX10_roam_35 : decode cX10_roam 35 = .ok (.invokevirtual 112, 3) := by decide +kernel
theorem dX10_roam_38 : decode cX10_roam 38 = .ok (.ifCond .ne 6, 3) := by decide +kernel
theorem dX10_roam_41 : decode cX10_roam 41 = .ok (.goto 44, 3) := by decide +kernel
theorem dX10_roam_44 : decode cX10_roam 44 = .ok (.aload_n 0, 1) := by decide +kernel
theorem dX10_roam_45 : decode cX10_roam 45 = .ok (.getfield 65, 3) := by decide +kernel
theorem dX10_roam_48 : decode cX10_roam 48 = .ok (.getfield 309, 3) := by decide +kernel
theorem dX10_roam_51 : decode cX10_roam 51 = .ok (.iload_n 2, 1) := by decide +kernel
theorem dX10_roam_52 : decode cX10_roam 52 = .ok (.iload 5, 2) := by decide +kernel
theorem dX10_roam_54 : decode cX10_roam 54 = .ok (.iastore, 1) := by decide +kernel
theorem dX10_roam_55 : decode cX10_roam 55 = .ok (.iload 5, 2) := by decide +kernel
theorem dX10_roam_57 : decode cX10_roam 57 = .ok (.iload_n 1, 1) := by decide +kernel
theorem dX10_roam_58 : decode cX10_roam 58 = .ok (.if_icmp .ne 15, 3) := by decide +kernel
theorem dX10_roam_61 : decode cX10_roam 61 = .ok (.aload_n 0, 1) := by decide +kernel
theorem dX10_roam_62 : decode cX10_roam 62 = .ok (.iload_n 1, 1) := by decide +kernel
theorem dX10_roam_63 : decode cX10_roam 63 = .ok (.iload_n 2, 1) := by decide +kernel
theorem dX10_roam_64 : decode cX10_roam 64 = .ok (.iload_n 3, 1) := by decide +kernel
theorem dX10_roam_65 : decode cX10_roam 65 = .ok (.iload 4, 2) := by decide +kernel
theorem dX10_roam_67 : decode cX10_roam 67 = .ok (.invokevirtual 312, 3) := by decide +kernel
theorem dX10_roam_70 : decode cX10_roam 70 = .ok (.goto 15, 3) := by decide +kernel
theorem dX10_roam_73 : decode cX10_roam 73 = .ok (.aload_n 0, 1) := by decide +kernel
theorem dX10_roam_74 : decode cX10_roam 74 = .ok (.iload 5, 2) := by decide +kernel
theorem dX10_roam_76 : decode cX10_roam 76 = .ok (.iload_n 2, 1) := by decide +kernel
theorem dX10_roam_77 : decode cX10_roam 77 = .ok (.iconst 1, 1) := by decide +kernel
theorem dX10_roam_78 : decode cX10_roam 78 = .ok (.iadd, 1) := by decide +kernel
theorem dX10_roam_79 : decode cX10_roam 79 = .ok (.iload_n 3, 1) := by decide +kernel
theorem dX10_roam_80 : decode cX10_roam 80 = .ok (.iload 4, 2) := by decide +kernel
theorem dX10_roam_82 : decode cX10_roam 82 = .ok (.invokevirtual 214, 3) := by decide +kernel
theorem dX10_roam_85 : decode cX10_roam 85 = .ok (.iinc 5 1, 3) := by decide +kernel
theorem dX10_roam_88 : decode cX10_roam 88 = .ok (.goto (-67), 3) := by decide +kernel
theorem dX10_roam_91 : decode cX10_roam 91 = .ok (.return_, 1) := by decide +kernel
set_option maxRecDepth 20000 in
theorem ggX10_stay_X4_shows : GoodIn wsX10_stay wsX4_shows := goodIn_r _ [13, 14, 15, 16, 17, 18, 19, 20, 21, 22, 23, 24, 25, 6, 7, 8, 26, 27, 28, 29, 30, 31, 32, 33, 34, 35, 36, 37, 38, 39, 40, 41, 42, 43, 44, 45, 46, 47, 48, 49, 50, 51, 52, 53, 54, 55, 56, 57, 58, 59, 60, 61, 62, 108, 109, 110, 111, 112, 113, 114, 115, 116, 117, 118, 119, 120, 121, 122, 123, 124] (by decide +kernel) (by decide +kernel)
set_option maxRecDepth 20000 in
theorem gX10_stay_X4_shows : GoodIn wsX10_stay (wsV RX10 197 RX4 yX4_shows wsX4_shows) := goodIn_app (goodIn_of _ (by decide +kernel)) ggX10_stay_X4_shows
set_option maxRecDepth 20000 in
theorem ggX10_stay_X10_roam : GoodIn wsX10_stay wsX10_roam := goodIn_r _ [67, 68, 3, 69, 70, 71, 72, 73, 74, 75, 76, 77, 78, 57, 7, 58, 79, 80, 81, 82, 83, 84, 85, 12, 86, 87, 88, 66, 89, 90, 91, 92, 63, 64, 65, 0, 1, 2, 4, 5, 6, 8, 9, 10, 11, 13, 14, 15, 16, 17, 18, 19, 20, 21, 22, 23, 24, 25, 26, 27, 28, 29, 30, 31, 32, 33, 34, 35, 36, 37, 38, 39, 40, 41, 42, 43, 44, 45, 46, 47, 48, 49, 50, 51, 52, 53, 54, 55, 56, 59, 60, 61, 62, 93, 94, 95, 96, 97, 98, 99, 100, 101, 102, 103, 104, 105, 106, 107, 108, 109, 110, 111, 112, 113, 114, 115, 116, 117, 118, 119, 120, 121, 122, 123, 124] (by decide +kernel) (by decide +kernel)
set_option maxRecDepth 20000 in
theorem gX10_stay_X10_roam : GoodIn wsX10_stay (wsV RX10 214 RX10 yX10_roam wsX10_roam) := goodIn_app (goodIn_of _ (by decide +kernel)) ggX10_stay_X10_roam
theorem dX10_stay_0 : decode cX10_stay 0 = .ok (.aload_n 0, 1) := by decide +kernel
theorem dX10_stay_1 : decode cX10_stay 1 = .ok (.getfield 58, 3) := by decide +kernel
theorem dX10_stay_4 : decode cX10_stay 4 = .ok (.getfield 185, 3) := by decide +kernel
theorem dX10_stay_7 : decode cX10_stay 7 = .ok (.iload_n 1, 1) := by decide +kernel
theorem dX10_stay_8 : decode cX10_stay 8 = .ok (.iaload, 1) := by decide +kernel
theorem dX10_stay_9 : decode cX10_stay 9 = .ok (.istore 5, 2) := by decide +kernel
theorem dX10_stay_11 : decode cX10_stay 11 = .ok (.aload_n 0, 1) := by decide +kernel
theorem dX10_stay_12 : decode cX10_stay 12 = .ok (.getfield 36, 3) := by decide +kernel
theorem dX10_stay_15 : decode cX10_stay 15 = .ok (.aload_n 0, 1) := by decide +kernel
theorem dX10_stay_16 : decode cX10_stay 16 = .ok (.getfield 58, 3) := by decide +kernel
theorem dX10_stay_19 : decode cX10_stay 19 = .ok (.iload_n 1, 1) := by decide +kernel
theorem dX10_stay_20 : decode cX10_stay 20 = .ok (.aload_n 0, 1) := by decide +kernel
theorem dX10_stay_21 : decode cX10_stay 21 = .ok (.getfield 58, 3) := by decide +kernel
theorem dX10_stay_24 : decode cX10_stay 24 = .ok (.getfield 151, 3) := by decide +kernel
theorem dX10_stay_27 : decode cX10_stay 27 = .ok (.iload_n 2, 1) := by decide +kernel
theorem dX10_stay_28 : decode cX10_stay 28 = .ok (.iadd, 1) := by decide +kernel
theorem dX10_stay_29 : decode cX10_stay 29 = .ok (.invokevirtual 197, 3) := by decide +kernel
theorem dX10_stay_32 : decode cX10_stay 32 = .ok (.istore 6, 2) := by decide +kernel
theorem dX10_stay_34 : decode cX10_stay 34 = .ok (.aload_n 0, 1) := by decide +kernel
theorem dX10_stay_35 : decode cX10_stay 35 = .ok (.getfield 58, 3) := by decide +kernel
theorem dX10_stay_38 : decode cX10_stay 38 = .ok (.getfield 185, 3) := by decide +kernel
theorem dX10_stay_41 : decode cX10_stay 41 = .ok (.iload_n 1, 1) := by decide +kernel
theorem dX10_stay_42 : decode cX10_stay 42 = .ok (.iconst 0, 1) := by decide +kernel
theorem dX10_stay_43 : decode cX10_stay 43 = .ok (.iload 5, 2) := by decide +kernel
theorem dX10_stay_45 : decode cX10_stay 45 = .ok (.iload 6, 2) := by decide +kernel
theorem dX10_stay_47 : decode cX10_stay 47 = .ok (.isub, 1) := by decide +kernel
theorem dX10_stay_48 : decode cX10_stay 48 = .ok (.invokestatic 315, 3) := by decide +kernel
theorem dX10_stay_51 : decode cX10_stay 51 = .ok (.iastore, 1) := by decide +kernel
theorem dX10_stay_52 : decode cX10_stay 52 = .ok (.aload_n 0, 1) := by decide +kernel
theorem dX10_stay_53 : decode cX10_stay 53 = .ok (.iload_n 1, 1) := by decide +kernel
theorem dX10_stay_54 : decode cX10_stay 54 = .ok (.iload_n 2, 1) := by decide +kernel
theorem dX10_stay_55 : decode cX10_stay 55 = .ok (.iconst 1, 1) := by decide +kernel
theorem dX10_stay_56 : decode cX10_stay 56 = .ok (.iadd, 1) := by decide +kernel
theorem dX10_stay_57 : decode cX10_stay 57 = .ok (.iload_n 3, 1) := by decide +kernel
theorem dX10_stay_58 : decode cX10_stay 58 = .ok (.iload 4, 2) := by decide +kernel
theorem dX10_stay_60 : decode cX10_stay 60 = .ok (.iload 6, 2) := by decide +kernel
theorem dX10_stay_62 : decode cX10_stay 62 = .ok (.iadd, 1) := by decide +kernel
theorem dX10_stay_63 : decode cX10_stay 63 = .ok (.invokevirtual 214, 3) := by decide +kernel
theorem dX10_stay_66 : decode cX10_stay 66 = .ok (.aload_n 0, 1) := by decide +kernel
theorem dX10_stay_67 : decode cX10_stay 67 = .ok (.getfield 58, 3) := by decide +kernel
theorem dX10_stay_70 : decode cX10_stay 70 = .ok (.getfield 185, 3) := by decide +kernel
theorem dX10_stay_73 : decode cX10_stay 73 = .ok (.iload_n 1, 1) := by decide +kernel
theorem dX10_stay_74 : decode cX10_stay 74 = .ok (.iload 5, 2) := by decide +kernel
theorem dX10_stay_76 : decode cX10_stay 76 = .ok (.iastore, 1) := by decide +kernel
theorem dX10_stay_77 : decode cX10_stay 77 = .ok (.return_, 1) := by decide +kernel
set_option maxRecDepth 20000 in
theorem ggX10_settle_X10_allGet : GoodIn wsX10_settle wsX10_allGet := goodIn_r _ [11, 1, 4, 6, 12, 38, 39, 40, 41, 42, 43, 44, 45, 46, 47, 48, 49, 50, 51, 52, 53, 54, 55, 56, 57, 58, 59, 60] (by decide +kernel) (by decide +kernel)
set_option maxRecDepth 20000 in
theorem gX10_settle_X10_allGet : GoodIn wsX10_settle (wsV RX10 318 RX10 yX10_allGet wsX10_allGet) := goodIn_app (goodIn_of _ (by decide +kernel)) ggX10_settle_X10_allGet
set_option maxRecDepth 20000 in
theorem ggX10_settle_X10_poorestGets : GoodIn wsX10_settle wsX10_poorestGets := goodIn_r _ [16, 17, 1, 4, 6, 12, 18, 19, 20, 21, 38, 39, 40, 41, 42, 43, 44, 45, 46, 47, 48, 49, 50, 51, 52, 53, 54, 55, 56, 57, 58, 59, 60] (by decide +kernel) (by decide +kernel)
set_option maxRecDepth 20000 in
theorem gX10_settle_X10_poorestGets : GoodIn wsX10_settle (wsV RX10 321 RX10 yX10_poorestGets wsX10_poorestGets) := goodIn_app (goodIn_of _ (by decide +kernel)) ggX10_settle_X10_poorestGets
set_option maxRecDepth 20000 in
theorem ggX10_settle_X0_offer : GoodIn wsX10_settle wsX0_offer := goodIn_r _ [26, 27, 28, 29, 30, 19, 20, 21, 31, 32, 33, 34, 61, 62, 63] (by decide +kernel) (by decide +kernel)
set_option maxRecDepth 20000 in
theorem gX10_settle_X0_offer : GoodIn wsX10_settle (wsV RX10 305 RX0 yX0_offer wsX0_offer) := goodIn_app (goodIn_of _ (by decide +kernel)) ggX10_settle_X0_offer
set_option maxRecDepth 20000 in
theorem ggX10_settle_X10_settle : GoodIn wsX10_settle wsX10_settle := goodIn_r _ [0, 1, 2, 3, 4, 5, 6, 7, 8, 9, 10, 11, 12, 13, 14, 15, 16, 17, 18, 19, 20, 21, 22, 23, 24, 25, 26, 27, 28, 29, 30, 31, 32, 33, 34, 35, 36, 37, 38, 39, 40, 41, 42, 43, 44, 45, 46, 47, 48, 49, 50, 51, 52, 53, 54, 55, 56, 57, 58, 59, 60, 61, 62, 63] (by decide +kernel) (by decide +kernel)
set_option maxRecDepth 20000 in
theorem gX10_settle_X10_settle : GoodIn wsX10_settle (wsV RX10 225 RX10 yX10_settle wsX10_settle) := goodIn_app (goodIn_of _ (by decide +kernel)) ggX10_settle_X10_settle
theorem dX10_settle_0 : decode cX10_settle 0 = .ok (.iload_n 2, 1) := by decide +kernel
theorem dX10_settle_1 : decode cX10_settle 1 = .ok (.aload_n 0, 1) := by decide +kernel
theorem dX10_settle_2 : decode cX10_settle 2 = .ok (.getfield 36, 3) := by decide +kernel
theorem dX10_settle_5 : decode cX10_settle 5 = .ok (.getfield 115, 3) := by decide +kernel
theorem dX10_settle_8 : decode cX10_settle 8 = .ok (.if_icmp .lt 27, 3) := by decide +kernel
theorem dX10_settle_11 : decode cX10_settle 11 = .ok (.aload_n 0, 1) := by decide +kernel
theorem dX10_settle_12 : decode cX10_settle 12 = .ok (.getfield 65, 3) := by decide +kernel
theorem dX10_settle_15 : decode cX10_settle 15 = .ok (.iload_n 1, 1) := by decide +kernel
theorem dX10_settle_16 : decode cX10_settle 16 = .ok (.ifCond .ne 10, 3) := by decide +kernel
theorem dX10_settle_19 : decode cX10_settle 19 = .ok (.aload_n 0, 1) := by decide +kernel
theorem dX10_settle_20 : decode cX10_settle 20 = .ok (.invokevirtual 318, 3) := by decide +kernel
theorem dX10_settle_23 : decode cX10_settle 23 = .ok (.goto 7, 3) := by decide +kernel
theorem dX10_settle_26 : decode cX10_settle 26 = .ok (.aload_n 0, 1) := by decide +kernel
theorem dX10_settle_27 : decode cX10_settle 27 = .ok (.invokevirtual 321, 3) := by decide +kernel
theorem dX10_settle_30 : decode cX10_settle 30 = .ok (.iload_n 2, 1) := by decide +kernel
theorem dX10_settle_31 : decode cX10_settle 31 = .ok (.invokevirtual 305, 3) := by decide +kernel
theorem dX10_settle_34 : decode cX10_settle 34 = .ok (.return_, 1) := by decide +kernel
theorem dX10_settle_35 : decode cX10_settle 35 = .ok (.iload_n 3, 1) := by decide +kernel
theorem dX10_settle_36 : decode cX10_settle 36 = .ok (.istore 4, 2) := by decide +kernel
theorem dX10_settle_38 : decode cX10_settle 38 = .ok (.iload 4, 2) := by decide +kernel
theorem dX10_settle_40 : decode cX10_settle 40 = .ok (.aload_n 0, 1) := by decide +kernel
theorem dX10_settle_41 : decode cX10_settle 41 = .ok (.getfield 36, 3) := by decide +kernel
theorem dX10_settle_44 : decode cX10_settle 44 = .ok (.getfield 94, 3) := by decide +kernel
theorem dX10_settle_47 : decode cX10_settle 47 = .ok (.if_icmp .ge 52, 3) := by decide +kernel
theorem dX10_settle_50 : decode cX10_settle 50 = .ok (.aload_n 0, 1) := by decide +kernel
theorem dX10_settle_51 : decode cX10_settle 51 = .ok (.getfield 65, 3) := by decide +kernel
theorem dX10_settle_54 : decode cX10_settle 54 = .ok (.getfield 309, 3) := by decide +kernel
theorem dX10_settle_57 : decode cX10_settle 57 = .ok (.iload_n 2, 1) := by decide +kernel
theorem dX10_settle_58 : decode cX10_settle 58 = .ok (.iload 4, 2) := by decide +kernel
theorem dX10_settle_60 : decode cX10_settle 60 = .ok (.iastore, 1) := by decide +kernel
theorem dX10_settle_61 : decode cX10_settle 61 = .ok (.aload_n 0, 1) := by decide +kernel
theorem dX10_settle_62 : decode cX10_settle 62 = .ok (.getfield 73, 3) := by decide +kernel
theorem dX10_settle_65 : decode cX10_settle 65 = .ok (.iload 4, 2) := by decide +kernel
theorem dX10_settle_67 : decode cX10_settle 67 = .ok (.dup2, 1) := by decide +kernel
theorem dX10_settle_68 : decode cX10_settle 68 = .ok (.iaload, 1) := by decide +kernel
theorem dX10_settle_69 : decode cX10_settle 69 = .ok (.iconst 1, 1) := by decide +kernel
theorem dX10_settle_70 : decode cX10_settle 70 = .ok (.iadd, 1) := by decide +kernel
theorem dX10_settle_71 : decode cX10_settle 71 = .ok (.iastore, 1) := by decide +kernel
theorem dX10_settle_72 : decode cX10_settle 72 = .ok (.aload_n 0, 1) := by decide +kernel
theorem dX10_settle_73 : decode cX10_settle 73 = .ok (.iload_n 1, 1) := by decide +kernel
theorem dX10_settle_74 : decode cX10_settle 74 = .ok (.iload_n 2, 1) := by decide +kernel
theorem dX10_settle_75 : decode cX10_settle 75 = .ok (.iconst 1, 1) := by decide +kernel
theorem dX10_settle_76 : decode cX10_settle 76 = .ok (.iadd, 1) := by decide +kernel
theorem dX10_settle_77 : decode cX10_settle 77 = .ok (.iload 4, 2) := by decide +kernel
theorem dX10_settle_79 : decode cX10_settle 79 = .ok (.invokevirtual 225, 3) := by decide +kernel
theorem dX10_settle_82 : decode cX10_settle 82 = .ok (.aload_n 0, 1) := by decide +kernel
theorem dX10_settle_83 : decode cX10_settle 83 = .ok (.getfield 73, 3) := by decide +kernel
theorem dX10_settle_86 : decode cX10_settle 86 = .ok (.iload 4, 2) := by decide +kernel
theorem dX10_settle_88 : decode cX10_settle 88 = .ok (.dup2, 1) := by decide +kernel
theorem dX10_settle_89 : decode cX10_settle 89 = .ok (.iaload, 1) := by decide +kernel
theorem dX10_settle_90 : decode cX10_settle 90 = .ok (.iconst 1, 1) := by decide +kernel
theorem dX10_settle_91 : decode cX10_settle 91 = .ok (.isub, 1) := by decide +kernel
theorem dX10_settle_92 : decode cX10_settle 92 = .ok (.iastore, 1) := by decide +kernel
theorem dX10_settle_93 : decode cX10_settle 93 = .ok (.iinc 4 1, 3) := by decide +kernel
theorem dX10_settle_96 : decode cX10_settle 96 = .ok (.goto (-58), 3) := by decide +kernel
theorem dX10_settle_99 : decode cX10_settle 99 = .ok (.return_, 1) := by decide +kernel
theorem dX10_allGet_0 : decode cX10_allGet 0 = .ok (.iconst 0, 1) := by decide +kernel
theorem dX10_allGet_1 : decode cX10_allGet 1 = .ok (.istore_n 1, 1) := by decide +kernel
theorem dX10_allGet_2 : decode cX10_allGet 2 = .ok (.iconst 0, 1) := by decide +kernel
theorem dX10_allGet_3 : decode cX10_allGet 3 = .ok (.istore_n 2, 1) := by decide +kernel
theorem dX10_allGet_4 : decode cX10_allGet 4 = .ok (.iload_n 2, 1) := by decide +kernel
theorem dX10_allGet_5 : decode cX10_allGet 5 = .ok (.aload_n 0, 1) := by decide +kernel
theorem dX10_allGet_6 : decode cX10_allGet 6 = .ok (.getfield 36, 3) := by decide +kernel
theorem dX10_allGet_9 : decode cX10_allGet 9 = .ok (.getfield 94, 3) := by decide +kernel
theorem dX10_allGet_12 : decode cX10_allGet 12 = .ok (.if_icmp .ge 41, 3) := by decide +kernel
theorem dX10_allGet_15 : decode cX10_allGet 15 = .ok (.aload_n 0, 1) := by decide +kernel
theorem dX10_allGet_16 : decode cX10_allGet 16 = .ok (.getfield 73, 3) := by decide +kernel
theorem dX10_allGet_19 : decode cX10_allGet 19 = .ok (.iload_n 2, 1) := by decide +kernel
theorem dX10_allGet_20 : decode cX10_allGet 20 = .ok (.iaload, 1) := by decide +kernel
theorem dX10_allGet_21 : decode cX10_allGet 21 = .ok (.ifCond .le 26, 3) := by decide +kernel
theorem dX10_allGet_24 : decode cX10_allGet 24 = .ok (.iload_n 1, 1) := by decide +kernel
theorem dX10_allGet_25 : decode cX10_allGet 25 = .ok (.aload_n 0, 1) := by decide +kernel
theorem dX10_allGet_26 : decode cX10_allGet 26 = .ok (.getfield 69, 3) := by decide +kernel
theorem dX10_allGet_29 : decode cX10_allGet 29 = .ok (.iload_n 2, 1) := by decide +kernel
theorem dX10_allGet_30 : decode cX10_allGet 30 = .ok (.iaload, 1) := by decide +kernel
theorem dX10_allGet_31 : decode cX10_allGet 31 = .ok (.aload_n 0, 1) := by decide +kernel
theorem dX10_allGet_32 : decode cX10_allGet 32 = .ok (.getfield 73, 3) := by decide +kernel
theorem dX10_allGet_35 : decode cX10_allGet 35 = .ok (.iload_n 2, 1) := by decide +kernel
theorem dX10_allGet_36 : decode cX10_allGet 36 = .ok (.iaload, 1) := by decide +kernel
theorem dX10_allGet_37 : decode cX10_allGet 37 = .ok (.idiv, 1) := by decide +kernel
theorem dX10_allGet_38 : decode cX10_allGet 38 = .ok (.aload_n 0, 1) := by decide +kernel
theorem dX10_allGet_39 : decode cX10_allGet 39 = .ok (.getfield 73, 3) := by decide +kernel
theorem dX10_allGet_42 : decode cX10_allGet 42 = .ok (.iload_n 2, 1) := by decide +kernel
theorem dX10_allGet_43 : decode cX10_allGet 43 = .ok (.iaload, 1) := by decide +kernel
theorem dX10_allGet_44 : decode cX10_allGet 44 = .ok (.imul, 1) := by decide +kernel
theorem dX10_allGet_45 : decode cX10_allGet 45 = .ok (.iadd, 1) := by decide +kernel
theorem dX10_allGet_46 : decode cX10_allGet 46 = .ok (.istore_n 1, 1) := by decide +kernel
theorem dX10_allGet_47 : decode cX10_allGet 47 = .ok (.iinc 2 1, 3) := by decide +kernel
theorem dX10_allGet_50 : decode cX10_allGet 50 = .ok (.goto (-46), 3) := by decide +kernel
theorem dX10_allGet_53 : decode cX10_allGet 53 = .ok (.iload_n 1, 1) := by decide +kernel
theorem dX10_allGet_54 : decode cX10_allGet 54 = .ok (.ireturn, 1) := by decide +kernel
theorem dX10_poorestGets_0 : decode cX10_poorestGets 0 = .ok (.ldc_w 324, 3) := by decide +kernel
theorem dX10_poorestGets_3 : decode cX10_poorestGets 3 = .ok (.istore_n 1, 1) := by decide +kernel
theorem dX10_poorestGets_4 : decode cX10_poorestGets 4 = .ok (.iconst 0, 1) := by decide +kernel
theorem dX10_poorestGets_5 : decode cX10_poorestGets 5 = .ok (.istore_n 2, 1) := by decide +kernel
theorem dX10_poorestGets_6 : decode cX10_poorestGets 6 = .ok (.iload_n 2, 1) := by decide +kernel
theorem dX10_poorestGets_7 : decode cX10_poorestGets 7 = .ok (.aload_n 0, 1) := by decide +kernel
theorem dX10_poorestGets_8 : decode cX10_poorestGets 8 = .ok (.getfield 36, 3) := by decide +kernel
theorem dX10_poorestGets_11 : decode cX10_poorestGets 11 = .ok (.getfield 94, 3) := by decide +kernel
theorem dX10_poorestGets_14 : decode cX10_poorestGets 14 = .ok (.if_icmp .ge 36, 3) := by decide +kernel
theorem dX10_poorestGets_17 : decode cX10_poorestGets 17 = .ok (.aload_n 0, 1) := by decide +kernel
theorem dX10_poorestGets_18 : decode cX10_poorestGets 18 = .ok (.getfield 73, 3) := by decide +kernel
theorem dX10_poorestGets_21 : decode cX10_poorestGets 21 = .ok (.iload_n 2, 1) := by decide +kernel
theorem dX10_poorestGets_22 : decode cX10_poorestGets 22 = .ok (.iaload, 1) := by decide +kernel
theorem dX10_poorestGets_23 : decode cX10_poorestGets 23 = .ok (.ifCond .le 21, 3) := by decide +kernel
theorem dX10_poorestGets_26 : decode cX10_poorestGets 26 = .ok (.iload_n 1, 1) := by decide +kernel
theorem dX10_poorestGets_27 : decode cX10_poorestGets 27 = .ok (.aload_n 0, 1) := by decide +kernel
theorem dX10_poorestGets_28 : decode cX10_poorestGets 28 = .ok (.getfield 69, 3) := by decide +kernel
theorem dX10_poorestGets_31 : decode cX10_poorestGets 31 = .ok (.iload_n 2, 1) := by decide +kernel
theorem dX10_poorestGets_32 : decode cX10_poorestGets 32 = .ok (.iaload, 1) := by decide +kernel
theorem dX10_poorestGets_33 : decode cX10_poorestGets 33 = .ok (.aload_n 0, 1) := by decide +kernel
theorem dX10_poorestGets_34 : decode cX10_poorestGets 34 = .ok (.getfield 73, 3) := by decide +kernel
theorem dX10_poorestGets_37 : decode cX10_poorestGets 37 = .ok (.iload_n 2, 1) := by decide +kernel
theorem dX10_poorestGets_38 : decode cX10_poorestGets 38 = .ok (.iaload, 1) := by decide +kernel
theorem dX10_poorestGets_39 : decode cX10_poorestGets 39 = .ok (.idiv, 1) := by decide +kernel
theorem dX10_poorestGets_40 : decode cX10_poorestGets 40 = .ok (.invokestatic 204, 3) := by decide +kernel
theorem dX10_poorestGets_43 : decode cX10_poorestGets 43 = .ok (.istore_n 1, 1) := by decide +kernel
theorem dX10_poorestGets_44 : decode cX10_poorestGets 44 = .ok (.iinc 2 1, 3) := by decide +kernel
theorem dX10_poorestGets_47 : decode cX10_poorestGets 47 = .ok (.goto (-41), 3) := by decide +kernel
theorem dX10_poorestGets_50 : decode cX10_poorestGets 50 = .ok (.iload_n 1, 1) := by decide +kernel
theorem dX10_poorestGets_51 : decode cX10_poorestGets 51 = .ok (.ireturn, 1) := by decide +kernel
set_option maxRecDepth 20000 in
theorem ggX10_mostAlike_X2_sight : GoodIn wsX10_mostAlike wsX2_sight := goodIn_r _ [12, 13, 3, 4, 5, 14, 15, 16, 17, 18, 19, 20, 7, 21, 22, 23, 24, 25] (by decide +kernel) (by decide +kernel)
set_option maxRecDepth 20000 in
theorem gX10_mostAlike_X2_sight_u325X2 : GoodIn wsX10_mostAlike (va_wsO RX10 325 RX2 "GleanDusk$Plain" ⟨"GleanDusk$Plain", "sight", "(III)I"⟩ yX2_sight wsX2_sight) := goodIn_app (goodIn_of _ (by decide +kernel)) ggX10_mostAlike_X2_sight
set_option maxRecDepth 20000 in
theorem ggX10_mostAlike_X3_sight : GoodIn wsX10_mostAlike wsX3_sight := goodIn_r _ [29, 30, 31, 32, 33, 34, 35, 36, 7, 37, 22, 23, 24, 25, 3, 4, 5] (by decide +kernel) (by decide +kernel)
set_option maxRecDepth 20000 in
theorem gX10_mostAlike_X3_sight_u325X3 : GoodIn wsX10_mostAlike (va_wsO RX10 325 RX3 "GleanDusk$Plain" ⟨"GleanDusk$Plain", "sight", "(III)I"⟩ yX3_sight wsX3_sight) := goodIn_app (goodIn_of _ (by decide +kernel)) ggX10_mostAlike_X3_sight
set_option maxRecDepth 20000 in
theorem ggX10_mostAlike_X5_sight : GoodIn wsX10_mostAlike wsX5_sight := goodIn_r _ [24, 25, 3, 4, 5] (by decide +kernel) (by decide +kernel)
set_option maxRecDepth 20000 in
theorem gX10_mostAlike_X5_sight : GoodIn wsX10_mostAlike (wsV RX10 325 RX5 yX5_sight wsX5_sight) := goodIn_app (goodIn_of _ (by decide +kernel)) ggX10_mostAlike_X5_sight
set_option maxRecDepth 20000 in
theorem ggX10_mostAlike_X6_sight : GoodIn wsX10_mostAlike wsX6_sight := goodIn_r _ [43, 44, 45, 4, 46, 47, 7, 48, 22, 23, 24, 25, 3, 5] (by decide +kernel) (by decide +kernel)
set_option maxRecDepth 20000 in
theorem gX10_mostAlike_X6_sight_u325X6 : GoodIn wsX10_mostAlike (va_wsO RX10 325 RX6 "GleanDusk$Plain" ⟨"GleanDusk$Plain", "sight", "(III)I"⟩ yX6_sight wsX6_sight) := goodIn_app (goodIn_of _ (by decide +kernel)) ggX10_mostAlike_X6_sight
set_option maxRecDepth 20000 in
theorem ggX10_mostAlike_X8_sight : GoodIn wsX10_mostAlike wsX8_sight := goodIn_r _ [19, 20, 7, 21, 22, 23, 24, 25, 3, 4, 5] (by decide +kernel) (by decide +kernel)
set_option maxRecDepth 20000 in
theorem gX10_mostAlike_X8_sight_u325X8 : GoodIn wsX10_mostAlike (va_wsO RX10 325 RX8 "GleanDusk$Plain" ⟨"GleanDusk$Plain", "sight", "(III)I"⟩ yX8_sight wsX8_sight) := goodIn_app (goodIn_of _ (by decide +kernel)) ggX10_mostAlike_X8_sight
set_option maxRecDepth 20000 in
theorem ggX10_mostAlike_X9_sight : GoodIn wsX10_mostAlike wsX9_sight := goodIn_r _ [35, 36, 7, 37, 22, 23, 24, 25, 3, 4, 5] (by decide +kernel) (by decide +kernel)
set_option maxRecDepth 20000 in
theorem gX10_mostAlike_X9_sight_u325X9 : GoodIn wsX10_mostAlike (va_wsO RX10 325 RX9 "GleanDusk$Plain" ⟨"GleanDusk$Plain", "sight", "(III)I"⟩ yX9_sight wsX9_sight) := goodIn_app (goodIn_of _ (by decide +kernel)) ggX10_mostAlike_X9_sight
theorem dX10_mostAlike_0 : decode cX10_mostAlike 0 = .ok (.iconst 0, 1) := by decide +kernel
theorem dX10_mostAlike_1 : decode cX10_mostAlike 1 = .ok (.istore 5, 2) := by decide +kernel
theorem dX10_mostAlike_3 : decode cX10_mostAlike 3 = .ok (.iconst 0, 1) := by decide +kernel
theorem dX10_mostAlike_4 : decode cX10_mostAlike 4 = .ok (.istore 6, 2) := by decide +kernel
theorem dX10_mostAlike_6 : decode cX10_mostAlike 6 = .ok (.iload 6, 2) := by decide +kernel
theorem dX10_mostAlike_8 : decode cX10_mostAlike 8 = .ok (.bipush 6, 2) := by decide +kernel
theorem dX10_mostAlike_10 : decode cX10_mostAlike 10 = .ok (.if_icmp .ge 97, 3) := by decide +kernel
theorem dX10_mostAlike_13 : decode cX10_mostAlike 13 = .ok (.iload_n 1, 1) := by decide +kernel
theorem dX10_mostAlike_14 : decode cX10_mostAlike 14 = .ok (.iload 6, 2) := by decide +kernel
theorem dX10_mostAlike_16 : decode cX10_mostAlike 16 = .ok (.ishr, 1) := by decide +kernel
theorem dX10_mostAlike_17 : decode cX10_mostAlike 17 = .ok (.iconst 1, 1) := by decide +kernel
theorem dX10_mostAlike_18 : decode cX10_mostAlike 18 = .ok (.iand, 1) := by decide +kernel
theorem dX10_mostAlike_19 : decode cX10_mostAlike 19 = .ok (.ifCond .ne 6, 3) := by decide +kernel
theorem dX10_mostAlike_22 : decode cX10_mostAlike 22 = .ok (.goto 79, 3) := by decide +kernel
theorem dX10_mostAlike_25 : decode cX10_mostAlike 25 = .ok (.aload_n 0, 1) := by decide +kernel
theorem dX10_mostAlike_26 : decode cX10_mostAlike 26 = .ok (.getfield 25, 3) := by decide +kernel
theorem dX10_mostAlike_29 : decode cX10_mostAlike 29 = .ok (.iload 6, 2) := by decide +kernel
theorem dX10_mostAlike_31 : decode cX10_mostAlike 31 = .ok (.aaload, 1) := by decide +kernel
theorem dX10_mostAlike_32 : decode cX10_mostAlike 32 = .ok (.iload_n 2, 1) := by decide +kernel
theorem dX10_mostAlike_33 : decode cX10_mostAlike 33 = .ok (.iload_n 3, 1) := by decide +kernel
theorem dX10_mostAlike_34 : decode cX10_mostAlike 34 = .ok (.iload 4, 2) := by decide +kernel
theorem dX10_mostAlike_36 : decode cX10_mostAlike 36 = .ok (.invokevirtual 325, 3) := by decide +kernel
theorem dX10_mostAlike_39 : decode cX10_mostAlike 39 = .ok (.istore 7, 2) := by decide +kernel
theorem dX10_mostAlike_41 : decode cX10_mostAlike 41 = .ok (.iconst 0, 1) := by decide +kernel
theorem dX10_mostAlike_42 : decode cX10_mostAlike 42 = .ok (.istore 8, 2) := by decide +kernel
theorem dX10_mostAlike_44 : decode cX10_mostAlike 44 = .ok (.iconst 0, 1) := by decide +kernel
theorem dX10_mostAlike_45 : decode cX10_mostAlike 45 = .ok (.istore 9, 2) := by decide +kernel
theorem dX10_mostAlike_47 : decode cX10_mostAlike 47 = .ok (.iload 9, 2) := by decide +kernel
theorem dX10_mostAlike_49 : decode cX10_mostAlike 49 = .ok (.bipush 6, 2) := by decide +kernel
theorem dX10_mostAlike_51 : decode cX10_mostAlike 51 = .ok (.if_icmp .ge 41, 3) := by decide +kernel
theorem dX10_mostAlike_54 : decode cX10_mostAlike 54 = .ok (.iload_n 1, 1) := by decide +kernel
theorem dX10_mostAlike_55 : decode cX10_mostAlike 55 = .ok (.iload 9, 2) := by decide +kernel
theorem dX10_mostAlike_57 : decode cX10_mostAlike 57 = .ok (.ishr, 1) := by decide +kernel
theorem dX10_mostAlike_58 : decode cX10_mostAlike 58 = .ok (.iconst 1, 1) := by decide +kernel
theorem dX10_mostAlike_59 : decode cX10_mostAlike 59 = .ok (.iand, 1) := by decide +kernel
theorem dX10_mostAlike_60 : decode cX10_mostAlike 60 = .ok (.iconst 1, 1) := by decide +kernel
theorem dX10_mostAlike_61 : decode cX10_mostAlike 61 = .ok (.if_icmp .ne 25, 3) := by decide +kernel
theorem dX10_mostAlike_64 : decode cX10_mostAlike 64 = .ok (.aload_n 0, 1) := by decide +kernel
theorem dX10_mostAlike_65 : decode cX10_mostAlike 65 = .ok (.getfield 25, 3) := by decide +kernel
theorem dX10_mostAlike_68 : decode cX10_mostAlike 68 = .ok (.iload 9, 2) := by decide +kernel
theorem dX10_mostAlike_70 : decode cX10_mostAlike 70 = .ok (.aaload, 1) := by decide +kernel
theorem dX10_mostAlike_71 : decode cX10_mostAlike 71 = .ok (.iload_n 2, 1) := by decide +kernel
theorem dX10_mostAlike_72 : decode cX10_mostAlike 72 = .ok (.iload_n 3, 1) := by decide +kernel
theorem dX10_mostAlike_73 : decode cX10_mostAlike 73 = .ok (.iload 4, 2) := by decide +kernel
theorem dX10_mostAlike_75 : decode cX10_mostAlike 75 = .ok (.invokevirtual 325, 3) := by decide +kernel
theorem dX10_mostAlike_78 : decode cX10_mostAlike 78 = .ok (.iload 7, 2) := by decide +kernel
theorem dX10_mostAlike_80 : decode cX10_mostAlike 80 = .ok (.if_icmp .ne 6, 3) := by decide +kernel
theorem dX10_mostAlike_83 : decode cX10_mostAlike 83 = .ok (.iinc 8 1, 3) := by decide +kernel
theorem dX10_mostAlike_86 : decode cX10_mostAlike 86 = .ok (.iinc 9 1, 3) := by decide +kernel
theorem dX10_mostAlike_89 : decode cX10_mostAlike 89 = .ok (.goto (-42), 3) := by decide +kernel
theorem dX10_mostAlike_92 : decode cX10_mostAlike 92 = .ok (.iload 5, 2) := by decide +kernel
theorem dX10_mostAlike_94 : decode cX10_mostAlike 94 = .ok (.iload 8, 2) := by decide +kernel
theorem dX10_mostAlike_96 : decode cX10_mostAlike 96 = .ok (.invokestatic 315, 3) := by decide +kernel
theorem dX10_mostAlike_99 : decode cX10_mostAlike 99 = .ok (.istore 5, 2) := by decide +kernel
theorem dX10_mostAlike_101 : decode cX10_mostAlike 101 = .ok (.iinc 6 1, 3) := by decide +kernel
theorem dX10_mostAlike_104 : decode cX10_mostAlike 104 = .ok (.goto (-98), 3) := by decide +kernel
theorem dX10_mostAlike_107 : decode cX10_mostAlike 107 = .ok (.iload 5, 2) := by decide +kernel
theorem dX10_mostAlike_109 : decode cX10_mostAlike 109 = .ok (.ireturn, 1) := by decide +kernel
set_option maxRecDepth 20000 in
theorem ggX10_staysPut_X10_worth : GoodIn wsX10_staysPut wsX10_worth := goodIn_r _ [7, 8, 9, 10, 11, 12, 13, 14, 15, 16, 17, 18, 19, 20, 21, 22, 23, 24] (by decide +kernel) (by decide +kernel)
set_option maxRecDepth 20000 in
theorem gX10_staysPut_X10_worth : GoodIn wsX10_staysPut (wsV RX10 329 RX10 yX10_worth wsX10_worth) := goodIn_app (goodIn_of _ (by decide +kernel)) ggX10_staysPut_X10_worth
theorem dX10_staysPut_0 : decode cX10_staysPut 0 = .ok (.aload_n 0, 1) := by decide +kernel
theorem dX10_staysPut_1 : decode cX10_staysPut 1 = .ok (.iload_n 1, 1) := by decide +kernel
theorem dX10_staysPut_2 : decode cX10_staysPut 2 = .ok (.iload_n 2, 1) := by decide +kernel
theorem dX10_staysPut_3 : decode cX10_staysPut 3 = .ok (.iload_n 3, 1) := by decide +kernel
theorem dX10_staysPut_4 : decode cX10_staysPut 4 = .ok (.invokevirtual 329, 3) := by decide +kernel
theorem dX10_staysPut_7 : decode cX10_staysPut 7 = .ok (.istore 4, 2) := by decide +kernel
theorem dX10_staysPut_9 : decode cX10_staysPut 9 = .ok (.iconst 0, 1) := by decide +kernel
theorem dX10_staysPut_10 : decode cX10_staysPut 10 = .ok (.istore 5, 2) := by decide +kernel
theorem dX10_staysPut_12 : decode cX10_staysPut 12 = .ok (.iload 5, 2) := by decide +kernel
theorem dX10_staysPut_14 : decode cX10_staysPut 14 = .ok (.aload_n 0, 1) := by decide +kernel
theorem dX10_staysPut_15 : decode cX10_staysPut 15 = .ok (.getfield 36, 3) := by decide +kernel
theorem dX10_staysPut_18 : decode cX10_staysPut 18 = .ok (.getfield 94, 3) := by decide +kernel
theorem dX10_staysPut_21 : decode cX10_staysPut 21 = .ok (.if_icmp .ge 24, 3) := by decide +kernel
theorem dX10_staysPut_24 : decode cX10_staysPut 24 = .ok (.aload_n 0, 1) := by decide +kernel
theorem dX10_staysPut_25 : decode cX10_staysPut 25 = .ok (.iload_n 1, 1) := by decide +kernel
theorem dX10_staysPut_26 : decode cX10_staysPut 26 = .ok (.iload 5, 2) := by decide +kernel
theorem dX10_staysPut_28 : decode cX10_staysPut 28 = .ok (.iload_n 3, 1) := by decide +kernel
theorem dX10_staysPut_29 : decode cX10_staysPut 29 = .ok (.invokevirtual 329, 3) := by decide +kernel
theorem dX10_staysPut_32 : decode cX10_staysPut 32 = .ok (.iload 4, 2) := by decide +kernel
theorem dX10_staysPut_34 : decode cX10_staysPut 34 = .ok (.if_icmp .le 5, 3) := by decide +kernel
theorem dX10_staysPut_37 : decode cX10_staysPut 37 = .ok (.iconst 0, 1) := by decide +kernel
theorem dX10_staysPut_38 : decode cX10_staysPut 38 = .ok (.ireturn, 1) := by decide +kernel
theorem dX10_staysPut_39 : decode cX10_staysPut 39 = .ok (.iinc 5 1, 3) := by decide +kernel
theorem dX10_staysPut_42 : decode cX10_staysPut 42 = .ok (.goto (-30), 3) := by decide +kernel
theorem dX10_staysPut_45 : decode cX10_staysPut 45 = .ok (.iconst 1, 1) := by decide +kernel
theorem dX10_staysPut_46 : decode cX10_staysPut 46 = .ok (.ireturn, 1) := by decide +kernel
theorem dX10_worth_0 : decode cX10_worth 0 = .ok (.iload_n 2, 1) := by decide +kernel
theorem dX10_worth_1 : decode cX10_worth 1 = .ok (.iload_n 3, 1) := by decide +kernel
theorem dX10_worth_2 : decode cX10_worth 2 = .ok (.if_icmp .ne 14, 3) := by decide +kernel
theorem dX10_worth_5 : decode cX10_worth 5 = .ok (.aload_n 0, 1) := by decide +kernel
theorem dX10_worth_6 : decode cX10_worth 6 = .ok (.getfield 69, 3) := by decide +kernel
theorem dX10_worth_9 : decode cX10_worth 9 = .ok (.iload_n 2, 1) := by decide +kernel
theorem dX10_worth_10 : decode cX10_worth 10 = .ok (.iaload, 1) := by decide +kernel
theorem dX10_worth_11 : decode cX10_worth 11 = .ok (.iconst 2, 1) := by decide +kernel
theorem dX10_worth_12 : decode cX10_worth 12 = .ok (.idiv, 1) := by decide +kernel
theorem dX10_worth_13 : decode cX10_worth 13 = .ok (.goto 9, 3) := by decide +kernel
theorem dX10_worth_16 : decode cX10_worth 16 = .ok (.aload_n 0, 1) := by decide +kernel
theorem dX10_worth_17 : decode cX10_worth 17 = .ok (.getfield 69, 3) := by decide +kernel
theorem dX10_worth_20 : decode cX10_worth 20 = .ok (.iload_n 2, 1) := by decide +kernel
theorem dX10_worth_21 : decode cX10_worth 21 = .ok (.iaload, 1) := by decide +kernel
theorem dX10_worth_22 : decode cX10_worth 22 = .ok (.istore 4, 2) := by decide +kernel
theorem dX10_worth_24 : decode cX10_worth 24 = .ok (.iload 4, 2) := by decide +kernel
theorem dX10_worth_26 : decode cX10_worth 26 = .ok (.iload_n 2, 1) := by decide +kernel
theorem dX10_worth_27 : decode cX10_worth 27 = .ok (.iload_n 1, 1) := by decide +kernel
theorem dX10_worth_28 : decode cX10_worth 28 = .ok (.isub, 1) := by decide +kernel
theorem dX10_worth_29 : decode cX10_worth 29 = .ok (.invokestatic 332, 3) := by decide +kernel
theorem dX10_worth_32 : decode cX10_worth 32 = .ok (.isub, 1) := by decide +kernel
theorem dX10_worth_33 : decode cX10_worth 33 = .ok (.ireturn, 1) := by decide +kernel
set_option maxRecDepth 20000 in
theorem ggX11_init_X11_begin : GoodIn wsX11_init wsX11_begin := goodIn_r _ [21] (by decide +kernel) (by decide +kernel)
set_option maxRecDepth 20000 in
theorem gX11_init_X11_begin : GoodIn wsX11_init (va_wsS RX11 48 yX11_begin wsX11_begin) := goodIn_app (goodIn_of _ (by decide +kernel)) ggX11_init_X11_begin
theorem dX11_init_0 : decode cX11_init 0 = .ok (.aload_n 0, 1) := by decide +kernel
theorem dX11_init_1 : decode cX11_init 1 = .ok (.invokespecial 1, 3) := by decide +kernel
theorem dX11_init_4 : decode cX11_init 4 = .ok (.aload_n 0, 1) := by decide +kernel
theorem dX11_init_5 : decode cX11_init 5 = .ok (.sipush 228, 3) := by decide +kernel
theorem dX11_init_8 : decode cX11_init 8 = .ok (.newarray .int, 2) := by decide +kernel
theorem dX11_init_10 : decode cX11_init 10 = .ok (.putfield 7, 3) := by decide +kernel
theorem dX11_init_13 : decode cX11_init 13 = .ok (.aload_n 0, 1) := by decide +kernel
theorem dX11_init_14 : decode cX11_init 14 = .ok (.sipush 456, 3) := by decide +kernel
theorem dX11_init_17 : decode cX11_init 17 = .ok (.newarray .int, 2) := by decide +kernel
theorem dX11_init_19 : decode cX11_init 19 = .ok (.putfield 13, 3) := by decide +kernel
theorem dX11_init_22 : decode cX11_init 22 = .ok (.aload_n 0, 1) := by decide +kernel
theorem dX11_init_23 : decode cX11_init 23 = .ok (.iconst 2, 1) := by decide +kernel
theorem dX11_init_24 : decode cX11_init 24 = .ok (.newarray .boolean, 2) := by decide +kernel
theorem dX11_init_26 : decode cX11_init 26 = .ok (.putfield 16, 3) := by decide +kernel
theorem dX11_init_29 : decode cX11_init 29 = .ok (.aload_n 0, 1) := by decide +kernel
theorem dX11_init_30 : decode cX11_init 30 = .ok (.iconst 3, 1) := by decide +kernel
theorem dX11_init_31 : decode cX11_init 31 = .ok (.newarray .int, 2) := by decide +kernel
theorem dX11_init_33 : decode cX11_init 33 = .ok (.putfield 20, 3) := by decide +kernel
theorem dX11_init_36 : decode cX11_init 36 = .ok (.aload_n 0, 1) := by decide +kernel
theorem dX11_init_37 : decode cX11_init 37 = .ok (.lconst 1, 1) := by decide +kernel
theorem dX11_init_38 : decode cX11_init 38 = .ok (.putfield 23, 3) := by decide +kernel
theorem dX11_init_41 : decode cX11_init 41 = .ok (.aload_n 0, 1) := by decide +kernel
theorem dX11_init_42 : decode cX11_init 42 = .ok (.bipush 30, 2) := by decide +kernel
theorem dX11_init_44 : decode cX11_init 44 = .ok (.newarray .int, 2) := by decide +kernel
theorem dX11_init_46 : decode cX11_init 46 = .ok (.putfield 27, 3) := by decide +kernel
theorem dX11_init_49 : decode cX11_init 49 = .ok (.aload_n 0, 1) := by decide +kernel
theorem dX11_init_50 : decode cX11_init 50 = .ok (.bipush 6, 2) := by decide +kernel
theorem dX11_init_52 : decode cX11_init 52 = .ok (.newarray .int, 2) := by decide +kernel
theorem dX11_init_54 : decode cX11_init 54 = .ok (.putfield 30, 3) := by decide +kernel
theorem dX11_init_57 : decode cX11_init 57 = .ok (.aload_n 0, 1) := by decide +kernel
theorem dX11_init_58 : decode cX11_init 58 = .ok (.bipush 6, 2) := by decide +kernel
theorem dX11_init_60 : decode cX11_init 60 = .ok (.newarray .int, 2) := by decide +kernel
theorem dX11_init_62 : decode cX11_init 62 = .ok (.putfield 33, 3) := by decide +kernel
theorem dX11_init_65 : decode cX11_init 65 = .ok (.aload_n 0, 1) := by decide +kernel
theorem dX11_init_66 : decode cX11_init 66 = .ok (.iconst 5, 1) := by decide +kernel
theorem dX11_init_67 : decode cX11_init 67 = .ok (.newarray .int, 2) := by decide +kernel
theorem dX11_init_69 : decode cX11_init 69 = .ok (.putfield 36, 3) := by decide +kernel
theorem dX11_init_72 : decode cX11_init 72 = .ok (.aload_n 0, 1) := by decide +kernel
theorem dX11_init_73 : decode cX11_init 73 = .ok (.sipush 150, 3) := by decide +kernel
theorem dX11_init_76 : decode cX11_init 76 = .ok (.newarray .int, 2) := by decide +kernel
theorem dX11_init_78 : decode cX11_init 78 = .ok (.putfield 39, 3) := by decide +kernel
theorem dX11_init_81 : decode cX11_init 81 = .ok (.aload_n 0, 1) := by decide +kernel
theorem dX11_init_82 : decode cX11_init 82 = .ok (.bipush 76, 2) := by decide +kernel
theorem dX11_init_84 : decode cX11_init 84 = .ok (.newarray .int, 2) := by decide +kernel
theorem dX11_init_86 : decode cX11_init 86 = .ok (.putfield 42, 3) := by decide +kernel
theorem dX11_init_89 : decode cX11_init 89 = .ok (.aload_n 0, 1) := by decide +kernel
theorem dX11_init_90 : decode cX11_init 90 = .ok (.iconst 2, 1) := by decide +kernel
theorem dX11_init_91 : decode cX11_init 91 = .ok (.newarray .int, 2) := by decide +kernel
theorem dX11_init_93 : decode cX11_init 93 = .ok (.putfield 45, 3) := by decide +kernel
theorem dX11_init_96 : decode cX11_init 96 = .ok (.aload_n 0, 1) := by decide +kernel
theorem dX11_init_97 : decode cX11_init 97 = .ok (.getfield 7, 3) := by decide +kernel
theorem dX11_init_100 : decode cX11_init 100 = .ok (.iconst 0, 1) := by decide +kernel
theorem dX11_init_101 : decode cX11_init 101 = .ok (.invokestatic 48, 3) := by decide +kernel
theorem dX11_init_104 : decode cX11_init 104 = .ok (.return_, 1) := by decide +kernel
theorem dX11_in_0 : decode cX11_in 0 = .ok (.lload_n 0, 1) := by decide +kernel
theorem dX11_in_1 : decode cX11_in 1 = .ok (.lload_n 2, 1) := by decide +kernel
theorem dX11_in_2 : decode cX11_in 2 = .ok (.lcmp, 1) := by decide +kernel
theorem dX11_in_3 : decode cX11_in 3 = .ok (.ifCond .lt 14, 3) := by decide +kernel
theorem dX11_in_6 : decode cX11_in 6 = .ok (.lload_n 0, 1) := by decide +kernel
theorem dX11_in_7 : decode cX11_in 7 = .ok (.lload 4, 2) := by decide +kernel
theorem dX11_in_9 : decode cX11_in 9 = .ok (.lcmp, 1) := by decide +kernel
theorem dX11_in_10 : decode cX11_in 10 = .ok (.ifCond .gt 7, 3) := by decide +kernel
theorem dX11_in_13 : decode cX11_in 13 = .ok (.iconst 1, 1) := by decide +kernel
theorem dX11_in_14 : decode cX11_in 14 = .ok (.goto 4, 3) := by decide +kernel
theorem dX11_in_17 : decode cX11_in 17 = .ok (.iconst 0, 1) := by decide +kernel
theorem dX11_in_18 : decode cX11_in 18 = .ok (.ireturn, 1) := by decide +kernel
theorem dX11_bad_0 : decode cX11_bad 0 = .ok (.aload_n 0, 1) := by decide +kernel
theorem dX11_bad_1 : decode cX11_bad 1 = .ok (.getfield 20, 3) := by decide +kernel
theorem dX11_bad_4 : decode cX11_bad 4 = .ok (.iconst 0, 1) := by decide +kernel
theorem dX11_bad_5 : decode cX11_bad 5 = .ok (.dup2, 1) := by decide +kernel
theorem dX11_bad_6 : decode cX11_bad 6 = .ok (.iaload, 1) := by decide +kernel
theorem dX11_bad_7 : decode cX11_bad 7 = .ok (.iconst 1, 1) := by decide +kernel
theorem dX11_bad_8 : decode cX11_bad 8 = .ok (.iadd, 1) := by decide +kernel
theorem dX11_bad_9 : decode cX11_bad 9 = .ok (.iastore, 1) := by decide +kernel
theorem dX11_bad_10 : decode cX11_bad 10 = .ok (.iload_n 1, 1) := by decide +kernel
theorem dX11_bad_11 : decode cX11_bad 11 = .ok (.ireturn, 1) := by decide +kernel
theorem dX11_no_0 : decode cX11_no 0 = .ok (.aload_n 0, 1) := by decide +kernel
theorem dX11_no_1 : decode cX11_no 1 = .ok (.getfield 20, 3) := by decide +kernel
theorem dX11_no_4 : decode cX11_no 4 = .ok (.iconst 1, 1) := by decide +kernel
theorem dX11_no_5 : decode cX11_no 5 = .ok (.dup2, 1) := by decide +kernel
theorem dX11_no_6 : decode cX11_no 6 = .ok (.iaload, 1) := by decide +kernel
theorem dX11_no_7 : decode cX11_no 7 = .ok (.iconst 1, 1) := by decide +kernel
theorem dX11_no_8 : decode cX11_no 8 = .ok (.iadd, 1) := by decide +kernel
theorem dX11_no_9 : decode cX11_no 9 = .ok (.iastore, 1) := by decide +kernel
theorem dX11_no_10 : decode cX11_no 10 = .ok (.bipush (-3), 2) := by decide +kernel
theorem dX11_no_12 : decode cX11_no 12 = .ok (.ireturn, 1) := by decide +kernel
theorem dX11_full_0 : decode cX11_full 0 = .ok (.aload_n 0, 1) := by decide +kernel
theorem dX11_full_1 : decode cX11_full 1 = .ok (.getfield 20, 3) := by decide +kernel
theorem dX11_full_4 : decode cX11_full 4 = .ok (.iconst 2, 1) := by decide +kernel
theorem dX11_full_5 : decode cX11_full 5 = .ok (.dup2, 1) := by decide +kernel
theorem dX11_full_6 : decode cX11_full 6 = .ok (.iaload, 1) := by decide +kernel
theorem dX11_full_7 : decode cX11_full 7 = .ok (.iconst 1, 1) := by decide +kernel
theorem dX11_full_8 : decode cX11_full 8 = .ok (.iadd, 1) := by decide +kernel
theorem dX11_full_9 : decode cX11_full 9 = .ok (.iastore, 1) := by decide +kernel
theorem dX11_full_10 : decode cX11_full 10 = .ok (.bipush (-4), 2) := by decide +kernel
theorem dX11_full_12 : decode cX11_full 12 = .ok (.ireturn, 1) := by decide +kernel
theorem dX11_bits_0 : decode cX11_bits 0 = .ok (.iconst 0, 1) := by decide +kernel
theorem dX11_bits_1 : decode cX11_bits 1 = .ok (.istore_n 1, 1) := by decide +kernel
theorem dX11_bits_2 : decode cX11_bits 2 = .ok (.iload_n 0, 1) := by decide +kernel
theorem dX11_bits_3 : decode cX11_bits 3 = .ok (.istore_n 2, 1) := by decide +kernel
theorem dX11_bits_4 : decode cX11_bits 4 = .ok (.iload_n 2, 1) := by decide +kernel
theorem dX11_bits_5 : decode cX11_bits 5 = .ok (.ifCond .le 16, 3) := by decide +kernel
theorem dX11_bits_8 : decode cX11_bits 8 = .ok (.iload_n 1, 1) := by decide +kernel
theorem dX11_bits_9 : decode cX11_bits 9 = .ok (.iload_n 2, 1) := by decide +kernel
theorem dX11_bits_10 : decode cX11_bits 10 = .ok (.iconst 1, 1) := by decide +kernel
theorem dX11_bits_11 : decode cX11_bits 11 = .ok (.iand, 1) := by decide +kernel
theorem dX11_bits_12 : decode cX11_bits 12 = .ok (.iadd, 1) := by decide +kernel
theorem dX11_bits_13 : decode cX11_bits 13 = .ok (.istore_n 1, 1) := by decide +kernel
theorem dX11_bits_14 : decode cX11_bits 14 = .ok (.iload_n 2, 1) := by decide +kernel
theorem dX11_bits_15 : decode cX11_bits 15 = .ok (.iconst 1, 1) := by decide +kernel
theorem dX11_bits_16 : decode cX11_bits 16 = .ok (.ishr, 1) := by decide +kernel
theorem dX11_bits_17 : decode cX11_bits 17 = .ok (.istore_n 2, 1) := by decide +kernel
theorem dX11_bits_18 : decode cX11_bits 18 = .ok (.goto (-14), 3) := by decide +kernel
theorem dX11_bits_21 : decode cX11_bits 21 = .ok (.iload_n 1, 1) := by decide +kernel
theorem dX11_bits_22 : decode cX11_bits 22 = .ok (.ireturn, 1) := by decide +kernel
theorem dX11_has_0 : decode cX11_has 0 = .ok (.iload_n 0, 1) := by decide +kernel
theorem dX11_has_1 : decode cX11_has 1 = .ok (.iload_n 1, 1) := by decide +kernel
theorem dX11_has_2 : decode cX11_has 2 = .ok (.ishr, 1) := by decide +kernel
theorem dX11_has_3 : decode cX11_has 3 = .ok (.iconst 1, 1) := by decide +kernel
theorem dX11_has_4 : decode cX11_has 4 = .ok (.iand, 1) := by decide +kernel
theorem dX11_has_5 : decode cX11_has 5 = .ok (.iconst 1, 1) := by decide +kernel
theorem dX11_has_6 : decode cX11_has 6 = .ok (.if_icmp .ne 7, 3) := by decide +kernel
theorem dX11_has_9 : decode cX11_has 9 = .ok (.iconst 1, 1) := by decide +kernel
theorem dX11_has_10 : decode cX11_has 10 = .ok (.goto 4, 3) := by decide +kernel
theorem dX11_has_13 : decode cX11_has 13 = .ok (.iconst 0, 1) := by decide +kernel
theorem dX11_has_14 : decode cX11_has 14 = .ok (.ireturn, 1) := by decide +kernel
theorem dX11_begin_0 : decode cX11_begin 0 = .ok (.iconst 0, 1) := by decide +kernel
theorem dX11_begin_1 : decode cX11_begin 1 = .ok (.istore_n 2, 1) := by decide +kernel
theorem dX11_begin_2 : decode cX11_begin 2 = .ok (.iload_n 2, 1) := by decide +kernel
theorem dX11_begin_3 : decode cX11_begin 3 = .ok (.bipush 76, 2) := by decide +kernel
theorem dX11_begin_5 : decode cX11_begin 5 = .ok (.if_icmp .ge 13, 3) := by decide +kernel
theorem dX11_begin_8 : decode cX11_begin 8 = .ok (.aload_n 0, 1) := by decide +kernel
theorem dX11_begin_9 : decode cX11_begin 9 = .ok (.iload_n 2, 1) := by decide +kernel
theorem dX11_begin_10 : decode cX11_begin 10 = .ok (.iconst 0, 1) := by decide +kernel
theorem dX11_begin_11 : decode cX11_begin 11 = .ok (.iastore, 1) := by decide +kernel
theorem dX11_begin_12 : decode cX11_begin 12 = .ok (.iinc 2 1, 3) := by decide +kernel
theorem dX11_begin_15 : decode cX11_begin 15 = .ok (.goto (-13), 3) := by decide +kernel
theorem dX11_begin_18 : decode cX11_begin 18 = .ok (.aload_n 0, 1) := by decide +kernel
theorem dX11_begin_19 : decode cX11_begin 19 = .ok (.bipush 22, 2) := by decide +kernel
theorem dX11_begin_21 : decode cX11_begin 21 = .ok (.iload_n 1, 1) := by decide +kernel
theorem dX11_begin_22 : decode cX11_begin 22 = .ok (.iastore, 1) := by decide +kernel
theorem dX11_begin_23 : decode cX11_begin 23 = .ok (.return_, 1) := by decide +kernel
theorem dX11_many_0 : decode cX11_many 0 = .ok (.aload_n 0, 1) := by decide +kernel
theorem dX11_many_1 : decode cX11_many 1 = .ok (.getfield 7, 3) := by decide +kernel
theorem dX11_many_4 : decode cX11_many 4 = .ok (.iconst 0, 1) := by decide +kernel
theorem dX11_many_5 : decode cX11_many 5 = .ok (.iaload, 1) := by decide +kernel
theorem dX11_many_6 : decode cX11_many 6 = .ok (.ireturn, 1) := by decide +kernel
theorem dX11_manyGleaners_0 : decode cX11_manyGleaners 0 = .ok (.aload_n 0, 1) := by decide +kernel
theorem dX11_manyGleaners_1 : decode cX11_manyGleaners 1 = .ok (.getfield 7, 3) := by decide +kernel
theorem dX11_manyGleaners_4 : decode cX11_manyGleaners 4 = .ok (.iconst 1, 1) := by decide +kernel
theorem dX11_manyGleaners_5 : decode cX11_manyGleaners 5 = .ok (.iaload, 1) := by decide +kernel
theorem dX11_manyGleaners_6 : decode cX11_manyGleaners 6 = .ok (.ireturn, 1) := by decide +kernel
set_option maxRecDepth 20000 in
theorem ggX11_isField_X11_many : GoodIn wsX11_isField wsX11_many := goodIn_r _ [5, 6, 10, 11, 12, 13, 14, 15, 16, 17, 18, 19, 20, 21, 22, 23, 24, 25, 26, 27] (by decide +kernel) (by decide +kernel)
set_option maxRecDepth 20000 in
theorem gX11_isField_X11_many : GoodIn wsX11_isField (wsV RX11 52 RX11 yX11_many wsX11_many) := goodIn_app (goodIn_of _ (by decide +kernel)) ggX11_isField_X11_many
set_option maxRecDepth 20000 in
theorem ggX11_isField_X11_in : GoodIn wsX11_isField wsX11_in := goodIn_r _ [9] (by decide +kernel) (by decide +kernel)
set_option maxRecDepth 20000 in
theorem gX11_isField_X11_in : GoodIn wsX11_isField (va_wsS RX11 56 yX11_in wsX11_in) := goodIn_app (goodIn_of _ (by decide +kernel)) ggX11_isField_X11_in
theorem dX11_isField_0 : decode cX11_isField 0 = .ok (.iload_n 1, 1) := by decide +kernel
theorem dX11_isField_1 : decode cX11_isField 1 = .ok (.i2l, 1) := by decide +kernel
theorem dX11_isField_2 : decode cX11_isField 2 = .ok (.lconst 0, 1) := by decide +kernel
theorem dX11_isField_3 : decode cX11_isField 3 = .ok (.aload_n 0, 1) := by decide +kernel
theorem dX11_isField_4 : decode cX11_isField 4 = .ok (.invokevirtual 52, 3) := by decide +kernel
theorem dX11_isField_7 : decode cX11_isField 7 = .ok (.iconst 1, 1) := by decide +kernel
theorem dX11_isField_8 : decode cX11_isField 8 = .ok (.isub, 1) := by decide +kernel
theorem dX11_isField_9 : decode cX11_isField 9 = .ok (.i2l, 1) := by decide +kernel
theorem dX11_isField_10 : decode cX11_isField 10 = .ok (.invokestatic 56, 3) := by decide +kernel
theorem dX11_isField_13 : decode cX11_isField 13 = .ok (.ireturn, 1) := by decide +kernel
set_option maxRecDepth 20000 in
theorem ggX11_isGleaner_X11_manyGleaners : GoodIn wsX11_isGleaner wsX11_manyGleaners := goodIn_r _ [5, 6, 10, 11, 12, 13, 14, 15, 16, 17, 18, 19, 20, 21, 22, 23, 24, 25, 26, 27] (by decide +kernel) (by decide +kernel)
set_option maxRecDepth 20000 in
theorem gX11_isGleaner_X11_manyGleaners : GoodIn wsX11_isGleaner (wsV RX11 60 RX11 yX11_manyGleaners wsX11_manyGleaners) := goodIn_app (goodIn_of _ (by decide +kernel)) ggX11_isGleaner_X11_manyGleaners
set_option maxRecDepth 20000 in
theorem ggX11_isGleaner_X11_in : GoodIn wsX11_isGleaner wsX11_in := goodIn_r _ [9] (by decide +kernel) (by decide +kernel)
set_option maxRecDepth 20000 in
theorem gX11_isGleaner_X11_in : GoodIn wsX11_isGleaner (va_wsS RX11 56 yX11_in wsX11_in) := goodIn_app (goodIn_of _ (by decide +kernel)) ggX11_isGleaner_X11_in
theorem dX11_isGleaner_0 : decode cX11_isGleaner 0 = .ok (.iload_n 1, 1) := by decide +kernel
theorem dX11_isGleaner_1 : decode cX11_isGleaner 1 = .ok (.i2l, 1) := by decide +kernel
theorem dX11_isGleaner_2 : decode cX11_isGleaner 2 = .ok (.lconst 0, 1) := by decide +kernel
theorem dX11_isGleaner_3 : decode cX11_isGleaner 3 = .ok (.aload_n 0, 1) := by decide +kernel
theorem dX11_isGleaner_4 : decode cX11_isGleaner 4 = .ok (.invokevirtual 60, 3) := by decide +kernel
theorem dX11_isGleaner_7 : decode cX11_isGleaner 7 = .ok (.iconst 1, 1) := by decide +kernel
theorem dX11_isGleaner_8 : decode cX11_isGleaner 8 = .ok (.isub, 1) := by decide +kernel
theorem dX11_isGleaner_9 : decode cX11_isGleaner 9 = .ok (.i2l, 1) := by decide +kernel
theorem dX11_isGleaner_10 : decode cX11_isGleaner 10 = .ok (.invokestatic 56, 3) := by decide +kernel
theorem dX11_isGleaner_13 : decode cX11_isGleaner 13 = .ok (.ireturn, 1) := by decide +kernel
set_option maxRecDepth 20000 in
theorem ggX11_isStep_X11_in : GoodIn wsX11_isStep wsX11_in := goodIn_r _ [5] (by decide +kernel) (by decide +kernel)
set_option maxRecDepth 20000 in
theorem gX11_isStep_X11_in : GoodIn wsX11_isStep (va_wsS RX11 56 yX11_in wsX11_in) := goodIn_app (goodIn_of _ (by decide +kernel)) ggX11_isStep_X11_in
theorem dX11_isStep_0 : decode cX11_isStep 0 = .ok (.iload_n 0, 1) := by decide +kernel
theorem dX11_isStep_1 : decode cX11_isStep 1 = .ok (.i2l, 1) := by decide +kernel
theorem dX11_isStep_2 : decode cX11_isStep 2 = .ok (.lconst 0, 1) := by decide +kernel
theorem dX11_isStep_3 : decode cX11_isStep 3 = .ok (.ldc2_w 63, 3) := by decide +kernel
theorem dX11_isStep_6 : decode cX11_isStep 6 = .ok (.invokestatic 56, 3) := by decide +kernel
theorem dX11_isStep_9 : decode cX11_isStep 9 = .ok (.ireturn, 1) := by decide +kernel
set_option maxRecDepth 20000 in
theorem ggX11_isCloud_X11_in : GoodIn wsX11_isCloud wsX11_in := goodIn_r _ [5] (by decide +kernel) (by decide +kernel)
set_option maxRecDepth 20000 in
theorem gX11_isCloud_X11_in : GoodIn wsX11_isCloud (va_wsS RX11 56 yX11_in wsX11_in) := goodIn_app (goodIn_of _ (by decide +kernel)) ggX11_isCloud_X11_in
theorem dX11_isCloud_0 : decode cX11_isCloud 0 = .ok (.iload_n 0, 1) := by decide +kernel
theorem dX11_isCloud_1 : decode cX11_isCloud 1 = .ok (.i2l, 1) := by decide +kernel
theorem dX11_isCloud_2 : decode cX11_isCloud 2 = .ok (.lconst 0, 1) := by decide +kernel
theorem dX11_isCloud_3 : decode cX11_isCloud 3 = .ok (.ldc2_w 65, 3) := by decide +kernel
theorem dX11_isCloud_6 : decode cX11_isCloud 6 = .ok (.invokestatic 56, 3) := by decide +kernel
theorem dX11_isCloud_9 : decode cX11_isCloud 9 = .ok (.ireturn, 1) := by decide +kernel
set_option maxRecDepth 20000 in
theorem ggX11_isLight_X11_in : GoodIn wsX11_isLight wsX11_in := goodIn_r _ [5] (by decide +kernel) (by decide +kernel)
set_option maxRecDepth 20000 in
theorem gX11_isLight_X11_in : GoodIn wsX11_isLight (va_wsS RX11 56 yX11_in wsX11_in) := goodIn_app (goodIn_of _ (by decide +kernel)) ggX11_isLight_X11_in
theorem dX11_isLight_0 : decode cX11_isLight 0 = .ok (.iload_n 0, 1) := by decide +kernel
theorem dX11_isLight_1 : decode cX11_isLight 1 = .ok (.i2l, 1) := by decide +kernel
theorem dX11_isLight_2 : decode cX11_isLight 2 = .ok (.lconst 0, 1) := by decide +kernel
theorem dX11_isLight_3 : decode cX11_isLight 3 = .ok (.ldc2_w 67, 3) := by decide +kernel
theorem dX11_isLight_6 : decode cX11_isLight 6 = .ok (.invokestatic 56, 3) := by decide +kernel
theorem dX11_isLight_9 : decode cX11_isLight 9 = .ok (.ireturn, 1) := by decide +kernel
set_option maxRecDepth 20000 in
theorem ggX11_parish_X11_isCloud : GoodIn wsX11_parish wsX11_isCloud := goodIn_r _ [5, 6, 7, 8, 4, 9] (by decide +kernel) (by decide +kernel)
set_option maxRecDepth 20000 in
theorem gX11_parish_X11_isCloud : GoodIn wsX11_parish (va_wsS RX11 69 yX11_isCloud wsX11_isCloud) := goodIn_app (goodIn_of _ (by decide +kernel)) ggX11_parish_X11_isCloud
set_option maxRecDepth 20000 in
theorem ggX11_parish_X11_bad : GoodIn wsX11_parish wsX11_bad := goodIn_r _ [13, 14, 22, 23, 24, 25, 26, 27, 28, 29, 30, 31, 32, 33, 34, 35, 36, 37, 38, 39] (by decide +kernel) (by decide +kernel)
set_option maxRecDepth 20000 in
theorem gX11_parish_X11_bad : GoodIn wsX11_parish (wsV RX11 73 RX11 yX11_bad wsX11_bad) := goodIn_app (goodIn_of _ (by decide +kernel)) ggX11_parish_X11_bad
set_option maxRecDepth 20000 in
theorem ggX11_parish_X11_many : GoodIn wsX11_parish wsX11_many := goodIn_r _ [18, 1, 22, 23, 24, 25, 26, 27, 28, 29, 30, 31, 32, 33, 34, 35, 36, 37, 38, 39] (by decide +kernel) (by decide +kernel)
set_option maxRecDepth 20000 in
theorem gX11_parish_X11_many : GoodIn wsX11_parish (wsV RX11 52 RX11 yX11_many wsX11_many) := goodIn_app (goodIn_of _ (by decide +kernel)) ggX11_parish_X11_many
set_option maxRecDepth 20000 in
theorem ggX11_parish_X11_begin : GoodIn wsX11_parish wsX11_begin := goodIn_r _ [21] (by decide +kernel) (by decide +kernel)
set_option maxRecDepth 20000 in
theorem gX11_parish_X11_begin : GoodIn wsX11_parish (va_wsS RX11 48 yX11_begin wsX11_begin) := goodIn_app (goodIn_of _ (by decide +kernel)) ggX11_parish_X11_begin
theorem dX11_parish_0 : decode cX11_parish 0 = .ok (.iload_n 1, 1) := by decide +kernel
theorem dX11_parish_1 : decode cX11_parish 1 = .ok (.invokestatic 69, 3) := by decide +kernel
theorem dX11_parish_4 : decode cX11_parish 4 = .ok (.ifCond .ne 10, 3) := by decide +kernel
theorem dX11_parish_7 : decode cX11_parish 7 = .ok (.aload_n 0, 1) := by decide +kernel
theorem dX11_parish_8 : decode cX11_parish 8 = .ok (.bipush (-2), 2) := by decide +kernel
theorem dX11_parish_10 : decode cX11_parish 10 = .ok (.invokevirtual 73, 3) := by decide +kernel
theorem dX11_parish_13 : decode cX11_parish 13 = .ok (.ireturn, 1) := by decide +kernel
theorem dX11_parish_14 : decode cX11_parish 14 = .ok (.aload_n 0, 1) := by decide +kernel
theorem dX11_parish_15 : decode cX11_parish 15 = .ok (.invokevirtual 52, 3) := by decide +kernel
theorem dX11_parish_18 : decode cX11_parish 18 = .ok (.istore_n 2, 1) := by decide +kernel
theorem dX11_parish_19 : decode cX11_parish 19 = .ok (.aload_n 0, 1) := by decide +kernel
theorem dX11_parish_20 : decode cX11_parish 20 = .ok (.getfield 7, 3) := by decide +kernel
theorem dX11_parish_23 : decode cX11_parish 23 = .ok (.iload_n 1, 1) := by decide +kernel
theorem dX11_parish_24 : decode cX11_parish 24 = .ok (.invokestatic 48, 3) := by decide +kernel
theorem dX11_parish_27 : decode cX11_parish 27 = .ok (.iload_n 2, 1) := by decide +kernel
theorem dX11_parish_28 : decode cX11_parish 28 = .ok (.ireturn, 1) := by decide +kernel
theorem dX11_layField_0 : decode cX11_layField 0 = .ok (.aload_n 0, 1) := by decide +kernel
theorem dX11_layField_1 : decode cX11_layField 1 = .ok (.bipush 24, 2) := by decide +kernel
theorem dX11_layField_3 : decode cX11_layField 3 = .ok (.aload_n 0, 1) := by decide +kernel
theorem dX11_layField_4 : decode cX11_layField 4 = .ok (.iconst 0, 1) := by decide +kernel
theorem dX11_layField_5 : decode cX11_layField 5 = .ok (.iaload, 1) := by decide +kernel
theorem dX11_layField_6 : decode cX11_layField 6 = .ok (.iadd, 1) := by decide +kernel
theorem dX11_layField_7 : decode cX11_layField 7 = .ok (.iload_n 1, 1) := by decide +kernel
theorem dX11_layField_8 : decode cX11_layField 8 = .ok (.iastore, 1) := by decide +kernel
theorem dX11_layField_9 : decode cX11_layField 9 = .ok (.aload_n 0, 1) := by decide +kernel
theorem dX11_layField_10 : decode cX11_layField 10 = .ok (.iconst 5, 1) := by decide +kernel
theorem dX11_layField_11 : decode cX11_layField 11 = .ok (.aload_n 0, 1) := by decide +kernel
theorem dX11_layField_12 : decode cX11_layField 12 = .ok (.iconst 0, 1) := by decide +kernel
theorem dX11_layField_13 : decode cX11_layField 13 = .ok (.iaload, 1) := by decide +kernel
theorem dX11_layField_14 : decode cX11_layField 14 = .ok (.iadd, 1) := by decide +kernel
theorem dX11_layField_15 : decode cX11_layField 15 = .ok (.iload_n 2, 1) := by decide +kernel
theorem dX11_layField_16 : decode cX11_layField 16 = .ok (.iastore, 1) := by decide +kernel
theorem dX11_layField_17 : decode cX11_layField 17 = .ok (.aload_n 0, 1) := by decide +kernel
theorem dX11_layField_18 : decode cX11_layField 18 = .ok (.iconst 0, 1) := by decide +kernel
theorem dX11_layField_19 : decode cX11_layField 19 = .ok (.dup2, 1) := by decide +kernel
theorem dX11_layField_20 : decode cX11_layField 20 = .ok (.iaload, 1) := by decide +kernel
theorem dX11_layField_21 : decode cX11_layField 21 = .ok (.iconst 1, 1) := by decide +kernel
theorem dX11_layField_22 : decode cX11_layField 22 = .ok (.iadd, 1) := by decide +kernel
theorem dX11_layField_23 : decode cX11_layField 23 = .ok (.iastore, 1) := by decide +kernel
theorem dX11_layField_24 : decode cX11_layField 24 = .ok (.return_, 1) := by decide +kernel
set_option maxRecDepth 20000 in
theorem ggX11_field_X11_in : GoodIn wsX11_field wsX11_in := goodIn_r _ [6] (by decide +kernel) (by decide +kernel)
set_option maxRecDepth 20000 in
theorem gX11_field_X11_in : GoodIn wsX11_field (va_wsS RX11 56 yX11_in wsX11_in) := goodIn_app (goodIn_of _ (by decide +kernel)) ggX11_field_X11_in
set_option maxRecDepth 20000 in
theorem ggX11_field_X11_isLight : GoodIn wsX11_field wsX11_isLight := goodIn_r _ [9, 10, 3, 4, 5, 6] (by decide +kernel) (by decide +kernel)
set_option maxRecDepth 20000 in
theorem gX11_field_X11_isLight : GoodIn wsX11_field (va_wsS RX11 79 yX11_isLight wsX11_isLight) := goodIn_app (goodIn_of _ (by decide +kernel)) ggX11_field_X11_isLight
set_option maxRecDepth 20000 in
theorem ggX11_field_X11_bad : GoodIn wsX11_field wsX11_bad := goodIn_r _ [14, 15, 27, 28, 29, 30, 31, 32, 33, 34, 35, 36, 37, 38, 39, 40, 41, 42, 43, 44] (by decide +kernel) (by decide +kernel)
set_option maxRecDepth 20000 in
theorem gX11_field_X11_bad : GoodIn wsX11_field (wsV RX11 73 RX11 yX11_bad wsX11_bad) := goodIn_app (goodIn_of _ (by decide +kernel)) ggX11_field_X11_bad
set_option maxRecDepth 20000 in
theorem ggX11_field_X11_many : GoodIn wsX11_field wsX11_many := goodIn_r _ [19, 2, 27, 28, 29, 30, 31, 32, 33, 34, 35, 36, 37, 38, 39, 40, 41, 42, 43, 44] (by decide +kernel) (by decide +kernel)
set_option maxRecDepth 20000 in
theorem gX11_field_X11_many : GoodIn wsX11_field (wsV RX11 52 RX11 yX11_many wsX11_many) := goodIn_app (goodIn_of _ (by decide +kernel)) ggX11_field_X11_many
set_option maxRecDepth 20000 in
theorem ggX11_field_X11_full : GoodIn wsX11_field wsX11_full := goodIn_r _ [23, 15, 27, 28, 29, 30, 31, 32, 33, 34, 35, 36, 37, 38, 39, 40, 41, 42, 43, 44] (by decide +kernel) (by decide +kernel)
set_option maxRecDepth 20000 in
theorem gX11_field_X11_full : GoodIn wsX11_field (wsV RX11 82 RX11 yX11_full wsX11_full) := goodIn_app (goodIn_of _ (by decide +kernel)) ggX11_field_X11_full
set_option maxRecDepth 20000 in
theorem ggX11_field_X11_layField : GoodIn wsX11_field wsX11_layField := goodIn_r _ [26] (by decide +kernel) (by decide +kernel)
set_option maxRecDepth 20000 in
theorem gX11_field_X11_layField : GoodIn wsX11_field (va_wsS RX11 85 yX11_layField wsX11_layField) := goodIn_app (goodIn_of _ (by decide +kernel)) ggX11_field_X11_layField
theorem dX11_field_0 : decode cX11_field 0 = .ok (.iload_n 1, 1) := by decide +kernel
theorem dX11_field_1 : decode cX11_field 1 = .ok (.i2l, 1) := by decide +kernel
theorem dX11_field_2 : decode cX11_field 2 = .ok (.lconst 0, 1) := by decide +kernel
theorem dX11_field_3 : decode cX11_field 3 = .ok (.ldc2_w 77, 3) := by decide +kernel
theorem dX11_field_6 : decode cX11_field 6 = .ok (.invokestatic 56, 3) := by decide +kernel
theorem dX11_field_9 : decode cX11_field 9 = .ok (.ifCond .eq 10, 3) := by decide +kernel
theorem dX11_field_12 : decode cX11_field 12 = .ok (.iload_n 2, 1) := by decide +kernel
theorem dX11_field_13 : decode cX11_field 13 = .ok (.invokestatic 79, 3) := by decide +kernel
theorem dX11_field_16 : decode cX11_field 16 = .ok (.ifCond .ne 10, 3) := by decide +kernel
theorem dX11_field_19 : decode cX11_field 19 = .ok (.aload_n 0, 1) := by decide +kernel
theorem dX11_field_20 : decode cX11_field 20 = .ok (.bipush (-2), 2) := by decide +kernel
theorem dX11_field_22 : decode cX11_field 22 = .ok (.invokevirtual 73, 3) := by decide +kernel
theorem dX11_field_25 : decode cX11_field 25 = .ok (.ireturn, 1) := by decide +kernel
theorem dX11_field_26 : decode cX11_field 26 = .ok (.aload_n 0, 1) := by decide +kernel
theorem dX11_field_27 : decode cX11_field 27 = .ok (.invokevirtual 52, 3) := by decide +kernel
theorem dX11_field_30 : decode cX11_field 30 = .ok (.bipush 6, 2) := by decide +kernel
theorem dX11_field_32 : decode cX11_field 32 = .ok (.if_icmp .ne 8, 3) := by decide +kernel
theorem dX11_field_35 : decode cX11_field 35 = .ok (.aload_n 0, 1) := by decide +kernel
theorem dX11_field_36 : decode cX11_field 36 = .ok (.invokevirtual 82, 3) := by decide +kernel
theorem dX11_field_39 : decode cX11_field 39 = .ok (.ireturn, 1) := by decide +kernel
theorem dX11_field_40 : decode cX11_field 40 = .ok (.aload_n 0, 1) := by decide +kernel
theorem dX11_field_41 : decode cX11_field 41 = .ok (.getfield 7, 3) := by decide +kernel
theorem dX11_field_44 : decode cX11_field 44 = .ok (.iload_n 1, 1) := by decide +kernel
theorem dX11_field_45 : decode cX11_field 45 = .ok (.iload_n 2, 1) := by decide +kernel
theorem dX11_field_46 : decode cX11_field 46 = .ok (.invokestatic 85, 3) := by decide +kernel
theorem dX11_field_49 : decode cX11_field 49 = .ok (.aload_n 0, 1) := by decide +kernel
theorem dX11_field_50 : decode cX11_field 50 = .ok (.getfield 7, 3) := by decide +kernel
theorem dX11_field_53 : decode cX11_field 53 = .ok (.iconst 4, 1) := by decide +kernel
theorem dX11_field_54 : decode cX11_field 54 = .ok (.iconst 0, 1) := by decide +kernel
theorem dX11_field_55 : decode cX11_field 55 = .ok (.iastore, 1) := by decide +kernel
theorem dX11_field_56 : decode cX11_field 56 = .ok (.aload_n 0, 1) := by decide +kernel
theorem dX11_field_57 : decode cX11_field 57 = .ok (.invokevirtual 52, 3) := by decide +kernel
theorem dX11_field_60 : decode cX11_field 60 = .ok (.iconst 1, 1) := by decide +kernel
theorem dX11_field_61 : decode cX11_field 61 = .ok (.isub, 1) := by decide +kernel
theorem dX11_field_62 : decode cX11_field 62 = .ok (.ireturn, 1) := by decide +kernel
theorem dX11_layGleaner_0 : decode cX11_layGleaner 0 = .ok (.aload_n 0, 1) := by decide +kernel
theorem dX11_layGleaner_1 : decode cX11_layGleaner 1 = .ok (.bipush 11, 2) := by decide +kernel
theorem dX11_layGleaner_3 : decode cX11_layGleaner 3 = .ok (.aload_n 0, 1) := by decide +kernel
theorem dX11_layGleaner_4 : decode cX11_layGleaner 4 = .ok (.iconst 1, 1) := by decide +kernel
theorem dX11_layGleaner_5 : decode cX11_layGleaner 5 = .ok (.iaload, 1) := by decide +kernel
theorem dX11_layGleaner_6 : decode cX11_layGleaner 6 = .ok (.iadd, 1) := by decide +kernel
theorem dX11_layGleaner_7 : decode cX11_layGleaner 7 = .ok (.iload_n 1, 1) := by decide +kernel
theorem dX11_layGleaner_8 : decode cX11_layGleaner 8 = .ok (.iastore, 1) := by decide +kernel
theorem dX11_layGleaner_9 : decode cX11_layGleaner 9 = .ok (.aload_n 0, 1) := by decide +kernel
theorem dX11_layGleaner_10 : decode cX11_layGleaner 10 = .ok (.bipush 16, 2) := by decide +kernel
theorem dX11_layGleaner_12 : decode cX11_layGleaner 12 = .ok (.aload_n 0, 1) := by decide +kernel
theorem dX11_layGleaner_13 : decode cX11_layGleaner 13 = .ok (.iconst 1, 1) := by decide +kernel
theorem dX11_layGleaner_14 : decode cX11_layGleaner 14 = .ok (.iaload, 1) := by decide +kernel
theorem dX11_layGleaner_15 : decode cX11_layGleaner 15 = .ok (.iadd, 1) := by decide +kernel
theorem dX11_layGleaner_16 : decode cX11_layGleaner 16 = .ok (.iconst 0, 1) := by decide +kernel
theorem dX11_layGleaner_17 : decode cX11_layGleaner 17 = .ok (.iastore, 1) := by decide +kernel
theorem dX11_layGleaner_18 : decode cX11_layGleaner 18 = .ok (.aload_n 0, 1) := by decide +kernel
theorem dX11_layGleaner_19 : decode cX11_layGleaner 19 = .ok (.iconst 1, 1) := by decide +kernel
theorem dX11_layGleaner_20 : decode cX11_layGleaner 20 = .ok (.dup2, 1) := by decide +kernel
theorem dX11_layGleaner_21 : decode cX11_layGleaner 21 = .ok (.iaload, 1) := by decide +kernel
theorem dX11_layGleaner_22 : decode cX11_layGleaner 22 = .ok (.iconst 1, 1) := by decide +kernel
theorem dX11_layGleaner_23 : decode cX11_layGleaner 23 = .ok (.iadd, 1) := by decide +kernel
theorem dX11_layGleaner_24 : decode cX11_layGleaner 24 = .ok (.iastore, 1) := by decide +kernel
theorem dX11_layGleaner_25 : decode cX11_layGleaner 25 = .ok (.return_, 1) := by decide +kernel
set_option maxRecDepth 20000 in
theorem ggX11_gleaner_X11_isField : GoodIn wsX11_gleaner wsX11_isField := goodIn_r _ [6, 7, 8, 9, 5, 10, 1, 11, 12, 13, 30, 31, 32, 33, 34, 35, 36, 37, 38, 39, 40, 41, 42, 43, 44, 45, 46, 47] (by decide +kernel) (by decide +kernel)
set_option maxRecDepth 20000 in
theorem gX11_gleaner_X11_isField : GoodIn wsX11_gleaner (wsV RX11 89 RX11 yX11_isField wsX11_isField) := goodIn_app (goodIn_of _ (by decide +kernel)) ggX11_gleaner_X11_isField
set_option maxRecDepth 20000 in
theorem ggX11_gleaner_X11_bad : GoodIn wsX11_gleaner wsX11_bad := goodIn_r _ [17, 18, 30, 31, 32, 33, 34, 35, 36, 37, 38, 39, 40, 41, 42, 43, 44, 45, 46, 47] (by decide +kernel) (by decide +kernel)
set_option maxRecDepth 20000 in
theorem gX11_gleaner_X11_bad : GoodIn wsX11_gleaner (wsV RX11 73 RX11 yX11_bad wsX11_bad) := goodIn_app (goodIn_of _ (by decide +kernel)) ggX11_gleaner_X11_bad
set_option maxRecDepth 20000 in
theorem ggX11_gleaner_X11_manyGleaners : GoodIn wsX11_gleaner wsX11_manyGleaners := goodIn_r _ [22, 1, 30, 31, 32, 33, 34, 35, 36, 37, 38, 39, 40, 41, 42, 43, 44, 45, 46, 47] (by decide +kernel) (by decide +kernel)
set_option maxRecDepth 20000 in
theorem gX11_gleaner_X11_manyGleaners : GoodIn wsX11_gleaner (wsV RX11 60 RX11 yX11_manyGleaners wsX11_manyGleaners) := goodIn_app (goodIn_of _ (by decide +kernel)) ggX11_gleaner_X11_manyGleaners
set_option maxRecDepth 20000 in
theorem ggX11_gleaner_X11_full : GoodIn wsX11_gleaner wsX11_full := goodIn_r _ [26, 18, 30, 31, 32, 33, 34, 35, 36, 37, 38, 39, 40, 41, 42, 43, 44, 45, 46, 47] (by decide +kernel) (by decide +kernel)
set_option maxRecDepth 20000 in
theorem gX11_gleaner_X11_full : GoodIn wsX11_gleaner (wsV RX11 82 RX11 yX11_full wsX11_full) := goodIn_app (goodIn_of _ (by decide +kernel)) ggX11_gleaner_X11_full
set_option maxRecDepth 20000 in
theorem ggX11_gleaner_X11_layGleaner : GoodIn wsX11_gleaner wsX11_layGleaner := goodIn_r _ [29] (by decide +kernel) (by decide +kernel)
set_option maxRecDepth 20000 in
theorem gX11_gleaner_X11_layGleaner : GoodIn wsX11_gleaner (va_wsS RX11 92 yX11_layGleaner wsX11_layGleaner) := goodIn_app (goodIn_of _ (by decide +kernel)) ggX11_gleaner_X11_layGleaner
theorem dX11_gleaner_0 : decode cX11_gleaner 0 = .ok (.aload_n 0, 1) := by decide +kernel
theorem dX11_gleaner_1 : decode cX11_gleaner 1 = .ok (.iload_n 1, 1) := by decide +kernel
theorem dX11_gleaner_2 : decode cX11_gleaner 2 = .ok (.invokevirtual 89, 3) := by decide +kernel
theorem dX11_gleaner_5 : decode cX11_gleaner 5 = .ok (.ifCond .ne 10, 3) := by decide +kernel
theorem dX11_gleaner_8 : decode cX11_gleaner 8 = .ok (.aload_n 0, 1) := by decide +kernel
theorem dX11_gleaner_9 : decode cX11_gleaner 9 = .ok (.bipush (-2), 2) := by decide +kernel
theorem dX11_gleaner_11 : decode cX11_gleaner 11 = .ok (.invokevirtual 73, 3) := by decide +kernel
theorem dX11_gleaner_14 : decode cX11_gleaner 14 = .ok (.ireturn, 1) := by decide +kernel
theorem dX11_gleaner_15 : decode cX11_gleaner 15 = .ok (.aload_n 0, 1) := by decide +kernel
theorem dX11_gleaner_16 : decode cX11_gleaner 16 = .ok (.invokevirtual 60, 3) := by decide +kernel
theorem dX11_gleaner_19 : decode cX11_gleaner 19 = .ok (.iconst 5, 1) := by decide +kernel
theorem dX11_gleaner_20 : decode cX11_gleaner 20 = .ok (.if_icmp .ne 8, 3) := by decide +kernel
theorem dX11_gleaner_23 : decode cX11_gleaner 23 = .ok (.aload_n 0, 1) := by decide +kernel
theorem dX11_gleaner_24 : decode cX11_gleaner 24 = .ok (.invokevirtual 82, 3) := by decide +kernel
theorem dX11_gleaner_27 : decode cX11_gleaner 27 = .ok (.ireturn, 1) := by decide +kernel
theorem dX11_gleaner_28 : decode cX11_gleaner 28 = .ok (.aload_n 0, 1) := by decide +kernel
theorem dX11_gleaner_29 : decode cX11_gleaner 29 = .ok (.getfield 7, 3) := by decide +kernel
theorem dX11_gleaner_32 : decode cX11_gleaner 32 = .ok (.iload_n 1, 1) := by decide +kernel
theorem dX11_gleaner_33 : decode cX11_gleaner 33 = .ok (.invokestatic 92, 3) := by decide +kernel
theorem dX11_gleaner_36 : decode cX11_gleaner 36 = .ok (.aload_n 0, 1) := by decide +kernel
theorem dX11_gleaner_37 : decode cX11_gleaner 37 = .ok (.getfield 7, 3) := by decide +kernel
theorem dX11_gleaner_40 : decode cX11_gleaner 40 = .ok (.iconst 4, 1) := by decide +kernel
theorem dX11_gleaner_41 : decode cX11_gleaner 41 = .ok (.iconst 0, 1) := by decide +kernel
theorem dX11_gleaner_42 : decode cX11_gleaner 42 = .ok (.iastore, 1) := by decide +kernel
theorem dX11_gleaner_43 : decode cX11_gleaner 43 = .ok (.aload_n 0, 1) := by decide +kernel
theorem dX11_gleaner_44 : decode cX11_gleaner 44 = .ok (.invokevirtual 60, 3) := by decide +kernel
theorem dX11_gleaner_47 : decode cX11_gleaner 47 = .ok (.iconst 1, 1) := by decide +kernel
theorem dX11_gleaner_48 : decode cX11_gleaner 48 = .ok (.isub, 1) := by decide +kernel
theorem dX11_gleaner_49 : decode cX11_gleaner 49 = .ok (.ireturn, 1) := by decide +kernel
theorem dX11_plainly_0 : decode cX11_plainly 0 = .ok (.iload_n 0, 1) := by decide +kernel
theorem dX11_plainly_1 : decode cX11_plainly 1 = .ok (.iconst 2, 1) := by decide +kernel
theorem dX11_plainly_2 : decode cX11_plainly 2 = .ok (.iload_n 1, 1) := by decide +kernel
theorem dX11_plainly_3 : decode cX11_plainly 3 = .ok (.imul, 1) := by decide +kernel
theorem dX11_plainly_4 : decode cX11_plainly 4 = .ok (.isub, 1) := by decide +kernel
theorem dX11_plainly_5 : decode cX11_plainly 5 = .ok (.iload_n 2, 1) := by decide +kernel
theorem dX11_plainly_6 : decode cX11_plainly 6 = .ok (.isub, 1) := by decide +kernel
theorem dX11_plainly_7 : decode cX11_plainly 7 = .ok (.istore_n 3, 1) := by decide +kernel
theorem dX11_plainly_8 : decode cX11_plainly 8 = .ok (.iload_n 3, 1) := by decide +kernel
theorem dX11_plainly_9 : decode cX11_plainly 9 = .ok (.ifCond .ge 7, 3) := by decide +kernel
theorem dX11_plainly_12 : decode cX11_plainly 12 = .ok (.iconst 0, 1) := by decide +kernel
theorem dX11_plainly_13 : decode cX11_plainly 13 = .ok (.goto 4, 3) := by decide +kernel
theorem dX11_plainly_16 : decode cX11_plainly 16 = .ok (.iload_n 3, 1) := by decide +kernel
theorem dX11_plainly_17 : decode cX11_plainly 17 = .ok (.ireturn, 1) := by decide +kernel
set_option maxRecDepth 20000 in
theorem ggX11_westerly_X11_plainly : GoodIn wsX11_westerly wsX11_plainly := goodIn_r _ [4] (by decide +kernel) (by decide +kernel)
set_option maxRecDepth 20000 in
theorem gX11_westerly_X11_plainly : GoodIn wsX11_westerly (va_wsS RX11 95 yX11_plainly wsX11_plainly) := goodIn_app (goodIn_of _ (by decide +kernel)) ggX11_westerly_X11_plainly
theorem dX11_westerly_0 : decode cX11_westerly 0 = .ok (.iload_n 0, 1) := by decide +kernel
theorem dX11_westerly_1 : decode cX11_westerly 1 = .ok (.iload_n 1, 1) := by decide +kernel
theorem dX11_westerly_2 : decode cX11_westerly 2 = .ok (.iload_n 2, 1) := by decide +kernel
theorem dX11_westerly_3 : decode cX11_westerly 3 = .ok (.invokestatic 95, 3) := by decide +kernel
theorem dX11_westerly_6 : decode cX11_westerly 6 = .ok (.iload_n 1, 1) := by decide +kernel
theorem dX11_westerly_7 : decode cX11_westerly 7 = .ok (.bipush 6, 2) := by decide +kernel
theorem dX11_westerly_9 : decode cX11_westerly 9 = .ok (.if_icmp .lt 12, 3) := by decide +kernel
theorem dX11_westerly_12 : decode cX11_westerly 12 = .ok (.iload_n 0, 1) := by decide +kernel
theorem dX11_westerly_13 : decode cX11_westerly 13 = .ok (.iconst 1, 1) := by decide +kernel
theorem dX11_westerly_14 : decode cX11_westerly 14 = .ok (.if_icmp .lt 7, 3) := by decide +kernel
theorem dX11_westerly_17 : decode cX11_westerly 17 = .ok (.iload_n 1, 1) := by decide +kernel
theorem dX11_westerly_18 : decode cX11_westerly 18 = .ok (.goto 4, 3) := by decide +kernel
theorem dX11_westerly_21 : decode cX11_westerly 21 = .ok (.iconst 0, 1) := by decide +kernel
theorem dX11_westerly_22 : decode cX11_westerly 22 = .ok (.iadd, 1) := by decide +kernel
theorem dX11_westerly_23 : decode cX11_westerly 23 = .ok (.ireturn, 1) := by decide +kernel
set_option maxRecDepth 20000 in
theorem ggX11_seenAs_X11_plainly : GoodIn wsX11_seenAs wsX11_plainly := goodIn_r _ [4] (by decide +kernel) (by decide +kernel)
set_option maxRecDepth 20000 in
theorem gX11_seenAs_X11_plainly : GoodIn wsX11_seenAs (va_wsS RX11 95 yX11_plainly wsX11_plainly) := goodIn_app (goodIn_of _ (by decide +kernel)) ggX11_seenAs_X11_plainly
set_option maxRecDepth 20000 in
theorem ggX11_seenAs_X11_westerly : GoodIn wsX11_seenAs wsX11_westerly := goodIn_r _ [7, 1, 2, 3, 4] (by decide +kernel) (by decide +kernel)
set_option maxRecDepth 20000 in
theorem gX11_seenAs_X11_westerly : GoodIn wsX11_seenAs (va_wsS RX11 99 yX11_westerly wsX11_westerly) := goodIn_app (goodIn_of _ (by decide +kernel)) ggX11_seenAs_X11_westerly
theorem dX11_seenAs_0 : decode cX11_seenAs 0 = .ok (.iload_n 1, 1) := by decide +kernel
theorem dX11_seenAs_1 : decode cX11_seenAs 1 = .ok (.iload_n 2, 1) := by decide +kernel
theorem dX11_seenAs_2 : decode cX11_seenAs 2 = .ok (.iload_n 3, 1) := by decide +kernel
theorem dX11_seenAs_3 : decode cX11_seenAs 3 = .ok (.invokestatic 95, 3) := by decide +kernel
theorem dX11_seenAs_6 : decode cX11_seenAs 6 = .ok (.istore 4, 2) := by decide +kernel
theorem dX11_seenAs_8 : decode cX11_seenAs 8 = .ok (.iload_n 0, 1) := by decide +kernel
theorem dX11_seenAs_9 : decode cX11_seenAs 9 = .ok (.tableswitch 97 1 5 #[35, 42, 47, 64, 82], 35) := by decide +kernel
theorem dX11_seenAs_44 : decode cX11_seenAs 44 = .ok (.iload_n 1, 1) := by decide +kernel
theorem dX11_seenAs_45 : decode cX11_seenAs 45 = .ok (.iload_n 2, 1) := by decide +kernel
theorem dX11_seenAs_46 : decode cX11_seenAs 46 = .ok (.iload_n 3, 1) := by decide +kernel
theorem dX11_seenAs_47 : decode cX11_seenAs 47 = .ok (.invokestatic 99, 3) := by decide +kernel
theorem dX11_seenAs_50 : decode cX11_seenAs 50 = .ok (.ireturn, 1) := by decide +kernel
theorem dX11_seenAs_51 : decode cX11_seenAs 51 = .ok (.iload 4, 2) := by decide +kernel
theorem dX11_seenAs_53 : decode cX11_seenAs 53 = .ok (.iconst 2, 1) := by decide +kernel
theorem dX11_seenAs_54 : decode cX11_seenAs 54 = .ok (.idiv, 1) := by decide +kernel
theorem dX11_seenAs_55 : decode cX11_seenAs 55 = .ok (.ireturn, 1) := by decide +kernel
theorem dX11_seenAs_56 : decode cX11_seenAs 56 = .ok (.iload 4, 2) := by decide +kernel
theorem dX11_seenAs_58 : decode cX11_seenAs 58 = .ok (.iload_n 3, 1) := by decide +kernel
theorem dX11_seenAs_59 : decode cX11_seenAs 59 = .ok (.iadd, 1) := by decide +kernel
theorem dX11_seenAs_60 : decode cX11_seenAs 60 = .ok (.iload_n 1, 1) := by decide +kernel
theorem dX11_seenAs_61 : decode cX11_seenAs 61 = .ok (.if_icmp .ge 10, 3) := by decide +kernel
theorem dX11_seenAs_64 : decode cX11_seenAs 64 = .ok (.iload 4, 2) := by decide +kernel
theorem dX11_seenAs_66 : decode cX11_seenAs 66 = .ok (.iload_n 3, 1) := by decide +kernel
theorem dX11_seenAs_67 : decode cX11_seenAs 67 = .ok (.iadd, 1) := by decide +kernel
theorem dX11_seenAs_68 : decode cX11_seenAs 68 = .ok (.goto 4, 3) := by decide +kernel
theorem dX11_seenAs_71 : decode cX11_seenAs 71 = .ok (.iload_n 1, 1) := by decide +kernel
theorem dX11_seenAs_72 : decode cX11_seenAs 72 = .ok (.ireturn, 1) := by decide +kernel
theorem dX11_seenAs_73 : decode cX11_seenAs 73 = .ok (.iload_n 1, 1) := by decide +kernel
theorem dX11_seenAs_74 : decode cX11_seenAs 74 = .ok (.iload_n 2, 1) := by decide +kernel
theorem dX11_seenAs_75 : decode cX11_seenAs 75 = .ok (.iload_n 3, 1) := by decide +kernel
theorem dX11_seenAs_76 : decode cX11_seenAs 76 = .ok (.iconst 3, 1) := by decide +kernel
theorem dX11_seenAs_77 : decode cX11_seenAs 77 = .ok (.if_icmp .ge 7, 3) := by decide +kernel
theorem dX11_seenAs_80 : decode cX11_seenAs 80 = .ok (.iconst 0, 1) := by decide +kernel
theorem dX11_seenAs_81 : decode cX11_seenAs 81 = .ok (.goto 6, 3) := by decide +kernel
theorem dX11_seenAs_84 : decode cX11_seenAs 84 = .ok (.iload_n 3, 1) := by decide +kernel
theorem dX11_seenAs_85 : decode cX11_seenAs 85 = .ok (.iconst 3, 1) := by decide +kernel
theorem dX11_seenAs_86 : decode cX11_seenAs 86 = .ok (.isub, 1) := by decide +kernel
theorem dX11_seenAs_87 : decode cX11_seenAs 87 = .ok (.invokestatic 99, 3) := by decide +kernel
theorem dX11_seenAs_90 : decode cX11_seenAs 90 = .ok (.ireturn, 1) := by decide +kernel
theorem dX11_seenAs_91 : decode cX11_seenAs 91 = .ok (.iload_n 2, 1) := by decide +kernel
theorem dX11_seenAs_92 : decode cX11_seenAs 92 = .ok (.bipush 8, 2) := by decide +kernel
theorem dX11_seenAs_94 : decode cX11_seenAs 94 = .ok (.if_icmp .lt 7, 3) := by decide +kernel
theorem dX11_seenAs_97 : decode cX11_seenAs 97 = .ok (.iconst 0, 1) := by decide +kernel
theorem dX11_seenAs_98 : decode cX11_seenAs 98 = .ok (.goto 7, 3) := by decide +kernel
theorem dX11_seenAs_101 : decode cX11_seenAs 101 = .ok (.iload 4, 2) := by decide +kernel
theorem dX11_seenAs_103 : decode cX11_seenAs 103 = .ok (.iconst 2, 1) := by decide +kernel
theorem dX11_seenAs_104 : decode cX11_seenAs 104 = .ok (.idiv, 1) := by decide +kernel
theorem dX11_seenAs_105 : decode cX11_seenAs 105 = .ok (.ireturn, 1) := by decide +kernel
theorem dX11_seenAs_106 : decode cX11_seenAs 106 = .ok (.iload 4, 2) := by decide +kernel
theorem dX11_seenAs_108 : decode cX11_seenAs 108 = .ok (.ireturn, 1) := by decide +kernel
theorem dX11_layHand_0 : decode cX11_layHand 0 = .ok (.iconst 0, 1) := by decide +kernel
theorem dX11_layHand_1 : decode cX11_layHand 1 = .ok (.istore_n 1, 1) := by decide +kernel
theorem dX11_layHand_2 : decode cX11_layHand 2 = .ok (.iload_n 1, 1) := by decide +kernel
theorem dX11_layHand_3 : decode cX11_layHand 3 = .ok (.bipush 30, 2) := by decide +kernel
theorem dX11_layHand_5 : decode cX11_layHand 5 = .ok (.if_icmp .ge 21, 3) := by decide +kernel
theorem dX11_layHand_8 : decode cX11_layHand 8 = .ok (.aload_n 0, 1) := by decide +kernel
theorem dX11_layHand_9 : decode cX11_layHand 9 = .ok (.getfield 27, 3) := by decide +kernel
theorem dX11_layHand_12 : decode cX11_layHand 12 = .ok (.iload_n 1, 1) := by decide +kernel
theorem dX11_layHand_13 : decode cX11_layHand 13 = .ok (.aload_n 0, 1) := by decide +kernel
theorem dX11_layHand_14 : decode cX11_layHand 14 = .ok (.getfield 7, 3) := by decide +kernel
theorem dX11_layHand_17 : decode cX11_layHand 17 = .ok (.iload_n 1, 1) := by decide +kernel
theorem dX11_layHand_18 : decode cX11_layHand 18 = .ok (.iaload, 1) := by decide +kernel
theorem dX11_layHand_19 : decode cX11_layHand 19 = .ok (.iastore, 1) := by decide +kernel
theorem dX11_layHand_20 : decode cX11_layHand 20 = .ok (.iinc 1 1, 3) := by decide +kernel
theorem dX11_layHand_23 : decode cX11_layHand 23 = .ok (.goto (-21), 3) := by decide +kernel
theorem dX11_layHand_26 : decode cX11_layHand 26 = .ok (.return_, 1) := by decide +kernel
set_option maxRecDepth 20000 in
theorem ggX11_seenOn_X11_seenAs : GoodIn wsX11_seenOn wsX11_seenAs := goodIn_r _ [4, 5, 6, 3, 7, 8, 9, 10] (by decide +kernel) (by decide +kernel)
set_option maxRecDepth 20000 in
theorem gX11_seenOn_X11_seenAs : GoodIn wsX11_seenOn (va_wsS RX11 102 yX11_seenAs wsX11_seenAs) := goodIn_app (goodIn_of _ (by decide +kernel)) ggX11_seenOn_X11_seenAs
theorem dX11_seenOn_0 : decode cX11_seenOn 0 = .ok (.iload_n 2, 1) := by decide +kernel
theorem dX11_seenOn_1 : decode cX11_seenOn 1 = .ok (.bipush 12, 2) := by decide +kernel
theorem dX11_seenOn_3 : decode cX11_seenOn 3 = .ok (.if_icmp .lt 7, 3) := by decide +kernel
theorem dX11_seenOn_6 : decode cX11_seenOn 6 = .ok (.iconst 0, 1) := by decide +kernel
theorem dX11_seenOn_7 : decode cX11_seenOn 7 = .ok (.goto 22, 3) := by decide +kernel
theorem dX11_seenOn_10 : decode cX11_seenOn 10 = .ok (.aload_n 0, 1) := by decide +kernel
theorem dX11_seenOn_11 : decode cX11_seenOn 11 = .ok (.bipush 24, 2) := by decide +kernel
theorem dX11_seenOn_13 : decode cX11_seenOn 13 = .ok (.iload_n 1, 1) := by decide +kernel
theorem dX11_seenOn_14 : decode cX11_seenOn 14 = .ok (.iadd, 1) := by decide +kernel
theorem dX11_seenOn_15 : decode cX11_seenOn 15 = .ok (.iaload, 1) := by decide +kernel
theorem dX11_seenOn_16 : decode cX11_seenOn 16 = .ok (.aload_n 0, 1) := by decide +kernel
theorem dX11_seenOn_17 : decode cX11_seenOn 17 = .ok (.iconst 5, 1) := by decide +kernel
theorem dX11_seenOn_18 : decode cX11_seenOn 18 = .ok (.iload_n 1, 1) := by decide +kernel
theorem dX11_seenOn_19 : decode cX11_seenOn 19 = .ok (.iadd, 1) := by decide +kernel
theorem dX11_seenOn_20 : decode cX11_seenOn 20 = .ok (.iaload, 1) := by decide +kernel
theorem dX11_seenOn_21 : decode cX11_seenOn 21 = .ok (.iload_n 2, 1) := by decide +kernel
theorem dX11_seenOn_22 : decode cX11_seenOn 22 = .ok (.aload_n 0, 1) := by decide +kernel
theorem dX11_seenOn_23 : decode cX11_seenOn 23 = .ok (.bipush 22, 2) := by decide +kernel
theorem dX11_seenOn_25 : decode cX11_seenOn 25 = .ok (.iaload, 1) := by decide +kernel
theorem dX11_seenOn_26 : decode cX11_seenOn 26 = .ok (.invokestatic 102, 3) := by decide +kernel
theorem dX11_seenOn_29 : decode cX11_seenOn 29 = .ok (.ireturn, 1) := by decide +kernel
theorem dX11_manyOn_0 : decode cX11_manyOn 0 = .ok (.iconst 0, 1) := by decide +kernel
theorem dX11_manyOn_1 : decode cX11_manyOn 1 = .ok (.istore_n 2, 1) := by decide +kernel
theorem dX11_manyOn_2 : decode cX11_manyOn 2 = .ok (.iconst 0, 1) := by decide +kernel
theorem dX11_manyOn_3 : decode cX11_manyOn 3 = .ok (.istore_n 3, 1) := by decide +kernel
theorem dX11_manyOn_4 : decode cX11_manyOn 4 = .ok (.iload_n 3, 1) := by decide +kernel
theorem dX11_manyOn_5 : decode cX11_manyOn 5 = .ok (.aload_n 0, 1) := by decide +kernel
theorem dX11_manyOn_6 : decode cX11_manyOn 6 = .ok (.iconst 1, 1) := by decide +kernel
theorem dX11_manyOn_7 : decode cX11_manyOn 7 = .ok (.iaload, 1) := by decide +kernel
theorem dX11_manyOn_8 : decode cX11_manyOn 8 = .ok (.if_icmp .ge 27, 3) := by decide +kernel
theorem dX11_manyOn_11 : decode cX11_manyOn 11 = .ok (.iload_n 2, 1) := by decide +kernel
theorem dX11_manyOn_12 : decode cX11_manyOn 12 = .ok (.aload_n 0, 1) := by decide +kernel
theorem dX11_manyOn_13 : decode cX11_manyOn 13 = .ok (.bipush 11, 2) := by decide +kernel
theorem dX11_manyOn_15 : decode cX11_manyOn 15 = .ok (.iload_n 3, 1) := by decide +kernel
theorem dX11_manyOn_16 : decode cX11_manyOn 16 = .ok (.iadd, 1) := by decide +kernel
theorem dX11_manyOn_17 : decode cX11_manyOn 17 = .ok (.iaload, 1) := by decide +kernel
theorem dX11_manyOn_18 : decode cX11_manyOn 18 = .ok (.iload_n 1, 1) := by decide +kernel
theorem dX11_manyOn_19 : decode cX11_manyOn 19 = .ok (.if_icmp .ne 7, 3) := by decide +kernel
theorem dX11_manyOn_22 : decode cX11_manyOn 22 = .ok (.iconst 1, 1) := by decide +kernel
theorem dX11_manyOn_23 : decode cX11_manyOn 23 = .ok (.goto 4, 3) := by decide +kernel
theorem dX11_manyOn_26 : decode cX11_manyOn 26 = .ok (.iconst 0, 1) := by decide +kernel
theorem dX11_manyOn_27 : decode cX11_manyOn 27 = .ok (.iadd, 1) := by decide +kernel
theorem dX11_manyOn_28 : decode cX11_manyOn 28 = .ok (.istore_n 2, 1) := by decide +kernel
theorem dX11_manyOn_29 : decode cX11_manyOn 29 = .ok (.iinc 3 1, 3) := by decide +kernel
theorem dX11_manyOn_32 : decode cX11_manyOn 32 = .ok (.goto (-28), 3) := by decide +kernel
theorem dX11_manyOn_35 : decode cX11_manyOn 35 = .ok (.iload_n 2, 1) := by decide +kernel
theorem dX11_manyOn_36 : decode cX11_manyOn 36 = .ok (.ireturn, 1) := by decide +kernel
set_option maxRecDepth 20000 in
theorem ggX11_getsOne_X11_seenOn : GoodIn wsX11_getsOne wsX11_seenOn := goodIn_r _ [4, 5, 6, 3, 7, 8, 9, 10, 11, 12, 13] (by decide +kernel) (by decide +kernel)
set_option maxRecDepth 20000 in
theorem gX11_getsOne_X11_seenOn : GoodIn wsX11_getsOne (va_wsS RX11 106 yX11_seenOn wsX11_seenOn) := goodIn_app (goodIn_of _ (by decide +kernel)) ggX11_getsOne_X11_seenOn
set_option maxRecDepth 20000 in
theorem ggX11_getsOne_X11_manyOn : GoodIn wsX11_getsOne wsX11_manyOn := goodIn_r _ [16] (by decide +kernel) (by decide +kernel)
set_option maxRecDepth 20000 in
theorem gX11_getsOne_X11_manyOn : GoodIn wsX11_getsOne (va_wsS RX11 110 yX11_manyOn wsX11_manyOn) := goodIn_app (goodIn_of _ (by decide +kernel)) ggX11_getsOne_X11_manyOn
theorem dX11_getsOne_0 : decode cX11_getsOne 0 = .ok (.aload_n 0, 1) := by decide +kernel
theorem dX11_getsOne_1 : decode cX11_getsOne 1 = .ok (.aload_n 0, 1) := by decide +kernel
theorem dX11_getsOne_2 : decode cX11_getsOne 2 = .ok (.bipush 11, 2) := by decide +kernel
theorem dX11_getsOne_4 : decode cX11_getsOne 4 = .ok (.iload_n 1, 1) := by decide +kernel
theorem dX11_getsOne_5 : decode cX11_getsOne 5 = .ok (.iadd, 1) := by decide +kernel
theorem dX11_getsOne_6 : decode cX11_getsOne 6 = .ok (.iaload, 1) := by decide +kernel
theorem dX11_getsOne_7 : decode cX11_getsOne 7 = .ok (.aload_n 0, 1) := by decide +kernel
theorem dX11_getsOne_8 : decode cX11_getsOne 8 = .ok (.bipush 21, 2) := by decide +kernel
theorem dX11_getsOne_10 : decode cX11_getsOne 10 = .ok (.iaload, 1) := by decide +kernel
theorem dX11_getsOne_11 : decode cX11_getsOne 11 = .ok (.invokestatic 106, 3) := by decide +kernel
theorem dX11_getsOne_14 : decode cX11_getsOne 14 = .ok (.aload_n 0, 1) := by decide +kernel
theorem dX11_getsOne_15 : decode cX11_getsOne 15 = .ok (.aload_n 0, 1) := by decide +kernel
theorem dX11_getsOne_16 : decode cX11_getsOne 16 = .ok (.bipush 11, 2) := by decide +kernel
theorem dX11_getsOne_18 : decode cX11_getsOne 18 = .ok (.iload_n 1, 1) := by decide +kernel
theorem dX11_getsOne_19 : decode cX11_getsOne 19 = .ok (.iadd, 1) := by decide +kernel
theorem dX11_getsOne_20 : decode cX11_getsOne 20 = .ok (.iaload, 1) := by decide +kernel
theorem dX11_getsOne_21 : decode cX11_getsOne 21 = .ok (.invokestatic 110, 3) := by decide +kernel
theorem dX11_getsOne_24 : decode cX11_getsOne 24 = .ok (.idiv, 1) := by decide +kernel
theorem dX11_getsOne_25 : decode cX11_getsOne 25 = .ok (.ireturn, 1) := by decide +kernel
set_option maxRecDepth 20000 in
theorem ggX11_goStep_X11_manyOn : GoodIn wsX11_goStep wsX11_manyOn := goodIn_r _ [4] (by decide +kernel) (by decide +kernel)
set_option maxRecDepth 20000 in
theorem gX11_goStep_X11_manyOn : GoodIn wsX11_goStep (va_wsS RX11 110 yX11_manyOn wsX11_manyOn) := goodIn_app (goodIn_of _ (by decide +kernel)) ggX11_goStep_X11_manyOn
set_option maxRecDepth 20000 in
theorem ggX11_goStep_X11_seenOn : GoodIn wsX11_goStep wsX11_seenOn := goodIn_r _ [7, 8, 9, 3, 10, 11, 12, 13, 14, 15, 16] (by decide +kernel) (by decide +kernel)
set_option maxRecDepth 20000 in
theorem gX11_goStep_X11_seenOn : GoodIn wsX11_goStep (va_wsS RX11 106 yX11_seenOn wsX11_seenOn) := goodIn_app (goodIn_of _ (by decide +kernel)) ggX11_goStep_X11_seenOn
theorem dX11_goStep_0 : decode cX11_goStep 0 = .ok (.iconst 0, 1) := by decide +kernel
theorem dX11_goStep_1 : decode cX11_goStep 1 = .ok (.istore_n 1, 1) := by decide +kernel
theorem dX11_goStep_2 : decode cX11_goStep 2 = .ok (.iconst 0, 1) := by decide +kernel
theorem dX11_goStep_3 : decode cX11_goStep 3 = .ok (.istore_n 2, 1) := by decide +kernel
theorem dX11_goStep_4 : decode cX11_goStep 4 = .ok (.iload_n 2, 1) := by decide +kernel
theorem dX11_goStep_5 : decode cX11_goStep 5 = .ok (.aload_n 0, 1) := by decide +kernel
theorem dX11_goStep_6 : decode cX11_goStep 6 = .ok (.iconst 0, 1) := by decide +kernel
theorem dX11_goStep_7 : decode cX11_goStep 7 = .ok (.iaload, 1) := by decide +kernel
theorem dX11_goStep_8 : decode cX11_goStep 8 = .ok (.if_icmp .ge 144, 3) := by decide +kernel
theorem dX11_goStep_11 : decode cX11_goStep 11 = .ok (.aload_n 0, 1) := by decide +kernel
theorem dX11_goStep_12 : decode cX11_goStep 12 = .ok (.iload_n 2, 1) := by decide +kernel
theorem dX11_goStep_13 : decode cX11_goStep 13 = .ok (.invokestatic 110, 3) := by decide +kernel
theorem dX11_goStep_16 : decode cX11_goStep 16 = .ok (.istore_n 3, 1) := by decide +kernel
theorem dX11_goStep_17 : decode cX11_goStep 17 = .ok (.iload_n 3, 1) := by decide +kernel
theorem dX11_goStep_18 : decode cX11_goStep 18 = .ok (.ifCond .ne 7, 3) := by decide +kernel
theorem dX11_goStep_21 : decode cX11_goStep 21 = .ok (.iconst 0, 1) := by decide +kernel
theorem dX11_goStep_22 : decode cX11_goStep 22 = .ok (.goto 14, 3) := by decide +kernel
theorem dX11_goStep_25 : decode cX11_goStep 25 = .ok (.aload_n 0, 1) := by decide +kernel
theorem dX11_goStep_26 : decode cX11_goStep 26 = .ok (.iload_n 2, 1) := by decide +kernel
theorem dX11_goStep_27 : decode cX11_goStep 27 = .ok (.aload_n 0, 1) := by decide +kernel
theorem dX11_goStep_28 : decode cX11_goStep 28 = .ok (.bipush 21, 2) := by decide +kernel
theorem dX11_goStep_30 : decode cX11_goStep 30 = .ok (.iaload, 1) := by decide +kernel
theorem dX11_goStep_31 : decode cX11_goStep 31 = .ok (.invokestatic 106, 3) := by decide +kernel
theorem dX11_goStep_34 : decode cX11_goStep 34 = .ok (.iload_n 3, 1) := by decide +kernel
theorem dX11_goStep_35 : decode cX11_goStep 35 = .ok (.idiv, 1) := by decide +kernel
theorem dX11_goStep_36 : decode cX11_goStep 36 = .ok (.istore 4, 2) := by decide +kernel
