theorem dX11_lasts_2 : decode cX11_lasts 2 = .ok (.invokevirtual 133, 3) := by decide +kernel
theorem dX11_lasts_5 : decode cX11_lasts 5 = .ok (.ifCond .eq 15, 3) := by decide +kernel
theorem dX11_lasts_20 : decode cX11_lasts 20 = .ok (.aload_n 0, 1) := by decide +kernel
theorem dX11_lasts_21 : decode cX11_lasts 21 = .ok (.bipush (-2), 2) := by decide +kernel
theorem dX11_lasts_23 : decode cX11_lasts 23 = .ok (.invokevirtual 73, 3) := by decide +kernel
theorem dX11_lasts_26 : decode cX11_lasts 26 = .ok (.ireturn, 1) := by decide +kernel
set_option maxRecDepth 20000 in
theorem ggX11_enough_X11_in : GoodIn wsX11_enough wsX11_in := goodIn_r _ [6] (by decide +kernel) (by decide +kernel)
set_option maxRecDepth 20000 in
theorem gX11_enough_X11_in : GoodIn wsX11_enough (va_wsS RX11 56 yX11_in wsX11_in) := goodIn_app (goodIn_of _ (by decide +kernel)) ggX11_enough_X11_in
set_option maxRecDepth 20000 in
theorem ggX11_enough_X11_bad : GoodIn wsX11_enough wsX11_bad := goodIn_r _ [10, 11, 22, 23, 24, 25, 26, 27, 28, 29, 30, 31, 32, 33, 34, 35, 36, 37, 38, 39] (by decide +kernel) (by decide +kernel)
set_option maxRecDepth 20000 in
theorem gX11_enough_X11_bad : GoodIn wsX11_enough (wsV RX11 73 RX11 yX11_bad wsX11_bad) := goodIn_app (goodIn_of _ (by decide +kernel)) ggX11_enough_X11_bad
set_option maxRecDepth 20000 in
theorem ggX11_enough_X11_manyGleaners : GoodIn wsX11_enough wsX11_manyGleaners := goodIn_r _ [15, 2, 22, 23, 24, 25, 26, 27, 28, 29, 30, 31, 32, 33, 34, 35, 36, 37, 38, 39] (by decide +kernel) (by decide +kernel)
set_option maxRecDepth 20000 in
theorem gX11_enough_X11_manyGleaners : GoodIn wsX11_enough (wsV RX11 60 RX11 yX11_manyGleaners wsX11_manyGleaners) := goodIn_app (goodIn_of _ (by decide +kernel)) ggX11_enough_X11_manyGleaners
theorem dX11_enough_0 : decode cX11_enough 0 = .ok (.iload_n 1, 1) := by decide +kernel
theorem dX11_enough_1 : decode cX11_enough 1 = .ok (.i2l, 1) := by decide +kernel
theorem dX11_enough_2 : decode cX11_enough 2 = .ok (.lconst 0, 1) := by decide +kernel
theorem dX11_enough_3 : decode cX11_enough 3 = .ok (.ldc2_w 165, 3) := by decide +kernel
theorem dX11_enough_6 : decode cX11_enough 6 = .ok (.invokestatic 56, 3) := by decide +kernel
theorem dX11_enough_9 : decode cX11_enough 9 = .ok (.ifCond .ne 10, 3) := by decide +kernel
theorem dX11_enough_12 : decode cX11_enough 12 = .ok (.aload_n 0, 1) := by decide +kernel
theorem dX11_enough_13 : decode cX11_enough 13 = .ok (.bipush (-2), 2) := by decide +kernel
theorem dX11_enough_15 : decode cX11_enough 15 = .ok (.invokevirtual 73, 3) := by decide +kernel
theorem dX11_enough_18 : decode cX11_enough 18 = .ok (.ireturn, 1) := by decide +kernel
theorem dX11_enough_19 : decode cX11_enough 19 = .ok (.iconst (-1), 1) := by decide +kernel
theorem dX11_enough_20 : decode cX11_enough 20 = .ok (.istore_n 2, 1) := by decide +kernel
theorem dX11_enough_21 : decode cX11_enough 21 = .ok (.iconst 0, 1) := by decide +kernel
theorem dX11_enough_22 : decode cX11_enough 22 = .ok (.istore_n 3, 1) := by decide +kernel
theorem dX11_enough_23 : decode cX11_enough 23 = .ok (.iload_n 3, 1) := by decide +kernel
theorem dX11_enough_24 : decode cX11_enough 24 = .ok (.iconst 1, 1) := by decide +kernel
theorem dX11_enough_25 : decode cX11_enough 25 = .ok (.aload_n 0, 1) := by decide +kernel
theorem dX11_enough_26 : decode cX11_enough 26 = .ok (.invokevirtual 60, 3) := by decide +kernel
theorem dX11_enough_29 : decode cX11_enough 29 = .ok (.ishl, 1) := by decide +kernel
theorem dX11_enough_30 : decode cX11_enough 30 = .ok (.if_icmp .ge 86, 3) := by decide +kernel
theorem dX11_enough_33 : decode cX11_enough 33 = .ok (.iconst 0, 1) := by decide +kernel
theorem dX11_enough_34 : decode cX11_enough 34 = .ok (.istore 4, 2) := by decide +kernel
theorem dX11_enough_36 : decode cX11_enough 36 = .ok (.iconst 0, 1) := by decide +kernel
theorem dX11_enough_37 : decode cX11_enough 37 = .ok (.istore 5, 2) := by decide +kernel
theorem dX11_enough_39 : decode cX11_enough 39 = .ok (.iload 5, 2) := by decide +kernel
theorem dX11_enough_41 : decode cX11_enough 41 = .ok (.aload_n 0, 1) := by decide +kernel
theorem dX11_enough_42 : decode cX11_enough 42 = .ok (.invokevirtual 60, 3) := by decide +kernel
theorem dX11_enough_45 : decode cX11_enough 45 = .ok (.if_icmp .ge 37, 3) := by decide +kernel
theorem dX11_enough_82 : decode cX11_enough 82 = .ok (.iload 4, 2) := by decide +kernel
theorem dX11_enough_84 : decode cX11_enough 84 = .ok (.iload_n 1, 1) := by decide +kernel
theorem dX11_enough_85 : decode cX11_enough 85 = .ok (.if_icmp .lt 23, 3) := by decide +kernel
theorem dX11_enough_88 : decode cX11_enough 88 = .ok (.iload_n 2, 1) := by decide +kernel
theorem dX11_enough_89 : decode cX11_enough 89 = .ok (.iconst (-1), 1) := by decide +kernel
theorem dX11_enough_90 : decode cX11_enough 90 = .ok (.if_icmp .eq 14, 3) := by decide +kernel
theorem dX11_enough_104 : decode cX11_enough 104 = .ok (.iload_n 3, 1) := by decide +kernel
theorem dX11_enough_105 : decode cX11_enough 105 = .ok (.goto 4, 3) := by decide +kernel
theorem dX11_enough_108 : decode cX11_enough 108 = .ok (.iload_n 2, 1) := by decide +kernel
theorem dX11_enough_109 : decode cX11_enough 109 = .ok (.istore_n 2, 1) := by decide +kernel
theorem dX11_enough_110 : decode cX11_enough 110 = .ok (.iinc 3 1, 3) := by decide +kernel
theorem dX11_enough_113 : decode cX11_enough 113 = .ok (.goto (-90), 3) := by decide +kernel
theorem dX11_enough_116 : decode cX11_enough 116 = .ok (.iload_n 2, 1) := by decide +kernel
theorem dX11_enough_117 : decode cX11_enough 117 = .ok (.ireturn, 1) := by decide +kernel
set_option maxRecDepth 20000 in
theorem ggX11_missed_X11_isField : GoodIn wsX11_missed wsX11_isField := goodIn_r _ [6, 7, 8, 9, 5, 10, 1, 11, 12, 13, 31, 32, 33, 34, 35, 36, 37, 38, 39, 40, 41, 42, 43, 44, 45, 46, 47, 48] (by decide +kernel) (by decide +kernel)
set_option maxRecDepth 20000 in
theorem gX11_missed_X11_isField : GoodIn wsX11_missed (wsV RX11 89 RX11 yX11_isField wsX11_isField) := goodIn_app (goodIn_of _ (by decide +kernel)) ggX11_missed_X11_isField
set_option maxRecDepth 20000 in
theorem ggX11_missed_X11_bad : GoodIn wsX11_missed wsX11_bad := goodIn_r _ [25, 26, 31, 32, 33, 34, 35, 36, 37, 38, 39, 40, 41, 42, 43, 44, 45, 46, 47, 48] (by decide +kernel) (by decide +kernel)
set_option maxRecDepth 20000 in
theorem gX11_missed_X11_bad : GoodIn wsX11_missed (wsV RX11 73 RX11 yX11_bad wsX11_bad) := goodIn_app (goodIn_of _ (by decide +kernel)) ggX11_missed_X11_bad
theorem dX11_missed_0 : decode cX11_missed 0 = .ok (.aload_n 0, 1) := by decide +kernel
theorem dX11_missed_1 : decode cX11_missed 1 = .ok (.iload_n 1, 1) := by decide +kernel
theorem dX11_missed_2 : decode cX11_missed 2 = .ok (.invokevirtual 89, 3) := by decide +kernel
theorem dX11_missed_5 : decode cX11_missed 5 = .ok (.ifCond .eq 25, 3) := by decide +kernel
theorem dX11_missed_30 : decode cX11_missed 30 = .ok (.aload_n 0, 1) := by decide +kernel
theorem dX11_missed_31 : decode cX11_missed 31 = .ok (.bipush (-2), 2) := by decide +kernel
theorem dX11_missed_33 : decode cX11_missed 33 = .ok (.invokevirtual 73, 3) := by decide +kernel
theorem dX11_missed_36 : decode cX11_missed 36 = .ok (.ireturn, 1) := by decide +kernel
theorem dX11_clouds_0 : decode cX11_clouds 0 = .ok (.iconst 0, 1) := by decide +kernel
theorem dX11_clouds_1 : decode cX11_clouds 1 = .ok (.istore_n 1, 1) := by decide +kernel
theorem dX11_clouds_2 : decode cX11_clouds 2 = .ok (.iconst 0, 1) := by decide +kernel
theorem dX11_clouds_3 : decode cX11_clouds 3 = .ok (.istore_n 2, 1) := by decide +kernel
theorem dX11_clouds_4 : decode cX11_clouds 4 = .ok (.iload_n 2, 1) := by decide +kernel
theorem dX11_clouds_5 : decode cX11_clouds 5 = .ok (.bipush 10, 2) := by decide +kernel
theorem dX11_clouds_7 : decode cX11_clouds 7 = .ok (.if_icmp .ge 113, 3) := by decide +kernel
theorem dX11_clouds_10 : decode cX11_clouds 10 = .ok (.iconst 1, 1) := by decide +kernel
theorem dX11_clouds_11 : decode cX11_clouds 11 = .ok (.istore_n 3, 1) := by decide +kernel
theorem dX11_clouds_12 : decode cX11_clouds 12 = .ok (.iconst 0, 1) := by decide +kernel
theorem dX11_clouds_13 : decode cX11_clouds 13 = .ok (.istore 4, 2) := by decide +kernel
theorem dX11_clouds_15 : decode cX11_clouds 15 = .ok (.iload 4, 2) := by decide +kernel
theorem dX11_clouds_17 : decode cX11_clouds 17 = .ok (.aload_n 0, 1) := by decide +kernel
theorem dX11_clouds_18 : decode cX11_clouds 18 = .ok (.getfield 7, 3) := by decide +kernel
theorem dX11_clouds_21 : decode cX11_clouds 21 = .ok (.iconst 2, 1) := by decide +kernel
theorem dX11_clouds_22 : decode cX11_clouds 22 = .ok (.iaload, 1) := by decide +kernel
theorem dX11_clouds_23 : decode cX11_clouds 23 = .ok (.if_icmp .ge 77, 3) := by decide +kernel
theorem dX11_clouds_100 : decode cX11_clouds 100 = .ok (.iload_n 1, 1) := by decide +kernel
theorem dX11_clouds_101 : decode cX11_clouds 101 = .ok (.iload_n 3, 1) := by decide +kernel
theorem dX11_clouds_102 : decode cX11_clouds 102 = .ok (.ifCond .eq 9, 3) := by decide +kernel
theorem dX11_clouds_105 : decode cX11_clouds 105 = .ok (.iconst 1, 1) := by decide +kernel
theorem dX11_clouds_106 : decode cX11_clouds 106 = .ok (.iload_n 2, 1) := by decide +kernel
theorem dX11_clouds_107 : decode cX11_clouds 107 = .ok (.ishl, 1) := by decide +kernel
theorem dX11_clouds_108 : decode cX11_clouds 108 = .ok (.goto 4, 3) := by decide +kernel
theorem dX11_clouds_112 : decode cX11_clouds 112 = .ok (.ior, 1) := by decide +kernel
theorem dX11_clouds_113 : decode cX11_clouds 113 = .ok (.istore_n 1, 1) := by decide +kernel
theorem dX11_clouds_114 : decode cX11_clouds 114 = .ok (.iinc 2 1, 3) := by decide +kernel
theorem dX11_clouds_117 : decode cX11_clouds 117 = .ok (.goto (-113), 3) := by decide +kernel
theorem dX11_clouds_120 : decode cX11_clouds 120 = .ok (.iload_n 1, 1) := by decide +kernel
theorem dX11_clouds_121 : decode cX11_clouds 121 = .ok (.ireturn, 1) := by decide +kernel
set_option maxRecDepth 20000 in
theorem ggX11_note_X11_isField : GoodIn wsX11_note wsX11_isField := goodIn_r _ [7, 8, 9, 10, 6, 11, 2, 12, 13, 14, 36, 37, 38, 39, 40, 41, 42, 43, 44, 45, 46, 47, 48, 49, 50, 51, 52, 53] (by decide +kernel) (by decide +kernel)
set_option maxRecDepth 20000 in
theorem gX11_note_X11_isField : GoodIn wsX11_note (wsV RX11 89 RX11 yX11_isField wsX11_isField) := goodIn_app (goodIn_of _ (by decide +kernel)) ggX11_note_X11_isField
set_option maxRecDepth 20000 in
theorem ggX11_note_X11_bad : GoodIn wsX11_note wsX11_bad := goodIn_r _ [30, 31, 36, 37, 38, 39, 40, 41, 42, 43, 44, 45, 46, 47, 48, 49, 50, 51, 52, 53] (by decide +kernel) (by decide +kernel)
set_option maxRecDepth 20000 in
theorem gX11_note_X11_bad : GoodIn wsX11_note (wsV RX11 73 RX11 yX11_bad wsX11_bad) := goodIn_app (goodIn_of _ (by decide +kernel)) ggX11_note_X11_bad
theorem dX11_note_0 : decode cX11_note 0 = .ok (.aload_n 0, 1) := by decide +kernel
theorem dX11_note_1 : decode cX11_note 1 = .ok (.iload_n 1, 1) := by decide +kernel
theorem dX11_note_2 : decode cX11_note 2 = .ok (.invokevirtual 89, 3) := by decide +kernel
theorem dX11_note_5 : decode cX11_note 5 = .ok (.ifCond .eq 38, 3) := by decide +kernel
theorem dX11_note_43 : decode cX11_note 43 = .ok (.aload_n 0, 1) := by decide +kernel
theorem dX11_note_44 : decode cX11_note 44 = .ok (.bipush (-2), 2) := by decide +kernel
theorem dX11_note_46 : decode cX11_note 46 = .ok (.invokevirtual 73, 3) := by decide +kernel
theorem dX11_note_49 : decode cX11_note 49 = .ok (.ireturn, 1) := by decide +kernel
set_option maxRecDepth 20000 in
theorem ggX11_forget_X11_in : GoodIn wsX11_forget wsX11_in := goodIn_r _ [5] (by decide +kernel) (by decide +kernel)
set_option maxRecDepth 20000 in
theorem gX11_forget_X11_in : GoodIn wsX11_forget (va_wsS RX11 56 yX11_in wsX11_in) := goodIn_app (goodIn_of _ (by decide +kernel)) ggX11_forget_X11_in
set_option maxRecDepth 20000 in
theorem ggX11_forget_X11_bad : GoodIn wsX11_forget wsX11_bad := goodIn_r _ [9, 10, 11, 12, 13, 14, 15, 16, 17, 18, 19, 20, 21, 22, 23, 24, 25, 26, 27, 28] (by decide +kernel) (by decide +kernel)
set_option maxRecDepth 20000 in
theorem gX11_forget_X11_bad : GoodIn wsX11_forget (wsV RX11 73 RX11 yX11_bad wsX11_bad) := goodIn_app (goodIn_of _ (by decide +kernel)) ggX11_forget_X11_bad
theorem dX11_forget_0 : decode cX11_forget 0 = .ok (.iload_n 1, 1) := by decide +kernel
theorem dX11_forget_1 : decode cX11_forget 1 = .ok (.i2l, 1) := by decide +kernel
theorem dX11_forget_2 : decode cX11_forget 2 = .ok (.lconst 0, 1) := by decide +kernel
theorem dX11_forget_3 : decode cX11_forget 3 = .ok (.lconst 1, 1) := by decide +kernel
theorem dX11_forget_4 : decode cX11_forget 4 = .ok (.invokestatic 56, 3) := by decide +kernel
theorem dX11_forget_7 : decode cX11_forget 7 = .ok (.ifCond .ne 10, 3) := by decide +kernel
theorem dX11_forget_10 : decode cX11_forget 10 = .ok (.aload_n 0, 1) := by decide +kernel
theorem dX11_forget_11 : decode cX11_forget 11 = .ok (.bipush (-2), 2) := by decide +kernel
theorem dX11_forget_13 : decode cX11_forget 13 = .ok (.invokevirtual 73, 3) := by decide +kernel
theorem dX11_forget_16 : decode cX11_forget 16 = .ok (.ireturn, 1) := by decide +kernel
theorem dX11_forget_17 : decode cX11_forget 17 = .ok (.aload_n 0, 1) := by decide +kernel
theorem dX11_forget_18 : decode cX11_forget 18 = .ok (.getfield 7, 3) := by decide +kernel
theorem dX11_forget_21 : decode cX11_forget 21 = .ok (.iconst 2, 1) := by decide +kernel
theorem dX11_forget_22 : decode cX11_forget 22 = .ok (.iload_n 1, 1) := by decide +kernel
theorem dX11_forget_23 : decode cX11_forget 23 = .ok (.iadd, 1) := by decide +kernel
theorem dX11_forget_24 : decode cX11_forget 24 = .ok (.iaload, 1) := by decide +kernel
theorem dX11_forget_25 : decode cX11_forget 25 = .ok (.istore_n 2, 1) := by decide +kernel
theorem dX11_forget_26 : decode cX11_forget 26 = .ok (.aload_n 0, 1) := by decide +kernel
theorem dX11_forget_27 : decode cX11_forget 27 = .ok (.getfield 7, 3) := by decide +kernel
theorem dX11_forget_30 : decode cX11_forget 30 = .ok (.iconst 2, 1) := by decide +kernel
theorem dX11_forget_31 : decode cX11_forget 31 = .ok (.iload_n 1, 1) := by decide +kernel
theorem dX11_forget_32 : decode cX11_forget 32 = .ok (.iadd, 1) := by decide +kernel
theorem dX11_forget_33 : decode cX11_forget 33 = .ok (.iconst 0, 1) := by decide +kernel
theorem dX11_forget_34 : decode cX11_forget 34 = .ok (.iastore, 1) := by decide +kernel
theorem dX11_forget_35 : decode cX11_forget 35 = .ok (.iload_n 2, 1) := by decide +kernel
theorem dX11_forget_36 : decode cX11_forget 36 = .ok (.ireturn, 1) := by decide +kernel
set_option maxRecDepth 20000 in
theorem ggX11_is_X11_isField : GoodIn wsX11_is wsX11_isField := goodIn_r _ [5, 6, 7, 8, 4, 9, 10, 11, 12, 13, 32, 33, 34, 35, 36, 37, 38, 39, 40, 41, 42, 43, 44, 45, 46, 47, 48, 49] (by decide +kernel) (by decide +kernel)
set_option maxRecDepth 20000 in
theorem gX11_is_X11_isField : GoodIn wsX11_is (wsV RX11 89 RX11 yX11_isField wsX11_isField) := goodIn_app (goodIn_of _ (by decide +kernel)) ggX11_is_X11_isField
set_option maxRecDepth 20000 in
theorem ggX11_is_X11_bad : GoodIn wsX11_is wsX11_bad := goodIn_r _ [30, 31, 32, 33, 34, 35, 36, 37, 38, 39, 40, 41, 42, 43, 44, 45, 46, 47, 48, 49] (by decide +kernel) (by decide +kernel)
set_option maxRecDepth 20000 in
theorem gX11_is_X11_bad : GoodIn wsX11_is (wsV RX11 73 RX11 yX11_bad wsX11_bad) := goodIn_app (goodIn_of _ (by decide +kernel)) ggX11_is_X11_bad
theorem dX11_is_0 : decode cX11_is 0 = .ok (.aload_n 0, 1) := by decide +kernel
theorem dX11_is_1 : decode cX11_is 1 = .ok (.iload_n 1, 1) := by decide +kernel
theorem dX11_is_2 : decode cX11_is 2 = .ok (.invokevirtual 89, 3) := by decide +kernel
theorem dX11_is_5 : decode cX11_is 5 = .ok (.ifCond .eq 11, 3) := by decide +kernel
theorem dX11_is_16 : decode cX11_is 16 = .ok (.aload_n 0, 1) := by decide +kernel
theorem dX11_is_17 : decode cX11_is 17 = .ok (.bipush (-2), 2) := by decide +kernel
theorem dX11_is_19 : decode cX11_is 19 = .ok (.invokevirtual 73, 3) := by decide +kernel
theorem dX11_is_22 : decode cX11_is 22 = .ok (.ireturn, 1) := by decide +kernel
set_option maxRecDepth 20000 in
theorem ggX11_look_X11_isField : GoodIn wsX11_look wsX11_isField := goodIn_r _ [7, 8, 9, 10, 6, 11, 2, 12, 13, 14, 36, 37, 38, 39, 40, 41, 42, 43, 44, 45, 46, 47, 48, 49, 50, 51, 52, 53] (by decide +kernel) (by decide +kernel)
set_option maxRecDepth 20000 in
theorem gX11_look_X11_isField : GoodIn wsX11_look (wsV RX11 89 RX11 yX11_isField wsX11_isField) := goodIn_app (goodIn_of _ (by decide +kernel)) ggX11_look_X11_isField
set_option maxRecDepth 20000 in
theorem ggX11_look_X11_bad : GoodIn wsX11_look wsX11_bad := goodIn_r _ [18, 19, 36, 37, 38, 39, 40, 41, 42, 43, 44, 45, 46, 47, 48, 49, 50, 51, 52, 53] (by decide +kernel) (by decide +kernel)
set_option maxRecDepth 20000 in
theorem gX11_look_X11_bad : GoodIn wsX11_look (wsV RX11 73 RX11 yX11_bad wsX11_bad) := goodIn_app (goodIn_of _ (by decide +kernel)) ggX11_look_X11_bad
theorem dX11_look_0 : decode cX11_look 0 = .ok (.aload_n 0, 1) := by decide +kernel
theorem dX11_look_1 : decode cX11_look 1 = .ok (.iload_n 1, 1) := by decide +kernel
theorem dX11_look_2 : decode cX11_look 2 = .ok (.invokevirtual 89, 3) := by decide +kernel
theorem dX11_look_5 : decode cX11_look 5 = .ok (.ifCond .ne 10, 3) := by decide +kernel
theorem dX11_look_8 : decode cX11_look 8 = .ok (.aload_n 0, 1) := by decide +kernel
theorem dX11_look_9 : decode cX11_look 9 = .ok (.bipush (-2), 2) := by decide +kernel
theorem dX11_look_11 : decode cX11_look 11 = .ok (.invokevirtual 73, 3) := by decide +kernel
theorem dX11_look_14 : decode cX11_look 14 = .ok (.ireturn, 1) := by decide +kernel
set_option maxRecDepth 20000 in
theorem ggX11_two_X11_isGleaner : GoodIn wsX11_two wsX11_isGleaner := goodIn_r _ [5, 6, 7, 8, 4, 9, 10, 11, 12, 13, 46, 47, 48, 49, 50, 51, 52, 53, 54, 55, 56, 57, 58, 59, 60, 61, 62, 63] (by decide +kernel) (by decide +kernel)
set_option maxRecDepth 20000 in
theorem gX11_two_X11_isGleaner : GoodIn wsX11_two (wsV RX11 133 RX11 yX11_isGleaner wsX11_isGleaner) := goodIn_app (goodIn_of _ (by decide +kernel)) ggX11_two_X11_isGleaner
set_option maxRecDepth 20000 in
theorem ggX11_two_X11_bad : GoodIn wsX11_two wsX11_bad := goodIn_r _ [17, 18, 46, 47, 48, 49, 50, 51, 52, 53, 54, 55, 56, 57, 58, 59, 60, 61, 62, 63] (by decide +kernel) (by decide +kernel)
set_option maxRecDepth 20000 in
theorem gX11_two_X11_bad : GoodIn wsX11_two (wsV RX11 73 RX11 yX11_bad wsX11_bad) := goodIn_app (goodIn_of _ (by decide +kernel)) ggX11_two_X11_bad
theorem dX11_two_0 : decode cX11_two 0 = .ok (.aload_n 0, 1) := by decide +kernel
theorem dX11_two_1 : decode cX11_two 1 = .ok (.iload_n 1, 1) := by decide +kernel
theorem dX11_two_2 : decode cX11_two 2 = .ok (.invokevirtual 133, 3) := by decide +kernel
theorem dX11_two_5 : decode cX11_two 5 = .ok (.ifCond .eq 21, 3) := by decide +kernel
theorem dX11_two_26 : decode cX11_two 26 = .ok (.aload_n 0, 1) := by decide +kernel
theorem dX11_two_27 : decode cX11_two 27 = .ok (.bipush (-10), 2) := by decide +kernel
theorem dX11_two_29 : decode cX11_two 29 = .ok (.invokevirtual 73, 3) := by decide +kernel
theorem dX11_two_32 : decode cX11_two 32 = .ok (.ireturn, 1) := by decide +kernel
set_option maxRecDepth 20000 in
theorem ggX11_rains_X11_isField : GoodIn wsX11_rains wsX11_isField := goodIn_r _ [8, 9, 10, 11, 7, 12, 3, 13, 14, 15, 43, 44, 45, 46, 47, 48, 49, 50, 51, 52, 53, 54, 55, 56, 57, 58, 59, 60] (by decide +kernel) (by decide +kernel)
set_option maxRecDepth 20000 in
theorem gX11_rains_X11_isField : GoodIn wsX11_rains (wsV RX11 89 RX11 yX11_isField wsX11_isField) := goodIn_app (goodIn_of _ (by decide +kernel)) ggX11_rains_X11_isField
set_option maxRecDepth 20000 in
theorem ggX11_rains_X11_bad : GoodIn wsX11_rains wsX11_bad := goodIn_r _ [19, 20, 43, 44, 45, 46, 47, 48, 49, 50, 51, 52, 53, 54, 55, 56, 57, 58, 59, 60] (by decide +kernel) (by decide +kernel)
set_option maxRecDepth 20000 in
theorem gX11_rains_X11_bad : GoodIn wsX11_rains (wsV RX11 73 RX11 yX11_bad wsX11_bad) := goodIn_app (goodIn_of _ (by decide +kernel)) ggX11_rains_X11_bad
theorem dX11_rains_0 : decode cX11_rains 0 = .ok (.aload_n 0, 1) := by decide +kernel
theorem dX11_rains_1 : decode cX11_rains 1 = .ok (.iload_n 1, 1) := by decide +kernel
theorem dX11_rains_2 : decode cX11_rains 2 = .ok (.invokevirtual 89, 3) := by decide +kernel
theorem dX11_rains_5 : decode cX11_rains 5 = .ok (.ifCond .eq 15, 3) := by decide +kernel
theorem dX11_rains_20 : decode cX11_rains 20 = .ok (.aload_n 0, 1) := by decide +kernel
theorem dX11_rains_21 : decode cX11_rains 21 = .ok (.bipush (-2), 2) := by decide +kernel
theorem dX11_rains_23 : decode cX11_rains 23 = .ok (.invokevirtual 73, 3) := by decide +kernel
theorem dX11_rains_26 : decode cX11_rains 26 = .ok (.ireturn, 1) := by decide +kernel
set_option maxRecDepth 20000 in
theorem ggX11_summers_X11_in : GoodIn wsX11_summers wsX11_in := goodIn_r _ [12] (by decide +kernel) (by decide +kernel)
set_option maxRecDepth 20000 in
theorem gX11_summers_X11_in : GoodIn wsX11_summers (va_wsS RX11 56 yX11_in wsX11_in) := goodIn_app (goodIn_of _ (by decide +kernel)) ggX11_summers_X11_in
set_option maxRecDepth 20000 in
theorem ggX11_summers_X11_bad : GoodIn wsX11_summers wsX11_bad := goodIn_r _ [16, 17, 47, 48, 49, 50, 51, 52, 53, 54, 55, 56, 57, 58, 59, 60, 61, 62, 63, 64] (by decide +kernel) (by decide +kernel)
set_option maxRecDepth 20000 in
theorem gX11_summers_X11_bad : GoodIn wsX11_summers (wsV RX11 73 RX11 yX11_bad wsX11_bad) := goodIn_app (goodIn_of _ (by decide +kernel)) ggX11_summers_X11_bad
set_option maxRecDepth 20000 in
theorem ggX11_summers_X11_layHand : GoodIn wsX11_summers wsX11_layHand := goodIn_r _ [21, 6, 22, 47, 48, 49, 50, 51, 52, 53, 54, 55, 56, 57, 58, 59, 60, 61, 62, 63, 64] (by decide +kernel) (by decide +kernel)
set_option maxRecDepth 20000 in
theorem gX11_summers_X11_layHand : GoodIn wsX11_summers (wsV RX11 147 RX11 yX11_layHand wsX11_layHand) := goodIn_app (goodIn_of _ (by decide +kernel)) ggX11_summers_X11_layHand
set_option maxRecDepth 20000 in
theorem ggX11_summers_X11_goNight : GoodIn wsX11_summers wsX11_goNight := goodIn_r _ [25, 26, 27, 11, 28] (by decide +kernel) (by decide +kernel)
set_option maxRecDepth 20000 in
theorem gX11_summers_X11_goNight : GoodIn wsX11_summers (va_wsS RX11 129 yX11_goNight wsX11_goNight) := goodIn_app (goodIn_of _ (by decide +kernel)) ggX11_summers_X11_goNight
set_option maxRecDepth 20000 in
theorem ggX11_summers_X11_goStep : GoodIn wsX11_summers wsX11_goStep := goodIn_r _ [31, 32, 33, 11, 34, 35, 36, 37, 38, 39, 40, 41, 42, 43, 44, 45, 46] (by decide +kernel) (by decide +kernel)
set_option maxRecDepth 20000 in
theorem gX11_summers_X11_goStep : GoodIn wsX11_summers (va_wsS RX11 125 yX11_goStep wsX11_goStep) := goodIn_app (goodIn_of _ (by decide +kernel)) ggX11_summers_X11_goStep
theorem dX11_summers_0 : decode cX11_summers 0 = .ok (.iload_n 1, 1) := by decide +kernel
theorem dX11_summers_1 : decode cX11_summers 1 = .ok (.i2l, 1) := by decide +kernel
theorem dX11_summers_2 : decode cX11_summers 2 = .ok (.lconst 0, 1) := by decide +kernel
theorem dX11_summers_3 : decode cX11_summers 3 = .ok (.ldc2_w 198, 3) := by decide +kernel
theorem dX11_summers_6 : decode cX11_summers 6 = .ok (.invokestatic 56, 3) := by decide +kernel
theorem dX11_summers_9 : decode cX11_summers 9 = .ok (.ifCond .eq 15, 3) := by decide +kernel
theorem dX11_summers_12 : decode cX11_summers 12 = .ok (.iload_n 2, 1) := by decide +kernel
theorem dX11_summers_13 : decode cX11_summers 13 = .ok (.i2l, 1) := by decide +kernel
theorem dX11_summers_14 : decode cX11_summers 14 = .ok (.lconst 0, 1) := by decide +kernel
theorem dX11_summers_15 : decode cX11_summers 15 = .ok (.ldc2_w 67, 3) := by decide +kernel
theorem dX11_summers_18 : decode cX11_summers 18 = .ok (.invokestatic 56, 3) := by decide +kernel
theorem dX11_summers_21 : decode cX11_summers 21 = .ok (.ifCond .ne 10, 3) := by decide +kernel
theorem dX11_summers_24 : decode cX11_summers 24 = .ok (.aload_n 0, 1) := by decide +kernel
theorem dX11_summers_25 : decode cX11_summers 25 = .ok (.bipush (-2), 2) := by decide +kernel
theorem dX11_summers_27 : decode cX11_summers 27 = .ok (.invokevirtual 73, 3) := by decide +kernel
theorem dX11_summers_30 : decode cX11_summers 30 = .ok (.ireturn, 1) := by decide +kernel
theorem dX11_summers_31 : decode cX11_summers 31 = .ok (.iload_n 1, 1) := by decide +kernel
theorem dX11_summers_32 : decode cX11_summers 32 = .ok (.i2l, 1) := by decide +kernel
theorem dX11_summers_33 : decode cX11_summers 33 = .ok (.lstore_n 3, 1) := by decide +kernel
theorem dX11_summers_34 : decode cX11_summers 34 = .ok (.iconst 0, 1) := by decide +kernel
theorem dX11_summers_35 : decode cX11_summers 35 = .ok (.istore 5, 2) := by decide +kernel
theorem dX11_summers_37 : decode cX11_summers 37 = .ok (.aload_n 0, 1) := by decide +kernel
theorem dX11_summers_38 : decode cX11_summers 38 = .ok (.invokevirtual 147, 3) := by decide +kernel
theorem dX11_summers_41 : decode cX11_summers 41 = .ok (.iconst 0, 1) := by decide +kernel
theorem dX11_summers_42 : decode cX11_summers 42 = .ok (.istore 6, 2) := by decide +kernel
theorem dX11_summers_44 : decode cX11_summers 44 = .ok (.iload 6, 2) := by decide +kernel
theorem dX11_summers_46 : decode cX11_summers 46 = .ok (.iload_n 2, 1) := by decide +kernel
theorem dX11_summers_47 : decode cX11_summers 47 = .ok (.if_icmp .ge 71, 3) := by decide +kernel
theorem dX11_summers_50 : decode cX11_summers 50 = .ok (.lload_n 3, 1) := by decide +kernel
theorem dX11_summers_51 : decode cX11_summers 51 = .ok (.ldc2_w 200, 3) := by decide +kernel
theorem dX11_summers_54 : decode cX11_summers 54 = .ok (.lmul, 1) := by decide +kernel
theorem dX11_summers_55 : decode cX11_summers 55 = .ok (.ldc2_w 202, 3) := by decide +kernel
theorem dX11_summers_58 : decode cX11_summers 58 = .ok (.ladd, 1) := by decide +kernel
theorem dX11_summers_59 : decode cX11_summers 59 = .ok (.ldc2_w 204, 3) := by decide +kernel
theorem dX11_summers_62 : decode cX11_summers 62 = .ok (.lrem, 1) := by decide +kernel
theorem dX11_summers_63 : decode cX11_summers 63 = .ok (.lstore_n 3, 1) := by decide +kernel
theorem dX11_summers_64 : decode cX11_summers 64 = .ok (.aload_n 0, 1) := by decide +kernel
theorem dX11_summers_65 : decode cX11_summers 65 = .ok (.getfield 27, 3) := by decide +kernel
theorem dX11_summers_68 : decode cX11_summers 68 = .ok (.bipush 21, 2) := by decide +kernel
theorem dX11_summers_70 : decode cX11_summers 70 = .ok (.iaload, 1) := by decide +kernel
theorem dX11_summers_71 : decode cX11_summers 71 = .ok (.bipush 12, 2) := by decide +kernel
theorem dX11_summers_73 : decode cX11_summers 73 = .ok (.if_icmp .ne 10, 3) := by decide +kernel
theorem dX11_summers_76 : decode cX11_summers 76 = .ok (.aload_n 0, 1) := by decide +kernel
theorem dX11_summers_77 : decode cX11_summers 77 = .ok (.getfield 27, 3) := by decide +kernel
theorem dX11_summers_80 : decode cX11_summers 80 = .ok (.invokestatic 129, 3) := by decide +kernel
theorem dX11_summers_83 : decode cX11_summers 83 = .ok (.aload_n 0, 1) := by decide +kernel
theorem dX11_summers_84 : decode cX11_summers 84 = .ok (.getfield 27, 3) := by decide +kernel
theorem dX11_summers_87 : decode cX11_summers 87 = .ok (.bipush 22, 2) := by decide +kernel
theorem dX11_summers_89 : decode cX11_summers 89 = .ok (.lload_n 3, 1) := by decide +kernel
theorem dX11_summers_90 : decode cX11_summers 90 = .ok (.ldc2_w 206, 3) := by decide +kernel
theorem dX11_summers_93 : decode cX11_summers 93 = .ok (.ldiv, 1) := by decide +kernel
theorem dX11_summers_94 : decode cX11_summers 94 = .ok (.ldc2_w 192, 3) := by decide +kernel
theorem dX11_summers_97 : decode cX11_summers 97 = .ok (.lrem, 1) := by decide +kernel
theorem dX11_summers_98 : decode cX11_summers 98 = .ok (.l2i, 1) := by decide +kernel
theorem dX11_summers_99 : decode cX11_summers 99 = .ok (.iastore, 1) := by decide +kernel
theorem dX11_summers_100 : decode cX11_summers 100 = .ok (.iload 5, 2) := by decide +kernel
theorem dX11_summers_102 : decode cX11_summers 102 = .ok (.aload_n 0, 1) := by decide +kernel
theorem dX11_summers_103 : decode cX11_summers 103 = .ok (.getfield 27, 3) := by decide +kernel
theorem dX11_summers_106 : decode cX11_summers 106 = .ok (.invokestatic 125, 3) := by decide +kernel
theorem dX11_summers_109 : decode cX11_summers 109 = .ok (.iadd, 1) := by decide +kernel
theorem dX11_summers_110 : decode cX11_summers 110 = .ok (.istore 5, 2) := by decide +kernel
theorem dX11_summers_112 : decode cX11_summers 112 = .ok (.iinc 6 1, 3) := by decide +kernel
theorem dX11_summers_115 : decode cX11_summers 115 = .ok (.goto (-71), 3) := by decide +kernel
theorem dX11_summers_118 : decode cX11_summers 118 = .ok (.iload 5, 2) := by decide +kernel
theorem dX11_summers_120 : decode cX11_summers 120 = .ok (.ireturn, 1) := by decide +kernel
set_option maxRecDepth 20000 in
theorem ggX11_type_X11_in : GoodIn wsX11_type wsX11_in := goodIn_r _ [7] (by decide +kernel) (by decide +kernel)
set_option maxRecDepth 20000 in
theorem gX11_type_X11_in : GoodIn wsX11_type (va_wsS RX11 56 yX11_in wsX11_in) := goodIn_app (goodIn_of _ (by decide +kernel)) ggX11_type_X11_in
set_option maxRecDepth 20000 in
theorem ggX11_type_X11_bad : GoodIn wsX11_type wsX11_bad := goodIn_r _ [11, 12, 17, 18, 19, 20, 21, 22, 23, 24, 25, 26, 27, 28, 29, 30, 31, 32, 33, 34] (by decide +kernel) (by decide +kernel)
set_option maxRecDepth 20000 in
theorem gX11_type_X11_bad : GoodIn wsX11_type (wsV RX11 73 RX11 yX11_bad wsX11_bad) := goodIn_app (goodIn_of _ (by decide +kernel)) ggX11_type_X11_bad
theorem dX11_type_0 : decode cX11_type 0 = .ok (.iload_n 1, 1) := by decide +kernel
theorem dX11_type_1 : decode cX11_type 1 = .ok (.i2l, 1) := by decide +kernel
theorem dX11_type_2 : decode cX11_type 2 = .ok (.lconst 0, 1) := by decide +kernel
theorem dX11_type_3 : decode cX11_type 3 = .ok (.ldc2_w 208, 3) := by decide +kernel
theorem dX11_type_6 : decode cX11_type 6 = .ok (.invokestatic 56, 3) := by decide +kernel
theorem dX11_type_9 : decode cX11_type 9 = .ok (.ifCond .ne 10, 3) := by decide +kernel
theorem dX11_type_12 : decode cX11_type 12 = .ok (.aload_n 0, 1) := by decide +kernel
theorem dX11_type_13 : decode cX11_type 13 = .ok (.bipush (-2), 2) := by decide +kernel
theorem dX11_type_15 : decode cX11_type 15 = .ok (.invokevirtual 73, 3) := by decide +kernel
theorem dX11_type_18 : decode cX11_type 18 = .ok (.ireturn, 1) := by decide +kernel
theorem dX11_type_19 : decode cX11_type 19 = .ok (.aload_n 0, 1) := by decide +kernel
theorem dX11_type_20 : decode cX11_type 20 = .ok (.getfield 210, 3) := by decide +kernel
theorem dX11_type_23 : decode cX11_type 23 = .ok (.sipush 150, 3) := by decide +kernel
theorem dX11_type_26 : decode cX11_type 26 = .ok (.if_icmp .ne 8, 3) := by decide +kernel
theorem dX11_type_34 : decode cX11_type 34 = .ok (.aload_n 0, 1) := by decide +kernel
theorem dX11_type_35 : decode cX11_type 35 = .ok (.getfield 39, 3) := by decide +kernel
theorem dX11_type_38 : decode cX11_type 38 = .ok (.aload_n 0, 1) := by decide +kernel
theorem dX11_type_39 : decode cX11_type 39 = .ok (.getfield 210, 3) := by decide +kernel
theorem dX11_type_42 : decode cX11_type 42 = .ok (.iload_n 1, 1) := by decide +kernel
theorem dX11_type_43 : decode cX11_type 43 = .ok (.iastore, 1) := by decide +kernel
theorem dX11_type_44 : decode cX11_type 44 = .ok (.aload_n 0, 1) := by decide +kernel
theorem dX11_type_45 : decode cX11_type 45 = .ok (.dup, 1) := by decide +kernel
theorem dX11_type_46 : decode cX11_type 46 = .ok (.getfield 210, 3) := by decide +kernel
theorem dX11_type_49 : decode cX11_type 49 = .ok (.iconst 1, 1) := by decide +kernel
theorem dX11_type_50 : decode cX11_type 50 = .ok (.iadd, 1) := by decide +kernel
theorem dX11_type_51 : decode cX11_type 51 = .ok (.putfield 210, 3) := by decide +kernel
theorem dX11_type_54 : decode cX11_type 54 = .ok (.aload_n 0, 1) := by decide +kernel
theorem dX11_type_55 : decode cX11_type 55 = .ok (.getfield 210, 3) := by decide +kernel
theorem dX11_type_58 : decode cX11_type 58 = .ok (.ireturn, 1) := by decide +kernel
theorem dX11_clear_0 : decode cX11_clear 0 = .ok (.aload_n 0, 1) := by decide +kernel
theorem dX11_clear_1 : decode cX11_clear 1 = .ok (.getfield 210, 3) := by decide +kernel
theorem dX11_clear_4 : decode cX11_clear 4 = .ok (.istore_n 1, 1) := by decide +kernel
theorem dX11_clear_5 : decode cX11_clear 5 = .ok (.aload_n 0, 1) := by decide +kernel
theorem dX11_clear_6 : decode cX11_clear 6 = .ok (.iconst 0, 1) := by decide +kernel
theorem dX11_clear_7 : decode cX11_clear 7 = .ok (.putfield 210, 3) := by decide +kernel
theorem dX11_clear_10 : decode cX11_clear 10 = .ok (.iload_n 1, 1) := by decide +kernel
theorem dX11_clear_11 : decode cX11_clear 11 = .ok (.ireturn, 1) := by decide +kernel
theorem dX11_lookAt_0 : decode cX11_lookAt 0 = .ok (.aload_n 0, 1) := by decide +kernel
theorem dX11_lookAt_1 : decode cX11_lookAt 1 = .ok (.iload_n 1, 1) := by decide +kernel
theorem dX11_lookAt_2 : decode cX11_lookAt 2 = .ok (.putfield 222, 3) := by decide +kernel
theorem dX11_lookAt_5 : decode cX11_lookAt 5 = .ok (.aload_n 0, 1) := by decide +kernel
theorem dX11_lookAt_6 : decode cX11_lookAt 6 = .ok (.getfield 222, 3) := by decide +kernel
theorem dX11_lookAt_9 : decode cX11_lookAt 9 = .ok (.aload_n 0, 1) := by decide +kernel
theorem dX11_lookAt_10 : decode cX11_lookAt 10 = .ok (.getfield 210, 3) := by decide +kernel
theorem dX11_lookAt_13 : decode cX11_lookAt 13 = .ok (.if_icmp .ge 30, 3) := by decide +kernel
theorem dX11_lookAt_43 : decode cX11_lookAt 43 = .ok (.aload_n 0, 1) := by decide +kernel
theorem dX11_lookAt_44 : decode cX11_lookAt 44 = .ok (.iconst 0, 1) := by decide +kernel
theorem dX11_lookAt_45 : decode cX11_lookAt 45 = .ok (.putfield 225, 3) := by decide +kernel
theorem dX11_lookAt_48 : decode cX11_lookAt 48 = .ok (.aload_n 0, 1) := by decide +kernel
theorem dX11_lookAt_49 : decode cX11_lookAt 49 = .ok (.iconst 0, 1) := by decide +kernel
theorem dX11_lookAt_50 : decode cX11_lookAt 50 = .ok (.putfield 228, 3) := by decide +kernel
theorem dX11_lookAt_53 : decode cX11_lookAt 53 = .ok (.aload_n 0, 1) := by decide +kernel
theorem dX11_lookAt_54 : decode cX11_lookAt 54 = .ok (.iconst 0, 1) := by decide +kernel
theorem dX11_lookAt_55 : decode cX11_lookAt 55 = .ok (.putfield 231, 3) := by decide +kernel
theorem dX11_lookAt_58 : decode cX11_lookAt 58 = .ok (.aload_n 0, 1) := by decide +kernel
theorem dX11_lookAt_59 : decode cX11_lookAt 59 = .ok (.getfield 222, 3) := by decide +kernel
theorem dX11_lookAt_62 : decode cX11_lookAt 62 = .ok (.aload_n 0, 1) := by decide +kernel
theorem dX11_lookAt_63 : decode cX11_lookAt 63 = .ok (.getfield 210, 3) := by decide +kernel
theorem dX11_lookAt_66 : decode cX11_lookAt 66 = .ok (.if_icmp .ne 4, 3) := by decide +kernel
theorem dX11_lookAt_69 : decode cX11_lookAt 69 = .ok (.return_, 1) := by decide +kernel
theorem dX11_spells_0 : decode cX11_spells 0 = .ok (.aload_n 0, 1) := by decide +kernel
theorem dX11_spells_1 : decode cX11_spells 1 = .ok (.getfield 228, 3) := by decide +kernel
theorem dX11_spells_4 : decode cX11_spells 4 = .ok (.iconst 1, 1) := by decide +kernel
theorem dX11_spells_5 : decode cX11_spells 5 = .ok (.if_icmp .ne 15, 3) := by decide +kernel
theorem dX11_spells_20 : decode cX11_spells 20 = .ok (.iconst 0, 1) := by decide +kernel
theorem dX11_spells_21 : decode cX11_spells 21 = .ok (.istore 8, 2) := by decide +kernel
theorem dX11_spells_23 : decode cX11_spells 23 = .ok (.iconst 0, 1) := by decide +kernel
theorem dX11_spells_24 : decode cX11_spells 24 = .ok (.istore 9, 2) := by decide +kernel
theorem dX11_spells_26 : decode cX11_spells 26 = .ok (.iload 9, 2) := by decide +kernel
theorem dX11_spells_28 : decode cX11_spells 28 = .ok (.iload_n 1, 1) := by decide +kernel
theorem dX11_spells_29 : decode cX11_spells 29 = .ok (.if_icmp .ge 90, 3) := by decide +kernel
theorem dX11_spells_32 : decode cX11_spells 32 = .ok (.iload 8, 2) := by decide +kernel
theorem dX11_spells_34 : decode cX11_spells 34 = .ok (.ifCond .eq 85, 3) := by decide +kernel
theorem dX11_spells_119 : decode cX11_spells 119 = .ok (.iload 8, 2) := by decide +kernel
theorem dX11_spells_121 : decode cX11_spells 121 = .ok (.ireturn, 1) := by decide +kernel
set_option maxRecDepth 20000 in
theorem ggX11_takesParish_X11_spells : GoodIn wsX11_takesParish wsX11_spells := goodIn_r _ [8, 3, 9, 10, 11, 42, 43, 44, 45, 46, 47, 48, 49, 50, 51, 52, 53, 54, 55, 56, 57, 58, 59] (by decide +kernel) (by decide +kernel)
set_option maxRecDepth 20000 in
theorem gX11_takesParish_X11_spells : GoodIn wsX11_takesParish (wsV RX11 247 RX11 yX11_spells wsX11_spells) := goodIn_app (goodIn_of _ (by decide +kernel)) ggX11_takesParish_X11_spells
theorem dX11_takesParish_0 : decode cX11_takesParish 0 = .ok (.aload_n 0, 1) := by decide +kernel
theorem dX11_takesParish_1 : decode cX11_takesParish 1 = .ok (.bipush 6, 2) := by decide +kernel
theorem dX11_takesParish_3 : decode cX11_takesParish 3 = .ok (.bipush 112, 2) := by decide +kernel
theorem dX11_takesParish_5 : decode cX11_takesParish 5 = .ok (.bipush 97, 2) := by decide +kernel
theorem dX11_takesParish_7 : decode cX11_takesParish 7 = .ok (.bipush 114, 2) := by decide +kernel
theorem dX11_takesParish_9 : decode cX11_takesParish 9 = .ok (.bipush 105, 2) := by decide +kernel
theorem dX11_takesParish_11 : decode cX11_takesParish 11 = .ok (.bipush 115, 2) := by decide +kernel
theorem dX11_takesParish_13 : decode cX11_takesParish 13 = .ok (.bipush 104, 2) := by decide +kernel
theorem dX11_takesParish_15 : decode cX11_takesParish 15 = .ok (.invokevirtual 247, 3) := by decide +kernel
theorem dX11_takesParish_18 : decode cX11_takesParish 18 = .ok (.ifCond .ne 5, 3) := by decide +kernel
theorem dX11_takesParish_21 : decode cX11_takesParish 21 = .ok (.iconst 0, 1) := by decide +kernel
theorem dX11_takesParish_22 : decode cX11_takesParish 22 = .ok (.ireturn, 1) := by decide +kernel
set_option maxRecDepth 20000 in
theorem ggX11_read_X11_lookAt : GoodIn wsX11_read wsX11_lookAt := goodIn_r _ [9, 1, 10, 11, 12, 2, 13, 14, 15, 8, 16, 17, 18, 19, 20, 21, 22, 23, 24, 25, 26, 91, 92, 93, 94, 95, 96, 97, 98, 99, 100, 101, 102, 103, 104, 105, 106, 107, 108] (by decide +kernel) (by decide +kernel)
set_option maxRecDepth 20000 in
theorem gX11_read_X11_lookAt : GoodIn wsX11_read (wsV RX11 240 RX11 yX11_lookAt wsX11_lookAt) := goodIn_app (goodIn_of _ (by decide +kernel)) ggX11_read_X11_lookAt
set_option maxRecDepth 20000 in
theorem ggX11_read_X11_takesParish : GoodIn wsX11_read wsX11_takesParish := goodIn_r _ [30, 4, 31, 2, 32, 33, 34, 8, 35, 12, 11, 1, 36, 37, 38, 39, 5, 6, 7, 9, 10, 13, 14, 15, 16, 17, 18, 19, 20, 21, 22, 23, 24, 25, 26, 40, 41, 42, 43, 44, 45, 46, 91, 92, 93, 94, 95, 96, 97, 98, 99, 100, 101, 102, 103, 104, 105, 106, 107, 108] (by decide +kernel) (by decide +kernel)
set_option maxRecDepth 20000 in
theorem gX11_read_X11_takesParish : GoodIn wsX11_read (wsV RX11 268 RX11 yX11_takesParish wsX11_takesParish) := goodIn_app (goodIn_of _ (by decide +kernel)) ggX11_read_X11_takesParish
theorem dX11_read_0 : decode cX11_read 0 = .ok (.aload_n 0, 1) := by decide +kernel
theorem dX11_read_1 : decode cX11_read 1 = .ok (.iconst 0, 1) := by decide +kernel
theorem dX11_read_2 : decode cX11_read 2 = .ok (.invokevirtual 240, 3) := by decide +kernel
theorem dX11_read_5 : decode cX11_read 5 = .ok (.aload_n 0, 1) := by decide +kernel
theorem dX11_read_6 : decode cX11_read 6 = .ok (.invokevirtual 268, 3) := by decide +kernel
theorem dX11_read_9 : decode cX11_read 9 = .ok (.ifCond .ne 11, 3) := by decide +kernel
theorem dX11_read_12 : decode cX11_read 12 = .ok (.bipush (-10), 2) := by decide +kernel
theorem dX11_read_14 : decode cX11_read 14 = .ok (.aload_n 0, 1) := by decide +kernel
theorem dX11_read_15 : decode cX11_read 15 = .ok (.getfield 222, 3) := by decide +kernel
theorem dX11_read_18 : decode cX11_read 18 = .ok (.isub, 1) := by decide +kernel
theorem dX11_read_19 : decode cX11_read 19 = .ok (.ireturn, 1) := by decide +kernel
set_option maxRecDepth 20000 in
theorem ggX11_part_X11_bad : GoodIn wsX11_part wsX11_bad := goodIn_r _ [7, 8, 9, 10, 11, 12, 13, 14, 15, 16, 17, 18, 19, 20, 21, 22, 23, 24, 25, 26] (by decide +kernel) (by decide +kernel)
set_option maxRecDepth 20000 in
theorem gX11_part_X11_bad : GoodIn wsX11_part (wsV RX11 73 RX11 yX11_bad wsX11_bad) := goodIn_app (goodIn_of _ (by decide +kernel)) ggX11_part_X11_bad
theorem dX11_part_0 : decode cX11_part 0 = .ok (.iload_n 1, 1) := by decide +kernel
theorem dX11_part_1 : decode cX11_part 1 = .ok (.ifCond .ne 10, 3) := by decide +kernel
theorem dX11_part_4 : decode cX11_part 4 = .ok (.aload_n 0, 1) := by decide +kernel
theorem dX11_part_5 : decode cX11_part 5 = .ok (.getfield 189, 3) := by decide +kernel
theorem dX11_part_8 : decode cX11_part 8 = .ok (.goto 22, 3) := by decide +kernel
theorem dX11_part_11 : decode cX11_part 11 = .ok (.iload_n 1, 1) := by decide +kernel
theorem dX11_part_12 : decode cX11_part 12 = .ok (.iconst 1, 1) := by decide +kernel
theorem dX11_part_13 : decode cX11_part 13 = .ok (.if_icmp .ne 10, 3) := by decide +kernel
theorem dX11_part_16 : decode cX11_part 16 = .ok (.aload_n 0, 1) := by decide +kernel
theorem dX11_part_17 : decode cX11_part 17 = .ok (.getfield 23, 3) := by decide +kernel
theorem dX11_part_20 : decode cX11_part 20 = .ok (.goto 10, 3) := by decide +kernel
theorem dX11_part_23 : decode cX11_part 23 = .ok (.aload_n 0, 1) := by decide +kernel
theorem dX11_part_24 : decode cX11_part 24 = .ok (.bipush (-2), 2) := by decide +kernel
theorem dX11_part_26 : decode cX11_part 26 = .ok (.invokevirtual 73, 3) := by decide +kernel
theorem dX11_part_29 : decode cX11_part 29 = .ok (.i2l, 1) := by decide +kernel
theorem dX11_part_30 : decode cX11_part 30 = .ok (.lreturn, 1) := by decide +kernel
set_option maxRecDepth 20000 in
theorem ggX11_image_X11_in : GoodIn wsX11_image wsX11_in := goodIn_r _ [7] (by decide +kernel) (by decide +kernel)
set_option maxRecDepth 20000 in
theorem gX11_image_X11_in : GoodIn wsX11_image (va_wsS RX11 56 yX11_in wsX11_in) := goodIn_app (goodIn_of _ (by decide +kernel)) ggX11_image_X11_in
set_option maxRecDepth 20000 in
theorem ggX11_image_X11_bad : GoodIn wsX11_image wsX11_bad := goodIn_r _ [11, 12, 13, 14, 15, 16, 17, 18, 19, 20, 21, 22, 23, 24, 25, 26, 27, 28, 29, 30] (by decide +kernel) (by decide +kernel)
set_option maxRecDepth 20000 in
theorem gX11_image_X11_bad : GoodIn wsX11_image (wsV RX11 73 RX11 yX11_bad wsX11_bad) := goodIn_app (goodIn_of _ (by decide +kernel)) ggX11_image_X11_bad
theorem dX11_image_0 : decode cX11_image 0 = .ok (.iload_n 1, 1) := by decide +kernel
theorem dX11_image_1 : decode cX11_image 1 = .ok (.i2l, 1) := by decide +kernel
theorem dX11_image_2 : decode cX11_image 2 = .ok (.lconst 0, 1) := by decide +kernel
theorem dX11_image_3 : decode cX11_image 3 = .ok (.lconst 1, 1) := by decide +kernel
theorem dX11_image_4 : decode cX11_image 4 = .ok (.invokestatic 56, 3) := by decide +kernel
theorem dX11_image_7 : decode cX11_image 7 = .ok (.ifCond .ne 10, 3) := by decide +kernel
theorem dX11_image_10 : decode cX11_image 10 = .ok (.aload_n 0, 1) := by decide +kernel
theorem dX11_image_11 : decode cX11_image 11 = .ok (.bipush (-2), 2) := by decide +kernel
theorem dX11_image_13 : decode cX11_image 13 = .ok (.invokevirtual 73, 3) := by decide +kernel
theorem dX11_image_16 : decode cX11_image 16 = .ok (.ireturn, 1) := by decide +kernel
theorem dX11_image_17 : decode cX11_image 17 = .ok (.iconst 0, 1) := by decide +kernel
theorem dX11_image_18 : decode cX11_image 18 = .ok (.istore_n 2, 1) := by decide +kernel
theorem dX11_image_19 : decode cX11_image 19 = .ok (.iload_n 2, 1) := by decide +kernel
theorem dX11_image_20 : decode cX11_image 20 = .ok (.sipush 228, 3) := by decide +kernel
theorem dX11_image_23 : decode cX11_image 23 = .ok (.if_icmp .ge 27, 3) := by decide +kernel
theorem dX11_image_26 : decode cX11_image 26 = .ok (.aload_n 0, 1) := by decide +kernel
theorem dX11_image_27 : decode cX11_image 27 = .ok (.getfield 13, 3) := by decide +kernel
theorem dX11_image_30 : decode cX11_image 30 = .ok (.sipush 228, 3) := by decide +kernel
theorem dX11_image_33 : decode cX11_image 33 = .ok (.iload_n 1, 1) := by decide +kernel
theorem dX11_image_34 : decode cX11_image 34 = .ok (.imul, 1) := by decide +kernel
theorem dX11_image_35 : decode cX11_image 35 = .ok (.iload_n 2, 1) := by decide +kernel
theorem dX11_image_36 : decode cX11_image 36 = .ok (.iadd, 1) := by decide +kernel
theorem dX11_image_37 : decode cX11_image 37 = .ok (.aload_n 0, 1) := by decide +kernel
theorem dX11_image_38 : decode cX11_image 38 = .ok (.getfield 7, 3) := by decide +kernel
theorem dX11_image_41 : decode cX11_image 41 = .ok (.iload_n 2, 1) := by decide +kernel
theorem dX11_image_42 : decode cX11_image 42 = .ok (.iaload, 1) := by decide +kernel
theorem dX11_image_43 : decode cX11_image 43 = .ok (.iastore, 1) := by decide +kernel
theorem dX11_image_44 : decode cX11_image 44 = .ok (.iinc 2 1, 3) := by decide +kernel
theorem dX11_image_47 : decode cX11_image 47 = .ok (.goto (-28), 3) := by decide +kernel
theorem dX11_image_50 : decode cX11_image 50 = .ok (.aload_n 0, 1) := by decide +kernel
theorem dX11_image_51 : decode cX11_image 51 = .ok (.getfield 16, 3) := by decide +kernel
theorem dX11_image_54 : decode cX11_image 54 = .ok (.iload_n 1, 1) := by decide +kernel
theorem dX11_image_55 : decode cX11_image 55 = .ok (.iconst 1, 1) := by decide +kernel
theorem dX11_image_56 : decode cX11_image 56 = .ok (.bastore, 1) := by decide +kernel
theorem dX11_image_57 : decode cX11_image 57 = .ok (.iconst 1, 1) := by decide +kernel
theorem dX11_image_58 : decode cX11_image 58 = .ok (.ireturn, 1) := by decide +kernel
set_option maxRecDepth 20000 in
theorem ggX11_from_X11_in : GoodIn wsX11_from wsX11_in := goodIn_r _ [7] (by decide +kernel) (by decide +kernel)
set_option maxRecDepth 20000 in
theorem gX11_from_X11_in : GoodIn wsX11_from (va_wsS RX11 56 yX11_in wsX11_in) := goodIn_app (goodIn_of _ (by decide +kernel)) ggX11_from_X11_in
set_option maxRecDepth 20000 in
theorem ggX11_from_X11_bad : GoodIn wsX11_from wsX11_bad := goodIn_r _ [11, 12, 17, 18, 19, 20, 21, 22, 23, 24, 25, 26, 27, 28, 29, 30, 31, 32, 33, 34] (by decide +kernel) (by decide +kernel)
set_option maxRecDepth 20000 in
theorem gX11_from_X11_bad : GoodIn wsX11_from (wsV RX11 73 RX11 yX11_bad wsX11_bad) := goodIn_app (goodIn_of _ (by decide +kernel)) ggX11_from_X11_bad
set_option maxRecDepth 20000 in
theorem ggX11_from_X11_no : GoodIn wsX11_from wsX11_no := goodIn_r _ [16, 12, 17, 18, 19, 20, 21, 22, 23, 24, 25, 26, 27, 28, 29, 30, 31, 32, 33, 34] (by decide +kernel) (by decide +kernel)
set_option maxRecDepth 20000 in
theorem gX11_from_X11_no : GoodIn wsX11_from (wsV RX11 119 RX11 yX11_no wsX11_no) := goodIn_app (goodIn_of _ (by decide +kernel)) ggX11_from_X11_no
theorem dX11_from_0 : decode cX11_from 0 = .ok (.iload_n 1, 1) := by decide +kernel
theorem dX11_from_1 : decode cX11_from 1 = .ok (.i2l, 1) := by decide +kernel
theorem dX11_from_2 : decode cX11_from 2 = .ok (.lconst 0, 1) := by decide +kernel
theorem dX11_from_3 : decode cX11_from 3 = .ok (.lconst 1, 1) := by decide +kernel
theorem dX11_from_4 : decode cX11_from 4 = .ok (.invokestatic 56, 3) := by decide +kernel
theorem dX11_from_7 : decode cX11_from 7 = .ok (.ifCond .ne 10, 3) := by decide +kernel
theorem dX11_from_10 : decode cX11_from 10 = .ok (.aload_n 0, 1) := by decide +kernel
theorem dX11_from_11 : decode cX11_from 11 = .ok (.bipush (-2), 2) := by decide +kernel
theorem dX11_from_13 : decode cX11_from 13 = .ok (.invokevirtual 73, 3) := by decide +kernel
theorem dX11_from_16 : decode cX11_from 16 = .ok (.ireturn, 1) := by decide +kernel
theorem dX11_from_17 : decode cX11_from 17 = .ok (.aload_n 0, 1) := by decide +kernel
theorem dX11_from_18 : decode cX11_from 18 = .ok (.getfield 16, 3) := by decide +kernel
theorem dX11_from_21 : decode cX11_from 21 = .ok (.iload_n 1, 1) := by decide +kernel
theorem dX11_from_22 : decode cX11_from 22 = .ok (.baload, 1) := by decide +kernel
theorem dX11_from_23 : decode cX11_from 23 = .ok (.ifCond .ne 8, 3) := by decide +kernel
theorem dX11_from_26 : decode cX11_from 26 = .ok (.aload_n 0, 1) := by decide +kernel
theorem dX11_from_27 : decode cX11_from 27 = .ok (.invokevirtual 119, 3) := by decide +kernel
theorem dX11_from_30 : decode cX11_from 30 = .ok (.ireturn, 1) := by decide +kernel
set_option maxRecDepth 20000 in
theorem ggX11_status_X11_in : GoodIn wsX11_status wsX11_in := goodIn_r _ [6] (by decide +kernel) (by decide +kernel)
set_option maxRecDepth 20000 in
theorem gX11_status_X11_in : GoodIn wsX11_status (va_wsS RX11 56 yX11_in wsX11_in) := goodIn_app (goodIn_of _ (by decide +kernel)) ggX11_status_X11_in
set_option maxRecDepth 20000 in
theorem ggX11_status_X11_bad : GoodIn wsX11_status wsX11_bad := goodIn_r _ [10, 2, 11, 12, 13, 14, 15, 16, 17, 18, 19, 20, 21, 22, 23, 24, 25, 26, 27, 28] (by decide +kernel) (by decide +kernel)
set_option maxRecDepth 20000 in
theorem gX11_status_X11_bad : GoodIn wsX11_status (wsV RX11 73 RX11 yX11_bad wsX11_bad) := goodIn_app (goodIn_of _ (by decide +kernel)) ggX11_status_X11_bad
theorem dX11_status_0 : decode cX11_status 0 = .ok (.iload_n 1, 1) := by decide +kernel
theorem dX11_status_1 : decode cX11_status 1 = .ok (.i2l, 1) := by decide +kernel
theorem dX11_status_2 : decode cX11_status 2 = .ok (.lconst 0, 1) := by decide +kernel
theorem dX11_status_3 : decode cX11_status 3 = .ok (.ldc2_w 136, 3) := by decide +kernel
theorem dX11_status_6 : decode cX11_status 6 = .ok (.invokestatic 56, 3) := by decide +kernel
theorem dX11_status_9 : decode cX11_status 9 = .ok (.ifCond .eq 12, 3) := by decide +kernel
theorem dX11_status_12 : decode cX11_status 12 = .ok (.aload_n 0, 1) := by decide +kernel
theorem dX11_status_13 : decode cX11_status 13 = .ok (.getfield 20, 3) := by decide +kernel
theorem dX11_status_16 : decode cX11_status 16 = .ok (.iload_n 1, 1) := by decide +kernel
theorem dX11_status_17 : decode cX11_status 17 = .ok (.iaload, 1) := by decide +kernel
theorem dX11_status_18 : decode cX11_status 18 = .ok (.goto 8, 3) := by decide +kernel
theorem dX11_status_21 : decode cX11_status 21 = .ok (.aload_n 0, 1) := by decide +kernel
theorem dX11_status_22 : decode cX11_status 22 = .ok (.iconst (-1), 1) := by decide +kernel
theorem dX11_status_23 : decode cX11_status 23 = .ok (.invokevirtual 73, 3) := by decide +kernel
theorem dX11_status_26 : decode cX11_status 26 = .ok (.ireturn, 1) := by decide +kernel
set_option maxRecDepth 20000 in
theorem ggX11_counted_X11_many : GoodIn wsX11_counted wsX11_many := goodIn_r _ [7, 1, 12, 13, 14, 15, 16, 17, 18, 19, 20, 21, 22, 23, 24, 25, 26, 27, 28, 29] (by decide +kernel) (by decide +kernel)
set_option maxRecDepth 20000 in
theorem gX11_counted_X11_many : GoodIn wsX11_counted (wsV RX11 52 RX11 yX11_many wsX11_many) := goodIn_app (goodIn_of _ (by decide +kernel)) ggX11_counted_X11_many
set_option maxRecDepth 20000 in
theorem ggX11_counted_X11_manyGleaners : GoodIn wsX11_counted wsX11_manyGleaners := goodIn_r _ [11, 1, 12, 13, 14, 15, 16, 17, 18, 19, 20, 21, 22, 23, 24, 25, 26, 27, 28, 29] (by decide +kernel) (by decide +kernel)
set_option maxRecDepth 20000 in
theorem gX11_counted_X11_manyGleaners : GoodIn wsX11_counted (wsV RX11 60 RX11 yX11_manyGleaners wsX11_manyGleaners) := goodIn_app (goodIn_of _ (by decide +kernel)) ggX11_counted_X11_manyGleaners
theorem dX11_counted_0 : decode cX11_counted 0 = .ok (.iload_n 1, 1) := by decide +kernel
theorem dX11_counted_1 : decode cX11_counted 1 = .ok (.tableswitch 102 0 7 #[47, 52, 57, 65, 73, 81, 88, 95], 47) := by decide +kernel
theorem dX11_counted_48 : decode cX11_counted 48 = .ok (.aload_n 0, 1) := by decide +kernel
theorem dX11_counted_49 : decode cX11_counted 49 = .ok (.invokevirtual 52, 3) := by decide +kernel
theorem dX11_counted_52 : decode cX11_counted 52 = .ok (.ireturn, 1) := by decide +kernel
theorem dX11_counted_53 : decode cX11_counted 53 = .ok (.aload_n 0, 1) := by decide +kernel
theorem dX11_counted_54 : decode cX11_counted 54 = .ok (.invokevirtual 60, 3) := by decide +kernel
theorem dX11_counted_57 : decode cX11_counted 57 = .ok (.ireturn, 1) := by decide +kernel
theorem dX11_counted_58 : decode cX11_counted 58 = .ok (.aload_n 0, 1) := by decide +kernel
theorem dX11_counted_59 : decode cX11_counted 59 = .ok (.getfield 7, 3) := by decide +kernel
theorem dX11_counted_62 : decode cX11_counted 62 = .ok (.bipush 21, 2) := by decide +kernel
theorem dX11_counted_64 : decode cX11_counted 64 = .ok (.iaload, 1) := by decide +kernel
theorem dX11_counted_65 : decode cX11_counted 65 = .ok (.ireturn, 1) := by decide +kernel
theorem dX11_counted_66 : decode cX11_counted 66 = .ok (.aload_n 0, 1) := by decide +kernel
theorem dX11_counted_67 : decode cX11_counted 67 = .ok (.getfield 7, 3) := by decide +kernel
theorem dX11_counted_70 : decode cX11_counted 70 = .ok (.bipush 22, 2) := by decide +kernel
theorem dX11_counted_72 : decode cX11_counted 72 = .ok (.iaload, 1) := by decide +kernel
theorem dX11_counted_73 : decode cX11_counted 73 = .ok (.ireturn, 1) := by decide +kernel
theorem dX11_counted_74 : decode cX11_counted 74 = .ok (.aload_n 0, 1) := by decide +kernel
theorem dX11_counted_75 : decode cX11_counted 75 = .ok (.getfield 7, 3) := by decide +kernel
theorem dX11_counted_78 : decode cX11_counted 78 = .ok (.bipush 23, 2) := by decide +kernel
theorem dX11_counted_80 : decode cX11_counted 80 = .ok (.iaload, 1) := by decide +kernel
theorem dX11_counted_81 : decode cX11_counted 81 = .ok (.ireturn, 1) := by decide +kernel
theorem dX11_counted_82 : decode cX11_counted 82 = .ok (.aload_n 0, 1) := by decide +kernel
theorem dX11_counted_83 : decode cX11_counted 83 = .ok (.getfield 7, 3) := by decide +kernel
theorem dX11_counted_86 : decode cX11_counted 86 = .ok (.iconst 2, 1) := by decide +kernel
theorem dX11_counted_87 : decode cX11_counted 87 = .ok (.iaload, 1) := by decide +kernel
theorem dX11_counted_88 : decode cX11_counted 88 = .ok (.ireturn, 1) := by decide +kernel
theorem dX11_counted_89 : decode cX11_counted 89 = .ok (.aload_n 0, 1) := by decide +kernel
theorem dX11_counted_90 : decode cX11_counted 90 = .ok (.getfield 7, 3) := by decide +kernel
theorem dX11_counted_93 : decode cX11_counted 93 = .ok (.iconst 3, 1) := by decide +kernel
theorem dX11_counted_94 : decode cX11_counted 94 = .ok (.iaload, 1) := by decide +kernel
theorem dX11_counted_95 : decode cX11_counted 95 = .ok (.ireturn, 1) := by decide +kernel
theorem dX11_counted_96 : decode cX11_counted 96 = .ok (.aload_n 0, 1) := by decide +kernel
theorem dX11_counted_97 : decode cX11_counted 97 = .ok (.getfield 7, 3) := by decide +kernel
theorem dX11_counted_100 : decode cX11_counted 100 = .ok (.iconst 4, 1) := by decide +kernel
theorem dX11_counted_101 : decode cX11_counted 101 = .ok (.iaload, 1) := by decide +kernel
theorem dX11_counted_102 : decode cX11_counted 102 = .ok (.ireturn, 1) := by decide +kernel
theorem dX11_counted_103 : decode cX11_counted 103 = .ok (.aload_n 0, 1) := by decide +kernel
theorem dX11_counted_104 : decode cX11_counted 104 = .ok (.getfield 210, 3) := by decide +kernel
theorem dX11_counted_107 : decode cX11_counted 107 = .ok (.ireturn, 1) := by decide +kernel
set_option maxRecDepth 20000 in
theorem ggX11_count_X11_in : GoodIn wsX11_count wsX11_in := goodIn_r _ [5] (by decide +kernel) (by decide +kernel)
set_option maxRecDepth 20000 in
theorem gX11_count_X11_in : GoodIn wsX11_count (va_wsS RX11 56 yX11_in wsX11_in) := goodIn_app (goodIn_of _ (by decide +kernel)) ggX11_count_X11_in
set_option maxRecDepth 20000 in
theorem ggX11_count_X11_counted : GoodIn wsX11_count wsX11_counted := goodIn_r _ [9, 10, 11, 12, 13, 14, 4, 15, 16, 17, 18, 19, 25, 26, 27, 28, 29, 30, 31, 32, 33, 34, 35, 36, 37, 38, 39, 40, 41, 42] (by decide +kernel) (by decide +kernel)
set_option maxRecDepth 20000 in
theorem gX11_count_X11_counted : GoodIn wsX11_count (wsV RX11 276 RX11 yX11_counted wsX11_counted) := goodIn_app (goodIn_of _ (by decide +kernel)) ggX11_count_X11_counted
set_option maxRecDepth 20000 in
theorem ggX11_count_X11_bad : GoodIn wsX11_count wsX11_bad := goodIn_r _ [23, 24, 25, 26, 27, 28, 29, 30, 31, 32, 33, 34, 35, 36, 37, 38, 39, 40, 41, 42] (by decide +kernel) (by decide +kernel)
set_option maxRecDepth 20000 in
theorem gX11_count_X11_bad : GoodIn wsX11_count (wsV RX11 73 RX11 yX11_bad wsX11_bad) := goodIn_app (goodIn_of _ (by decide +kernel)) ggX11_count_X11_bad
theorem dX11_count_0 : decode cX11_count 0 = .ok (.iload_n 1, 1) := by decide +kernel
theorem dX11_count_1 : decode cX11_count 1 = .ok (.i2l, 1) := by decide +kernel
theorem dX11_count_2 : decode cX11_count 2 = .ok (.lconst 0, 1) := by decide +kernel
theorem dX11_count_3 : decode cX11_count 3 = .ok (.ldc2_w 274, 3) := by decide +kernel
theorem dX11_count_6 : decode cX11_count 6 = .ok (.invokestatic 56, 3) := by decide +kernel
theorem dX11_count_9 : decode cX11_count 9 = .ok (.ifCond .eq 11, 3) := by decide +kernel
theorem dX11_count_12 : decode cX11_count 12 = .ok (.aload_n 0, 1) := by decide +kernel
theorem dX11_count_13 : decode cX11_count 13 = .ok (.iload_n 1, 1) := by decide +kernel
theorem dX11_count_14 : decode cX11_count 14 = .ok (.invokevirtual 276, 3) := by decide +kernel
theorem dX11_count_17 : decode cX11_count 17 = .ok (.goto 9, 3) := by decide +kernel
theorem dX11_count_20 : decode cX11_count 20 = .ok (.aload_n 0, 1) := by decide +kernel
theorem dX11_count_21 : decode cX11_count 21 = .ok (.bipush (-2), 2) := by decide +kernel
theorem dX11_count_23 : decode cX11_count 23 = .ok (.invokevirtual 73, 3) := by decide +kernel
theorem dX11_count_26 : decode cX11_count 26 = .ok (.ireturn, 1) := by decide +kernel
theorem dX11_sums_0 : decode cX11_sums 0 = .ok (.lload_n 1, 1) := by decide +kernel
theorem dX11_sums_1 : decode cX11_sums 1 = .ok (.lstore 5, 2) := by decide +kernel
theorem dX11_sums_3 : decode cX11_sums 3 = .ok (.iconst 0, 1) := by decide +kernel
theorem dX11_sums_4 : decode cX11_sums 4 = .ok (.istore 7, 2) := by decide +kernel
theorem dX11_sums_6 : decode cX11_sums 6 = .ok (.iload 7, 2) := by decide +kernel
theorem dX11_sums_8 : decode cX11_sums 8 = .ok (.iload 4, 2) := by decide +kernel
theorem dX11_sums_10 : decode cX11_sums 10 = .ok (.if_icmp .ge 28, 3) := by decide +kernel
theorem dX11_sums_38 : decode cX11_sums 38 = .ok (.lload 5, 2) := by decide +kernel
theorem dX11_sums_40 : decode cX11_sums 40 = .ok (.lreturn, 1) := by decide +kernel
set_option maxRecDepth 20000 in
theorem ggX11_digest_X11_counted : GoodIn wsX11_digest wsX11_counted := goodIn_r _ [10, 3, 11, 12, 13, 14, 9, 15, 16, 17, 18, 19, 24, 25, 26, 27, 28, 29, 30, 31, 32, 33, 34, 35, 36, 37, 38, 39, 40, 41] (by decide +kernel) (by decide +kernel)
set_option maxRecDepth 20000 in
theorem gX11_digest_X11_counted : GoodIn wsX11_digest (wsV RX11 276 RX11 yX11_counted wsX11_counted) := goodIn_app (goodIn_of _ (by decide +kernel)) ggX11_digest_X11_counted
set_option maxRecDepth 20000 in
theorem ggX11_digest_X11_many : GoodIn wsX11_digest wsX11_many := goodIn_r _ [15, 3, 24, 25, 26, 27, 28, 29, 30, 31, 32, 33, 34, 35, 36, 37, 38, 39, 40, 41] (by decide +kernel) (by decide +kernel)
set_option maxRecDepth 20000 in
theorem gX11_digest_X11_many : GoodIn wsX11_digest (wsV RX11 52 RX11 yX11_many wsX11_many) := goodIn_app (goodIn_of _ (by decide +kernel)) ggX11_digest_X11_many
set_option maxRecDepth 20000 in
theorem ggX11_digest_X11_manyGleaners : GoodIn wsX11_digest wsX11_manyGleaners := goodIn_r _ [19, 3, 24, 25, 26, 27, 28, 29, 30, 31, 32, 33, 34, 35, 36, 37, 38, 39, 40, 41] (by decide +kernel) (by decide +kernel)
set_option maxRecDepth 20000 in
theorem gX11_digest_X11_manyGleaners : GoodIn wsX11_digest (wsV RX11 60 RX11 yX11_manyGleaners wsX11_manyGleaners) := goodIn_app (goodIn_of _ (by decide +kernel)) ggX11_digest_X11_manyGleaners
set_option maxRecDepth 20000 in
theorem ggX11_digest_X11_sums : GoodIn wsX11_digest wsX11_sums := goodIn_r _ [23, 2, 3, 24, 25, 26, 27, 28, 29, 30, 31, 32, 33, 34, 35, 36, 37, 38, 39, 40, 41] (by decide +kernel) (by decide +kernel)
set_option maxRecDepth 20000 in
theorem gX11_digest_X11_sums : GoodIn wsX11_digest (wsV RX11 283 RX11 yX11_sums wsX11_sums) := goodIn_app (goodIn_of _ (by decide +kernel)) ggX11_digest_X11_sums
theorem dX11_digest_0 : decode cX11_digest 0 = .ok (.ldc2_w 281, 3) := by decide +kernel
theorem dX11_digest_3 : decode cX11_digest 3 = .ok (.lstore_n 1, 1) := by decide +kernel
theorem dX11_digest_4 : decode cX11_digest 4 = .ok (.iconst 0, 1) := by decide +kernel
theorem dX11_digest_5 : decode cX11_digest 5 = .ok (.istore_n 3, 1) := by decide +kernel
theorem dX11_digest_6 : decode cX11_digest 6 = .ok (.iload_n 3, 1) := by decide +kernel
theorem dX11_digest_7 : decode cX11_digest 7 = .ok (.bipush 9, 2) := by decide +kernel
theorem dX11_digest_9 : decode cX11_digest 9 = .ok (.if_icmp .ge 22, 3) := by decide +kernel
theorem dX11_digest_12 : decode cX11_digest 12 = .ok (.ldc2_w 279, 3) := by decide +kernel
theorem dX11_digest_15 : decode cX11_digest 15 = .ok (.lload_n 1, 1) := by decide +kernel
theorem dX11_digest_16 : decode cX11_digest 16 = .ok (.lmul, 1) := by decide +kernel
theorem dX11_digest_17 : decode cX11_digest 17 = .ok (.aload_n 0, 1) := by decide +kernel
theorem dX11_digest_18 : decode cX11_digest 18 = .ok (.iload_n 3, 1) := by decide +kernel
theorem dX11_digest_19 : decode cX11_digest 19 = .ok (.invokevirtual 276, 3) := by decide +kernel
theorem dX11_digest_22 : decode cX11_digest 22 = .ok (.i2l, 1) := by decide +kernel
theorem dX11_digest_23 : decode cX11_digest 23 = .ok (.ladd, 1) := by decide +kernel
theorem dX11_digest_24 : decode cX11_digest 24 = .ok (.lstore_n 1, 1) := by decide +kernel
theorem dX11_digest_25 : decode cX11_digest 25 = .ok (.iinc 3 1, 3) := by decide +kernel
theorem dX11_digest_28 : decode cX11_digest 28 = .ok (.goto (-22), 3) := by decide +kernel
theorem dX11_digest_31 : decode cX11_digest 31 = .ok (.iconst 0, 1) := by decide +kernel
theorem dX11_digest_32 : decode cX11_digest 32 = .ok (.istore_n 3, 1) := by decide +kernel
theorem dX11_digest_33 : decode cX11_digest 33 = .ok (.iload_n 3, 1) := by decide +kernel
theorem dX11_digest_34 : decode cX11_digest 34 = .ok (.aload_n 0, 1) := by decide +kernel
theorem dX11_digest_35 : decode cX11_digest 35 = .ok (.invokevirtual 52, 3) := by decide +kernel
theorem dX11_digest_38 : decode cX11_digest 38 = .ok (.if_icmp .ge 40, 3) := by decide +kernel
theorem dX11_digest_78 : decode cX11_digest 78 = .ok (.iconst 0, 1) := by decide +kernel
theorem dX11_digest_79 : decode cX11_digest 79 = .ok (.istore_n 3, 1) := by decide +kernel
theorem dX11_digest_80 : decode cX11_digest 80 = .ok (.iload_n 3, 1) := by decide +kernel
theorem dX11_digest_81 : decode cX11_digest 81 = .ok (.aload_n 0, 1) := by decide +kernel
theorem dX11_digest_82 : decode cX11_digest 82 = .ok (.invokevirtual 60, 3) := by decide +kernel
theorem dX11_digest_85 : decode cX11_digest 85 = .ok (.if_icmp .ge 41, 3) := by decide +kernel
theorem dX11_digest_126 : decode cX11_digest 126 = .ok (.aload_n 0, 1) := by decide +kernel
theorem dX11_digest_127 : decode cX11_digest 127 = .ok (.lload_n 1, 1) := by decide +kernel
theorem dX11_digest_128 : decode cX11_digest 128 = .ok (.bipush 30, 2) := by decide +kernel
theorem dX11_digest_130 : decode cX11_digest 130 = .ok (.iconst 4, 1) := by decide +kernel
theorem dX11_digest_131 : decode cX11_digest 131 = .ok (.aload_n 0, 1) := by decide +kernel
theorem dX11_digest_132 : decode cX11_digest 132 = .ok (.getfield 7, 3) := by decide +kernel
theorem dX11_digest_135 : decode cX11_digest 135 = .ok (.iconst 2, 1) := by decide +kernel
theorem dX11_digest_136 : decode cX11_digest 136 = .ok (.iaload, 1) := by decide +kernel
theorem dX11_digest_137 : decode cX11_digest 137 = .ok (.imul, 1) := by decide +kernel
theorem dX11_digest_138 : decode cX11_digest 138 = .ok (.invokevirtual 283, 3) := by decide +kernel
theorem dX11_digest_141 : decode cX11_digest 141 = .ok (.lstore_n 1, 1) := by decide +kernel
theorem dX11_digest_142 : decode cX11_digest 142 = .ok (.aload_n 0, 1) := by decide +kernel
theorem dX11_digest_143 : decode cX11_digest 143 = .ok (.lload_n 1, 1) := by decide +kernel
theorem dX11_digest_144 : decode cX11_digest 144 = .ok (.bipush 46, 2) := by decide +kernel
theorem dX11_digest_146 : decode cX11_digest 146 = .ok (.iconst 5, 1) := by decide +kernel
theorem dX11_digest_147 : decode cX11_digest 147 = .ok (.aload_n 0, 1) := by decide +kernel
theorem dX11_digest_148 : decode cX11_digest 148 = .ok (.getfield 7, 3) := by decide +kernel
theorem dX11_digest_151 : decode cX11_digest 151 = .ok (.iconst 3, 1) := by decide +kernel
theorem dX11_digest_152 : decode cX11_digest 152 = .ok (.iaload, 1) := by decide +kernel
theorem dX11_digest_153 : decode cX11_digest 153 = .ok (.imul, 1) := by decide +kernel
theorem dX11_digest_154 : decode cX11_digest 154 = .ok (.invokevirtual 283, 3) := by decide +kernel
theorem dX11_digest_157 : decode cX11_digest 157 = .ok (.lstore_n 1, 1) := by decide +kernel
theorem dX11_digest_158 : decode cX11_digest 158 = .ok (.ldc2_w 279, 3) := by decide +kernel
theorem dX11_digest_161 : decode cX11_digest 161 = .ok (.ldc2_w 279, 3) := by decide +kernel
theorem dX11_digest_164 : decode cX11_digest 164 = .ok (.lload_n 1, 1) := by decide +kernel
theorem dX11_digest_165 : decode cX11_digest 165 = .ok (.lmul, 1) := by decide +kernel
theorem dX11_digest_166 : decode cX11_digest 166 = .ok (.aload_n 0, 1) := by decide +kernel
theorem dX11_digest_167 : decode cX11_digest 167 = .ok (.getfield 189, 3) := by decide +kernel
theorem dX11_digest_170 : decode cX11_digest 170 = .ok (.ladd, 1) := by decide +kernel
theorem dX11_digest_171 : decode cX11_digest 171 = .ok (.lmul, 1) := by decide +kernel
theorem dX11_digest_172 : decode cX11_digest 172 = .ok (.aload_n 0, 1) := by decide +kernel
theorem dX11_digest_173 : decode cX11_digest 173 = .ok (.getfield 23, 3) := by decide +kernel
theorem dX11_digest_176 : decode cX11_digest 176 = .ok (.ladd, 1) := by decide +kernel
theorem dX11_digest_177 : decode cX11_digest 177 = .ok (.lreturn, 1) := by decide +kernel
theorem dL_law_0 : decode cL_law 0 = .ok (.new 7, 3) := by decide +kernel
theorem dL_law_3 : decode cL_law 3 = .ok (.dup, 1) := by decide +kernel
theorem dL_law_4 : decode cL_law 4 = .ok (.invokespecial 9, 3) := by decide +kernel
theorem dL_law_7 : decode cL_law 7 = .ok (.astore_n 1, 1) := by decide +kernel
theorem dL_law_8 : decode cL_law 8 = .ok (.new 10, 3) := by decide +kernel
theorem dL_law_11 : decode cL_law 11 = .ok (.dup, 1) := by decide +kernel
theorem dL_law_12 : decode cL_law 12 = .ok (.invokespecial 12, 3) := by decide +kernel
theorem dL_law_15 : decode cL_law 15 = .ok (.astore_n 2, 1) := by decide +kernel
theorem dL_law_16 : decode cL_law 16 = .ok (.iconst 0, 1) := by decide +kernel
theorem dL_law_17 : decode cL_law 17 = .ok (.istore_n 3, 1) := by decide +kernel
theorem dL_law_18 : decode cL_law 18 = .ok (.iload_n 3, 1) := by decide +kernel
theorem dL_law_19 : decode cL_law 19 = .ok (.aload_n 0, 1) := by decide +kernel
theorem dL_law_20 : decode cL_law 20 = .ok (.arraylength, 1) := by decide +kernel
theorem dL_law_21 : decode cL_law 21 = .ok (.bipush 6, 2) := by decide +kernel
theorem dL_law_23 : decode cL_law 23 = .ok (.isub, 1) := by decide +kernel
theorem dL_law_24 : decode cL_law 24 = .ok (.if_icmp .gt 1127, 3) := by decide +kernel
theorem dL_law_27 : decode cL_law 27 = .ok (.aload_n 0, 1) := by decide +kernel
theorem dL_law_28 : decode cL_law 28 = .ok (.iload_n 3, 1) := by decide +kernel
theorem dL_law_29 : decode cL_law 29 = .ok (.iaload, 1) := by decide +kernel
theorem dL_law_30 : decode cL_law 30 = .ok (.bipush 63, 2) := by decide +kernel
theorem dL_law_32 : decode cL_law 32 = .ok (.iand, 1) := by decide +kernel
theorem dL_law_33 : decode cL_law 33 = .ok (.tableswitch 1112 0 34 #[155, 178, 211, 234, 257, 270, 283, 306, 319, 352, 375, 388, 421, 454, 487, 520, 563, 596, 619, 652, 675, 728, 741, 804, 827, 850, 873, 916, 949, 982, 1006, 1029, 1052, 1075, 1098], 155) := by decide +kernel
theorem dL_law_188 : decode cL_law 188 = .ok (.aload_n 1, 1) := by decide +kernel
theorem dL_law_189 : decode cL_law 189 = .ok (.aload_n 0, 1) := by decide +kernel
theorem dL_law_190 : decode cL_law 190 = .ok (.iload_n 3, 1) := by decide +kernel
theorem dL_law_191 : decode cL_law 191 = .ok (.iconst 1, 1) := by decide +kernel
theorem dL_law_192 : decode cL_law 192 = .ok (.iadd, 1) := by decide +kernel
theorem dL_law_193 : decode cL_law 193 = .ok (.iaload, 1) := by decide +kernel
theorem dL_law_194 : decode cL_law 194 = .ok (.invokevirtual 13, 3) := by decide +kernel
theorem dL_law_197 : decode cL_law 197 = .ok (.aload_n 2, 1) := by decide +kernel
theorem dL_law_198 : decode cL_law 198 = .ok (.aload_n 0, 1) := by decide +kernel
theorem dL_law_199 : decode cL_law 199 = .ok (.iload_n 3, 1) := by decide +kernel
theorem dL_law_200 : decode cL_law 200 = .ok (.iconst 1, 1) := by decide +kernel
theorem dL_law_201 : decode cL_law 201 = .ok (.iadd, 1) := by decide +kernel
theorem dL_law_202 : decode cL_law 202 = .ok (.iaload, 1) := by decide +kernel
theorem dL_law_203 : decode cL_law 203 = .ok (.invokevirtual 17, 3) := by decide +kernel
theorem dL_law_206 : decode cL_law 206 = .ok (.if_icmp .eq 939, 3) := by decide +kernel
theorem dL_law_211 : decode cL_law 211 = .ok (.aload_n 1, 1) := by decide +kernel
theorem dL_law_212 : decode cL_law 212 = .ok (.aload_n 0, 1) := by decide +kernel
theorem dL_law_213 : decode cL_law 213 = .ok (.iload_n 3, 1) := by decide +kernel
theorem dL_law_214 : decode cL_law 214 = .ok (.iconst 1, 1) := by decide +kernel
theorem dL_law_215 : decode cL_law 215 = .ok (.iadd, 1) := by decide +kernel
theorem dL_law_216 : decode cL_law 216 = .ok (.iaload, 1) := by decide +kernel
theorem dL_law_217 : decode cL_law 217 = .ok (.aload_n 0, 1) := by decide +kernel
theorem dL_law_218 : decode cL_law 218 = .ok (.iload_n 3, 1) := by decide +kernel
theorem dL_law_219 : decode cL_law 219 = .ok (.iconst 2, 1) := by decide +kernel
theorem dL_law_220 : decode cL_law 220 = .ok (.iadd, 1) := by decide +kernel
theorem dL_law_221 : decode cL_law 221 = .ok (.iaload, 1) := by decide +kernel
theorem dL_law_222 : decode cL_law 222 = .ok (.invokevirtual 18, 3) := by decide +kernel
theorem dL_law_225 : decode cL_law 225 = .ok (.aload_n 2, 1) := by decide +kernel
theorem dL_law_226 : decode cL_law 226 = .ok (.aload_n 0, 1) := by decide +kernel
theorem dL_law_227 : decode cL_law 227 = .ok (.iload_n 3, 1) := by decide +kernel
theorem dL_law_228 : decode cL_law 228 = .ok (.iconst 1, 1) := by decide +kernel
theorem dL_law_229 : decode cL_law 229 = .ok (.iadd, 1) := by decide +kernel
theorem dL_law_230 : decode cL_law 230 = .ok (.iaload, 1) := by decide +kernel
theorem dL_law_231 : decode cL_law 231 = .ok (.aload_n 0, 1) := by decide +kernel
theorem dL_law_232 : decode cL_law 232 = .ok (.iload_n 3, 1) := by decide +kernel
theorem dL_law_233 : decode cL_law 233 = .ok (.iconst 2, 1) := by decide +kernel
theorem dL_law_234 : decode cL_law 234 = .ok (.iadd, 1) := by decide +kernel
theorem dL_law_235 : decode cL_law 235 = .ok (.iaload, 1) := by decide +kernel
theorem dL_law_236 : decode cL_law 236 = .ok (.invokevirtual 22, 3) := by decide +kernel
theorem dL_law_239 : decode cL_law 239 = .ok (.if_icmp .eq 906, 3) := by decide +kernel
theorem dL_law_244 : decode cL_law 244 = .ok (.aload_n 1, 1) := by decide +kernel
theorem dL_law_245 : decode cL_law 245 = .ok (.aload_n 0, 1) := by decide +kernel
theorem dL_law_246 : decode cL_law 246 = .ok (.iload_n 3, 1) := by decide +kernel
theorem dL_law_247 : decode cL_law 247 = .ok (.iconst 1, 1) := by decide +kernel
theorem dL_law_248 : decode cL_law 248 = .ok (.iadd, 1) := by decide +kernel
theorem dL_law_249 : decode cL_law 249 = .ok (.iaload, 1) := by decide +kernel
theorem dL_law_250 : decode cL_law 250 = .ok (.invokevirtual 23, 3) := by decide +kernel
theorem dL_law_253 : decode cL_law 253 = .ok (.aload_n 2, 1) := by decide +kernel
theorem dL_law_254 : decode cL_law 254 = .ok (.aload_n 0, 1) := by decide +kernel
theorem dL_law_255 : decode cL_law 255 = .ok (.iload_n 3, 1) := by decide +kernel
theorem dL_law_256 : decode cL_law 256 = .ok (.iconst 1, 1) := by decide +kernel
theorem dL_law_257 : decode cL_law 257 = .ok (.iadd, 1) := by decide +kernel
theorem dL_law_258 : decode cL_law 258 = .ok (.iaload, 1) := by decide +kernel
theorem dL_law_259 : decode cL_law 259 = .ok (.invokevirtual 26, 3) := by decide +kernel
theorem dL_law_262 : decode cL_law 262 = .ok (.if_icmp .eq 883, 3) := by decide +kernel
theorem dL_law_267 : decode cL_law 267 = .ok (.aload_n 1, 1) := by decide +kernel
theorem dL_law_268 : decode cL_law 268 = .ok (.aload_n 0, 1) := by decide +kernel
theorem dL_law_269 : decode cL_law 269 = .ok (.iload_n 3, 1) := by decide +kernel
theorem dL_law_270 : decode cL_law 270 = .ok (.iconst 1, 1) := by decide +kernel
theorem dL_law_271 : decode cL_law 271 = .ok (.iadd, 1) := by decide +kernel
theorem dL_law_272 : decode cL_law 272 = .ok (.iaload, 1) := by decide +kernel
theorem dL_law_273 : decode cL_law 273 = .ok (.invokevirtual 27, 3) := by decide +kernel
theorem dL_law_276 : decode cL_law 276 = .ok (.aload_n 2, 1) := by decide +kernel
theorem dL_law_277 : decode cL_law 277 = .ok (.aload_n 0, 1) := by decide +kernel
theorem dL_law_278 : decode cL_law 278 = .ok (.iload_n 3, 1) := by decide +kernel
theorem dL_law_279 : decode cL_law 279 = .ok (.iconst 1, 1) := by decide +kernel
theorem dL_law_280 : decode cL_law 280 = .ok (.iadd, 1) := by decide +kernel
theorem dL_law_281 : decode cL_law 281 = .ok (.iaload, 1) := by decide +kernel
theorem dL_law_282 : decode cL_law 282 = .ok (.invokevirtual 30, 3) := by decide +kernel
theorem dL_law_285 : decode cL_law 285 = .ok (.if_icmp .eq 860, 3) := by decide +kernel
theorem dL_law_290 : decode cL_law 290 = .ok (.aload_n 1, 1) := by decide +kernel
theorem dL_law_291 : decode cL_law 291 = .ok (.invokevirtual 31, 3) := by decide +kernel
theorem dL_law_294 : decode cL_law 294 = .ok (.aload_n 2, 1) := by decide +kernel
theorem dL_law_295 : decode cL_law 295 = .ok (.invokevirtual 35, 3) := by decide +kernel
theorem dL_law_298 : decode cL_law 298 = .ok (.if_icmp .eq 847, 3) := by decide +kernel
theorem dL_law_303 : decode cL_law 303 = .ok (.aload_n 1, 1) := by decide +kernel
theorem dL_law_304 : decode cL_law 304 = .ok (.invokevirtual 36, 3) := by decide +kernel
theorem dL_law_307 : decode cL_law 307 = .ok (.aload_n 2, 1) := by decide +kernel
theorem dL_law_308 : decode cL_law 308 = .ok (.invokevirtual 39, 3) := by decide +kernel
theorem dL_law_311 : decode cL_law 311 = .ok (.if_icmp .eq 834, 3) := by decide +kernel
theorem dL_law_316 : decode cL_law 316 = .ok (.aload_n 1, 1) := by decide +kernel
theorem dL_law_317 : decode cL_law 317 = .ok (.aload_n 0, 1) := by decide +kernel
theorem dL_law_318 : decode cL_law 318 = .ok (.iload_n 3, 1) := by decide +kernel
theorem dL_law_319 : decode cL_law 319 = .ok (.iconst 1, 1) := by decide +kernel
theorem dL_law_320 : decode cL_law 320 = .ok (.iadd, 1) := by decide +kernel
theorem dL_law_321 : decode cL_law 321 = .ok (.iaload, 1) := by decide +kernel
theorem dL_law_322 : decode cL_law 322 = .ok (.invokevirtual 40, 3) := by decide +kernel
theorem dL_law_325 : decode cL_law 325 = .ok (.aload_n 2, 1) := by decide +kernel
theorem dL_law_326 : decode cL_law 326 = .ok (.aload_n 0, 1) := by decide +kernel
theorem dL_law_327 : decode cL_law 327 = .ok (.iload_n 3, 1) := by decide +kernel
theorem dL_law_328 : decode cL_law 328 = .ok (.iconst 1, 1) := by decide +kernel
theorem dL_law_329 : decode cL_law 329 = .ok (.iadd, 1) := by decide +kernel
theorem dL_law_330 : decode cL_law 330 = .ok (.iaload, 1) := by decide +kernel
theorem dL_law_331 : decode cL_law 331 = .ok (.invokevirtual 43, 3) := by decide +kernel
theorem dL_law_334 : decode cL_law 334 = .ok (.if_icmp .eq 811, 3) := by decide +kernel
theorem dL_law_339 : decode cL_law 339 = .ok (.aload_n 1, 1) := by decide +kernel
theorem dL_law_340 : decode cL_law 340 = .ok (.invokevirtual 44, 3) := by decide +kernel
theorem dL_law_343 : decode cL_law 343 = .ok (.aload_n 2, 1) := by decide +kernel
theorem dL_law_344 : decode cL_law 344 = .ok (.invokevirtual 47, 3) := by decide +kernel
theorem dL_law_347 : decode cL_law 347 = .ok (.if_icmp .eq 798, 3) := by decide +kernel
theorem dL_law_352 : decode cL_law 352 = .ok (.aload_n 1, 1) := by decide +kernel
theorem dL_law_353 : decode cL_law 353 = .ok (.aload_n 0, 1) := by decide +kernel
theorem dL_law_354 : decode cL_law 354 = .ok (.iload_n 3, 1) := by decide +kernel
theorem dL_law_355 : decode cL_law 355 = .ok (.iconst 1, 1) := by decide +kernel
theorem dL_law_356 : decode cL_law 356 = .ok (.iadd, 1) := by decide +kernel
theorem dL_law_357 : decode cL_law 357 = .ok (.iaload, 1) := by decide +kernel
theorem dL_law_358 : decode cL_law 358 = .ok (.aload_n 0, 1) := by decide +kernel
theorem dL_law_359 : decode cL_law 359 = .ok (.iload_n 3, 1) := by decide +kernel
theorem dL_law_360 : decode cL_law 360 = .ok (.iconst 2, 1) := by decide +kernel
theorem dL_law_361 : decode cL_law 361 = .ok (.iadd, 1) := by decide +kernel
theorem dL_law_362 : decode cL_law 362 = .ok (.iaload, 1) := by decide +kernel
theorem dL_law_363 : decode cL_law 363 = .ok (.invokevirtual 48, 3) := by decide +kernel
theorem dL_law_366 : decode cL_law 366 = .ok (.aload_n 2, 1) := by decide +kernel
theorem dL_law_367 : decode cL_law 367 = .ok (.aload_n 0, 1) := by decide +kernel
theorem dL_law_368 : decode cL_law 368 = .ok (.iload_n 3, 1) := by decide +kernel
theorem dL_law_369 : decode cL_law 369 = .ok (.iconst 1, 1) := by decide +kernel
theorem dL_law_370 : decode cL_law 370 = .ok (.iadd, 1) := by decide +kernel
theorem dL_law_371 : decode cL_law 371 = .ok (.iaload, 1) := by decide +kernel
theorem dL_law_372 : decode cL_law 372 = .ok (.aload_n 0, 1) := by decide +kernel
theorem dL_law_373 : decode cL_law 373 = .ok (.iload_n 3, 1) := by decide +kernel
theorem dL_law_374 : decode cL_law 374 = .ok (.iconst 2, 1) := by decide +kernel
theorem dL_law_375 : decode cL_law 375 = .ok (.iadd, 1) := by decide +kernel
theorem dL_law_376 : decode cL_law 376 = .ok (.iaload, 1) := by decide +kernel
theorem dL_law_377 : decode cL_law 377 = .ok (.invokevirtual 51, 3) := by decide +kernel
theorem dL_law_380 : decode cL_law 380 = .ok (.if_icmp .eq 765, 3) := by decide +kernel
theorem dL_law_385 : decode cL_law 385 = .ok (.aload_n 1, 1) := by decide +kernel
theorem dL_law_386 : decode cL_law 386 = .ok (.aload_n 0, 1) := by decide +kernel
theorem dL_law_387 : decode cL_law 387 = .ok (.iload_n 3, 1) := by decide +kernel
theorem dL_law_388 : decode cL_law 388 = .ok (.iconst 1, 1) := by decide +kernel
theorem dL_law_389 : decode cL_law 389 = .ok (.iadd, 1) := by decide +kernel
theorem dL_law_390 : decode cL_law 390 = .ok (.iaload, 1) := by decide +kernel
theorem dL_law_391 : decode cL_law 391 = .ok (.invokevirtual 52, 3) := by decide +kernel
theorem dL_law_394 : decode cL_law 394 = .ok (.aload_n 2, 1) := by decide +kernel
theorem dL_law_395 : decode cL_law 395 = .ok (.aload_n 0, 1) := by decide +kernel
theorem dL_law_396 : decode cL_law 396 = .ok (.iload_n 3, 1) := by decide +kernel
theorem dL_law_397 : decode cL_law 397 = .ok (.iconst 1, 1) := by decide +kernel
theorem dL_law_398 : decode cL_law 398 = .ok (.iadd, 1) := by decide +kernel
theorem dL_law_399 : decode cL_law 399 = .ok (.iaload, 1) := by decide +kernel
theorem dL_law_400 : decode cL_law 400 = .ok (.invokevirtual 55, 3) := by decide +kernel
theorem dL_law_403 : decode cL_law 403 = .ok (.if_icmp .eq 742, 3) := by decide +kernel
theorem dL_law_408 : decode cL_law 408 = .ok (.aload_n 1, 1) := by decide +kernel
theorem dL_law_409 : decode cL_law 409 = .ok (.invokevirtual 56, 3) := by decide +kernel
theorem dL_law_412 : decode cL_law 412 = .ok (.aload_n 2, 1) := by decide +kernel
theorem dL_law_413 : decode cL_law 413 = .ok (.invokevirtual 59, 3) := by decide +kernel
theorem dL_law_416 : decode cL_law 416 = .ok (.if_icmp .eq 729, 3) := by decide +kernel
theorem dL_law_421 : decode cL_law 421 = .ok (.aload_n 1, 1) := by decide +kernel
theorem dL_law_422 : decode cL_law 422 = .ok (.aload_n 0, 1) := by decide +kernel
theorem dL_law_423 : decode cL_law 423 = .ok (.iload_n 3, 1) := by decide +kernel
theorem dL_law_424 : decode cL_law 424 = .ok (.iconst 1, 1) := by decide +kernel
theorem dL_law_425 : decode cL_law 425 = .ok (.iadd, 1) := by decide +kernel
theorem dL_law_426 : decode cL_law 426 = .ok (.iaload, 1) := by decide +kernel
theorem dL_law_427 : decode cL_law 427 = .ok (.aload_n 0, 1) := by decide +kernel
theorem dL_law_428 : decode cL_law 428 = .ok (.iload_n 3, 1) := by decide +kernel
theorem dL_law_429 : decode cL_law 429 = .ok (.iconst 2, 1) := by decide +kernel
theorem dL_law_430 : decode cL_law 430 = .ok (.iadd, 1) := by decide +kernel
theorem dL_law_431 : decode cL_law 431 = .ok (.iaload, 1) := by decide +kernel
theorem dL_law_432 : decode cL_law 432 = .ok (.invokevirtual 60, 3) := by decide +kernel
theorem dL_law_435 : decode cL_law 435 = .ok (.aload_n 2, 1) := by decide +kernel
theorem dL_law_436 : decode cL_law 436 = .ok (.aload_n 0, 1) := by decide +kernel
theorem dL_law_437 : decode cL_law 437 = .ok (.iload_n 3, 1) := by decide +kernel
theorem dL_law_438 : decode cL_law 438 = .ok (.iconst 1, 1) := by decide +kernel
theorem dL_law_439 : decode cL_law 439 = .ok (.iadd, 1) := by decide +kernel
theorem dL_law_440 : decode cL_law 440 = .ok (.iaload, 1) := by decide +kernel
theorem dL_law_441 : decode cL_law 441 = .ok (.aload_n 0, 1) := by decide +kernel
theorem dL_law_442 : decode cL_law 442 = .ok (.iload_n 3, 1) := by decide +kernel
theorem dL_law_443 : decode cL_law 443 = .ok (.iconst 2, 1) := by decide +kernel
theorem dL_law_444 : decode cL_law 444 = .ok (.iadd, 1) := by decide +kernel
theorem dL_law_445 : decode cL_law 445 = .ok (.iaload, 1) := by decide +kernel
theorem dL_law_446 : decode cL_law 446 = .ok (.invokevirtual 63, 3) := by decide +kernel
theorem dL_law_449 : decode cL_law 449 = .ok (.if_icmp .eq 696, 3) := by decide +kernel
theorem dL_law_454 : decode cL_law 454 = .ok (.aload_n 1, 1) := by decide +kernel
theorem dL_law_455 : decode cL_law 455 = .ok (.aload_n 0, 1) := by decide +kernel
theorem dL_law_456 : decode cL_law 456 = .ok (.iload_n 3, 1) := by decide +kernel
theorem dL_law_457 : decode cL_law 457 = .ok (.iconst 1, 1) := by decide +kernel
theorem dL_law_458 : decode cL_law 458 = .ok (.iadd, 1) := by decide +kernel
theorem dL_law_459 : decode cL_law 459 = .ok (.iaload, 1) := by decide +kernel
theorem dL_law_460 : decode cL_law 460 = .ok (.aload_n 0, 1) := by decide +kernel
theorem dL_law_461 : decode cL_law 461 = .ok (.iload_n 3, 1) := by decide +kernel
theorem dL_law_462 : decode cL_law 462 = .ok (.iconst 2, 1) := by decide +kernel
theorem dL_law_463 : decode cL_law 463 = .ok (.iadd, 1) := by decide +kernel
theorem dL_law_464 : decode cL_law 464 = .ok (.iaload, 1) := by decide +kernel
theorem dL_law_465 : decode cL_law 465 = .ok (.invokevirtual 64, 3) := by decide +kernel
theorem dL_law_468 : decode cL_law 468 = .ok (.aload_n 2, 1) := by decide +kernel
theorem dL_law_469 : decode cL_law 469 = .ok (.aload_n 0, 1) := by decide +kernel
theorem dL_law_470 : decode cL_law 470 = .ok (.iload_n 3, 1) := by decide +kernel
theorem dL_law_471 : decode cL_law 471 = .ok (.iconst 1, 1) := by decide +kernel
theorem dL_law_472 : decode cL_law 472 = .ok (.iadd, 1) := by decide +kernel
theorem dL_law_473 : decode cL_law 473 = .ok (.iaload, 1) := by decide +kernel
theorem dL_law_474 : decode cL_law 474 = .ok (.aload_n 0, 1) := by decide +kernel
theorem dL_law_475 : decode cL_law 475 = .ok (.iload_n 3, 1) := by decide +kernel
theorem dL_law_476 : decode cL_law 476 = .ok (.iconst 2, 1) := by decide +kernel
theorem dL_law_477 : decode cL_law 477 = .ok (.iadd, 1) := by decide +kernel
theorem dL_law_478 : decode cL_law 478 = .ok (.iaload, 1) := by decide +kernel
theorem dL_law_479 : decode cL_law 479 = .ok (.invokevirtual 67, 3) := by decide +kernel
theorem dL_law_482 : decode cL_law 482 = .ok (.if_icmp .eq 663, 3) := by decide +kernel
theorem dL_law_487 : decode cL_law 487 = .ok (.aload_n 1, 1) := by decide +kernel
theorem dL_law_488 : decode cL_law 488 = .ok (.aload_n 0, 1) := by decide +kernel
theorem dL_law_489 : decode cL_law 489 = .ok (.iload_n 3, 1) := by decide +kernel
theorem dL_law_490 : decode cL_law 490 = .ok (.iconst 1, 1) := by decide +kernel
theorem dL_law_491 : decode cL_law 491 = .ok (.iadd, 1) := by decide +kernel
theorem dL_law_492 : decode cL_law 492 = .ok (.iaload, 1) := by decide +kernel
theorem dL_law_493 : decode cL_law 493 = .ok (.aload_n 0, 1) := by decide +kernel
theorem dL_law_494 : decode cL_law 494 = .ok (.iload_n 3, 1) := by decide +kernel
theorem dL_law_495 : decode cL_law 495 = .ok (.iconst 2, 1) := by decide +kernel
theorem dL_law_496 : decode cL_law 496 = .ok (.iadd, 1) := by decide +kernel
theorem dL_law_497 : decode cL_law 497 = .ok (.iaload, 1) := by decide +kernel
theorem dL_law_498 : decode cL_law 498 = .ok (.invokevirtual 68, 3) := by decide +kernel
theorem dL_law_501 : decode cL_law 501 = .ok (.aload_n 2, 1) := by decide +kernel
theorem dL_law_502 : decode cL_law 502 = .ok (.aload_n 0, 1) := by decide +kernel
theorem dL_law_503 : decode cL_law 503 = .ok (.iload_n 3, 1) := by decide +kernel
theorem dL_law_504 : decode cL_law 504 = .ok (.iconst 1, 1) := by decide +kernel
theorem dL_law_505 : decode cL_law 505 = .ok (.iadd, 1) := by decide +kernel
theorem dL_law_506 : decode cL_law 506 = .ok (.iaload, 1) := by decide +kernel
theorem dL_law_507 : decode cL_law 507 = .ok (.aload_n 0, 1) := by decide +kernel
theorem dL_law_508 : decode cL_law 508 = .ok (.iload_n 3, 1) := by decide +kernel
theorem dL_law_509 : decode cL_law 509 = .ok (.iconst 2, 1) := by decide +kernel
theorem dL_law_510 : decode cL_law 510 = .ok (.iadd, 1) := by decide +kernel
theorem dL_law_511 : decode cL_law 511 = .ok (.iaload, 1) := by decide +kernel
theorem dL_law_512 : decode cL_law 512 = .ok (.invokevirtual 71, 3) := by decide +kernel
theorem dL_law_515 : decode cL_law 515 = .ok (.if_icmp .eq 630, 3) := by decide +kernel
theorem dL_law_520 : decode cL_law 520 = .ok (.aload_n 1, 1) := by decide +kernel
theorem dL_law_521 : decode cL_law 521 = .ok (.aload_n 0, 1) := by decide +kernel
theorem dL_law_522 : decode cL_law 522 = .ok (.iload_n 3, 1) := by decide +kernel
theorem dL_law_523 : decode cL_law 523 = .ok (.iconst 1, 1) := by decide +kernel
theorem dL_law_524 : decode cL_law 524 = .ok (.iadd, 1) := by decide +kernel
theorem dL_law_525 : decode cL_law 525 = .ok (.iaload, 1) := by decide +kernel
theorem dL_law_526 : decode cL_law 526 = .ok (.aload_n 0, 1) := by decide +kernel
theorem dL_law_527 : decode cL_law 527 = .ok (.iload_n 3, 1) := by decide +kernel
theorem dL_law_528 : decode cL_law 528 = .ok (.iconst 2, 1) := by decide +kernel
theorem dL_law_529 : decode cL_law 529 = .ok (.iadd, 1) := by decide +kernel
theorem dL_law_530 : decode cL_law 530 = .ok (.iaload, 1) := by decide +kernel
theorem dL_law_531 : decode cL_law 531 = .ok (.invokevirtual 72, 3) := by decide +kernel
theorem dL_law_534 : decode cL_law 534 = .ok (.aload_n 2, 1) := by decide +kernel
theorem dL_law_535 : decode cL_law 535 = .ok (.aload_n 0, 1) := by decide +kernel
theorem dL_law_536 : decode cL_law 536 = .ok (.iload_n 3, 1) := by decide +kernel
theorem dL_law_537 : decode cL_law 537 = .ok (.iconst 1, 1) := by decide +kernel
theorem dL_law_538 : decode cL_law 538 = .ok (.iadd, 1) := by decide +kernel
theorem dL_law_539 : decode cL_law 539 = .ok (.iaload, 1) := by decide +kernel
theorem dL_law_540 : decode cL_law 540 = .ok (.aload_n 0, 1) := by decide +kernel
theorem dL_law_541 : decode cL_law 541 = .ok (.iload_n 3, 1) := by decide +kernel
theorem dL_law_542 : decode cL_law 542 = .ok (.iconst 2, 1) := by decide +kernel
theorem dL_law_543 : decode cL_law 543 = .ok (.iadd, 1) := by decide +kernel
theorem dL_law_544 : decode cL_law 544 = .ok (.iaload, 1) := by decide +kernel
theorem dL_law_545 : decode cL_law 545 = .ok (.invokevirtual 75, 3) := by decide +kernel
theorem dL_law_548 : decode cL_law 548 = .ok (.if_icmp .eq 597, 3) := by decide +kernel
theorem dL_law_553 : decode cL_law 553 = .ok (.aload_n 1, 1) := by decide +kernel
theorem dL_law_554 : decode cL_law 554 = .ok (.aload_n 0, 1) := by decide +kernel
theorem dL_law_555 : decode cL_law 555 = .ok (.iload_n 3, 1) := by decide +kernel
theorem dL_law_556 : decode cL_law 556 = .ok (.iconst 1, 1) := by decide +kernel
theorem dL_law_557 : decode cL_law 557 = .ok (.iadd, 1) := by decide +kernel
theorem dL_law_558 : decode cL_law 558 = .ok (.iaload, 1) := by decide +kernel
theorem dL_law_559 : decode cL_law 559 = .ok (.aload_n 0, 1) := by decide +kernel
theorem dL_law_560 : decode cL_law 560 = .ok (.iload_n 3, 1) := by decide +kernel
theorem dL_law_561 : decode cL_law 561 = .ok (.iconst 2, 1) := by decide +kernel
theorem dL_law_562 : decode cL_law 562 = .ok (.iadd, 1) := by decide +kernel
theorem dL_law_563 : decode cL_law 563 = .ok (.iaload, 1) := by decide +kernel
theorem dL_law_564 : decode cL_law 564 = .ok (.aload_n 0, 1) := by decide +kernel
theorem dL_law_565 : decode cL_law 565 = .ok (.iload_n 3, 1) := by decide +kernel
theorem dL_law_566 : decode cL_law 566 = .ok (.iconst 3, 1) := by decide +kernel
theorem dL_law_567 : decode cL_law 567 = .ok (.iadd, 1) := by decide +kernel
theorem dL_law_568 : decode cL_law 568 = .ok (.iaload, 1) := by decide +kernel
theorem dL_law_569 : decode cL_law 569 = .ok (.invokevirtual 76, 3) := by decide +kernel
theorem dL_law_572 : decode cL_law 572 = .ok (.aload_n 2, 1) := by decide +kernel
theorem dL_law_573 : decode cL_law 573 = .ok (.aload_n 0, 1) := by decide +kernel
theorem dL_law_574 : decode cL_law 574 = .ok (.iload_n 3, 1) := by decide +kernel
theorem dL_law_575 : decode cL_law 575 = .ok (.iconst 1, 1) := by decide +kernel
theorem dL_law_576 : decode cL_law 576 = .ok (.iadd, 1) := by decide +kernel
theorem dL_law_577 : decode cL_law 577 = .ok (.iaload, 1) := by decide +kernel
theorem dL_law_578 : decode cL_law 578 = .ok (.aload_n 0, 1) := by decide +kernel
theorem dL_law_579 : decode cL_law 579 = .ok (.iload_n 3, 1) := by decide +kernel
theorem dL_law_580 : decode cL_law 580 = .ok (.iconst 2, 1) := by decide +kernel
theorem dL_law_581 : decode cL_law 581 = .ok (.iadd, 1) := by decide +kernel
theorem dL_law_582 : decode cL_law 582 = .ok (.iaload, 1) := by decide +kernel
theorem dL_law_583 : decode cL_law 583 = .ok (.aload_n 0, 1) := by decide +kernel
theorem dL_law_584 : decode cL_law 584 = .ok (.iload_n 3, 1) := by decide +kernel
theorem dL_law_585 : decode cL_law 585 = .ok (.iconst 3, 1) := by decide +kernel
theorem dL_law_586 : decode cL_law 586 = .ok (.iadd, 1) := by decide +kernel
theorem dL_law_587 : decode cL_law 587 = .ok (.iaload, 1) := by decide +kernel
theorem dL_law_588 : decode cL_law 588 = .ok (.invokevirtual 80, 3) := by decide +kernel
theorem dL_law_591 : decode cL_law 591 = .ok (.if_icmp .eq 554, 3) := by decide +kernel
theorem dL_law_596 : decode cL_law 596 = .ok (.aload_n 1, 1) := by decide +kernel
theorem dL_law_597 : decode cL_law 597 = .ok (.aload_n 0, 1) := by decide +kernel
theorem dL_law_598 : decode cL_law 598 = .ok (.iload_n 3, 1) := by decide +kernel
theorem dL_law_599 : decode cL_law 599 = .ok (.iconst 1, 1) := by decide +kernel
theorem dL_law_600 : decode cL_law 600 = .ok (.iadd, 1) := by decide +kernel
theorem dL_law_601 : decode cL_law 601 = .ok (.iaload, 1) := by decide +kernel
theorem dL_law_602 : decode cL_law 602 = .ok (.aload_n 0, 1) := by decide +kernel
theorem dL_law_603 : decode cL_law 603 = .ok (.iload_n 3, 1) := by decide +kernel
theorem dL_law_604 : decode cL_law 604 = .ok (.iconst 2, 1) := by decide +kernel
theorem dL_law_605 : decode cL_law 605 = .ok (.iadd, 1) := by decide +kernel
theorem dL_law_606 : decode cL_law 606 = .ok (.iaload, 1) := by decide +kernel
theorem dL_law_607 : decode cL_law 607 = .ok (.invokevirtual 81, 3) := by decide +kernel
theorem dL_law_610 : decode cL_law 610 = .ok (.aload_n 2, 1) := by decide +kernel
theorem dL_law_611 : decode cL_law 611 = .ok (.aload_n 0, 1) := by decide +kernel
theorem dL_law_612 : decode cL_law 612 = .ok (.iload_n 3, 1) := by decide +kernel
theorem dL_law_613 : decode cL_law 613 = .ok (.iconst 1, 1) := by decide +kernel
theorem dL_law_614 : decode cL_law 614 = .ok (.iadd, 1) := by decide +kernel
theorem dL_law_615 : decode cL_law 615 = .ok (.iaload, 1) := by decide +kernel
theorem dL_law_616 : decode cL_law 616 = .ok (.aload_n 0, 1) := by decide +kernel
theorem dL_law_617 : decode cL_law 617 = .ok (.iload_n 3, 1) := by decide +kernel
theorem dL_law_618 : decode cL_law 618 = .ok (.iconst 2, 1) := by decide +kernel
theorem dL_law_619 : decode cL_law 619 = .ok (.iadd, 1) := by decide +kernel
theorem dL_law_620 : decode cL_law 620 = .ok (.iaload, 1) := by decide +kernel
theorem dL_law_621 : decode cL_law 621 = .ok (.invokevirtual 84, 3) := by decide +kernel
theorem dL_law_624 : decode cL_law 624 = .ok (.if_icmp .eq 521, 3) := by decide +kernel
theorem dL_law_629 : decode cL_law 629 = .ok (.aload_n 1, 1) := by decide +kernel
theorem dL_law_630 : decode cL_law 630 = .ok (.aload_n 0, 1) := by decide +kernel
theorem dL_law_631 : decode cL_law 631 = .ok (.iload_n 3, 1) := by decide +kernel
theorem dL_law_632 : decode cL_law 632 = .ok (.iconst 1, 1) := by decide +kernel
theorem dL_law_633 : decode cL_law 633 = .ok (.iadd, 1) := by decide +kernel
theorem dL_law_634 : decode cL_law 634 = .ok (.iaload, 1) := by decide +kernel
theorem dL_law_635 : decode cL_law 635 = .ok (.invokevirtual 85, 3) := by decide +kernel
theorem dL_law_638 : decode cL_law 638 = .ok (.aload_n 2, 1) := by decide +kernel
theorem dL_law_639 : decode cL_law 639 = .ok (.aload_n 0, 1) := by decide +kernel
theorem dL_law_640 : decode cL_law 640 = .ok (.iload_n 3, 1) := by decide +kernel
theorem dL_law_641 : decode cL_law 641 = .ok (.iconst 1, 1) := by decide +kernel
theorem dL_law_642 : decode cL_law 642 = .ok (.iadd, 1) := by decide +kernel
theorem dL_law_643 : decode cL_law 643 = .ok (.iaload, 1) := by decide +kernel
theorem dL_law_644 : decode cL_law 644 = .ok (.invokevirtual 88, 3) := by decide +kernel
theorem dL_law_647 : decode cL_law 647 = .ok (.if_icmp .eq 498, 3) := by decide +kernel
theorem dL_law_652 : decode cL_law 652 = .ok (.aload_n 1, 1) := by decide +kernel
theorem dL_law_653 : decode cL_law 653 = .ok (.aload_n 0, 1) := by decide +kernel
theorem dL_law_654 : decode cL_law 654 = .ok (.iload_n 3, 1) := by decide +kernel
theorem dL_law_655 : decode cL_law 655 = .ok (.iconst 1, 1) := by decide +kernel
theorem dL_law_656 : decode cL_law 656 = .ok (.iadd, 1) := by decide +kernel
theorem dL_law_657 : decode cL_law 657 = .ok (.iaload, 1) := by decide +kernel
theorem dL_law_658 : decode cL_law 658 = .ok (.aload_n 0, 1) := by decide +kernel
theorem dL_law_659 : decode cL_law 659 = .ok (.iload_n 3, 1) := by decide +kernel
theorem dL_law_660 : decode cL_law 660 = .ok (.iconst 2, 1) := by decide +kernel
theorem dL_law_661 : decode cL_law 661 = .ok (.iadd, 1) := by decide +kernel
theorem dL_law_662 : decode cL_law 662 = .ok (.iaload, 1) := by decide +kernel
theorem dL_law_663 : decode cL_law 663 = .ok (.invokevirtual 89, 3) := by decide +kernel
theorem dL_law_666 : decode cL_law 666 = .ok (.aload_n 2, 1) := by decide +kernel
theorem dL_law_667 : decode cL_law 667 = .ok (.aload_n 0, 1) := by decide +kernel
theorem dL_law_668 : decode cL_law 668 = .ok (.iload_n 3, 1) := by decide +kernel
theorem dL_law_669 : decode cL_law 669 = .ok (.iconst 1, 1) := by decide +kernel
theorem dL_law_670 : decode cL_law 670 = .ok (.iadd, 1) := by decide +kernel
theorem dL_law_671 : decode cL_law 671 = .ok (.iaload, 1) := by decide +kernel
theorem dL_law_672 : decode cL_law 672 = .ok (.aload_n 0, 1) := by decide +kernel
theorem dL_law_673 : decode cL_law 673 = .ok (.iload_n 3, 1) := by decide +kernel
theorem dL_law_674 : decode cL_law 674 = .ok (.iconst 2, 1) := by decide +kernel
theorem dL_law_675 : decode cL_law 675 = .ok (.iadd, 1) := by decide +kernel
theorem dL_law_676 : decode cL_law 676 = .ok (.iaload, 1) := by decide +kernel
theorem dL_law_677 : decode cL_law 677 = .ok (.invokevirtual 92, 3) := by decide +kernel
theorem dL_law_680 : decode cL_law 680 = .ok (.if_icmp .eq 465, 3) := by decide +kernel
theorem dL_law_685 : decode cL_law 685 = .ok (.aload_n 1, 1) := by decide +kernel
theorem dL_law_686 : decode cL_law 686 = .ok (.aload_n 0, 1) := by decide +kernel
theorem dL_law_687 : decode cL_law 687 = .ok (.iload_n 3, 1) := by decide +kernel
theorem dL_law_688 : decode cL_law 688 = .ok (.iconst 1, 1) := by decide +kernel
theorem dL_law_689 : decode cL_law 689 = .ok (.iadd, 1) := by decide +kernel
theorem dL_law_690 : decode cL_law 690 = .ok (.iaload, 1) := by decide +kernel
theorem dL_law_691 : decode cL_law 691 = .ok (.invokevirtual 93, 3) := by decide +kernel
theorem dL_law_694 : decode cL_law 694 = .ok (.aload_n 2, 1) := by decide +kernel
theorem dL_law_695 : decode cL_law 695 = .ok (.aload_n 0, 1) := by decide +kernel
theorem dL_law_696 : decode cL_law 696 = .ok (.iload_n 3, 1) := by decide +kernel
theorem dL_law_697 : decode cL_law 697 = .ok (.iconst 1, 1) := by decide +kernel
theorem dL_law_698 : decode cL_law 698 = .ok (.iadd, 1) := by decide +kernel
theorem dL_law_699 : decode cL_law 699 = .ok (.iaload, 1) := by decide +kernel
theorem dL_law_700 : decode cL_law 700 = .ok (.invokevirtual 96, 3) := by decide +kernel
theorem dL_law_703 : decode cL_law 703 = .ok (.if_icmp .eq 442, 3) := by decide +kernel
theorem dL_law_708 : decode cL_law 708 = .ok (.aload_n 1, 1) := by decide +kernel
theorem dL_law_709 : decode cL_law 709 = .ok (.aload_n 0, 1) := by decide +kernel
theorem dL_law_710 : decode cL_law 710 = .ok (.iload_n 3, 1) := by decide +kernel
theorem dL_law_711 : decode cL_law 711 = .ok (.iconst 1, 1) := by decide +kernel
theorem dL_law_712 : decode cL_law 712 = .ok (.iadd, 1) := by decide +kernel
theorem dL_law_713 : decode cL_law 713 = .ok (.iaload, 1) := by decide +kernel
theorem dL_law_714 : decode cL_law 714 = .ok (.aload_n 0, 1) := by decide +kernel
theorem dL_law_715 : decode cL_law 715 = .ok (.iload_n 3, 1) := by decide +kernel
theorem dL_law_716 : decode cL_law 716 = .ok (.iconst 2, 1) := by decide +kernel
theorem dL_law_717 : decode cL_law 717 = .ok (.iadd, 1) := by decide +kernel
theorem dL_law_718 : decode cL_law 718 = .ok (.iaload, 1) := by decide +kernel
theorem dL_law_719 : decode cL_law 719 = .ok (.aload_n 0, 1) := by decide +kernel
theorem dL_law_720 : decode cL_law 720 = .ok (.iload_n 3, 1) := by decide +kernel
theorem dL_law_721 : decode cL_law 721 = .ok (.iconst 3, 1) := by decide +kernel
theorem dL_law_722 : decode cL_law 722 = .ok (.iadd, 1) := by decide +kernel
theorem dL_law_723 : decode cL_law 723 = .ok (.iaload, 1) := by decide +kernel
theorem dL_law_724 : decode cL_law 724 = .ok (.aload_n 0, 1) := by decide +kernel
theorem dL_law_725 : decode cL_law 725 = .ok (.iload_n 3, 1) := by decide +kernel
theorem dL_law_726 : decode cL_law 726 = .ok (.iconst 4, 1) := by decide +kernel
theorem dL_law_727 : decode cL_law 727 = .ok (.iadd, 1) := by decide +kernel
theorem dL_law_728 : decode cL_law 728 = .ok (.iaload, 1) := by decide +kernel
theorem dL_law_729 : decode cL_law 729 = .ok (.invokevirtual 97, 3) := by decide +kernel
theorem dL_law_732 : decode cL_law 732 = .ok (.aload_n 2, 1) := by decide +kernel
theorem dL_law_733 : decode cL_law 733 = .ok (.aload_n 0, 1) := by decide +kernel
theorem dL_law_734 : decode cL_law 734 = .ok (.iload_n 3, 1) := by decide +kernel
theorem dL_law_735 : decode cL_law 735 = .ok (.iconst 1, 1) := by decide +kernel
theorem dL_law_736 : decode cL_law 736 = .ok (.iadd, 1) := by decide +kernel
theorem dL_law_737 : decode cL_law 737 = .ok (.iaload, 1) := by decide +kernel
theorem dL_law_738 : decode cL_law 738 = .ok (.aload_n 0, 1) := by decide +kernel
theorem dL_law_739 : decode cL_law 739 = .ok (.iload_n 3, 1) := by decide +kernel
theorem dL_law_740 : decode cL_law 740 = .ok (.iconst 2, 1) := by decide +kernel
theorem dL_law_741 : decode cL_law 741 = .ok (.iadd, 1) := by decide +kernel
theorem dL_law_742 : decode cL_law 742 = .ok (.iaload, 1) := by decide +kernel
theorem dL_law_743 : decode cL_law 743 = .ok (.aload_n 0, 1) := by decide +kernel
theorem dL_law_744 : decode cL_law 744 = .ok (.iload_n 3, 1) := by decide +kernel
theorem dL_law_745 : decode cL_law 745 = .ok (.iconst 3, 1) := by decide +kernel
theorem dL_law_746 : decode cL_law 746 = .ok (.iadd, 1) := by decide +kernel
theorem dL_law_747 : decode cL_law 747 = .ok (.iaload, 1) := by decide +kernel
theorem dL_law_748 : decode cL_law 748 = .ok (.aload_n 0, 1) := by decide +kernel
theorem dL_law_749 : decode cL_law 749 = .ok (.iload_n 3, 1) := by decide +kernel
theorem dL_law_750 : decode cL_law 750 = .ok (.iconst 4, 1) := by decide +kernel
theorem dL_law_751 : decode cL_law 751 = .ok (.iadd, 1) := by decide +kernel
theorem dL_law_752 : decode cL_law 752 = .ok (.iaload, 1) := by decide +kernel
theorem dL_law_753 : decode cL_law 753 = .ok (.invokevirtual 101, 3) := by decide +kernel
theorem dL_law_756 : decode cL_law 756 = .ok (.if_icmp .eq 389, 3) := by decide +kernel
theorem dL_law_761 : decode cL_law 761 = .ok (.aload_n 1, 1) := by decide +kernel
theorem dL_law_762 : decode cL_law 762 = .ok (.invokevirtual 102, 3) := by decide +kernel
theorem dL_law_765 : decode cL_law 765 = .ok (.aload_n 2, 1) := by decide +kernel
theorem dL_law_766 : decode cL_law 766 = .ok (.invokevirtual 105, 3) := by decide +kernel
theorem dL_law_769 : decode cL_law 769 = .ok (.if_icmp .eq 376, 3) := by decide +kernel
theorem dL_law_774 : decode cL_law 774 = .ok (.aload_n 1, 1) := by decide +kernel
theorem dL_law_775 : decode cL_law 775 = .ok (.aload_n 0, 1) := by decide +kernel
theorem dL_law_776 : decode cL_law 776 = .ok (.iload_n 3, 1) := by decide +kernel
theorem dL_law_777 : decode cL_law 777 = .ok (.iconst 1, 1) := by decide +kernel
theorem dL_law_778 : decode cL_law 778 = .ok (.iadd, 1) := by decide +kernel
theorem dL_law_779 : decode cL_law 779 = .ok (.iaload, 1) := by decide +kernel
theorem dL_law_780 : decode cL_law 780 = .ok (.aload_n 0, 1) := by decide +kernel
theorem dL_law_781 : decode cL_law 781 = .ok (.iload_n 3, 1) := by decide +kernel
theorem dL_law_782 : decode cL_law 782 = .ok (.iconst 2, 1) := by decide +kernel
theorem dL_law_783 : decode cL_law 783 = .ok (.iadd, 1) := by decide +kernel
theorem dL_law_784 : decode cL_law 784 = .ok (.iaload, 1) := by decide +kernel
theorem dL_law_785 : decode cL_law 785 = .ok (.aload_n 0, 1) := by decide +kernel
theorem dL_law_786 : decode cL_law 786 = .ok (.iload_n 3, 1) := by decide +kernel
theorem dL_law_787 : decode cL_law 787 = .ok (.iconst 3, 1) := by decide +kernel
theorem dL_law_788 : decode cL_law 788 = .ok (.iadd, 1) := by decide +kernel
theorem dL_law_789 : decode cL_law 789 = .ok (.iaload, 1) := by decide +kernel
theorem dL_law_790 : decode cL_law 790 = .ok (.aload_n 0, 1) := by decide +kernel
theorem dL_law_791 : decode cL_law 791 = .ok (.iload_n 3, 1) := by decide +kernel
theorem dL_law_792 : decode cL_law 792 = .ok (.iconst 4, 1) := by decide +kernel
theorem dL_law_793 : decode cL_law 793 = .ok (.iadd, 1) := by decide +kernel
theorem dL_law_794 : decode cL_law 794 = .ok (.iaload, 1) := by decide +kernel
theorem dL_law_795 : decode cL_law 795 = .ok (.aload_n 0, 1) := by decide +kernel
theorem dL_law_796 : decode cL_law 796 = .ok (.iload_n 3, 1) := by decide +kernel
theorem dL_law_797 : decode cL_law 797 = .ok (.iconst 5, 1) := by decide +kernel
theorem dL_law_798 : decode cL_law 798 = .ok (.iadd, 1) := by decide +kernel
theorem dL_law_799 : decode cL_law 799 = .ok (.iaload, 1) := by decide +kernel
theorem dL_law_800 : decode cL_law 800 = .ok (.invokevirtual 106, 3) := by decide +kernel
theorem dL_law_803 : decode cL_law 803 = .ok (.aload_n 2, 1) := by decide +kernel
theorem dL_law_804 : decode cL_law 804 = .ok (.aload_n 0, 1) := by decide +kernel
theorem dL_law_805 : decode cL_law 805 = .ok (.iload_n 3, 1) := by decide +kernel
theorem dL_law_806 : decode cL_law 806 = .ok (.iconst 1, 1) := by decide +kernel
theorem dL_law_807 : decode cL_law 807 = .ok (.iadd, 1) := by decide +kernel
theorem dL_law_808 : decode cL_law 808 = .ok (.iaload, 1) := by decide +kernel
theorem dL_law_809 : decode cL_law 809 = .ok (.aload_n 0, 1) := by decide +kernel
theorem dL_law_810 : decode cL_law 810 = .ok (.iload_n 3, 1) := by decide +kernel
theorem dL_law_811 : decode cL_law 811 = .ok (.iconst 2, 1) := by decide +kernel
theorem dL_law_812 : decode cL_law 812 = .ok (.iadd, 1) := by decide +kernel
theorem dL_law_813 : decode cL_law 813 = .ok (.iaload, 1) := by decide +kernel
theorem dL_law_814 : decode cL_law 814 = .ok (.aload_n 0, 1) := by decide +kernel
theorem dL_law_815 : decode cL_law 815 = .ok (.iload_n 3, 1) := by decide +kernel
theorem dL_law_816 : decode cL_law 816 = .ok (.iconst 3, 1) := by decide +kernel
theorem dL_law_817 : decode cL_law 817 = .ok (.iadd, 1) := by decide +kernel
theorem dL_law_818 : decode cL_law 818 = .ok (.iaload, 1) := by decide +kernel
theorem dL_law_819 : decode cL_law 819 = .ok (.aload_n 0, 1) := by decide +kernel
theorem dL_law_820 : decode cL_law 820 = .ok (.iload_n 3, 1) := by decide +kernel
theorem dL_law_821 : decode cL_law 821 = .ok (.iconst 4, 1) := by decide +kernel
theorem dL_law_822 : decode cL_law 822 = .ok (.iadd, 1) := by decide +kernel
theorem dL_law_823 : decode cL_law 823 = .ok (.iaload, 1) := by decide +kernel
theorem dL_law_824 : decode cL_law 824 = .ok (.aload_n 0, 1) := by decide +kernel
theorem dL_law_825 : decode cL_law 825 = .ok (.iload_n 3, 1) := by decide +kernel
theorem dL_law_826 : decode cL_law 826 = .ok (.iconst 5, 1) := by decide +kernel
theorem dL_law_827 : decode cL_law 827 = .ok (.iadd, 1) := by decide +kernel
theorem dL_law_828 : decode cL_law 828 = .ok (.iaload, 1) := by decide +kernel
theorem dL_law_829 : decode cL_law 829 = .ok (.invokevirtual 110, 3) := by decide +kernel
theorem dL_law_832 : decode cL_law 832 = .ok (.if_icmp .eq 313, 3) := by decide +kernel
theorem dL_law_837 : decode cL_law 837 = .ok (.aload_n 1, 1) := by decide +kernel
theorem dL_law_838 : decode cL_law 838 = .ok (.aload_n 0, 1) := by decide +kernel
theorem dL_law_839 : decode cL_law 839 = .ok (.iload_n 3, 1) := by decide +kernel
theorem dL_law_840 : decode cL_law 840 = .ok (.iconst 1, 1) := by decide +kernel
theorem dL_law_841 : decode cL_law 841 = .ok (.iadd, 1) := by decide +kernel
theorem dL_law_842 : decode cL_law 842 = .ok (.iaload, 1) := by decide +kernel
theorem dL_law_843 : decode cL_law 843 = .ok (.invokevirtual 111, 3) := by decide +kernel
theorem dL_law_846 : decode cL_law 846 = .ok (.aload_n 2, 1) := by decide +kernel
theorem dL_law_847 : decode cL_law 847 = .ok (.aload_n 0, 1) := by decide +kernel
theorem dL_law_848 : decode cL_law 848 = .ok (.iload_n 3, 1) := by decide +kernel
theorem dL_law_849 : decode cL_law 849 = .ok (.iconst 1, 1) := by decide +kernel
theorem dL_law_850 : decode cL_law 850 = .ok (.iadd, 1) := by decide +kernel
theorem dL_law_851 : decode cL_law 851 = .ok (.iaload, 1) := by decide +kernel
theorem dL_law_852 : decode cL_law 852 = .ok (.invokevirtual 114, 3) := by decide +kernel
theorem dL_law_855 : decode cL_law 855 = .ok (.if_icmp .eq 290, 3) := by decide +kernel
theorem dL_law_860 : decode cL_law 860 = .ok (.aload_n 1, 1) := by decide +kernel
theorem dL_law_861 : decode cL_law 861 = .ok (.aload_n 0, 1) := by decide +kernel
theorem dL_law_862 : decode cL_law 862 = .ok (.iload_n 3, 1) := by decide +kernel
theorem dL_law_863 : decode cL_law 863 = .ok (.iconst 1, 1) := by decide +kernel
theorem dL_law_864 : decode cL_law 864 = .ok (.iadd, 1) := by decide +kernel
theorem dL_law_865 : decode cL_law 865 = .ok (.iaload, 1) := by decide +kernel
theorem dL_law_866 : decode cL_law 866 = .ok (.invokevirtual 115, 3) := by decide +kernel
theorem dL_law_869 : decode cL_law 869 = .ok (.aload_n 2, 1) := by decide +kernel
theorem dL_law_870 : decode cL_law 870 = .ok (.aload_n 0, 1) := by decide +kernel
theorem dL_law_871 : decode cL_law 871 = .ok (.iload_n 3, 1) := by decide +kernel
theorem dL_law_872 : decode cL_law 872 = .ok (.iconst 1, 1) := by decide +kernel
theorem dL_law_873 : decode cL_law 873 = .ok (.iadd, 1) := by decide +kernel
theorem dL_law_874 : decode cL_law 874 = .ok (.iaload, 1) := by decide +kernel
theorem dL_law_875 : decode cL_law 875 = .ok (.invokevirtual 118, 3) := by decide +kernel
theorem dL_law_878 : decode cL_law 878 = .ok (.if_icmp .eq 267, 3) := by decide +kernel
theorem dL_law_883 : decode cL_law 883 = .ok (.aload_n 1, 1) := by decide +kernel
theorem dL_law_884 : decode cL_law 884 = .ok (.aload_n 0, 1) := by decide +kernel
theorem dL_law_885 : decode cL_law 885 = .ok (.iload_n 3, 1) := by decide +kernel
theorem dL_law_886 : decode cL_law 886 = .ok (.iconst 1, 1) := by decide +kernel
theorem dL_law_887 : decode cL_law 887 = .ok (.iadd, 1) := by decide +kernel
theorem dL_law_888 : decode cL_law 888 = .ok (.iaload, 1) := by decide +kernel
theorem dL_law_889 : decode cL_law 889 = .ok (.invokevirtual 119, 3) := by decide +kernel
theorem dL_law_892 : decode cL_law 892 = .ok (.aload_n 2, 1) := by decide +kernel
theorem dL_law_893 : decode cL_law 893 = .ok (.aload_n 0, 1) := by decide +kernel
theorem dL_law_894 : decode cL_law 894 = .ok (.iload_n 3, 1) := by decide +kernel
theorem dL_law_895 : decode cL_law 895 = .ok (.iconst 1, 1) := by decide +kernel
theorem dL_law_896 : decode cL_law 896 = .ok (.iadd, 1) := by decide +kernel
theorem dL_law_897 : decode cL_law 897 = .ok (.iaload, 1) := by decide +kernel
theorem dL_law_898 : decode cL_law 898 = .ok (.invokevirtual 122, 3) := by decide +kernel
theorem dL_law_901 : decode cL_law 901 = .ok (.if_icmp .eq 244, 3) := by decide +kernel
theorem dL_law_906 : decode cL_law 906 = .ok (.aload_n 1, 1) := by decide +kernel
theorem dL_law_907 : decode cL_law 907 = .ok (.aload_n 0, 1) := by decide +kernel
theorem dL_law_908 : decode cL_law 908 = .ok (.iload_n 3, 1) := by decide +kernel
theorem dL_law_909 : decode cL_law 909 = .ok (.iconst 1, 1) := by decide +kernel
theorem dL_law_910 : decode cL_law 910 = .ok (.iadd, 1) := by decide +kernel
theorem dL_law_911 : decode cL_law 911 = .ok (.iaload, 1) := by decide +kernel
theorem dL_law_912 : decode cL_law 912 = .ok (.aload_n 0, 1) := by decide +kernel
theorem dL_law_913 : decode cL_law 913 = .ok (.iload_n 3, 1) := by decide +kernel
theorem dL_law_914 : decode cL_law 914 = .ok (.iconst 2, 1) := by decide +kernel
theorem dL_law_915 : decode cL_law 915 = .ok (.iadd, 1) := by decide +kernel
theorem dL_law_916 : decode cL_law 916 = .ok (.iaload, 1) := by decide +kernel
theorem dL_law_917 : decode cL_law 917 = .ok (.aload_n 0, 1) := by decide +kernel
theorem dL_law_918 : decode cL_law 918 = .ok (.iload_n 3, 1) := by decide +kernel
theorem dL_law_919 : decode cL_law 919 = .ok (.iconst 3, 1) := by decide +kernel
theorem dL_law_920 : decode cL_law 920 = .ok (.iadd, 1) := by decide +kernel
theorem dL_law_921 : decode cL_law 921 = .ok (.iaload, 1) := by decide +kernel
theorem dL_law_922 : decode cL_law 922 = .ok (.invokevirtual 123, 3) := by decide +kernel
theorem dL_law_925 : decode cL_law 925 = .ok (.aload_n 2, 1) := by decide +kernel
theorem dL_law_926 : decode cL_law 926 = .ok (.aload_n 0, 1) := by decide +kernel
theorem dL_law_927 : decode cL_law 927 = .ok (.iload_n 3, 1) := by decide +kernel
theorem dL_law_928 : decode cL_law 928 = .ok (.iconst 1, 1) := by decide +kernel
theorem dL_law_929 : decode cL_law 929 = .ok (.iadd, 1) := by decide +kernel
