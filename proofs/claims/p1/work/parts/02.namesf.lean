theorem dX11_lasts_2 : decode cX11_lasts 2 = .ok (.invokevirtual 133, 3) := by decide +kernel
theorem dX11_lasts_5 : decode cX11_lasts 5 = .ok (.ifCond .eq 15, 3) := by decide +kernel
theorem dX11_lasts_20 : decode cX11_lasts 20 = .ok (.aload_n 0, 1) := by decide +kernel
theorem dX11_lasts_21 : decode cX11_lasts 21 = .ok (.bipush (-2), 2) := by decide +kernel
theorem dX11_lasts_23 : decode cX11_lasts 23 = .ok (.invokevirtual 73, 3) := by decide +kernel
theorem dX11_lasts_26 : decode cX11_lasts 26 = .ok (.ireturn, 1) := by decide +kernel
set_option maxRecDepth 20000 in
theorem ggX11_enough_X11_in : GoodIn wsX11_enough wsX11_in := goodIn_r _ [6] (by decide +kernel) (by decide +kernel)
set_option maxRecDepth 20000 in
theorem gX11_enough_X11_in : GoodIn wsX11_enough (va_wsS RX11 56 yX11_in wsX11_in) := goodIn_app (goodIn_of _ (by decide +kernel)) ggX11_enough_X11_in
set_option maxRecDepth 20000 in
theorem ggX11_enough_X11_bad : GoodIn wsX11_enough wsX11_bad := goodIn_r _ [10, 11, 22, 23, 24, 25, 26, 27, 28, 29, 30, 31, 32, 33, 34, 35, 36, 37, 38, 39] (by decide +kernel) (by decide +kernel)
set_option maxRecDepth 20000 in
theorem gX11_enough_X11_bad : GoodIn wsX11_enough (wsV RX11 73 RX11 yX11_bad wsX11_bad) := goodIn_app (goodIn_of _ (by decide +kernel)) ggX11_enough_X11_bad
set_option maxRecDepth 20000 in
theorem ggX11_enough_X11_manyGleaners : GoodIn wsX11_enough wsX11_manyGleaners := goodIn_r _ [15, 2, 22, 23, 24, 25, 26, 27, 28, 29, 30, 31, 32, 33, 34, 35, 36, 37, 38, 39] (by decide +kernel) (by decide +kernel)
set_option maxRecDepth 20000 in
theorem gX11_enough_X11_manyGleaners : GoodIn wsX11_enough (wsV RX11 60 RX11 yX11_manyGleaners wsX11_manyGleaners) := goodIn_app (goodIn_of _ (by decide +kernel)) ggX11_enough_X11_manyGleaners
theorem dX11_enough_0 : decode cX11_enough 0 = .ok (.iload_n 1, 1) := by decide +kernel
theorem dX11_enough_1 : decode cX11_enough 1 = .ok (.i2l, 1) := by decide +kernel
theorem dX11_enough_2 : decode cX11_enough 2 = .ok (.lconst 0, 1) := by decide +kernel
theorem dX11_enough_3 : decode cX11_enough 3 = .ok (.ldc2_w 165, 3) := by decide +kernel
theorem dX11_enough_6 : decode cX11_enough 6 = .ok (.invokestatic 56, 3) := by decide +kernel
theorem dX11_enough_9 : decode cX11_enough 9 = .ok (.ifCond .ne 10, 3) := by decide +kernel
theorem dX11_enough_12 : decode cX11_enough 12 = .ok (.aload_n 0, 1) := by decide +kernel
theorem dX11_enough_13 : decode cX11_enough 13 = .ok (.bipush (-2), 2) := by decide +kernel
theorem dX11_enough_15 : decode cX11_enough 15 = .ok (.invokevirtual 73, 3) := by decide +kernel
theorem dX11_enough_18 : decode cX11_enough 18 = .ok (.ireturn, 1) := by decide +kernel
theorem dX11_enough_19 : decode cX11_enough 19 = .ok (.iconst (-1), 1) := by decide +kernel
theorem dX11_enough_20 : decode cX11_enough 20 = .ok (.istore_n 2, 1) := by decide +kernel
theorem dX11_enough_21 : decode cX11_enough 21 = .ok (.iconst 0, 1) := by decide +kernel
theorem dX11_enough_22 : decode cX11_enough 22 = .ok (.istore_n 3, 1) := by decide +kernel
theorem dX11_enough_23 : decode cX11_enough 23 = .ok (.iload_n 3, 1) := by decide +kernel
theorem dX11_enough_24 : decode cX11_enough 24 = .ok (.iconst 1, 1) := by decide +kernel
theorem dX11_enough_25 : decode cX11_enough 25 = .ok (.aload_n 0, 1) := by decide +kernel
theorem dX11_enough_26 : decode cX11_enough 26 = .ok (.invokevirtual 60, 3) := by decide +kernel
theorem dX11_enough_29 : decode cX11_enough 29 = .ok (.ishl, 1) := by decide +kernel
theorem dX11_enough_30 : decode cX11_enough 30 = .ok (.if_icmp .ge 86, 3) := by decide +kernel
theorem dX11_enough_33 : decode cX11_enough 33 = .ok (.iconst 0, 1) := by decide +kernel
theorem dX11_enough_34 : decode cX11_enough 34 = .ok (.istore 4, 2) := by decide +kernel
theorem dX11_enough_36 : decode cX11_enough 36 = .ok (.iconst 0, 1) := by decide +kernel
theorem dX11_enough_37 : decode cX11_enough 37 = .ok (.istore 5, 2) := by decide +kernel
theorem dX11_enough_39 : decode cX11_enough 39 = .ok (.iload 5, 2) := by decide +kernel
theorem dX11_enough_41 : decode cX11_enough 41 = .ok (.aload_n 0, 1) := by decide +kernel
theorem dX11_enough_42 : decode cX11_enough 42 = .ok (.invokevirtual 60, 3) := by decide +kernel
theorem dX11_enough_45 : decode cX11_enough 45 = .ok (.if_icmp .ge 37, 3) := by decide +kernel
theorem dX11_enough_82 : decode cX11_enough 82 = .ok (.iload 4, 2) := by decide +kernel
theorem dX11_enough_84 : decode cX11_enough 84 = .ok (.iload_n 1, 1) := by decide +kernel
theorem dX11_enough_85 : decode cX11_enough 85 = .ok (.if_icmp .lt 23, 3) := by decide +kernel
theorem dX11_enough_88 : decode cX11_enough 88 = .ok (.iload_n 2, 1) := by decide +kernel
theorem dX11_enough_89 : decode cX11_enough 89 = .ok (.iconst (-1), 1) := by decide +kernel
theorem dX11_enough_90 : decode cX11_enough 90 = .ok (.if_icmp .eq 14, 3) := by decide +kernel
theorem dX11_enough_104 : decode cX11_enough 104 = .ok (.iload_n 3, 1) := by decide +kernel
theorem dX11_enough_105 : decode cX11_enough 105 = .ok (.goto 4, 3) := by decide +kernel
theorem dX11_enough_108 : decode cX11_enough 108 = .ok (.iload_n 2, 1) := by decide +kernel
theorem dX11_enough_109 : decode cX11_enough 109 = .ok (.istore_n 2, 1) := by decide +kernel
theorem dX11_enough_110 : decode cX11_enough 110 = .ok (.iinc 3 1, 3) := by decide +kernel
theorem dX11_enough_113 : decode cX11_enough 113 = .ok (.goto (-90), 3) := by decide +kernel
theorem dX11_enough_116 : decode cX11_enough 116 = .ok (.iload_n 2, 1) := by decide +kernel
theorem dX11_enough_117 : decode cX11_enough 117 = .ok (.ireturn, 1) := by decide +kernel
set_option maxRecDepth 20000 in
theorem ggX11_missed_X11_isField : GoodIn wsX11_missed wsX11_isField := goodIn_r _ [6, 7, 8, 9, 5, 10, 1, 11, 12, 13, 31, 32, 33, 34, 35, 36, 37, 38, 39, 40, 41, 42, 43, 44, 45, 46, 47, 48] (by decide +kernel) (by decide +kernel)
set_option maxRecDepth 20000 in
theorem gX11_missed_X11_isField : GoodIn wsX11_missed (wsV RX11 89 RX11 yX11_isField wsX11_isField) := goodIn_app (goodIn_of _ (by decide +kernel)) ggX11_missed_X11_isField
set_option maxRecDepth 20000 in
theorem ggX11_missed_X11_bad : GoodIn wsX11_missed wsX11_bad := goodIn_r _ [25, 26, 31, 32, 33, 34, 35, 36, 37, 38, 39, 40, 41, 42, 43, 44, 45, 46, 47, 48] (by decide +kernel) (by decide +kernel)
set_option maxRecDepth 20000 in
theorem gX11_missed_X11_bad : GoodIn wsX11_missed (wsV RX11 73 RX11 yX11_bad wsX11_bad) := goodIn_app (goodIn_of _ (by decide +kernel)) ggX11_missed_X11_bad
theorem dX11_missed_0 : decode cX11_missed 0 = .ok (.aload_n 0, 1) := by decide +kernel
theorem dX11_missed_1 : decode cX11_missed 1 = .ok (.iload_n 1, 1) := by decide +kernel
theorem dX11_missed_2 : decode cX11_missed 2 = .ok (.invokevirtual 89, 3) := by decide +kernel
theorem dX11_missed_5 : decode cX11_missed 5 = .ok (.ifCond .eq 25, 3) := by decide +kernel
theorem dX11_missed_30 : decode cX11_missed 30 = .ok (.aload_n 0, 1) := by decide +kernel
theorem dX11_missed_31 : decode cX11_missed 31 = .ok (.bipush (-2), 2) := by decide +kernel
theorem dX11_missed_33 : decode cX11_missed 33 = .ok (.invokevirtual 73, 3) := by decide +kernel
theorem dX11_missed_36 : decode cX11_missed 36 = .ok (.ireturn, 1) := by decide +kernel
theorem dX11_clouds_0 : decode cX11_clouds 0 = .ok (.iconst 0, 1) := by decide +kernel
theorem dX11_clouds_1 : decode cX11_clouds 1 = .ok (.istore_n 1, 1) := by decide +kernel
theorem dX11_clouds_2 : decode cX11_clouds 2 = .ok (.iconst 0, 1) := by decide +kernel
theorem dX11_clouds_3 : decode cX11_clouds 3 = .ok (.istore_n 2, 1) := by decide +kernel
theorem dX11_clouds_4 : decode cX11_clouds 4 = .ok (.iload_n 2, 1) := by decide +kernel
theorem dX11_clouds_5 : decode cX11_clouds 5 = .ok (.bipush 10, 2) := by decide +kernel
theorem dX11_clouds_7 : decode cX11_clouds 7 = .ok (.if_icmp .ge 113, 3) := by decide +kernel
theorem dX11_clouds_10 : decode cX11_clouds 10 = .ok (.iconst 1, 1) := by decide +kernel
theorem dX11_clouds_11 : decode cX11_clouds 11 = .ok (.istore_n 3, 1) := by decide +kernel
theorem dX11_clouds_12 : decode cX11_clouds 12 = .ok (.iconst 0, 1) := by decide +kernel
theorem dX11_clouds_13 : decode cX11_clouds 13 = .ok (.istore 4, 2) := by decide +kernel
theorem dX11_clouds_15 : decode cX11_clouds 15 = .ok (.iload 4, 2) := by decide +kernel
theorem dX11_clouds_17 : decode cX11_clouds 17 = .ok (.aload_n 0, 1) := by decide +kernel
theorem dX11_clouds_18 : decode cX11_clouds 18 = .ok (.getfield 7, 3) := by decide +kernel
theorem dX11_clouds_21 : decode cX11_clouds 21 = .ok (.iconst 2, 1) := by decide +kernel
theorem dX11_clouds_22 : decode cX11_clouds 22 = .ok (.iaload, 1) := by decide +kernel
theorem dX11_clouds_23 : decode cX11_clouds 23 = .ok (.if_icmp .ge 77, 3) := by decide +kernel
theorem dX11_clouds_100 : decode cX11_clouds 100 = .ok (.iload_n 1, 1) := by decide +kernel
theorem dX11_clouds_101 : decode cX11_clouds 101 = .ok (.iload_n 3, 1) := by decide +kernel
theorem dX11_clouds_102 : decode cX11_clouds 102 = .ok (.ifCond .eq 9, 3) := by decide +kernel
theorem dX11_clouds_105 : decode cX11_clouds 105 = .ok (.iconst 1, 1) := by decide +kernel
theorem dX11_clouds_106 : decode cX11_clouds 106 = .ok (.iload_n 2, 1) := by decide +kernel
theorem dX11_clouds_107 : decode cX11_clouds 107 = .ok (.ishl, 1) := by decide +kernel
theorem dX11_clouds_108 : decode cX11_clouds 108 = .ok (.goto 4, 3) := by decide +kernel
theorem dX11_clouds_112 : decode cX11_clouds 112 = .ok (.ior, 1) := by decide +kernel
theorem dX11_clouds_113 : decode cX11_clouds 113 = .ok (.istore_n 1, 1) := by decide +kernel
theorem dX11_clouds_114 : decode cX11_clouds 114 = .ok (.iinc 2 1, 3) := by decide +kernel
theorem dX11_clouds_117 : decode cX11_clouds 117 = .ok (.goto (-113), 3) := by decide +kernel
theorem dX11_clouds_120 : decode cX11_clouds 120 = .ok (.iload_n 1, 1) := by decide +kernel
theorem dX11_clouds_121 : decode cX11_clouds 121 = .ok (.ireturn, 1) := by decide +kernel
set_option maxRecDepth 20000 in
theorem ggX11_note_X11_isField : GoodIn wsX11_note wsX11_isField := goodIn_r _ [7, 8, 9, 10, 6, 11, 2, 12, 13, 14, 36, 37, 38, 39, 40, 41, 42, 43, 44, 45, 46, 47, 48, 49, 50, 51, 52, 53] (by decide +kernel) (by decide +kernel)
set_option maxRecDepth 20000 in
theorem gX11_note_X11_isField : GoodIn wsX11_note (wsV RX11 89 RX11 yX11_isField wsX11_isField) := goodIn_app (goodIn_of _ (by decide +kernel)) ggX11_note_X11_isField
set_option maxRecDepth 20000 in
theorem ggX11_note_X11_bad : GoodIn wsX11_note wsX11_bad := goodIn_r _ [30, 31, 36, 37, 38, 39, 40, 41, 42, 43, 44, 45, 46, 47, 48, 49, 50, 51, 52, 53] (by decide +kernel) (by decide +kernel)
set_option maxRecDepth 20000 in
theorem gX11_note_X11_bad : GoodIn wsX11_note (wsV RX11 73 RX11 yX11_bad wsX11_bad) := goodIn_app (goodIn_of _ (by decide +kernel)) ggX11_note_X11_bad
theorem dX11_note_0 : decode cX11_note 0 = .ok (.aload_n 0, 1) := by decide +kernel
theorem dX11_note_1 : decode cX11_note 1 = .ok (.iload_n 1, 1) := by decide +kernel
theorem dX11_note_2 : decode cX11_note 2 = .ok (.invokevirtual 89, 3) := by decide +kernel
theorem dX11_note_5 : decode cX11_note 5 = .ok (.ifCond .eq 38, 3) := by decide +kernel
theorem dX11_note_43 : decode cX11_note 43 = .ok (.aload_n 0, 1) := by decide +kernel
theorem dX11_note_44 : decode cX11_note 44 = .ok (.bipush (-2), 2) := by decide +kernel
theorem dX11_note_46 : decode cX11_note 46 = .ok (.invokevirtual 73, 3) := by decide +kernel
theorem dX11_note_49 : decode cX11_note 49 = .ok (.ireturn, 1) := by decide +kernel
set_option maxRecDepth 20000 in
theorem ggX11_forget_X11_in : GoodIn wsX11_forget wsX11_in := goodIn_r _ [5] (by decide +kernel) (by decide +kernel)
set_option maxRecDepth 20000 in
theorem gX11_forget_X11_in : GoodIn wsX11_forget (va_wsS RX11 56 yX11_in wsX11_in) := goodIn_app (goodIn_of _ (by decide +kernel)) ggX11_forget_X11_in
set_option maxRecDepth 20000 in
theorem ggX11_forget_X11_bad : GoodIn wsX11_forget wsX11_bad := goodIn_r _ [9, 10, 11, 12, 13, 14, 15, 16, 17, 18, 19, 20, 21, 22, 23, 24, 25, 26, 27, 28] (by decide +kernel) (by decide +kernel)
set_option maxRecDepth 20000 in
theorem gX11_forget_X11_bad : GoodIn wsX11_forget (wsV RX11 73 RX11 yX11_bad wsX11_bad) := goodIn_app (goodIn_of _ (by decide +kernel)) ggX11_forget_X11_bad
theorem dX11_forget_0 : decode cX11_forget 0 = .ok (.iload_n 1, 1) := by decide +kernel
theorem dX11_forget_1 : decode cX11_forget 1 = .ok (.i2l, 1) := by decide +kernel
theorem dX11_forget_2 : decode cX11_forget 2 = .ok (.lconst 0, 1) := by decide +kernel
theorem dX11_forget_3 : decode cX11_forget 3 = .ok (.lconst 1, 1) := by decide +kernel
theorem dX11_forget_4 : decode cX11_forget 4 = .ok (.invokestatic 56, 3) := by decide +kernel
theorem dX11_forget_7 : decode cX11_forget 7 = .ok (.ifCond .ne 10, 3) := by decide +kernel
theorem dX11_forget_10 : decode cX11_forget 10 = .ok (.aload_n 0, 1) := by decide +kernel
theorem dX11_forget_11 : decode cX11_forget 11 = .ok (.bipush (-2), 2) := by decide +kernel
theorem dX11_forget_13 : decode cX11_forget 13 = .ok (.invokevirtual 73, 3) := by decide +kernel
theorem dX11_forget_16 : decode cX11_forget 16 = .ok (.ireturn, 1) := by decide +kernel
theorem dX11_forget_17 : decode cX11_forget 17 = .ok (.aload_n 0, 1) := by decide +kernel
theorem dX11_forget_18 : decode cX11_forget 18 = .ok (.getfield 7, 3) := by decide +kernel
theorem dX11_forget_21 : decode cX11_forget 21 = .ok (.iconst 2, 1) := by decide +kernel
theorem dX11_forget_22 : decode cX11_forget 22 = .ok (.iload_n 1, 1) := by decide +kernel
theorem dX11_forget_23 : decode cX11_forget 23 = .ok (.iadd, 1) := by decide +kernel
theorem dX11_forget_24 : decode cX11_forget 24 = .ok (.iaload, 1) := by decide +kernel
theorem dX11_forget_25 : decode cX11_forget 25 = .ok (.istore_n 2, 1) := by decide +kernel
theorem dX11_forget_26 : decode cX11_forget 26 = .ok (.aload_n 0, 1) := by decide +kernel
theorem dX11_forget_27 : decode cX11_forget 27 = .ok (.getfield 7, 3) := by decide +kernel
theorem dX11_forget_30 : decode cX11_forget 30 = .ok (.iconst 2, 1) := by decide +kernel
theorem dX11_forget_31 : decode cX11_forget 31 = .ok (.iload_n 1, 1) := by decide +kernel
theorem dX11_forget_32 : decode cX11_forget 32 = .ok (.iadd, 1) := by decide +kernel
theorem dX11_forget_33 : decode cX11_forget 33 = .ok (.iconst 0, 1) := by decide +kernel
theorem dX11_forget_34 : decode cX11_forget 34 = .ok (.iastore, 1) := by decide +kernel
theorem dX11_forget_35 : decode cX11_forget 35 = .ok (.iload_n 2, 1) := by decide +kernel
theorem dX11_forget_36 : decode cX11_forget 36 = .ok (.ireturn, 1) := by decide +kernel
set_option maxRecDepth 20000 in
theorem ggX11_is_X11_isField : GoodIn wsX11_is wsX11_isField := goodIn_r _ [5, 6, 7, 8, 4, 9, 10, 11, 12, 13, 32, 33, 34, 35, 36, 37, 38, 39, 40, 41, 42, 43, 44, 45, 46, 47, 48, 49] (by decide +kernel) (by decide +kernel)
set_option maxRecDepth 20000 in
theorem gX11_is_X11_isField : GoodIn wsX11_is (wsV RX11 89 RX11 yX11_isField wsX11_isField) := goodIn_app (goodIn_of _ (by decide +kernel)) ggX11_is_X11_isField
set_option maxRecDepth 20000 in
theorem ggX11_is_X11_bad : GoodIn wsX11_is wsX11_bad := goodIn_r _ [30, 31, 32, 33, 34, 35, 36, 37, 38, 39, 40, 41, 42, 43, 44, 45, 46, 47, 48, 49] (by decide +kernel) (by decide +kernel)
set_option maxRecDepth 20000 in
theorem gX11_is_X11_bad : GoodIn wsX11_is (wsV RX11 73 RX11 yX11_bad wsX11_bad) := goodIn_app (goodIn_of _ (by decide +kernel)) ggX11_is_X11_bad
theorem dX11_is_0 : decode cX11_is 0 = .ok (.aload_n 0, 1) := by decide +kernel
theorem dX11_is_1 : decode cX11_is 1 = .ok (.iload_n 1, 1) := by decide +kernel
theorem dX11_is_2 : decode cX11_is 2 = .ok (.invokevirtual 89, 3) := by decide +kernel
theorem dX11_is_5 : decode cX11_is 5 = .ok (.ifCond .eq 11, 3) := by decide +kernel
theorem dX11_is_16 : decode cX11_is 16 = .ok (.aload_n 0, 1) := by decide +kernel
theorem dX11_is_17 : decode cX11_is 17 = .ok (.bipush (-2), 2) := by decide +kernel
theorem dX11_is_19 : decode cX11_is 19 = .ok (.invokevirtual 73, 3) := by decide +kernel
theorem dX11_is_22 : decode cX11_is 22 = .ok (.ireturn, 1) := by decide +kernel
set_option maxRecDepth 20000 in
theorem ggX11_look_X11_isField : GoodIn wsX11_look wsX11_isField := goodIn_r _ [7, 8, 9, 10, 6, 11, 2, 12, 13, 14, 36, 37, 38, 39, 40, 41, 42, 43, 44, 45, 46, 47, 48, 49, 50, 51, 52, 53] (by decide +kernel) (by decide +kernel)
set_option maxRecDepth 20000 in
theorem gX11_look_X11_isField : GoodIn wsX11_look (wsV RX11 89 RX11 yX11_isField wsX11_isField) := goodIn_app (goodIn_of _ (by decide +kernel)) ggX11_look_X11_isField
set_option maxRecDepth 20000 in
theorem ggX11_look_X11_bad : GoodIn wsX11_look wsX11_bad := goodIn_r _ [18, 19, 36, 37, 38, 39, 40, 41, 42, 43, 44, 45, 46, 47, 48, 49, 50, 51, 52, 53] (by decide +kernel) (by decide +kernel)
set_option maxRecDepth 20000 in
theorem gX11_look_X11_bad : GoodIn wsX11_look (wsV RX11 73 RX11 yX11_bad wsX11_bad) := goodIn_app (goodIn_of _ (by decide +kernel)) ggX11_look_X11_bad
theorem dX11_look_0 : decode cX11_look 0 = .ok (.aload_n 0, 1) := by decide +kernel
theorem dX11_look_1 : decode cX11_look 1 = .ok (.iload_n 1, 1) := by decide +kernel
theorem dX11_look_2 : decode cX11_look 2 = .ok (.invokevirtual 89, 3) := by decide +kernel
theorem dX11_look_5 : decode cX11_look 5 = .ok (.ifCond .ne 10, 3) := by decide +kernel
theorem dX11_look_8 : decode cX11_look 8 = .ok (.aload_n 0, 1) := by decide +kernel
theorem dX11_look_9 : decode cX11_look 9 = .ok (.bipush (-2), 2) := by decide +kernel
theorem dX11_look_11 : decode cX11_look 11 = .ok (.invokevirtual 73, 3) := by decide +kernel
theorem dX11_look_14 : decode cX11_look 14 = .ok (.ireturn, 1) := by decide +kernel
set_option maxRecDepth 20000 in
theorem ggX11_two_X11_isGleaner : GoodIn wsX11_two wsX11_isGleaner := goodIn_r _ [5, 6, 7, 8, 4, 9, 10, 11, 12, 13, 46, 47, 48, 49, 50, 51, 52, 53, 54, 55, 56, 57, 58, 59, 60, 61, 62, 63] (by decide +kernel) (by decide +kernel)
set_option maxRecDepth 20000 in
theorem gX11_two_X11_isGleaner : GoodIn wsX11_two (wsV RX11 133 RX11 yX11_isGleaner wsX11_isGleaner) := goodIn_app (goodIn_of _ (by decide +kernel)) ggX11_two_X11_isGleaner
set_option maxRecDepth 20000 in
theorem ggX11_two_X11_bad : GoodIn wsX11_two wsX11_bad := goodIn_r _ [17, 18, 46, 47, 48, 49, 50, 51, 52, 53, 54, 55, 56, 57, 58, 59, 60, 61, 62, 63] (by decide +kernel) (by decide +kernel)
set_option maxRecDepth 20000 in
theorem gX11_two_X11_bad : GoodIn wsX11_two (wsV RX11 73 RX11 yX11_bad wsX11_bad) := goodIn_app (goodIn_of _ (by decide +kernel)) ggX11_two_X11_bad
theorem dX11_two_0 : decode cX11_two 0 = .ok (.aload_n 0, 1) := by decide +kernel
theorem dX11_two_1 : decode cX11_two 1 = .ok (.iload_n 1, 1) := by decide +kernel
theorem dX11_two_2 : decode cX11_two 2 = .ok (.invokevirtual 133, 3) := by decide +kernel
theorem dX11_two_5 : decode cX11_two 5 = .ok (.ifCond .eq 21, 3) := by decide +kernel
theorem dX11_two_26 : decode cX11_two 26 = .ok (.aload_n 0, 1) := by decide +kernel
theorem dX11_two_27 : decode cX11_two 27 = .ok (.bipush (-10), 2) := by decide +kernel
theorem dX11_two_29 : decode cX11_two 29 = .ok (.invokevirtual 73, 3) := by decide +kernel
theorem dX11_two_32 : decode cX11_two 32 = .ok (.ireturn, 1) := by decide +kernel
set_option maxRecDepth 20000 in
theorem ggX11_rains_X11_isField : GoodIn wsX11_rains wsX11_isField := goodIn_r _ [8, 9, 10, 11, 7, 12, 3, 13, 14, 15, 43, 44, 45, 46, 47, 48, 49, 50, 51, 52, 53, 54, 55, 56, 57, 58, 59, 60] (by decide +kernel) (by decide +kernel)
set_option maxRecDepth 20000 in
theorem gX11_rains_X11_isField : GoodIn wsX11_rains (wsV RX11 89 RX11 yX11_isField wsX11_isField) := goodIn_app (goodIn_of _ (by decide +kernel)) ggX11_rains_X11_isField
set_option maxRecDepth 20000 in
theorem ggX11_rains_X11_bad : GoodIn wsX11_rains wsX11_bad := goodIn_r _ [19, 20, 43, 44, 45, 46, 47, 48, 49, 50, 51, 52, 53, 54, 55, 56, 57, 58, 59, 60] (by decide +kernel) (by decide +kernel)
set_option maxRecDepth 20000 in
theorem gX11_rains_X11_bad : GoodIn wsX11_rains (wsV RX11 73 RX11 yX11_bad wsX11_bad) := goodIn_app (goodIn_of _ (by decide +kernel)) ggX11_rains_X11_bad
theorem dX11_rains_0 : decode cX11_rains 0 = .ok (.aload_n 0, 1) := by decide +kernel
theorem dX11_rains_1 : decode cX11_rains 1 = .ok (.iload_n 1, 1) := by decide +kernel
theorem dX11_rains_2 : decode cX11_rains 2 = .ok (.invokevirtual 89, 3) := by decide +kernel
theorem dX11_rains_5 : decode cX11_rains 5 = .ok (.ifCond .eq 15, 3) := by decide +kernel
theorem dX11_rains_20 : decode cX11_rains 20 = .ok (.aload_n 0, 1) := by decide +kernel
theorem dX11_rains_21 : decode cX11_rains 21 = .ok (.bipush (-2), 2) := by decide +kernel
theorem dX11_rains_23 : decode cX11_rains 23 = .ok (.invokevirtual 73, 3) := by decide +kernel
theorem dX11_rains_26 : decode cX11_rains 26 = .ok (.ireturn, 1) := by decide +kernel
set_option maxRecDepth 20000 in
theorem ggX11_summers_X11_in : GoodIn wsX11_summers wsX11_in := goodIn_r _ [12] (by decide +kernel) (by decide +kernel)
set_option maxRecDepth 20000 in
theorem gX11_summers_X11_in : GoodIn wsX11_summers (va_wsS RX11 56 yX11_in wsX11_in) := goodIn_app (goodIn_of _ (by decide +kernel)) ggX11_summers_X11_in
set_option maxRecDepth 20000 in
theorem ggX11_summers_X11_bad : GoodIn wsX11_summers wsX11_bad := goodIn_r _ [16, 17, 47, 48, 49, 50, 51, 52, 53, 54, 55, 56, 57, 58, 59, 60, 61, 62, 63, 64] (by decide +kernel) (by decide +kernel)
set_option maxRecDepth 20000 in
theorem gX11_summers_X11_bad : GoodIn wsX11_summers (wsV RX11 73 RX11 yX11_bad wsX11_bad) := goodIn_app (goodIn_of _ (by decide +kernel)) ggX11_summers_X11_bad
set_option maxRecDepth 20000 in
theorem ggX11_summers_X11_layHand : GoodIn wsX11_summers wsX11_layHand := goodIn_r _ [21, 6, 22, 47, 48, 49, 50, 51, 52, 53, 54, 55, 56, 57, 58, 59, 60, 61, 62, 63, 64] (by decide +kernel) (by decide +kernel)
set_option maxRecDepth 20000 in
theorem gX11_summers_X11_layHand : GoodIn wsX11_summers (wsV RX11 147 RX11 yX11_layHand wsX11_layHand) := goodIn_app (goodIn_of _ (by decide +kernel)) ggX11_summers_X11_layHand
set_option maxRecDepth 20000 in
theorem ggX11_summers_X11_goNight : GoodIn wsX11_summers wsX11_goNight := goodIn_r _ [25, 26, 27, 11, 28] (by decide +kernel) (by decide +kernel)
set_option maxRecDepth 20000 in
theorem gX11_summers_X11_goNight : GoodIn wsX11_summers (va_wsS RX11 129 yX11_goNight wsX11_goNight) := goodIn_app (goodIn_of _ (by decide +kernel)) ggX11_summers_X11_goNight
set_option maxRecDepth 20000 in
theorem ggX11_summers_X11_goStep : GoodIn wsX11_summers wsX11_goStep := goodIn_r _ [31, 32, 33, 11, 34, 35, 36, 37, 38, 39, 40, 41, 42, 43, 44, 45, 46] (by decide +kernel) (by decide +kernel)
set_option maxRecDepth 20000 in
theorem gX11_summers_X11_goStep : GoodIn wsX11_summers (va_wsS RX11 125 yX11_goStep wsX11_goStep) := goodIn_app (goodIn_of _ (by decide +kernel)) ggX11_summers_X11_goStep
theorem dX11_summers_0 : decode cX11_summers 0 = .ok (.iload_n 1, 1) := by decide +kernel
theorem dX11_summers_1 : decode cX11_summers 1 = .ok (.i2l, 1) := by decide +kernel
theorem dX11_summers_2 : decode cX11_summers 2 = .ok (.lconst 0, 1) := by decide +kernel
theorem dX11_summers_3 : decode cX11_summers 3 = .ok (.ldc2_w 198, 3) := by decide +kernel
theorem dX11_summers_6 : decode cX11_summers 6 = .ok (.invokestatic 56, 3) := by decide +kernel
theorem dX11_summers_9 : decode cX11_summers 9 = .ok (.ifCond .eq 15, 3) := by decide +kernel
theorem dX11_summers_12 : decode cX11_summers 12 = .ok (.iload_n 2, 1) := by decide +kernel
theorem dX11_summers_13 : decode cX11_summers 13 = .ok (.i2l, 1) := by decide +kernel
theorem dX11_summers_14 : decode cX11_summers 14 = .ok (.lconst 0, 1) := by decide +kernel
theorem dX11_summers_15 : decode cX11_summers 15 = .ok (.ldc2_w 67, 3) := by decide +kernel
theorem dX11_summers_18 : decode cX11_summers 18 = .ok (.invokestatic 56, 3) := by decide +kernel
theorem dX11_summers_21 : decode cX11_summers 21 = .ok (.ifCond .ne 10, 3) := by decide +kernel
theorem dX11_summers_24 : decode cX11_summers 24 = .ok (.aload_n 0, 1) := by decide +kernel
theorem dX11_summers_25 : decode cX11_summers 25 = .ok (.bipush (-2), 2) := by decide +kernel
theorem dX11_summers_27 : decode cX11_summers 27 = .ok (.invokevirtual 73, 3) := by decide +kernel
theorem dX11_summers_30 : decode cX11_summers 30 = .ok (.ireturn, 1) := by decide +kernel
theorem dX11_summers_31 : decode cX11_summers 31 = .ok (.iload_n 1, 1) := by decide +kernel
theorem dX11_summers_32 : decode cX11_summers 32 = .ok (.i2l, 1) := by decide +kernel
theorem dX11_summers_33 : decode cX11_summers 33 = .ok (.lstore_n 3, 1) := by decide +kernel
theorem dX11_summers_34 : decode cX11_summers 34 = .ok (.iconst 0, 1) := by decide +kernel
theorem dX11_summers_35 : decode cX11_summers 35 = .ok (.istore 5, 2) := by decide +kernel
theorem dX11_summers_37 : decode cX11_summers 37 = .ok (.aload_n 0, 1) := by decide +kernel
theorem dX11_summers_38 : decode cX11_summers 38 = .ok (.invokevirtual 147, 3) := by decide +kernel
theorem dX11_summers_41 : decode cX11_summers 41 = .ok (.iconst 0, 1) := by decide +kernel
theorem dX11_summers_42 : decode cX11_summers 42 = .ok (.istore 6, 2) := by decide +kernel
theorem dX11_summers_44 : decode cX11_summers 44 = .ok (.iload 6, 2) := by decide +kernel
theorem dX11_summers_46 : decode cX11_summers 46 = .ok (.iload_n 2, 1) := by decide +kernel
theorem dX11_summers_47 : decode cX11_summers 47 = .ok (.if_icmp .ge 71, 3) := by decide +kernel
theorem dX11_summers_50 : decode cX11_summers 50 = .ok (.lload_n 3, 1) := by decide +kernel
theorem dX11_summers_51 : decode cX11_summers 51 = .ok (.ldc2_w 200, 3) := by decide +kernel
theorem dX11_summers_54 : decode cX11_summers 54 = .ok (.lmul, 1) := by decide +kernel
theorem dX11_summers_55 : decode cX11_summers 55 = .ok (.ldc2_w 202, 3) := by decide +kernel
theorem dX11_summers_58 : decode cX11_summers 58 = .ok (.ladd, 1) := by decide +kernel
theorem dX11_summers_59 : decode cX11_summers 59 = .ok (.ldc2_w 204, 3) := by decide +kernel
theorem dX11_summers_62 : decode cX11_summers 62 = .ok (.lrem, 1) := by decide +kernel
theorem dX11_summers_63 : decode cX11_summers 63 = .ok (.lstore_n 3, 1) := by decide +kernel
theorem dX11_summers_64 : decode cX11_summers 64 = .ok (.aload_n 0, 1) := by decide +kernel
theorem dX11_summers_65 : decode cX11_summers 65 = .ok (.getfield 27, 3) := by decide +kernel
theorem dX11_summers_68 : decode cX11_summers 68 = .ok (.bipush 21, 2) := by decide +kernel
theorem dX11_summers_70 : decode cX11_summers 70 = .ok (.iaload, 1) := by decide +kernel
theorem dX11_summers_71 : decode cX11_summers 71 = .ok (.bipush 12, 2) := by decide +kernel
theorem dX11_summers_73 : decode cX11_summers 73 = .ok (.if_icmp .ne 10, 3) := by decide +kernel
theorem dX11_summers_76 : decode cX11_summers 76 = .ok (.aload_n 0, 1) := by decide +kernel
theorem dX11_summers_77 : decode cX11_summers 77 = .ok (.getfield 27, 3) := by decide +kernel
theorem dX11_summers_80 : decode cX11_summers 80 = .ok (.invokestatic 129, 3) := by decide +kernel
theorem dX11_summers_83 : decode cX11_summers 83 = .ok (.aload_n 0, 1) := by decide +kernel
theorem dX11_summers_84 : decode cX11_summers 84 = .ok (.getfield 27, 3) := by decide +kernel
theorem dX11_summers_87 : decode cX11_summers 87 = .ok (.bipush 22, 2) := by decide +kernel
theorem dX11_summers_89 : decode cX11_summers 89 = .ok (.lload_n 3, 1) := by decide +kernel
theorem dX11_summers_90 : decode cX11_summers 90 = .ok (.ldc2_w 206, 3) := by decide +kernel
theorem dX11_summers_93 : decode cX11_summers 93 = .ok (.ldiv, 1) := by decide +kernel
theorem dX11_summers_94 : decode cX11_summers 94 = .ok (.ldc2_w 192, 3) := by decide +kernel
theorem dX11_summers_97 : decode cX11_summers 97 = .ok (.lrem, 1) := by decide +kernel
theorem dX11_summers_98 : decode cX11_summers 98 = .ok (.l2i, 1) := by decide +kernel
theorem dX11_summers_99 : decode cX11_summers 99 = .ok (.iastore, 1) := by decide +kernel
theorem dX11_summers_100 : decode cX11_summers 100 = .ok (.iload 5, 2) := by decide +kernel
theorem dX11_summers_102 : decode cX11_summers 102 = .ok (.aload_n 0, 1) := by decide +kernel
theorem dX11_summers_103 : decode cX11_summers 103 = .ok (.getfield 27, 3) := by decide +kernel
theorem dX11_summers_106 : decode cX11_summers 106 = .ok (.invokestatic 125, 3) := by decide +kernel
theorem dX11_summers_109 : decode cX11_summers 109 = .ok (.iadd, 1) := by decide +kernel
theorem dX11_summers_110 : decode cX11_summers 110 = .ok (.istore 5, 2) := by decide +kernel
theorem dX11_summers_112 : decode cX11_summers 112 = .ok (.iinc 6 1, 3) := by decide +kernel
theorem dX11_summers_115 : decode cX11_summers 115 = .ok (.goto (-71), 3) := by decide +kernel
theorem dX11_summers_118 : decode cX11_summers 118 = .ok (.iload 5, 2) := by decide +kernel
theorem dX11_summers_120 : decode cX11_summers 120 = .ok (.ireturn, 1) := by decide +kernel
set_option maxRecDepth 20000 in
theorem ggX11_type_X11_in : GoodIn wsX11_type wsX11_in := goodIn_r _ [7] (by decide +kernel) (by decide +kernel)
set_option maxRecDepth 20000 in
theorem gX11_type_X11_in : GoodIn wsX11_type (va_wsS RX11 56 yX11_in wsX11_in) := goodIn_app (goodIn_of _ (by decide +kernel)) ggX11_type_X11_in
set_option maxRecDepth 20000 in
theorem ggX11_type_X11_bad : GoodIn wsX11_type wsX11_bad := goodIn_r _ [11, 12, 17, 18, 19, 20, 21, 22, 23, 24, 25, 26, 27, 28, 29, 30, 31, 32, 33, 34] (by decide +kernel) (by decide +kernel)
set_option maxRecDepth 20000 in
theorem gX11_type_X11_bad : GoodIn wsX11_type (wsV RX11 73 RX11 yX11_bad wsX11_bad) := goodIn_app (goodIn_of _ (by decide +kernel)) ggX11_type_X11_bad
theorem dX11_type_0 : decode cX11_type 0 = .ok (.iload_n 1, 1) := by decide +kernel
theorem dX11_type_1 : decode cX11_type 1 = .ok (.i2l, 1) := by decide +kernel
theorem dX11_type_2 : decode cX11_type 2 = .ok (.lconst 0, 1) := by decide +kernel
theorem dX11_type_3 : decode cX11_type 3 = .ok (.ldc2_w 208, 3) := by decide +kernel
theorem dX11_type_6 : decode cX11_type 6 = .ok (.invokestatic 56, 3) := by decide +kernel
theorem dX11_type_9 : decode cX11_type 9 = .ok (.ifCond .ne 10, 3) := by decide +kernel
theorem dX11_type_12 : decode cX11_type 12 = .ok (.aload_n 0, 1) := by decide +kernel
theorem dX11_type_13 : decode cX11_type 13 = .ok (.bipush (-2), 2) := by decide +kernel
theorem dX11_type_15 : decode cX11_type 15 = .ok (.invokevirtual 73, 3) := by decide +kernel
theorem dX11_type_18 : decode cX11_type 18 = .ok (.ireturn, 1) := by decide +kernel
theorem dX11_type_19 : decode cX11_type 19 = .ok (.aload_n 0, 1) := by decide +kernel
theorem dX11_type_20 : decode cX11_type 20 = .ok (.getfield 210, 3) := by decide +kernel
theorem dX11_type_23 : decode cX11_type 23 = .ok (.sipush 150, 3) := by decide +kernel
theorem dX11_type_26 : decode cX11_type 26 = .ok (.if_icmp .ne 8, 3) := by decide +kernel
theorem dX11_type_34 : decode cX11_type 34 = .ok (.aload_n 0, 1) := by decide +kernel
theorem dX11_type_35 : decode cX11_type 35 = .ok (.getfield 39, 3) := by decide +kernel
theorem dX11_type_38 : decode cX11_type 38 = .ok (.aload_n 0, 1) := by decide +kernel
theorem dX11_type_39 : decode cX11_type 39 = .ok (.getfield 210, 3) := by decide +kernel
theorem dX11_type_42 : decode cX11_type 42 = .ok (.iload_n 1, 1) := by decide +kernel
theorem dX11_type_43 : decode cX11_type 43 = .ok (.iastore, 1) := by decide +kernel
theorem dX11_type_44 : decode cX11_type 44 = .ok (.aload_n 0, 1) := by decide +kernel
theorem dX11_type_45 : decode cX11_type 45 = .ok (.dup, 1) := by decide +kernel
theorem dX11_type_46 : decode cX11_type 46 = .ok (.getfield 210, 3) := by decide +kernel
theorem dX11_type_49 : decode cX11_type 49 = .ok (.iconst 1, 1) := by decide +kernel
theorem dX11_type_50 : decode cX11_type 50 = .ok (.iadd, 1) := by decide +kernel
theorem dX11_type_51 : decode cX11_type 51 = .ok (.putfield 210, 3) := by decide +kernel
theorem dX11_type_54 : decode cX11_type 54 = .ok (.aload_n 0, 1) := by decide +kernel
theorem dX11_type_55 : decode cX11_type 55 = .ok (.getfield 210, 3) := by decide +kernel
theorem dX11_type_58 : decode cX11_type 58 = .ok (.ireturn, 1) := by decide +kernel
theorem dX11_clear_0 : decode cX11_clear 0 = .ok (.aload_n 0, 1) := by decide +kernel
theorem dX11_clear_1 : decode cX11_clear 1 = .ok (.getfield 210, 3) := by decide +kernel
theorem dX11_clear_4 : decode cX11_clear 4 = .ok (.istore_n 1, 1) := by decide +kernel
theorem dX11_clear_5 : decode cX11_clear 5 = .ok (.aload_n 0, 1) := by decide +kernel
theorem dX11_clear_6 : decode cX11_clear 6 = .ok (.iconst 0, 1) := by decide +kernel
theorem dX11_clear_7 : decode cX11_clear 7 = .ok (.putfield 210, 3) := by decide +kernel
theorem dX11_clear_10 : decode cX11_clear 10 = .ok (.iload_n 1, 1) := by decide +kernel
theorem dX11_clear_11 : decode cX11_clear 11 = .ok (.ireturn, 1) := by decide +kernel
theorem dX11_lookAt_0 : decode cX11_lookAt 0 = .ok (.aload_n 0, 1) := by decide +kernel
theorem dX11_lookAt_1 : decode cX11_lookAt 1 = .ok (.iload_n 1, 1) := by decide +kernel
theorem dX11_lookAt_2 : decode cX11_lookAt 2 = .ok (.putfield 222, 3) := by decide +kernel
theorem dX11_lookAt_5 : decode cX11_lookAt 5 = .ok (.aload_n 0, 1) := by decide +kernel
theorem dX11_lookAt_6 : decode cX11_lookAt 6 = .ok (.getfield 222, 3) := by decide +kernel
theorem dX11_lookAt_9 : decode cX11_lookAt 9 = .ok (.aload_n 0, 1) := by decide +kernel
theorem dX11_lookAt_10 : decode cX11_lookAt 10 = .ok (.getfield 210, 3) := by decide +kernel
theorem dX11_lookAt_13 : decode cX11_lookAt 13 = .ok (.if_icmp .ge 30, 3) := by decide +kernel
theorem dX11_lookAt_43 : decode cX11_lookAt 43 = .ok (.aload_n 0, 1) := by decide +kernel
theorem dX11_lookAt_44 : decode cX11_lookAt 44 = .ok (.iconst 0, 1) := by decide +kernel
theorem dX11_lookAt_45 : decode cX11_lookAt 45 = .ok (.putfield 225, 3) := by decide +kernel
theorem dX11_lookAt_48 : decode cX11_lookAt 48 = .ok (.aload_n 0, 1) := by decide +kernel
theorem dX11_lookAt_49 : decode cX11_lookAt 49 = .ok (.iconst 0, 1) := by decide +kernel
theorem dX11_lookAt_50 : decode cX11_lookAt 50 = .ok (.putfield 228, 3) := by decide +kernel
theorem dX11_lookAt_53 : decode cX11_lookAt 53 = .ok (.aload_n 0, 1) := by decide +kernel
theorem dX11_lookAt_54 : decode cX11_lookAt 54 = .ok (.iconst 0, 1) := by decide +kernel
theorem dX11_lookAt_55 : decode cX11_lookAt 55 = .ok (.putfield 231, 3) := by decide +kernel
theorem dX11_lookAt_58 : decode cX11_lookAt 58 = .ok (.aload_n 0, 1) := by decide +kernel
theorem dX11_lookAt_59 : decode cX11_lookAt 59 = .ok (.getfield 222, 3) := by decide +kernel
theorem dX11_lookAt_62 : decode cX11_lookAt 62 = .ok (.aload_n 0, 1) := by decide +kernel
theorem dX11_lookAt_63 : decode cX11_lookAt 63 = .ok (.getfield 210, 3) := by decide +kernel
theorem dX11_lookAt_66 : decode cX11_lookAt 66 = .ok (.if_icmp .ne 4, 3) := by decide +kernel
theorem dX11_lookAt_69 : decode cX11_lookAt 69 = .ok (.return_, 1) := by decide +kernel
theorem dX11_spells_0 : decode cX11_spells 0 = .ok (.aload_n 0, 1) := by decide +kernel
theorem dX11_spells_1 : decode cX11_spells 1 = .ok (.getfield 228, 3) := by decide +kernel
theorem dX11_spells_4 : decode cX11_spells 4 = .ok (.iconst 1, 1) := by decide +kernel
theorem dX11_spells_5 : decode cX11_spells 5 = .ok (.if_icmp .ne 15, 3) := by decide +kernel
theorem dX11_spells_20 : decode cX11_spells 20 = .ok (.iconst 0, 1) := by decide +kernel
theorem dX11_spells_21 : decode cX11_spells 21 = .ok (.istore 8, 2) := by decide +kernel
theorem dX11_spells_23 : decode cX11_spells 23 = .ok (.iconst 0, 1) := by decide +kernel
theorem dX11_spells_24 : decode cX11_spells 24 = .ok (.istore 9, 2) := by decide +kernel
theorem dX11_spells_26 : decode cX11_spells 26 = .ok (.iload 9, 2) := by decide +kernel
theorem dX11_spells_28 : decode cX11_spells 28 = .ok (.iload_n 1, 1) := by decide +kernel
theorem dX11_spells_29 : decode cX11_spells 29 = .ok (.if_icmp .ge 90, 3) := by decide +kernel
theorem dX11_spells_32 : decode cX11_spells 32 = .ok (.iload 8, 2) := by decide +kernel
theorem dX11_spells_34 : decode cX11_spells 34 = .ok (.ifCond .eq 85, 3) := by decide +kernel
theorem dX11_spells_119 : decode cX11_spells 119 = .ok (.iload 8, 2) := by decide +kernel
theorem dX11_spells_121 : decode cX11_spells 121 = .ok (.ireturn, 1) := by decide +kernel
set_option maxRecDepth 20000 in
theorem ggX11_takesParish_X11_spells : GoodIn wsX11_takesParish wsX11_spells := goodIn_r _ [8, 3, 9, 10, 11, 42, 43, 44, 45, 46, 47, 48, 49, 50, 51, 52, 53, 54, 55, 56, 57, 58, 59] (by decide +kernel) (by decide +kernel)
set_option maxRecDepth 20000 in
theorem gX11_takesParish_X11_spells : GoodIn wsX11_takesParish (wsV RX11 247 RX11 yX11_spells wsX11_spells) := goodIn_app (goodIn_of _ (by decide +kernel)) ggX11_takesParish_X11_spells
theorem dX11_takesParish_0 : decode cX11_takesParish 0 = .ok (.aload_n 0, 1) := by decide +kernel
theorem dX11_takesParish_1 : decode cX11_takesParish 1 = .ok (.bipush 6, 2) := by decide +kernel
theorem dX11_takesParish_3 : decode cX11_takesParish 3 = .ok (.bipush 112, 2) := by decide +kernel
theorem dX11_takesParish_5 : decode cX11_takesParish 5 = .ok (.bipush 97, 2) := by decide +kernel
theorem dX11_takesParish_7 : decode cX11_takesParish 7 = .ok (.bipush 114, 2) := by decide +kernel
theorem dX11_takesParish_9 : decode cX11_takesParish 9 = .ok (.bipush 105, 2) := by decide +kernel
theorem dX11_takesParish_11 : decode cX11_takesParish 11 = .ok (.bipush 115, 2) := by decide +kernel
theorem dX11_takesParish_13 : decode cX11_takesParish 13 = .ok (.bipush 104, 2) := by decide +kernel
theorem dX11_takesParish_15 : decode cX11_takesParish 15 = .ok (.invokevirtual 247, 3) := by decide +kernel
theorem dX11_takesParish_18 : decode cX11_takesParish 18 = .ok (.ifCond .ne 5, 3) := by decide +kernel
theorem dX11_takesParish_21 : decode cX11_takesParish 21 = .ok (.iconst 0, 1) := by decide +kernel
theorem dX11_takesParish_22 : decode cX11_takesParish 22 = .ok (.ireturn, 1) := by decide +kernel
set_option maxRecDepth 20000 in
theorem ggX11_read_X11_lookAt : GoodIn wsX11_read wsX11_lookAt := goodIn_r _ [9, 1, 10, 11, 12, 2, 13, 14, 15, 8, 16, 17, 18, 19, 20, 21, 22, 23, 24, 25, 26, 91, 92, 93, 94, 95, 96, 97, 98, 99, 100, 101, 102, 103, 104, 105, 106, 107, 108] (by decide +kernel) (by decide +kernel)
set_option maxRecDepth 20000 in
theorem gX11_read_X11_lookAt : GoodIn wsX11_read (wsV RX11 240 RX11 yX11_lookAt wsX11_lookAt) := goodIn_app (goodIn_of _ (by decide +kernel)) ggX11_read_X11_lookAt
set_option maxRecDepth 20000 in
theorem ggX11_read_X11_takesParish : GoodIn wsX11_read wsX11_takesParish := goodIn_r _ [30, 4, 31, 2, 32, 33, 34, 8, 35, 12, 11, 1, 36, 37, 38, 39, 5, 6, 7, 9, 10, 13, 14, 15, 16, 17, 18, 19, 20, 21, 22, 23, 24, 25, 26, 40, 41, 42, 43, 44, 45, 46, 91, 92, 93, 94, 95, 96, 97, 98, 99, 100, 101, 102, 103, 104, 105, 106, 107, 108] (by decide +kernel) (by decide +kernel)
set_option maxRecDepth 20000 in
theorem gX11_read_X11_takesParish : GoodIn wsX11_read (wsV RX11 268 RX11 yX11_takesParish wsX11_takesParish) := goodIn_app (goodIn_of _ (by decide +kernel)) ggX11_read_X11_takesParish
theorem dX11_read_0 : decode cX11_read 0 = .ok (.aload_n 0, 1) := by decide +kernel
theorem dX11_read_1 : decode cX11_read 1 = .ok (.iconst 0, 1) := by decide +kernel
theorem dX11_read_2 : decode cX11_read 2 = .ok (.invokevirtual 240, 3) := by decide +kernel
theorem dX11_read_5 : decode cX11_read 5 = .ok (.aload_n 0, 1) := by decide +kernel
theorem dX11_read_6 : decode cX11_read 6 = .ok (.invokevirtual 268, 3) := by decide +kernel
theorem dX11_read_9 : decode cX11_read 9 = .ok (.ifCond .ne 11, 3) := by decide +kernel
theorem dX11_read_12 : decode cX11_read 12 = .ok (.bipush (-10), 2) := by decide +kernel
theorem dX11_read_14 : decode cX11_read 14 = .ok (.aload_n 0, 1) := by decide +kernel
theorem dX11_read_15 : decode cX11_read 15 = .ok (.getfield 222, 3) := by decide +kernel
theorem dX11_read_18 : decode cX11_read 18 = .ok (.isub, 1) := by decide +kernel
theorem dX11_read_19 : decode cX11_read 19 = .ok (.ireturn, 1) := by decide +kernel
set_option maxRecDepth 20000 in
theorem ggX11_part_X11_bad : GoodIn wsX11_part wsX11_bad := goodIn_r _ [7, 8, 9, 10, 11, 12, 13, 14, 15, 16, 17, 18, 19, 20, 21, 22, 23, 24, 25, 26] (by decide +kernel) (by decide +kernel)
set_option maxRecDepth 20000 in
theorem gX11_part_X11_bad : GoodIn wsX11_part (wsV RX11 73 RX11 yX11_bad wsX11_bad) := goodIn_app (goodIn_of _ (by decide +kernel)) ggX11_part_X11_bad
theorem dX11_part_0 : decode cX11_part 0 = .ok (.iload_n 1, 1) := by decide +kernel
theorem dX11_part_1 : decode cX11_part 1 = .ok (.ifCond .ne 10, 3) := by decide +kernel
theorem dX11_part_4 : decode cX11_part 4 = .ok (.aload_n 0, 1) := by decide +kernel
theorem dX11_part_5 : decode cX11_part 5 = .ok (.getfield 189, 3) := by decide +kernel
theorem dX11_part_8 : decode cX11_part 8 = .ok (.goto 22, 3) := by decide +kernel
theorem dX11_part_11 : decode cX11_part 11 = .ok (.iload_n 1, 1) := by decide +kernel
theorem dX11_part_12 : decode cX11_part 12 = .ok (.iconst 1, 1) := by decide +kernel
theorem dX11_part_13 : decode cX11_part 13 = .ok (.if_icmp .ne 10, 3) := by decide +kernel
theorem dX11_part_16 : decode cX11_part 16 = .ok (.aload_n 0, 1) := by decide +kernel
theorem dX11_part_17 : decode cX11_part 17 = .ok (.getfield 23, 3) := by decide +kernel
theorem dX11_part_20 : decode cX11_part 20 = .ok (.goto 10, 3) := by decide +kernel
theorem dX11_part_23 : decode cX11_part 23 = .ok (.aload_n 0, 1) := by decide +kernel
theorem dX11_part_24 : decode cX11_part 24 = .ok (.bipush (-2), 2) := by decide +kernel
theorem dX11_part_26 : decode cX11_part 26 = .ok (.invokevirtual 73, 3) := by decide +kernel
theorem dX11_part_29 : decode cX11_part 29 = .ok (.i2l, 1) := by decide +kernel
theorem dX11_part_30 : decode cX11_part 30 = .ok (.lreturn, 1) := by decide +kernel
set_option maxRecDepth 20000 in
theorem ggX11_image_X11_in : GoodIn wsX11_image wsX11_in := goodIn_r _ [7] (by decide +kernel) (by decide +kernel)
set_option maxRecDepth 20000 in
theorem gX11_image_X11_in : GoodIn wsX11_image (va_wsS RX11 56 yX11_in wsX11_in) := goodIn_app (goodIn_of _ (by decide +kernel)) ggX11_image_X11_in
set_option maxRecDepth 20000 in
theorem ggX11_image_X11_bad : GoodIn wsX11_image wsX11_bad := goodIn_r _ [11, 12, 13, 14, 15, 16, 17, 18, 19, 20, 21, 22, 23, 24, 25, 26, 27, 28, 29, 30] (by decide +kernel) (by decide +kernel)
set_option maxRecDepth 20000 in
theorem gX11_image_X11_bad : GoodIn wsX11_image (wsV RX11 73 RX11 yX11_bad wsX11_bad) := goodIn_app (goodIn_of _ (by decide +kernel)) ggX11_image_X11_bad
theorem dX11_image_0 : decode cX11_image 0 = .ok (.iload_n 1, 1) := by decide +kernel
theorem dX11_image_1 : decode cX11_image 1 = .ok (.i2l, 1) := by decide +kernel
theorem dX11_image_2 : decode cX11_image 2 = .ok (.lconst 0, 1) := by decide +kernel
theorem dX11_image_3 : decode cX11_image 3 = .ok (.lconst 1, 1) := by decide +kernel
theorem dX11_image_4 : decode cX11_image 4 = .ok (.invokestatic 56, 3) := by decide +kernel
theorem dX11_image_7 : decode cX11_image 7 = .ok (.ifCond .ne 10, 3) := by decide +kernel
theorem dX11_image_10 : decode cX11_image 10 = .ok (.aload_n 0, 1) := by decide +kernel
theorem dX11_image_11 : decode cX11_image 11 = .ok (.bipush (-2), 2) := by decide +kernel
theorem dX11_image_13 : decode cX11_image 13 = .ok (.invokevirtual 73, 3) := by decide +kernel
theorem dX11_image_16 : decode cX11_image 16 = .ok (.ireturn, 1) := by decide +kernel
theorem dX11_image_17 : decode cX11_image 17 = .ok (.iconst 0, 1) := by decide +kernel
theorem dX11_image_18 : decode cX11_image 18 = .ok (.istore_n 2, 1) := by decide +kernel
theorem dX11_image_19 : decode cX11_image 19 = .ok (.iload_n 2, 1) := by decide +kernel
theorem dX11_image_20 : decode cX11_image 20 = .ok (.sipush 228, 3) := by decide +kernel
theorem dX11_image_23 : decode cX11_image 23 = .ok (.if_icmp .ge 27, 3) := by decide +kernel
theorem dX11_image_26 : decode cX11_image 26 = .ok (.aload_n 0, 1) := by decide +kernel
theorem dX11_image_27 : decode cX11_image 27 = .ok (.getfield 13, 3) := by decide +kernel
theorem dX11_image_30 : decode cX11_image 30 = .ok (.sipush 228, 3) := by decide +kernel
theorem dX11_image_33 : decode cX11_image 33 = .ok (.iload_n 1, 1) := by decide +kernel
theorem dX11_image_34 : decode cX11_image 34 = .ok (.imul, 1) := by decide +kernel
theorem dX11_image_35 : decode cX11_image 35 = .ok (.iload_n 2, 1) := by decide +kernel
theorem dX11_image_36 : decode cX11_image 36 = .ok (.iadd, 1) := by decide +kernel
theorem dX11_image_37 : decode cX11_image 37 = .ok (.aload_n 0, 1) := by decide +kernel
theorem dX11_image_38 : decode cX11_image 38 = .ok (.getfield 7, 3) := by decide +kernel
theorem dX11_image_41 : decode cX11_image 41 = .ok (.iload_n 2, 1) := by decide +kernel
theorem dX11_image_42 : decode cX11_image 42 = .ok (.iaload, 1) := by decide +kernel
theorem dX11_image_43 : decode cX11_image 43 = .ok (.iastore, 1) := by decide +kernel
theorem dX11_image_44 : decode cX11_image 44 = .ok (.iinc 2 1, 3) := by decide +kernel
theorem dX11_image_47 : decode cX11_image 47 = .ok (.goto (-28), 3) := by decide +kernel
theorem dX11_image_50 : decode cX11_image 50 = .ok (.aload_n 0, 1) := by decide +kernel
theorem dX11_image_51 : decode cX11_image 51 = .ok (.getfield 16, 3) := by decide +kernel
theorem dX11_image_54 : decode cX11_image 54 = .ok (.iload_n 1, 1) := by decide +kernel
theorem dX11_image_55 : decode cX11_image 55 = .ok (.iconst 1, 1) := by decide +kernel
theorem dX11_image_56 : decode cX11_image 56 = .ok (.bastore, 1) := by decide +kernel
theorem dX11_image_57 : decode cX11_image 57 = .ok (.iconst 1, 1) := by decide +kernel
theorem dX11_image_58 : decode cX11_image 58 = .ok (.ireturn, 1) := by decide +kernel
set_option maxRecDepth 20000 in
theorem ggX11_from_X11_in : GoodIn wsX11_from wsX11_in := goodIn_r _ [7] (by decide +kernel) (by decide +kernel)
set_option maxRecDepth 20000 in
theorem gX11_from_X11_in : GoodIn wsX11_from (va_wsS RX11 56 yX11_in wsX11_in) := goodIn_app (goodIn_of _ (by decide +kernel)) ggX11_from_X11_in
set_option maxRecDepth 20000 in
theorem ggX11_from_X11_bad : GoodIn wsX11_from wsX11_bad := goodIn_r _ [11, 12, 17, 18, 19, 20, 21, 22, 23, 24, 25, 26, 27, 28, 29, 30, 31, 32, 33, 34] (by decide +kernel) (by decide +kernel)
set_option maxRecDepth 20000 in
theorem gX11_from_X11_bad : GoodIn wsX11_from (wsV RX11 73 RX11 yX11_bad wsX11_bad) := goodIn_app (goodIn_of _ (by decide +kernel)) ggX11_from_X11_bad
set_option maxRecDepth 20000 in
theorem ggX11_from_X11_no : GoodIn wsX11_from wsX11_no := goodIn_r _ [16, 12, 17, 18, 19, 20, 21, 22, 23, 24, 25, 26, 27, 28, 29, 30, 31, 32, 33, 34] (by decide +kernel) (by decide +kernel)
set_option maxRecDepth 20000 in
theorem gX11_from_X11_no : GoodIn wsX11_from (wsV RX11 119 RX11 yX11_no wsX11_no) := goodIn_app (goodIn_of _ (by decide +kernel)) ggX11_from_X11_no
theorem dX11_from_0 : decode cX11_from 0 = .ok (.iload_n 1, 1) := by decide +kernel
theorem dX11_from_1 : decode cX11_from 1 = .ok (.i2l, 1) := by decide +kernel
theorem dX11_from_2 : decode cX11_from 2 = .ok (.lconst 0, 1) := by decide +kernel
theorem dX11_from_3 : decode cX11_from 3 = .ok (.lconst 1, 1) := by decide +kernel
theorem dX11_from_4 : decode cX11_from 4 = .ok (.invokestatic 56, 3) := by decide +kernel
theorem dX11_from_7 : decode cX11_from 7 = .ok (.ifCond .ne 10, 3) := by decide +kernel
theorem dX11_from_10 : decode cX11_from 10 = .ok (.aload_n 0, 1) := by decide +kernel
theorem dX11_from_11 : decode cX11_from 11 = .ok (.bipush (-2), 2) := by decide +kernel
theorem dX11_from_13 : decode cX11_from 13 = .ok (.invokevirtual 73, 3) := by decide +kernel
theorem dX11_from_16 : decode cX11_from 16 = .ok (.ireturn, 1) := by decide +kernel
theorem dX11_from_17 : decode cX11_from 17 = .ok (.aload_n 0, 1) := by decide +kernel
theorem dX11_from_18 : decode cX11_from 18 = .ok (.getfield 16, 3) := by decide +kernel
theorem dX11_from_21 : decode cX11_from 21 = .ok (.iload_n 1, 1) := by decide +kernel
theorem dX11_from_22 : decode cX11_from 22 = .ok (.baload, 1) := by decide +kernel
theorem dX11_from_23 : decode cX11_from 23 = .ok (.ifCond .ne 8, 3) := by decide +kernel
theorem dX11_from_26 : decode cX11_from 26 = .ok (.aload_n 0, 1) := by decide +kernel
theorem dX11_from_27 : decode cX11_from 27 = .ok (.invokevirtual 119, 3) := by decide +kernel
theorem dX11_from_30 : decode cX11_from 30 = .ok (.ireturn, 1) := by decide +kernel
set_option maxRecDepth 20000 in
theorem ggX11_status_X11_in : GoodIn wsX11_status wsX11_in := goodIn_r _ [6] (by decide +kernel) (by decide +kernel)
set_option maxRecDepth 20000 in
theorem gX11_status_X11_in : GoodIn wsX11_status (va_wsS RX11 56 yX11_in wsX11_in) := goodIn_app (goodIn_of _ (by decide +kernel)) ggX11_status_X11_in
set_option maxRecDepth 20000 in
theorem ggX11_status_X11_bad : GoodIn wsX11_status wsX11_bad := goodIn_r _ [10, 2, 11, 12, 13, 14, 15, 16, 17, 18, 19, 20, 21, 22, 23, 24, 25, 26, 27, 28] (by decide +kernel) (by decide +kernel)
set_option maxRecDepth 20000 in
theorem gX11_status_X11_bad : GoodIn wsX11_status (wsV RX11 73 RX11 yX11_bad wsX11_bad) := goodIn_app (goodIn_of _ (by decide +kernel)) ggX11_status_X11_bad
theorem dX11_status_0 : decode cX11_status 0 = .ok (.iload_n 1, 1) := by decide +kernel
theorem dX11_status_1 : decode cX11_status 1 = .ok (.i2l, 1) := by decide +kernel
theorem dX11_status_2 : decode cX11_status 2 = .ok (.lconst 0, 1) := by decide +kernel
theorem dX11_status_3 : decode cX11_status 3 = .ok (.ldc2_w 136, 3) := by decide +kernel
theorem dX11_status_6 : decode cX11_status 6 = .ok (.invokestatic 56, 3) := by decide +kernel
theorem dX11_status_9 : decode cX11_status 9 = .ok (.ifCond .eq 12, 3) := by decide +kernel
theorem dX11_status_12 : decode cX11_status 12 = .ok (.aload_n 0, 1) := by decide +kernel
theorem dX11_status_13 : decode cX11_status 13 = .ok (.getfield 20, 3) := by decide +kernel
theorem dX11_status_16 : decode cX11_status 16 = .ok (.iload_n 1, 1) := by decide +kernel
theorem dX11_status_17 : decode cX11_status 17 = .ok (.iaload, 1) := by decide +kernel
theorem dX11_status_18 : decode cX11_status 18 = .ok (.goto 8, 3) := by decide +kernel
theorem dX11_status_21 : decode cX11_status 21 = .ok (.aload_n 0, 1) := by decide +kernel
theorem dX11_status_22 : decode cX11_status 22 = .ok (.iconst (-1), 1) := by decide +kernel
theorem dX11_status_23 : decode cX11_status 23 = .ok (.invokevirtual 73, 3) := by decide +kernel
theorem dX11_status_26 : decode cX11_status 26 = .ok (.ireturn, 1) := by decide +kernel
set_option maxRecDepth 20000 in
theorem ggX11_counted_X11_many : GoodIn wsX11_counted wsX11_many := goodIn_r _ [7, 1, 12, 13, 14, 15, 16, 17, 18, 19, 20, 21, 22, 23, 24, 25, 26, 27, 28, 29] (by decide +kernel) (by decide +kernel)
set_option maxRecDepth 20000 in
theorem gX11_counted_X11_many : GoodIn wsX11_counted (wsV RX11 52 RX11 yX11_many wsX11_many) := goodIn_app (goodIn_of _ (by decide +kernel)) ggX11_counted_X11_many
set_option maxRecDepth 20000 in
theorem ggX11_counted_X11_manyGleaners : GoodIn wsX11_counted wsX11_manyGleaners := goodIn_r _ [11, 1, 12, 13, 14, 15, 16, 17, 18, 19, 20, 21, 22, 23, 24, 25, 26, 27, 28, 29] (by decide +kernel) (by decide +kernel)
set_option maxRecDepth 20000 in
theorem gX11_counted_X11_manyGleaners : GoodIn wsX11_counted (wsV RX11 60 RX11 yX11_manyGleaners wsX11_manyGleaners) := goodIn_app (goodIn_of _ (by decide +kernel)) ggX11_counted_X11_manyGleaners
theorem dX11_counted_0 : decode cX11_counted 0 = .ok (.iload_n 1, 1) := by decide +kernel
theorem dX11_counted_1 : decode cX11_counted 1 = .ok (.tableswitch 102 0 7 #[47, 52, 57, 65, 73, 81, 88, 95], 47) := by decide +kernel
theorem dX11_counted_48 : decode cX11_counted 48 = .ok (.aload_n 0, 1) := by decide +kernel
theorem dX11_counted_49 : decode cX11_counted 49 = .ok (.invokevirtual 52, 3) := by decide +kernel
theorem dX11_counted_52 : decode cX11_counted 52 = .ok (.ireturn, 1) := by decide +kernel
theorem dX11_counted_53 : decode cX11_counted 53 = .ok (.aload_n 0, 1) := by decide +kernel
theorem dX11_counted_54 : decode cX11_counted 54 = .ok (.invokevirtual 60, 3) := by decide +kernel
theorem dX11_counted_57 : decode cX11_counted 57 = .ok (.ireturn, 1) := by decide +kernel
theorem dX11_counted_58 : decode cX11_counted 58 = .ok (.aload_n 0, 1) := by decide +kernel
theorem dX11_counted_59 : decode cX11_counted 59 = .ok (.getfield 7, 3) := by decide +kernel
theorem dX11_counted_62 : decode cX11_counted 62 = .ok (.bipush 21, 2) := by decide +kernel
theorem dX11_counted_64 : decode cX11_counted 64 = .ok (.iaload, 1) := by decide +kernel
theorem dX11_counted_65 : decode cX11_counted 65 = .ok (.ireturn, 1) := by decide +kernel
theorem dX11_counted_66 : decode cX11_counted 66 = .ok (.aload_n 0, 1) := by decide +kernel
theorem dX11_counted_67 : decode cX11_counted 67 = .ok (.getfield 7, 3) := by decide +kernel
theorem dX11_counted_70 : decode cX11_counted 70 = .ok (.bipush 22, 2) := by decide +kernel
theorem dX11_counted_72 : decode cX11_counted 72 = .ok (.iaload, 1) := by decide +kernel
theorem dX11_counted_73 : decode cX11_counted 73 = .ok (.ireturn, 1) := by decide +kernel
theorem dX11_counted_74 : decode cX11_counted 74 = .ok (.aload_n 0, 1) := by decide +kernel
theorem dX11_counted_75 : decode cX11_counted 75 = .ok (.getfield 7, 3) := by decide +kernel
theorem dX11_counted_78 : decode cX11_counted 78 = .ok (.bipush 23, 2) := by decide +kernel
theorem dX11_counted_80 : decode cX11_counted 80 = .ok (.iaload, 1) := by decide +kernel
theorem dX11_counted_81 : decode cX11_counted 81 = .ok (.ireturn, 1) := by decide +kernel
theorem dX11_counted_82 : decode cX11_counted 82 = .ok (.aload_n 0, 1) := by decide +kernel
theorem dX11_counted_83 : decode cX11_counted 83 = .ok (.getfield 7, 3) := by decide +kernel
theorem dX11_counted_86 : decode cX11_counted 86 = .ok (.iconst 2, 1) := by decide +kernel
theorem dX11_counted_87 : decode cX11_counted 87 = .ok (.iaload, 1) := by decide +kernel
theorem dX11_counted_88 : decode cX11_counted 88 = .ok (.ireturn, 1) := by decide +kernel
theorem dX11_counted_89 : decode cX11_counted 89 = .ok (.aload_n 0, 1) := by decide +kernel
theorem dX11_counted_90 : decode cX11_counted 90 = .ok (.getfield 7, 3) := by decide +kernel
theorem dX11_counted_93 : decode cX11_counted 93 = .ok (.iconst 3, 1) := by decide +kernel
theorem dX11_counted_94 : decode cX11_counted 94 = .ok (.iaload, 1) := by decide +kernel
theorem dX11_counted_95 : decode cX11_counted 95 = .ok (.ireturn, 1) := by decide +kernel
theorem dX11_counted_96 : decode cX11_counted 96 = .ok (.aload_n 0, 1) := by decide +kernel
theorem dX11_counted_97 : decode cX11_counted 97 = .ok (.getfield 7, 3) := by decide +kernel
theorem dX11_counted_100 : decode cX11_counted 100 = .ok (.iconst 4, 1) := by decide +kernel
theorem dX11_counted_101 : decode cX11_counted 101 = .ok (.iaload, 1) := by decide +kernel
theorem dX11_counted_102 : decode cX11_counted 102 = .ok (.ireturn, 1) := by decide +kernel
theorem dX11_counted_103 : decode cX11_counted 103 = .ok (.aload_n 0, 1) := by decide +kernel
theorem dX11_counted_104 : decode cX11_counted 104 = .ok (.getfield 210, 3) := by decide +kernel
theorem dX11_counted_107 : decode cX11_counted 107 = .ok (.ireturn, 1) := by decide +kernel
set_option maxRecDepth 20000 in
theorem ggX11_count_X11_in : GoodIn wsX11_count wsX11_in := goodIn_r _ [5] (by decide +kernel) (by decide +kernel)
set_option maxRecDepth 20000 in
theorem gX11_count_X11_in : GoodIn wsX11_count (va_wsS RX11 56 yX11_in wsX11_in) := goodIn_app (goodIn_of _ (by decide +kernel)) ggX11_count_X11_in
set_option maxRecDepth 20000 in
theorem ggX11_count_X11_counted : GoodIn wsX11_count wsX11_counted := goodIn_r _ [9, 10, 11, 12, 13, 14, 4, 15, 16, 17, 18, 19, 25, 26, 27, 28, 29, 30, 31, 32, 33, 34, 35, 36, 37, 38, 39, 40, 41, 42] (by decide +kernel) (by decide +kernel)
set_option maxRecDepth 20000 in
theorem gX11_count_X11_counted : GoodIn wsX11_count (wsV RX11 276 RX11 yX11_counted wsX11_counted) := goodIn_app (goodIn_of _ (by decide +kernel)) ggX11_count_X11_counted
set_option maxRecDepth 20000 in
theorem ggX11_count_X11_bad : GoodIn wsX11_count wsX11_bad := goodIn_r _ [23, 24, 25, 26, 27, 28, 29, 30, 31, 32, 33, 34, 35, 36, 37, 38, 39, 40, 41, 42] (by decide +kernel) (by decide +kernel)
set_option maxRecDepth 20000 in
theorem gX11_count_X11_bad : GoodIn wsX11_count (wsV RX11 73 RX11 yX11_bad wsX11_bad) := goodIn_app (goodIn_of _ (by decide +kernel)) ggX11_count_X11_bad
theorem dX11_count_0 : decode cX11_count 0 = .ok (.iload_n 1, 1) := by decide +kernel
theorem dX11_count_1 : decode cX11_count 1 = .ok (.i2l, 1) := by decide +kernel
theorem dX11_count_2 : decode cX11_count 2 = .ok (.lconst 0, 1) := by decide +kernel
theorem dX11_count_3 : decode cX11_count 3 = .ok (.ldc2_w 274, 3) := by decide +kernel
theorem dX11_count_6 : decode cX11_count 6 = .ok (.invokestatic 56, 3) := by decide +kernel
theorem dX11_count_9 : decode cX11_count 9 = .ok (.ifCond .eq 11, 3) := by decide +kernel
theorem dX11_count_12 : decode cX11_count 12 = .ok (.aload_n 0, 1) := by decide +kernel
theorem dX11_count_13 : decode cX11_count 13 = .ok (.iload_n 1, 1) := by decide +kernel
theorem dX11_count_14 : decode cX11_count 14 = .ok (.invokevirtual 276, 3) := by decide +kernel
theorem dX11_count_17 : decode cX11_count 17 = .ok (.goto 9, 3) := by decide +kernel
theorem dX11_count_20 : decode cX11_count 20 = .ok (.aload_n 0, 1) := by decide +kernel
theorem dX11_count_21 : decode cX11_count 21 = .ok (.bipush (-2), 2) := by decide +kernel
theorem dX11_count_23 : decode cX11_count 23 = .ok (.invokevirtual 73, 3) := by decide +kernel
theorem dX11_count_26 : decode cX11_count 26 = .ok (.ireturn, 1) := by decide +kernel
theorem dX11_sums_0 : decode cX11_sums 0 = .ok (.lload_n 1, 1) := by decide +kernel
theorem dX11_sums_1 : decode cX11_sums 1 = .ok (.lstore 5, 2) := by decide +kernel
theorem dX11_sums_3 : decode cX11_sums 3 = .ok (.iconst 0, 1) := by decide +kernel
theorem dX11_sums_4 : decode cX11_sums 4 = .ok (.istore 7, 2) := by decide +kernel
theorem dX11_sums_6 : decode cX11_sums 6 = .ok (.iload 7, 2) := by decide +kernel
theorem dX11_sums_8 : decode cX11_sums 8 = .ok (.iload 4, 2) := by decide +kernel
theorem dX11_sums_10 : decode cX11_sums 10 = .ok (.if_icmp .ge 28, 3) := by decide +kernel
theorem dX11_sums_38 : decode cX11_sums 38 = .ok (.lload 5, 2) := by decide +kernel
theorem dX11_sums_40 : decode cX11_sums 40 = .ok (.lreturn, 1) := by decide +kernel
set_option maxRecDepth 20000 in
theorem ggX11_digest_X11_counted : GoodIn wsX11_digest wsX11_counted := goodIn_r _ [10, 3, 11, 12, 13, 14, 9, 15, 16, 17, 18, 19, 24, 25, 26, 27, 28, 29, 30, 31, 32, 33, 34, 35, 36, 37, 38, 39, 40, 41] (by decide +kernel) (by decide +kernel)
set_option maxRecDepth 20000 in
theorem gX11_digest_X11_counted : GoodIn wsX11_digest (wsV RX11 276 RX11 yX11_counted wsX11_counted) := goodIn_app (goodIn_of _ (by decide +kernel)) ggX11_digest_X11_counted
set_option maxRecDepth 20000 in
theorem ggX11_digest_X11_many : GoodIn wsX11_digest wsX11_many := goodIn_r _ [15, 3, 24, 25, 26, 27, 28, 29, 30, 31, 32, 33, 34, 35, 36, 37, 38, 39, 40, 41] (by decide +kernel) (by decide +kernel)
set_option maxRecDepth 20000 in
theorem gX11_digest_X11_many : GoodIn wsX11_digest (wsV RX11 52 RX11 yX11_many wsX11_many) := goodIn_app (goodIn_of _ (by decide +kernel)) ggX11_digest_X11_many
set_option maxRecDepth 20000 in
theorem ggX11_digest_X11_manyGleaners : GoodIn wsX11_digest wsX11_manyGleaners := goodIn_r _ [19, 3, 24, 25, 26, 27, 28, 29, 30, 31, 32, 33, 34, 35, 36, 37, 38, 39, 40, 41] (by decide +kernel) (by decide +kernel)
set_option maxRecDepth 20000 in
theorem gX11_digest_X11_manyGleaners : GoodIn wsX11_digest (wsV RX11 60 RX11 yX11_manyGleaners wsX11_manyGleaners) := goodIn_app (goodIn_of _ (by decide +kernel)) ggX11_digest_X11_manyGleaners
set_option maxRecDepth 20000 in
theorem ggX11_digest_X11_sums : GoodIn wsX11_digest wsX11_sums := goodIn_r _ [23, 2, 3, 24, 25, 26, 27, 28, 29, 30, 31, 32, 33, 34, 35, 36, 37, 38, 39, 40, 41] (by decide +kernel) (by decide +kernel)
set_option maxRecDepth 20000 in
theorem gX11_digest_X11_sums : GoodIn wsX11_digest (wsV RX11 283 RX11 yX11_sums wsX11_sums) := goodIn_app (goodIn_of _ (by decide +kernel)) ggX11_digest_X11_sums
theorem dX11_digest_0 : decode cX11_digest 0 = .ok (.ldc2_w 281, 3) := by decide +kernel
theorem dX11_digest_3 : decode cX11_digest 3 = .ok (.lstore_n 1, 1) := by decide +kernel
theorem dX11_digest_4 : decode cX11_digest 4 = .ok (.iconst 0, 1) := by decide +kernel
theorem dX11_digest_5 : decode cX11_digest 5 = .ok (.istore_n 3, 1) := by decide +kernel
theorem dX11_digest_6 : decode cX11_digest 6 = .ok (.iload_n 3, 1) := by decide +kernel
theorem dX11_digest_7 : decode cX11_digest 7 = .ok (.bipush 9, 2) := by decide +kernel
theorem dX11_digest_9 : decode cX11_digest 9 = .ok (.if_icmp .ge 22, 3) := by decide +kernel
theorem dX11_digest_12 : decode cX11_digest 12 = .ok (.ldc2_w 279, 3) := by decide +kernel
theorem dX11_digest_15 : decode cX11_digest 15 = .ok (.lload_n 1, 1) := by decide +kernel
theorem dX11_digest_16 : decode cX11_digest 16 = .ok (.lmul, 1) := by decide +kernel
theorem dX11_digest_17 : decode cX11_digest 17 = .ok (.aload_n 0, 1) := by decide +kernel
theorem dX11_digest_18 : decode cX11_digest 18 = .ok (.iload_n 3, 1) := by decide +kernel
theorem dX11_digest_19 : decode cX11_digest 19 = .ok (.invokevirtual 276, 3) := by decide +kernel
theorem dX11_digest_22 : decode cX11_digest 22 = .ok (.i2l, 1) := by decide +kernel
theorem dX11_digest_23 : decode cX11_digest 23 = .ok (.ladd, 1) := by decide +kernel
theorem dX11_digest_24 : decode cX11_digest 24 = .ok (.lstore_n 1, 1) := by decide +kernel
theorem dX11_digest_25 : decode cX11_digest 25 = .ok (.iinc 3 1, 3) := by decide +kernel
theorem dX11_digest_28 : decode cX11_digest 28 = .ok (.goto (-22), 3) := by decide +kernel
theorem dX11_digest_31 : decode cX11_digest 31 = .ok (.iconst 0, 1) := by decide +kernel
theorem dX11_digest_32 : decode cX11_digest 32 = .ok (.istore_n 3, 1) := by decide +kernel
theorem dX11_digest_33 : decode cX11_digest 33 = .ok (.iload_n 3, 1) := by decide +kernel
theorem dX11_digest_34 : decode cX11_digest 34 = .ok (.aload_n 0, 1) := by decide +kernel
theorem dX11_digest_35 : decode cX11_digest 35 = .ok (.invokevirtual 52, 3) := by decide +kernel
theorem dX11_digest_38 : decode cX11_digest 38 = .ok (.if_icmp .ge 40, 3) := by decide +kernel
theorem dX11_digest_78 : decode cX11_digest 78 = .ok (.iconst 0, 1) := by decide +kernel
theorem dX11_digest_79 : decode cX11_digest 79 = .ok (.istore_n 3, 1) := by decide +kernel
theorem dX11_digest_80 : decode cX11_digest 80 = .ok (.iload_n 3, 1) := by decide +kernel
theorem dX11_digest_81 : decode cX11_digest 81 = .ok (.aload_n 0, 1) := by decide +kernel
theorem dX11_digest_82 : decode cX11_digest 82 = .ok (.invokevirtual 60, 3) := by decide +kernel
theorem dX11_digest_85 : decode cX11_digest 85 = .ok (.if_icmp .ge 41, 3) := by decide +kernel
theorem dX11_digest_126 : decode cX11_digest 126 = .ok (.aload_n 0, 1) := by decide +kernel
theorem dX11_digest_127 : decode cX11_digest 127 = .ok (.lload_n 1, 1) := by decide +kernel
theorem dX11_digest_128 : decode cX11_digest 128 = .ok (.bipush 30, 2) := by decide +kernel
theorem dX11_digest_130 : decode cX11_digest 130 = .ok (.iconst 4, 1) := by decide +kernel
theorem dX11_digest_131 : decode cX11_digest 131 = .ok (.aload_n 0, 1) := by decide +kernel
theorem dX11_digest_132 : decode cX11_digest 132 = .ok (.getfield 7, 3) := by decide +kernel
theorem dX11_digest_135 : decode cX11_digest 135 = .ok (.iconst 2, 1) := by decide +kernel
theorem dX11_digest_136 : decode cX11_digest 136 = .ok (.iaload, 1) := by decide +kernel
theorem dX11_digest_137 : decode cX11_digest 137 = .ok (.imul, 1) := by decide +kernel
theorem dX11_digest_138 : decode cX11_digest 138 = .ok (.invokevirtual 283, 3) := by decide +kernel
theorem dX11_digest_141 : decode cX11_digest 141 = .ok (.lstore_n 1, 1) := by decide +kernel
theorem dX11_digest_142 : decode cX11_digest 142 = .ok (.aload_n 0, 1) := by decide +kernel
theorem dX11_digest_143 : decode cX11_digest 143 = .ok (.lload_n 1, 1) := by decide +kernel
theorem dX11_digest_144 : decode cX11_digest 144 = .ok (.bipush 46, 2) := by decide +kernel
theorem dX11_digest_146 : decode cX11_digest 146 = .ok (.iconst 5, 1) := by decide +kernel
theorem dX11_digest_147 : decode cX11_digest 147 = .ok (.aload_n 0, 1) := by decide +kernel
theorem dX11_digest_148 : decode cX11_digest 148 = .ok (.getfield 7, 3) := by decide +kernel
theorem dX11_digest_151 : decode cX11_digest 151 = .ok (.iconst 3, 1) := by decide +kernel
theorem dX11_digest_152 : decode cX11_digest 152 = .ok (.iaload, 1) := by decide +kernel
theorem dX11_digest_153 : decode cX11_digest 153 = .ok (.imul, 1) := by decide +kernel
theorem dX11_digest_154 : decode cX11_digest 154 = .ok (.invokevirtual 283, 3) := by decide +kernel
theorem dX11_digest_157 : decode cX11_digest 157 = .ok (.lstore_n 1, 1) := by decide +kernel
theorem dX11_digest_158 : decode cX11_digest 158 = .ok (.ldc2_w 279, 3) := by decide +kernel
theorem dX11_digest_161 : decode cX11_digest 161 = .ok (.ldc2_w 279, 3) := by decide +kernel
theorem dX11_digest_164 : decode cX11_digest 164 = .ok (.lload_n 1, 1) := by decide +kernel
theorem dX11_digest_165 : decode cX11_digest 165 = .ok (.lmul, 1) := by decide +kernel
theorem dX11_digest_166 : decode cX11_digest 166 = .ok (.aload_n 0, 1) := by decide +kernel
theorem dX11_digest_167 : decode cX11_digest 167 = .ok (.getfield 189, 3) := by decide +kernel
theorem dX11_digest_170 : decode cX11_digest 170 = .ok (.ladd, 1) := by decide +kernel
theorem dX11_digest_171 : decode cX11_digest 171 = .ok (.lmul, 1) := by decide +kernel
theorem dX11_digest_172 : decode cX11_digest 172 = .ok (.aload_n 0, 1) := by decide +kernel
theorem dX11_digest_173 : decode cX11_digest 173 = .ok (.getfield 23, 3) := by decide +kernel
theorem dX11_digest_176 : decode cX11_digest 176 = .ok (.ladd, 1) := by decide +kernel
theorem dX11_digest_177 : decode cX11_digest 177 = .ok (.lreturn, 1) := by decide +kernel
set_option maxRecDepth 20000 in
theorem ggL_law_X10_init : GoodIn wsL_law wsX10_init := goodIn_r _ [8, 9, 10, 11, 12, 13, 14, 15, 16, 17, 18, 19, 20, 21, 22, 23, 24, 25, 26, 27, 28, 29, 30, 31, 32, 33, 34, 35, 36, 37, 38, 39, 40, 41, 42, 43, 44, 45, 46, 47, 48, 49, 50, 51, 52, 53, 54, 55, 56, 57, 58, 59, 60, 61, 62, 63, 64, 65, 66, 67, 68, 69, 70, 71, 72, 73, 74, 75, 76, 77, 78, 79, 80, 81, 82, 83, 84, 85, 86, 87, 88, 89, 90, 91, 92, 93, 94, 95, 96, 97, 98, 99, 999, 1000, 1001, 1002, 1003, 1004, 1005, 1006, 1007, 1008, 1009, 1010, 1029, 1030, 1031, 1032, 1033, 1034, 1035, 1036, 1037, 1038, 1039, 1040, 1041, 1042, 1043, 1044, 1045, 1046, 1047, 1048, 1049, 1050, 1051, 1052, 1053, 1054, 1055, 1056, 1057, 1058, 1059, 1060] (by decide +kernel) (by decide +kernel)
set_option maxRecDepth 20000 in
theorem gL_law_X10_init : GoodIn wsL_law (wsX10_init) := ggL_law_X10_init
set_option maxRecDepth 20000 in
theorem ggL_law_X11_init : GoodIn wsL_law wsX11_init := goodIn_r _ [102, 103, 10, 11, 50, 104, 105, 36, 106, 107, 108, 109, 110, 111, 112, 113, 114, 115, 116, 117, 5, 118, 1011, 1012, 1013, 1014, 1015, 1016, 1017, 1018, 1019, 1020, 1021, 1022, 1023, 1024, 1025, 1026, 1027, 1028] (by decide +kernel) (by decide +kernel)
set_option maxRecDepth 20000 in
theorem gL_law_X11_init : GoodIn wsL_law (wsX11_init) := ggL_law_X11_init
set_option maxRecDepth 20000 in
theorem ggL_law_X10_parish : GoodIn wsL_law wsX10_parish := goodIn_r _ [122, 34, 123, 124, 125, 2, 126, 127, 128, 129, 130, 53, 131, 132, 133, 33, 134, 135, 136, 137, 138, 139, 75, 140, 141, 142, 999, 1000, 1001, 1002, 1003, 1004, 1005, 1006, 1007, 1008, 1009, 1010, 1029, 1030, 1031, 1032, 1033, 1034, 1035, 1036, 1037, 1038, 1039, 1052, 1053, 1054, 1055, 1056, 1057] (by decide +kernel) (by decide +kernel)
set_option maxRecDepth 20000 in
theorem gL_law_X10_parish : GoodIn wsL_law (wsV RL 13 RX10 yX10_parish wsX10_parish) := goodIn_app (goodIn_of _ (by decide +kernel)) ggL_law_X10_parish
set_option maxRecDepth 20000 in
theorem ggL_law_X11_parish : GoodIn wsL_law wsX11_parish := goodIn_r _ [146, 104, 147, 148, 5, 149, 150, 151, 152, 153, 154, 155, 156, 157, 107, 158, 159, 160, 161, 116, 117, 118, 1011, 1012, 1013, 1014, 1015, 1016, 1017, 1018, 1019, 1020, 1021, 1022, 1023, 1024, 1025, 1026, 1027, 1028] (by decide +kernel) (by decide +kernel)
set_option maxRecDepth 20000 in
theorem gL_law_X11_parish : GoodIn wsL_law (wsV RL 17 RX11 yX11_parish wsX11_parish) := goodIn_app (goodIn_of _ (by decide +kernel)) ggL_law_X11_parish
set_option maxRecDepth 20000 in
theorem ggL_law_X10_field : GoodIn wsL_law wsX10_field := goodIn_r _ [165, 34, 123, 124, 125, 2, 126, 166, 167, 168, 169, 170, 171, 127, 128, 129, 130, 53, 172, 173, 174, 175, 176, 177, 178, 33, 179, 73, 135, 75, 180, 137, 999, 1000, 1001, 1002, 1003, 1004, 1005, 1006, 1007, 1008, 1009, 1010, 1029, 1030, 1031, 1032, 1033, 1034, 1035, 1036, 1037, 1038, 1039, 1052, 1053, 1054, 1055, 1056, 1057] (by decide +kernel) (by decide +kernel)
set_option maxRecDepth 20000 in
theorem gL_law_X10_field : GoodIn wsL_law (wsV RL 18 RX10 yX10_field wsX10_field) := goodIn_app (goodIn_of _ (by decide +kernel)) ggL_law_X10_field
set_option maxRecDepth 20000 in
theorem ggL_law_X11_field : GoodIn wsL_law wsX11_field := goodIn_r _ [184, 185, 104, 151, 152, 5, 153, 186, 187, 188, 189, 154, 155, 156, 157, 107, 158, 159, 160, 161, 190, 191, 192, 193, 194, 195, 196, 1011, 1012, 1013, 1014, 1015, 1016, 1017, 1018, 1019, 1020, 1021, 1022, 1023, 1024, 1025, 1026, 1027, 1028] (by decide +kernel) (by decide +kernel)
set_option maxRecDepth 20000 in
theorem gL_law_X11_field : GoodIn wsL_law (wsV RL 22 RX11 yX11_field wsX11_field) := goodIn_app (goodIn_of _ (by decide +kernel)) ggL_law_X11_field
set_option maxRecDepth 20000 in
theorem ggL_law_X10_gleaner : GoodIn wsL_law wsX10_gleaner := goodIn_r _ [200, 34, 201, 202, 203, 204, 33, 205, 135, 125, 2, 126, 127, 128, 129, 130, 53, 172, 173, 174, 175, 206, 207, 208, 209, 75, 210, 136, 211, 137, 999, 1000, 1001, 1002, 1003, 1004, 1005, 1006, 1007, 1008, 1009, 1010, 1029, 1030, 1031, 1032, 1033, 1034, 1035, 1036, 1037, 1038, 1039, 1052, 1053, 1054, 1055, 1056, 1057] (by decide +kernel) (by decide +kernel)
set_option maxRecDepth 20000 in
theorem gL_law_X10_gleaner : GoodIn wsL_law (wsV RL 23 RX10 yX10_gleaner wsX10_gleaner) := goodIn_app (goodIn_of _ (by decide +kernel)) ggL_law_X10_gleaner
set_option maxRecDepth 20000 in
theorem ggL_law_X11_gleaner : GoodIn wsL_law wsX11_gleaner := goodIn_r _ [215, 104, 216, 217, 218, 5, 219, 158, 159, 160, 161, 151, 152, 153, 154, 155, 156, 157, 107, 220, 221, 222, 223, 190, 191, 192, 193, 224, 225, 226, 1011, 1012, 1013, 1014, 1015, 1016, 1017, 1018, 1019, 1020, 1021, 1022, 1023, 1024, 1025, 1026, 1027, 1028] (by decide +kernel) (by decide +kernel)
set_option maxRecDepth 20000 in
theorem gL_law_X11_gleaner : GoodIn wsL_law (wsV RL 26 RX11 yX11_gleaner wsX11_gleaner) := goodIn_app (goodIn_of _ (by decide +kernel)) ggL_law_X11_gleaner
set_option maxRecDepth 20000 in
theorem ggL_law_X10_type : GoodIn wsL_law wsX10_type := goodIn_r _ [230, 41, 231, 124, 125, 2, 126, 127, 128, 129, 130, 53, 172, 173, 174, 175, 232, 233, 234, 40, 235, 91, 236, 999, 1000, 1001, 1002, 1003, 1004, 1005, 1006, 1007, 1008, 1009, 1010, 1040, 1041, 1042, 1043, 1044, 1045, 1046, 1047, 1048, 1049, 1050, 1051] (by decide +kernel) (by decide +kernel)
set_option maxRecDepth 20000 in
theorem gL_law_X10_type : GoodIn wsL_law (wsV RL 27 RX10 yX10_type wsX10_type) := goodIn_app (goodIn_of _ (by decide +kernel)) ggL_law_X10_type
set_option maxRecDepth 20000 in
theorem ggL_law_X11_type : GoodIn wsL_law wsX11_type := goodIn_r _ [240, 241, 242, 113, 151, 152, 5, 153, 154, 155, 156, 157, 107, 190, 191, 192, 193, 1011, 1012, 1013, 1014, 1015, 1016, 1017, 1018, 1019, 1020, 1021, 1022, 1023, 1024, 1025, 1026, 1027, 1028] (by decide +kernel) (by decide +kernel)
set_option maxRecDepth 20000 in
theorem gL_law_X11_type : GoodIn wsL_law (wsV RL 30 RX11 yX11_type wsX11_type) := goodIn_app (goodIn_of _ (by decide +kernel)) ggL_law_X11_type
set_option maxRecDepth 20000 in
theorem ggL_law_X10_clear : GoodIn wsL_law wsX10_clear := goodIn_r _ [246, 41, 231, 999, 1000, 1001, 1002, 1003, 1004, 1005, 1006, 1007, 1008, 1009, 1010, 1040, 1041, 1042, 1043, 1044, 1045, 1046, 1047, 1048, 1049, 1050, 1051] (by decide +kernel) (by decide +kernel)
set_option maxRecDepth 20000 in
theorem gL_law_X10_clear : GoodIn wsL_law (wsV RL 31 RX10 yX10_clear wsX10_clear) := goodIn_app (goodIn_of _ (by decide +kernel)) ggL_law_X10_clear
set_option maxRecDepth 20000 in
theorem ggL_law_X11_clear : GoodIn wsL_law wsX11_clear := goodIn_r _ [250, 242, 1011, 1012, 1013, 1014, 1015, 1016, 1017, 1018, 1019, 1020, 1021, 1022, 1023, 1024, 1025, 1026, 1027, 1028] (by decide +kernel) (by decide +kernel)
set_option maxRecDepth 20000 in
theorem gL_law_X11_clear : GoodIn wsL_law (wsV RL 35 RX11 yX11_clear wsX11_clear) := goodIn_app (goodIn_of _ (by decide +kernel)) ggL_law_X11_clear
set_option maxRecDepth 20000 in
theorem ggL_law_X10_read : GoodIn wsL_law wsX10_read := goodIn_r _ [254, 41, 34, 255, 256, 257, 258, 259, 260, 261, 40, 262, 263, 264, 265, 266, 267, 268, 269, 270, 271, 272, 236, 91, 273, 274, 275, 276, 277, 278, 279, 280, 281, 282, 283, 284, 285, 286, 287, 288, 289, 290, 291, 292, 293, 294, 295, 92, 93, 94, 296, 297, 298, 299, 300, 301, 302, 303, 304, 305, 306, 307, 308, 309, 310, 311, 312, 313, 314, 315, 316, 317, 318, 319, 320, 321, 322, 323, 324, 325, 326, 327, 328, 329, 330, 331, 332, 333, 334, 335, 336, 337, 338, 339, 340, 341, 342, 343, 344, 345, 346, 347, 348, 349, 350, 351, 352, 353, 354, 355, 356, 170, 2, 171, 131, 132, 133, 33, 134, 135, 136, 137, 138, 139, 75, 140, 141, 142, 176, 177, 178, 179, 73, 180, 206, 207, 208, 209, 210, 211, 357, 358, 359, 360, 361, 362, 363, 364, 365, 366, 367, 368, 369, 370, 371, 372, 80, 373, 374, 375, 376, 377, 26, 378, 379, 380, 381, 382, 383, 384, 385, 386, 17, 387, 388, 389, 390, 14, 391, 392, 393, 394, 29, 395, 396, 397, 398, 399, 20, 400, 401, 402, 403, 404, 405, 406, 23, 407, 408, 409, 410, 411, 412, 413, 414, 415, 416, 417, 418, 419, 420, 999, 1000, 1001, 1002, 1003, 1004, 1005, 1006, 1007, 1008, 1009, 1010, 1040, 1041, 1042, 1043, 1044, 1045, 1046, 1047, 1048, 1049, 1050, 1051, 1029, 1030, 1031, 1032, 1033, 1034, 1035, 1036, 1037, 1038, 1039, 1052, 1053, 1054, 1055, 1056, 1057] (by decide +kernel) (by decide +kernel)
set_option maxRecDepth 20000 in
theorem gL_law_X10_read : GoodIn wsL_law (wsV RL 36 RX10 yX10_read wsX10_read) := goodIn_app (goodIn_of _ (by decide +kernel)) ggL_law_X10_read
set_option maxRecDepth 20000 in
theorem ggL_law_X11_read : GoodIn wsL_law wsX11_read := goodIn_r _ [424, 425, 426, 104, 114, 427, 428, 429, 5, 430, 242, 113, 431, 432, 433, 434, 435, 436, 437, 151, 152, 153, 438, 439, 440, 441, 442, 443, 444, 445, 446, 115, 447, 448, 449, 450, 451, 452, 453, 454, 455, 456, 457, 458, 116, 117, 118, 459, 460, 461, 462, 463, 464, 465, 466, 194, 195, 196, 467, 468, 469, 470, 471, 472, 473, 474, 475, 476, 477, 478, 479, 480, 481, 482, 483, 484, 485, 486, 487, 488, 489, 490, 491, 492, 493, 494, 495, 496, 224, 225, 226, 1011, 1012, 1013, 1014, 1015, 1016, 1017, 1018, 1019, 1020, 1021, 1022, 1023, 1024, 1025, 1026, 1027, 1028] (by decide +kernel) (by decide +kernel)
set_option maxRecDepth 20000 in
theorem gL_law_X11_read : GoodIn wsL_law (wsV RL 39 RX11 yX11_read wsX11_read) := goodIn_app (goodIn_of _ (by decide +kernel)) ggL_law_X11_read
set_option maxRecDepth 20000 in
theorem ggL_law_X10_glean : GoodIn wsL_law wsX10_glean := goodIn_r _ [500, 34, 258, 501, 169, 170, 2, 171, 127, 128, 129, 130, 53, 502, 503, 504, 505, 506, 507, 508, 33, 509, 137, 76, 75, 510, 511, 512, 513, 514, 515, 516, 44, 517, 84, 518, 519, 520, 521, 85, 86, 522, 523, 524, 357, 358, 359, 360, 135, 140, 361, 362, 363, 364, 365, 366, 367, 368, 136, 210, 369, 370, 371, 372, 80, 73, 180, 141, 373, 374, 375, 376, 377, 26, 378, 379, 380, 381, 382, 383, 384, 385, 386, 17, 387, 388, 389, 390, 14, 391, 392, 393, 394, 29, 395, 396, 397, 398, 399, 20, 400, 401, 402, 403, 404, 405, 406, 23, 407, 408, 409, 410, 411, 412, 413, 414, 415, 416, 417, 418, 211, 419, 420, 999, 1000, 1001, 1002, 1003, 1004, 1005, 1006, 1007, 1008, 1009, 1010, 1029, 1030, 1031, 1032, 1033, 1034, 1035, 1036, 1037, 1038, 1039, 1052, 1053, 1054, 1055, 1056, 1057] (by decide +kernel) (by decide +kernel)
set_option maxRecDepth 20000 in
theorem gL_law_X10_glean : GoodIn wsL_law (wsV RL 40 RX10 yX10_glean wsX10_glean) := goodIn_app (goodIn_of _ (by decide +kernel)) ggL_law_X10_glean
set_option maxRecDepth 20000 in
theorem ggL_law_X11_glean : GoodIn wsL_law wsX11_glean := goodIn_r _ [528, 529, 104, 151, 152, 5, 153, 154, 155, 156, 157, 107, 530, 531, 532, 533, 534, 535, 536, 537, 471, 472, 473, 474, 475, 476, 477, 478, 479, 480, 481, 482, 483, 484, 485, 486, 487, 488, 1011, 1012, 1013, 1014, 1015, 1016, 1017, 1018, 1019, 1020, 1021, 1022, 1023, 1024, 1025, 1026, 1027, 1028] (by decide +kernel) (by decide +kernel)
set_option maxRecDepth 20000 in
theorem gL_law_X11_glean : GoodIn wsL_law (wsV RL 43 RX11 yX11_glean wsX11_glean) := goodIn_app (goodIn_of _ (by decide +kernel)) ggL_law_X11_glean
set_option maxRecDepth 20000 in
theorem ggL_law_X10_night : GoodIn wsL_law wsX10_night := goodIn_r _ [541, 34, 258, 542, 506, 507, 508, 33, 509, 137, 76, 75, 510, 511, 512, 513, 514, 515, 516, 44, 517, 84, 518, 519, 520, 521, 85, 86, 522, 523, 524, 543, 544, 545, 546, 136, 211, 135, 180, 419, 409, 381, 410, 142, 140, 547, 2, 548, 999, 1000, 1001, 1002, 1003, 1004, 1005, 1006, 1007, 1008, 1009, 1010, 1029, 1030, 1031, 1032, 1033, 1034, 1035, 1036, 1037, 1038, 1039, 1052, 1053, 1054, 1055, 1056, 1057] (by decide +kernel) (by decide +kernel)
set_option maxRecDepth 20000 in
theorem gL_law_X10_night : GoodIn wsL_law (wsV RL 44 RX10 yX10_night wsX10_night) := goodIn_app (goodIn_of _ (by decide +kernel)) ggL_law_X10_night
set_option maxRecDepth 20000 in
theorem ggL_law_X11_night : GoodIn wsL_law wsX11_night := goodIn_r _ [552, 104, 534, 535, 536, 5, 537, 553, 554, 555, 556, 557, 558, 1011, 1012, 1013, 1014, 1015, 1016, 1017, 1018, 1019, 1020, 1021, 1022, 1023, 1024, 1025, 1026, 1027, 1028] (by decide +kernel) (by decide +kernel)
set_option maxRecDepth 20000 in
theorem gL_law_X11_night : GoodIn wsL_law (wsV RL 47 RX11 yX11_night wsX11_night) := goodIn_app (goodIn_of _ (by decide +kernel)) ggL_law_X11_night
set_option maxRecDepth 20000 in
theorem ggL_law_X10_goes : GoodIn wsL_law wsX10_goes := goodIn_r _ [562, 34, 258, 563, 564, 565, 566, 33, 567, 136, 125, 2, 126, 202, 203, 204, 205, 135, 127, 128, 129, 130, 53, 506, 507, 508, 509, 137, 76, 75, 510, 511, 512, 513, 514, 515, 516, 44, 517, 84, 518, 519, 520, 521, 85, 86, 522, 523, 524, 999, 1000, 1001, 1002, 1003, 1004, 1005, 1006, 1007, 1008, 1009, 1010, 1029, 1030, 1031, 1032, 1033, 1034, 1035, 1036, 1037, 1038, 1039, 1052, 1053, 1054, 1055, 1056, 1057] (by decide +kernel) (by decide +kernel)
set_option maxRecDepth 20000 in
theorem gL_law_X10_goes : GoodIn wsL_law (wsV RL 48 RX10 yX10_goes wsX10_goes) := goodIn_app (goodIn_of _ (by decide +kernel)) ggL_law_X10_goes
set_option maxRecDepth 20000 in
theorem ggL_law_X11_goes : GoodIn wsL_law wsX11_goes := goodIn_r _ [571, 104, 572, 573, 574, 5, 575, 220, 221, 222, 223, 151, 152, 153, 216, 217, 218, 219, 158, 159, 160, 161, 154, 155, 156, 157, 107, 534, 535, 536, 537, 1011, 1012, 1013, 1014, 1015, 1016, 1017, 1018, 1019, 1020, 1021, 1022, 1023, 1024, 1025, 1026, 1027, 1028] (by decide +kernel) (by decide +kernel)
set_option maxRecDepth 20000 in
theorem gL_law_X11_goes : GoodIn wsL_law (wsV RL 51 RX11 yX11_goes wsX11_goes) := goodIn_app (goodIn_of _ (by decide +kernel)) ggL_law_X11_goes
set_option maxRecDepth 20000 in
theorem ggL_law_X10_cloud : GoodIn wsL_law wsX10_cloud := goodIn_r _ [579, 34, 258, 580, 124, 125, 2, 126, 127, 128, 129, 130, 53, 506, 507, 508, 33, 509, 137, 76, 75, 510, 511, 512, 513, 514, 515, 516, 44, 517, 84, 518, 519, 520, 521, 85, 86, 522, 523, 524, 999, 1000, 1001, 1002, 1003, 1004, 1005, 1006, 1007, 1008, 1009, 1010, 1029, 1030, 1031, 1032, 1033, 1034, 1035, 1036, 1037, 1038, 1039, 1052, 1053, 1054, 1055, 1056, 1057] (by decide +kernel) (by decide +kernel)
set_option maxRecDepth 20000 in
theorem gL_law_X10_cloud : GoodIn wsL_law (wsV RL 52 RX10 yX10_cloud wsX10_cloud) := goodIn_app (goodIn_of _ (by decide +kernel)) ggL_law_X10_cloud
set_option maxRecDepth 20000 in
theorem ggL_law_X11_cloud : GoodIn wsL_law wsX11_cloud := goodIn_r _ [584, 104, 147, 148, 5, 149, 150, 151, 152, 153, 154, 155, 156, 157, 107, 534, 535, 536, 537, 1011, 1012, 1013, 1014, 1015, 1016, 1017, 1018, 1019, 1020, 1021, 1022, 1023, 1024, 1025, 1026, 1027, 1028] (by decide +kernel) (by decide +kernel)
set_option maxRecDepth 20000 in
theorem gL_law_X11_cloud : GoodIn wsL_law (wsV RL 55 RX11 yX11_cloud wsX11_cloud) := goodIn_app (goodIn_of _ (by decide +kernel)) ggL_law_X11_cloud
set_option maxRecDepth 20000 in
theorem ggL_law_X10_undo : GoodIn wsL_law wsX10_undo := goodIn_r _ [588, 34, 589, 258, 501, 502, 503, 504, 2, 505, 53, 590, 591, 592, 33, 593, 137, 75, 76, 514, 515, 516, 44, 517, 84, 518, 519, 520, 521, 85, 86, 522, 523, 524, 999, 1000, 1001, 1002, 1003, 1004, 1005, 1006, 1007, 1008, 1009, 1010, 1029, 1030, 1031, 1032, 1033, 1034, 1035, 1036, 1037, 1038, 1039, 1052, 1053, 1054, 1055, 1056, 1057] (by decide +kernel) (by decide +kernel)
set_option maxRecDepth 20000 in
theorem gL_law_X10_undo : GoodIn wsL_law (wsV RL 56 RX10 yX10_undo wsX10_undo) := goodIn_app (goodIn_of _ (by decide +kernel)) ggL_law_X10_undo
set_option maxRecDepth 20000 in
theorem ggL_law_X11_undo : GoodIn wsL_law wsX11_undo := goodIn_r _ [597, 104, 530, 531, 532, 5, 533, 107, 1011, 1012, 1013, 1014, 1015, 1016, 1017, 1018, 1019, 1020, 1021, 1022, 1023, 1024, 1025, 1026, 1027, 1028] (by decide +kernel) (by decide +kernel)
set_option maxRecDepth 20000 in
theorem gL_law_X11_undo : GoodIn wsL_law (wsV RL 59 RX11 yX11_undo wsX11_undo) := goodIn_app (goodIn_of _ (by decide +kernel)) ggL_law_X11_undo
set_option maxRecDepth 20000 in
theorem ggL_law_X10_of : GoodIn wsL_law wsX10_of := goodIn_r _ [601, 34, 602, 258, 603, 202, 203, 204, 33, 205, 135, 125, 2, 126, 124, 127, 128, 129, 130, 53, 604, 605, 606, 607, 136, 75, 210, 999, 1000, 1001, 1002, 1003, 1004, 1005, 1006, 1007, 1008, 1009, 1010, 1029, 1030, 1031, 1032, 1033, 1034, 1035, 1036, 1037, 1038, 1039, 1052, 1053, 1054, 1055, 1056, 1057] (by decide +kernel) (by decide +kernel)
set_option maxRecDepth 20000 in
theorem gL_law_X10_of : GoodIn wsL_law (wsV RL 60 RX10 yX10_of wsX10_of) := goodIn_app (goodIn_of _ (by decide +kernel)) ggL_law_X10_of
set_option maxRecDepth 20000 in
theorem ggL_law_X11_of : GoodIn wsL_law wsX11_of := goodIn_r _ [611, 612, 104, 216, 217, 218, 5, 219, 158, 159, 160, 161, 151, 152, 153, 154, 155, 156, 157, 107, 613, 614, 615, 616, 220, 221, 222, 223, 1011, 1012, 1013, 1014, 1015, 1016, 1017, 1018, 1019, 1020, 1021, 1022, 1023, 1024, 1025, 1026, 1027, 1028] (by decide +kernel) (by decide +kernel)
set_option maxRecDepth 20000 in
theorem gL_law_X11_of : GoodIn wsL_law (wsV RL 63 RX11 yX11_of wsX11_of) := goodIn_app (goodIn_of _ (by decide +kernel)) ggL_law_X11_of
set_option maxRecDepth 20000 in
theorem ggL_law_X10_about : GoodIn wsL_law wsX10_about := goodIn_r _ [620, 34, 258, 563, 621, 564, 565, 566, 33, 567, 136, 125, 2, 126, 124, 127, 128, 129, 130, 53, 622, 362, 363, 364, 140, 365, 366, 367, 368, 210, 369, 370, 371, 372, 80, 73, 180, 141, 373, 374, 375, 376, 377, 26, 378, 379, 380, 381, 382, 383, 384, 385, 386, 17, 387, 388, 389, 390, 14, 391, 392, 393, 394, 29, 395, 396, 397, 398, 399, 20, 400, 401, 402, 403, 404, 405, 406, 23, 407, 408, 409, 410, 411, 412, 413, 414, 999, 1000, 1001, 1002, 1003, 1004, 1005, 1006, 1007, 1008, 1009, 1010, 1029, 1030, 1031, 1032, 1033, 1034, 1035, 1036, 1037, 1038, 1039, 1052, 1053, 1054, 1055, 1056, 1057] (by decide +kernel) (by decide +kernel)
set_option maxRecDepth 20000 in
theorem gL_law_X10_about : GoodIn wsL_law (wsV RL 64 RX10 yX10_about wsX10_about) := goodIn_app (goodIn_of _ (by decide +kernel)) ggL_law_X10_about
set_option maxRecDepth 20000 in
theorem ggL_law_X11_about : GoodIn wsL_law wsX11_about := goodIn_r _ [626, 612, 104, 572, 573, 574, 5, 575, 220, 221, 222, 223, 151, 152, 153, 154, 155, 156, 157, 107, 627, 628, 629, 477, 478, 479, 480, 481, 482, 483, 484, 485, 486, 487, 488, 474, 475, 476, 1011, 1012, 1013, 1014, 1015, 1016, 1017, 1018, 1019, 1020, 1021, 1022, 1023, 1024, 1025, 1026, 1027, 1028] (by decide +kernel) (by decide +kernel)
set_option maxRecDepth 20000 in
theorem gL_law_X11_about : GoodIn wsL_law (wsV RL 67 RX11 yX11_about wsX11_about) := goodIn_app (goodIn_of _ (by decide +kernel)) ggL_law_X11_about
set_option maxRecDepth 20000 in
theorem ggL_law_X10_seen : GoodIn wsL_law wsX10_seen := goodIn_r _ [633, 34, 258, 202, 203, 204, 33, 205, 135, 125, 2, 126, 124, 127, 128, 129, 130, 53, 634, 370, 371, 372, 80, 73, 180, 141, 373, 374, 375, 376, 377, 26, 378, 379, 380, 381, 382, 383, 384, 385, 386, 17, 387, 388, 389, 390, 14, 391, 392, 393, 394, 29, 395, 396, 397, 398, 399, 20, 400, 401, 402, 403, 404, 405, 406, 23, 407, 408, 409, 410, 411, 412, 413, 414, 999, 1000, 1001, 1002, 1003, 1004, 1005, 1006, 1007, 1008, 1009, 1010, 1029, 1030, 1031, 1032, 1033, 1034, 1035, 1036, 1037, 1038, 1039, 1052, 1053, 1054, 1055, 1056, 1057] (by decide +kernel) (by decide +kernel)
set_option maxRecDepth 20000 in
theorem gL_law_X10_seen : GoodIn wsL_law (wsV RL 68 RX10 yX10_seen wsX10_seen) := goodIn_app (goodIn_of _ (by decide +kernel)) ggL_law_X10_seen
set_option maxRecDepth 20000 in
theorem ggL_law_X11_seen : GoodIn wsL_law wsX11_seen := goodIn_r _ [638, 104, 216, 217, 218, 5, 219, 158, 159, 160, 161, 151, 152, 153, 639, 640, 641, 642, 477, 478, 479, 480, 481, 482, 483, 484, 485, 486, 487, 488, 154, 155, 156, 157, 107, 1011, 1012, 1013, 1014, 1015, 1016, 1017, 1018, 1019, 1020, 1021, 1022, 1023, 1024, 1025, 1026, 1027, 1028] (by decide +kernel) (by decide +kernel)
set_option maxRecDepth 20000 in
theorem gL_law_X11_seen : GoodIn wsL_law (wsV RL 71 RX11 yX11_seen wsX11_seen) := goodIn_app (goodIn_of _ (by decide +kernel)) ggL_law_X11_seen
set_option maxRecDepth 20000 in
theorem ggL_law_X10_then : GoodIn wsL_law wsX10_then := goodIn_r _ [646, 34, 45, 258, 501, 647, 409, 381, 410, 621, 564, 565, 566, 33, 567, 136, 125, 2, 126, 169, 170, 171, 127, 128, 129, 130, 53, 648, 515, 516, 44, 517, 84, 518, 519, 520, 521, 85, 86, 522, 523, 524, 357, 358, 359, 360, 135, 140, 361, 362, 363, 364, 365, 366, 367, 368, 210, 369, 370, 371, 372, 80, 73, 180, 141, 373, 374, 375, 376, 377, 26, 378, 379, 380, 382, 383, 384, 385, 386, 17, 387, 388, 389, 390, 14, 391, 392, 393, 394, 29, 395, 396, 397, 398, 399, 20, 400, 401, 402, 403, 404, 405, 406, 23, 407, 408, 411, 412, 413, 414, 415, 416, 417, 418, 211, 419, 420, 999, 1000, 1001, 1002, 1003, 1004, 1005, 1006, 1007, 1008, 1009, 1010, 1029, 1030, 1031, 1032, 1033, 1034, 1035, 1036, 1037, 1038, 1039, 1052, 1053, 1054, 1055, 1056, 1057] (by decide +kernel) (by decide +kernel)
set_option maxRecDepth 20000 in
theorem gL_law_X10_then : GoodIn wsL_law (wsV RL 72 RX10 yX10_then wsX10_then) := goodIn_app (goodIn_of _ (by decide +kernel)) ggL_law_X10_then
set_option maxRecDepth 20000 in
theorem ggL_law_X11_then : GoodIn wsL_law wsX11_then := goodIn_r _ [652, 529, 109, 572, 573, 574, 5, 575, 220, 221, 222, 223, 104, 151, 152, 153, 154, 155, 156, 157, 107, 653, 654, 655, 656, 471, 472, 473, 474, 475, 476, 477, 478, 479, 480, 481, 482, 483, 484, 485, 486, 487, 488, 1011, 1012, 1013, 1014, 1015, 1016, 1017, 1018, 1019, 1020, 1021, 1022, 1023, 1024, 1025, 1026, 1027, 1028] (by decide +kernel) (by decide +kernel)
set_option maxRecDepth 20000 in
theorem gL_law_X11_then : GoodIn wsL_law (wsV RL 75 RX11 yX11_then wsX11_then) := goodIn_app (goodIn_of _ (by decide +kernel)) ggL_law_X11_then
set_option maxRecDepth 20000 in
theorem ggL_law_X10_round : GoodIn wsL_law wsX10_round := goodIn_r _ [660, 34, 45, 258, 49, 563, 661, 662, 564, 565, 566, 33, 567, 136, 125, 2, 126, 169, 170, 171, 663, 664, 665, 666, 53, 648, 515, 516, 44, 517, 84, 518, 519, 520, 521, 85, 86, 522, 523, 524, 667, 668, 669, 48, 670, 671, 672, 673, 674, 675, 676, 677, 678, 679, 680, 98, 99, 681, 409, 381, 410, 682, 202, 203, 204, 205, 135, 683, 684, 685, 686, 603, 501, 687, 380, 382, 634, 370, 371, 372, 80, 73, 180, 141, 373, 374, 375, 376, 377, 26, 378, 379, 383, 384, 385, 386, 17, 387, 388, 389, 390, 14, 391, 392, 393, 394, 29, 395, 396, 397, 398, 399, 20, 400, 401, 402, 403, 404, 405, 406, 23, 407, 408, 411, 412, 413, 414, 999, 1000, 1001, 1002, 1003, 1004, 1005, 1006, 1007, 1008, 1009, 1010, 1029, 1030, 1031, 1032, 1033, 1034, 1035, 1036, 1037, 1038, 1039, 1052, 1053, 1054, 1055, 1056, 1057, 1058, 1059, 1060] (by decide +kernel) (by decide +kernel)
set_option maxRecDepth 20000 in
theorem gL_law_X10_round : GoodIn wsL_law (wsV RL 76 RX10 yX10_round wsX10_round) := goodIn_app (goodIn_of _ (by decide +kernel)) ggL_law_X10_round
set_option maxRecDepth 20000 in
theorem ggL_law_X11_round : GoodIn wsL_law wsX11_round := goodIn_r _ [691, 692, 111, 110, 572, 573, 574, 5, 575, 220, 221, 222, 223, 104, 151, 152, 153, 154, 155, 156, 157, 107, 693, 694, 695, 696, 697, 698, 699, 109, 653, 654, 655, 656, 477, 478, 479, 480, 481, 482, 483, 484, 485, 486, 487, 488, 216, 217, 218, 219, 158, 159, 160, 161, 1011, 1012, 1013, 1014, 1015, 1016, 1017, 1018, 1019, 1020, 1021, 1022, 1023, 1024, 1025, 1026, 1027, 1028] (by decide +kernel) (by decide +kernel)
set_option maxRecDepth 20000 in
theorem gL_law_X11_round : GoodIn wsL_law (wsV RL 80 RX11 yX11_round wsX11_round) := goodIn_app (goodIn_of _ (by decide +kernel)) ggL_law_X11_round
set_option maxRecDepth 20000 in
theorem ggL_law_X10_places : GoodIn wsL_law wsX10_places := goodIn_r _ [703, 34, 201, 258, 501, 49, 661, 662, 124, 125, 2, 126, 564, 565, 566, 33, 567, 136, 663, 664, 665, 666, 53, 704, 705, 706, 707, 123, 51, 634, 370, 371, 372, 80, 73, 180, 141, 373, 374, 375, 376, 377, 26, 378, 379, 380, 381, 382, 383, 384, 385, 386, 17, 387, 388, 389, 390, 14, 391, 392, 393, 394, 29, 395, 396, 397, 398, 399, 20, 400, 401, 402, 403, 404, 405, 406, 23, 407, 408, 409, 410, 411, 412, 413, 414, 667, 668, 669, 48, 670, 671, 708, 709, 710, 711, 676, 52, 712, 713, 714, 715, 716, 717, 718, 719, 720, 647, 677, 678, 679, 680, 98, 99, 681, 682, 519, 520, 521, 999, 1000, 1001, 1002, 1003, 1004, 1005, 1006, 1007, 1008, 1009, 1010, 1029, 1030, 1031, 1032, 1033, 1034, 1035, 1036, 1037, 1038, 1039, 1052, 1053, 1054, 1055, 1056, 1057, 1058, 1059, 1060] (by decide +kernel) (by decide +kernel)
set_option maxRecDepth 20000 in
theorem gL_law_X10_places : GoodIn wsL_law (wsV RL 81 RX10 yX10_places wsX10_places) := goodIn_app (goodIn_of _ (by decide +kernel)) ggL_law_X10_places
set_option maxRecDepth 20000 in
theorem ggL_law_X11_places : GoodIn wsL_law wsX11_places := goodIn_r _ [724, 725, 112, 109, 151, 152, 5, 153, 220, 221, 222, 223, 104, 154, 155, 156, 157, 107, 653, 654, 655, 656, 158, 159, 160, 161, 726, 727, 728, 729, 730, 627, 628, 629, 477, 478, 479, 480, 481, 482, 483, 484, 485, 486, 487, 488, 474, 475, 476, 1011, 1012, 1013, 1014, 1015, 1016, 1017, 1018, 1019, 1020, 1021, 1022, 1023, 1024, 1025, 1026, 1027, 1028] (by decide +kernel) (by decide +kernel)
set_option maxRecDepth 20000 in
theorem gL_law_X11_places : GoodIn wsL_law (wsV RL 84 RX11 yX11_places wsX11_places) := goodIn_app (goodIn_of _ (by decide +kernel)) ggL_law_X11_places
set_option maxRecDepth 20000 in
theorem ggL_law_X10_which : GoodIn wsL_law wsX10_which := goodIn_r _ [734, 34, 123, 51, 124, 125, 2, 126, 127, 128, 129, 130, 53, 704, 705, 706, 707, 258, 634, 370, 371, 33, 372, 80, 73, 180, 141, 373, 374, 375, 376, 377, 26, 378, 379, 380, 381, 382, 383, 384, 385, 386, 17, 387, 388, 389, 390, 14, 391, 392, 393, 394, 29, 395, 396, 397, 398, 399, 20, 400, 401, 402, 403, 404, 405, 406, 23, 407, 408, 409, 410, 411, 412, 413, 414, 999, 1000, 1001, 1002, 1003, 1004, 1005, 1006, 1007, 1008, 1009, 1010, 1029, 1030, 1031, 1032, 1033, 1034, 1035, 1036, 1037, 1038, 1039, 1052, 1053, 1054, 1055, 1056, 1057] (by decide +kernel) (by decide +kernel)
set_option maxRecDepth 20000 in
theorem gL_law_X10_which : GoodIn wsL_law (wsV RL 85 RX10 yX10_which wsX10_which) := goodIn_app (goodIn_of _ (by decide +kernel)) ggL_law_X10_which
set_option maxRecDepth 20000 in
theorem ggL_law_X11_which : GoodIn wsL_law wsX11_which := goodIn_r _ [738, 104, 639, 640, 5, 641, 642, 151, 152, 153, 154, 155, 156, 157, 107, 158, 159, 160, 161, 477, 478, 479, 480, 481, 482, 483, 484, 485, 486, 487, 488, 1011, 1012, 1013, 1014, 1015, 1016, 1017, 1018, 1019, 1020, 1021, 1022, 1023, 1024, 1025, 1026, 1027, 1028] (by decide +kernel) (by decide +kernel)
set_option maxRecDepth 20000 in
theorem gL_law_X11_which : GoodIn wsL_law (wsV RL 88 RX11 yX11_which wsX11_which) := goodIn_app (goodIn_of _ (by decide +kernel)) ggL_law_X11_which
set_option maxRecDepth 20000 in
theorem ggL_law_X10_lasts : GoodIn wsL_law wsX10_lasts := goodIn_r _ [742, 34, 258, 621, 564, 565, 566, 33, 567, 136, 125, 2, 126, 169, 170, 171, 127, 128, 129, 130, 53, 743, 547, 548, 999, 1000, 1001, 1002, 1003, 1004, 1005, 1006, 1007, 1008, 1009, 1010, 1029, 1030, 1031, 1032, 1033, 1034, 1035, 1036, 1037, 1038, 1039, 1052, 1053, 1054, 1055, 1056, 1057] (by decide +kernel) (by decide +kernel)
set_option maxRecDepth 20000 in
theorem gL_law_X10_lasts : GoodIn wsL_law (wsV RL 89 RX10 yX10_lasts wsX10_lasts) := goodIn_app (goodIn_of _ (by decide +kernel)) ggL_law_X10_lasts
set_option maxRecDepth 20000 in
theorem ggL_law_X11_lasts : GoodIn wsL_law wsX11_lasts := goodIn_r _ [747, 748, 104, 572, 573, 574, 5, 575, 220, 221, 222, 223, 151, 152, 153, 154, 155, 156, 157, 107, 556, 557, 558, 1011, 1012, 1013, 1014, 1015, 1016, 1017, 1018, 1019, 1020, 1021, 1022, 1023, 1024, 1025, 1026, 1027, 1028] (by decide +kernel) (by decide +kernel)
set_option maxRecDepth 20000 in
theorem gL_law_X11_lasts : GoodIn wsL_law (wsV RL 92 RX11 yX11_lasts wsX11_lasts) := goodIn_app (goodIn_of _ (by decide +kernel)) ggL_law_X11_lasts
set_option maxRecDepth 20000 in
theorem ggL_law_X10_enough : GoodIn wsL_law wsX10_enough := goodIn_r _ [752, 34, 201, 169, 170, 2, 171, 127, 128, 129, 130, 53, 753, 754, 755, 756, 757, 758, 759, 760, 761, 762, 33, 763, 136, 75, 211, 999, 1000, 1001, 1002, 1003, 1004, 1005, 1006, 1007, 1008, 1009, 1010, 1029, 1030, 1031, 1032, 1033, 1034, 1035, 1036, 1037, 1038, 1039, 1052, 1053, 1054, 1055, 1056, 1057] (by decide +kernel) (by decide +kernel)
set_option maxRecDepth 20000 in
theorem gL_law_X10_enough : GoodIn wsL_law (wsV RL 93 RX10 yX10_enough wsX10_enough) := goodIn_app (goodIn_of _ (by decide +kernel)) ggL_law_X10_enough
set_option maxRecDepth 20000 in
theorem ggL_law_X11_enough : GoodIn wsL_law wsX11_enough := goodIn_r _ [767, 748, 104, 151, 152, 5, 153, 154, 155, 156, 157, 107, 220, 221, 222, 223, 768, 769, 770, 771, 772, 773, 1011, 1012, 1013, 1014, 1015, 1016, 1017, 1018, 1019, 1020, 1021, 1022, 1023, 1024, 1025, 1026, 1027, 1028] (by decide +kernel) (by decide +kernel)
set_option maxRecDepth 20000 in
theorem gL_law_X11_enough : GoodIn wsL_law (wsV RL 96 RX11 yX11_enough wsX11_enough) := goodIn_app (goodIn_of _ (by decide +kernel)) ggL_law_X11_enough
set_option maxRecDepth 20000 in
theorem ggL_law_X10_missed : GoodIn wsL_law wsX10_missed := goodIn_r _ [777, 34, 778, 202, 203, 204, 33, 205, 135, 125, 2, 126, 124, 166, 167, 168, 169, 170, 171, 127, 128, 129, 130, 53, 172, 173, 174, 175, 779, 780, 781, 782, 78, 138, 999, 1000, 1001, 1002, 1003, 1004, 1005, 1006, 1007, 1008, 1009, 1010, 1029, 1030, 1031, 1032, 1033, 1034, 1035, 1036, 1037, 1038, 1039] (by decide +kernel) (by decide +kernel)
set_option maxRecDepth 20000 in
theorem gL_law_X10_missed : GoodIn wsL_law (wsV RL 97 RX10 yX10_missed wsX10_missed) := goodIn_app (goodIn_of _ (by decide +kernel)) ggL_law_X10_missed
set_option maxRecDepth 20000 in
theorem ggL_law_X11_missed : GoodIn wsL_law wsX11_missed := goodIn_r _ [786, 104, 216, 217, 218, 5, 219, 158, 159, 160, 161, 151, 152, 153, 639, 640, 641, 642, 186, 187, 188, 189, 154, 155, 156, 157, 107, 190, 191, 192, 193, 1011, 1012, 1013, 1014, 1015, 1016, 1017, 1018, 1019, 1020, 1021, 1022, 1023, 1024, 1025, 1026, 1027, 1028] (by decide +kernel) (by decide +kernel)
set_option maxRecDepth 20000 in
theorem gL_law_X11_missed : GoodIn wsL_law (wsV RL 101 RX11 yX11_missed wsX11_missed) := goodIn_app (goodIn_of _ (by decide +kernel)) ggL_law_X11_missed
set_option maxRecDepth 20000 in
theorem ggL_law_X10_clouds : GoodIn wsL_law wsX10_clouds := goodIn_r _ [790, 34, 791, 792, 793, 33, 794, 138, 78, 80, 73, 373, 374, 375, 376, 377, 26, 378, 379, 380, 381, 382, 383, 384, 385, 386, 17, 387, 388, 389, 390, 14, 391, 392, 393, 394, 29, 395, 396, 397, 398, 399, 20, 400, 401, 402, 403, 404, 405, 406, 23, 407, 408, 409, 410, 411, 412, 413, 414, 999, 1000, 1001, 1002, 1003, 1004, 1005, 1006, 1007, 1008, 1009, 1010, 1029, 1030, 1031, 1032, 1033, 1034, 1035, 1036, 1037, 1038, 1039] (by decide +kernel) (by decide +kernel)
set_option maxRecDepth 20000 in
theorem gL_law_X10_clouds : GoodIn wsL_law (wsV RL 102 RX10 yX10_clouds wsX10_clouds) := goodIn_app (goodIn_of _ (by decide +kernel)) ggL_law_X10_clouds
set_option maxRecDepth 20000 in
theorem ggL_law_X11_clouds : GoodIn wsL_law wsX11_clouds := goodIn_r _ [798, 104, 480, 481, 5, 482, 483, 484, 485, 486, 487, 488, 1011, 1012, 1013, 1014, 1015, 1016, 1017, 1018, 1019, 1020, 1021, 1022, 1023, 1024, 1025, 1026, 1027, 1028] (by decide +kernel) (by decide +kernel)
set_option maxRecDepth 20000 in
theorem gL_law_X11_clouds : GoodIn wsL_law (wsV RL 105 RX11 yX11_clouds wsX11_clouds) := goodIn_app (goodIn_of _ (by decide +kernel)) ggL_law_X11_clouds
set_option maxRecDepth 20000 in
theorem ggL_law_X10_note : GoodIn wsL_law wsX10_note := goodIn_r _ [802, 34, 803, 202, 203, 204, 33, 205, 135, 125, 2, 126, 124, 166, 167, 168, 169, 170, 171, 127, 128, 129, 130, 53, 172, 173, 174, 175, 804, 805, 806, 807, 79, 139, 999, 1000, 1001, 1002, 1003, 1004, 1005, 1006, 1007, 1008, 1009, 1010, 1029, 1030, 1031, 1032, 1033, 1034, 1035, 1036, 1037, 1038, 1039] (by decide +kernel) (by decide +kernel)
set_option maxRecDepth 20000 in
theorem gL_law_X10_note : GoodIn wsL_law (wsV RL 106 RX10 yX10_note wsX10_note) := goodIn_app (goodIn_of _ (by decide +kernel)) ggL_law_X10_note
set_option maxRecDepth 20000 in
theorem ggL_law_X11_note : GoodIn wsL_law wsX11_note := goodIn_r _ [811, 812, 104, 216, 217, 218, 5, 219, 158, 159, 160, 161, 151, 152, 153, 639, 640, 641, 642, 186, 187, 188, 189, 147, 148, 149, 150, 154, 155, 156, 157, 107, 190, 191, 192, 193, 1011, 1012, 1013, 1014, 1015, 1016, 1017, 1018, 1019, 1020, 1021, 1022, 1023, 1024, 1025, 1026, 1027, 1028] (by decide +kernel) (by decide +kernel)
set_option maxRecDepth 20000 in
theorem gL_law_X11_note : GoodIn wsL_law (wsV RL 110 RX11 yX11_note wsX11_note) := goodIn_app (goodIn_of _ (by decide +kernel)) ggL_law_X11_note
set_option maxRecDepth 20000 in
theorem ggL_law_X10_forget : GoodIn wsL_law wsX10_forget := goodIn_r _ [816, 34, 778, 803, 124, 125, 2, 126, 127, 128, 129, 130, 53, 999, 1000, 1001, 1002, 1003, 1004, 1005, 1006, 1007, 1008, 1009, 1010, 1029, 1030, 1031, 1032, 1033, 1034, 1035, 1036, 1037, 1038, 1039] (by decide +kernel) (by decide +kernel)
set_option maxRecDepth 20000 in
theorem gL_law_X10_forget : GoodIn wsL_law (wsV RL 111 RX10 yX10_forget wsX10_forget) := goodIn_app (goodIn_of _ (by decide +kernel)) ggL_law_X10_forget
set_option maxRecDepth 20000 in
theorem ggL_law_X11_forget : GoodIn wsL_law wsX11_forget := goodIn_r _ [820, 104, 151, 152, 5, 153, 154, 155, 156, 157, 107, 1011, 1012, 1013, 1014, 1015, 1016, 1017, 1018, 1019, 1020, 1021, 1022, 1023, 1024, 1025, 1026, 1027, 1028] (by decide +kernel) (by decide +kernel)
set_option maxRecDepth 20000 in
theorem gL_law_X11_forget : GoodIn wsL_law (wsV RL 114 RX11 yX11_forget wsX11_forget) := goodIn_app (goodIn_of _ (by decide +kernel)) ggL_law_X11_forget
set_option maxRecDepth 20000 in
theorem ggL_law_X10_is : GoodIn wsL_law wsX10_is := goodIn_r _ [824, 34, 202, 203, 204, 33, 205, 135, 125, 2, 126, 127, 128, 129, 130, 53, 825, 826, 827, 828, 80, 829, 830, 831, 832, 139, 79, 373, 374, 375, 376, 377, 26, 378, 379, 380, 381, 382, 383, 384, 385, 386, 17, 387, 388, 389, 390, 14, 391, 392, 393, 394, 29, 395, 396, 397, 398, 399, 20, 400, 401, 402, 403, 404, 405, 406, 23, 407, 408, 409, 410, 411, 412, 413, 414, 999, 1000, 1001, 1002, 1003, 1004, 1005, 1006, 1007, 1008, 1009, 1010, 1029, 1030, 1031, 1032, 1033, 1034, 1035, 1036, 1037, 1038, 1039] (by decide +kernel) (by decide +kernel)
set_option maxRecDepth 20000 in
theorem gL_law_X10_is : GoodIn wsL_law (wsV RL 115 RX10 yX10_is wsX10_is) := goodIn_app (goodIn_of _ (by decide +kernel)) ggL_law_X10_is
set_option maxRecDepth 20000 in
theorem ggL_law_X11_is : GoodIn wsL_law wsX11_is := goodIn_r _ [836, 216, 217, 218, 5, 219, 158, 159, 160, 161, 104, 151, 152, 153, 837, 838, 839, 840, 480, 481, 482, 483, 484, 485, 486, 487, 488, 154, 155, 156, 157, 107, 1011, 1012, 1013, 1014, 1015, 1016, 1017, 1018, 1019, 1020, 1021, 1022, 1023, 1024, 1025, 1026, 1027, 1028] (by decide +kernel) (by decide +kernel)
set_option maxRecDepth 20000 in
theorem gL_law_X11_is : GoodIn wsL_law (wsV RL 118 RX11 yX11_is wsX11_is) := goodIn_app (goodIn_of _ (by decide +kernel)) ggL_law_X11_is
set_option maxRecDepth 20000 in
theorem ggL_law_X10_look : GoodIn wsL_law wsX10_look := goodIn_r _ [844, 34, 258, 603, 202, 203, 204, 33, 205, 135, 125, 2, 126, 127, 128, 129, 130, 53, 825, 826, 827, 828, 80, 829, 830, 831, 832, 139, 79, 373, 374, 375, 376, 377, 26, 378, 379, 380, 381, 382, 383, 384, 385, 386, 17, 387, 388, 389, 390, 14, 391, 392, 393, 394, 29, 395, 396, 397, 398, 399, 20, 400, 401, 402, 403, 404, 405, 406, 23, 407, 408, 409, 410, 411, 412, 413, 414, 845, 846, 847, 848, 30, 687, 849, 850, 999, 1000, 1001, 1002, 1003, 1004, 1005, 1006, 1007, 1008, 1009, 1010, 1029, 1030, 1031, 1032, 1033, 1034, 1035, 1036, 1037, 1038, 1039, 1052, 1053, 1054, 1055, 1056, 1057] (by decide +kernel) (by decide +kernel)
set_option maxRecDepth 20000 in
theorem gL_law_X10_look : GoodIn wsL_law (wsV RL 119 RX10 yX10_look wsX10_look) := goodIn_app (goodIn_of _ (by decide +kernel)) ggL_law_X10_look
set_option maxRecDepth 20000 in
theorem ggL_law_X11_look : GoodIn wsL_law wsX11_look := goodIn_r _ [854, 730, 104, 216, 217, 218, 5, 219, 158, 159, 160, 161, 151, 152, 153, 154, 155, 156, 157, 107, 837, 838, 839, 840, 480, 481, 482, 483, 484, 485, 486, 487, 488, 768, 769, 770, 1011, 1012, 1013, 1014, 1015, 1016, 1017, 1018, 1019, 1020, 1021, 1022, 1023, 1024, 1025, 1026, 1027, 1028] (by decide +kernel) (by decide +kernel)
set_option maxRecDepth 20000 in
theorem gL_law_X11_look : GoodIn wsL_law (wsV RL 122 RX11 yX11_look wsX11_look) := goodIn_app (goodIn_of _ (by decide +kernel)) ggL_law_X11_look
set_option maxRecDepth 20000 in
theorem ggL_law_X10_two : GoodIn wsL_law wsX10_two := goodIn_r _ [858, 34, 258, 501, 123, 563, 564, 565, 566, 33, 567, 136, 125, 2, 126, 663, 664, 665, 666, 53, 704, 705, 706, 707, 51, 634, 370, 371, 372, 80, 73, 180, 141, 373, 374, 375, 376, 377, 26, 378, 379, 380, 381, 382, 383, 384, 385, 386, 17, 387, 388, 389, 390, 14, 391, 392, 393, 394, 29, 395, 396, 397, 398, 399, 20, 400, 401, 402, 403, 404, 405, 406, 23, 407, 408, 409, 410, 411, 412, 413, 414, 859, 860, 861, 862, 863, 864, 865, 866, 867, 868, 869, 999, 1000, 1001, 1002, 1003, 1004, 1005, 1006, 1007, 1008, 1009, 1010, 1029, 1030, 1031, 1032, 1033, 1034, 1035, 1036, 1037, 1038, 1039, 1052, 1053, 1054, 1055, 1056, 1057] (by decide +kernel) (by decide +kernel)
set_option maxRecDepth 20000 in
theorem gL_law_X10_two : GoodIn wsL_law (wsV RL 123 RX10 yX10_two wsX10_two) := goodIn_app (goodIn_of _ (by decide +kernel)) ggL_law_X10_two
set_option maxRecDepth 20000 in
theorem ggL_law_X11_two : GoodIn wsL_law wsX11_two := goodIn_r _ [873, 572, 573, 574, 5, 575, 220, 221, 222, 223, 104, 151, 152, 153, 154, 155, 156, 157, 107, 158, 159, 160, 161, 874, 875, 876, 877, 878, 879, 880, 881, 477, 478, 479, 480, 481, 482, 483, 484, 485, 486, 487, 488, 882, 883, 884, 1011, 1012, 1013, 1014, 1015, 1016, 1017, 1018, 1019, 1020, 1021, 1022, 1023, 1024, 1025, 1026, 1027, 1028] (by decide +kernel) (by decide +kernel)
set_option maxRecDepth 20000 in
theorem gL_law_X11_two : GoodIn wsL_law (wsV RL 126 RX11 yX11_two wsX11_two) := goodIn_app (goodIn_of _ (by decide +kernel)) ggL_law_X11_two
set_option maxRecDepth 20000 in
theorem ggL_law_X10_rains : GoodIn wsL_law wsX10_rains := goodIn_r _ [888, 34, 258, 501, 45, 580, 647, 409, 381, 410, 54, 55, 202, 203, 204, 33, 205, 135, 125, 2, 126, 169, 170, 171, 127, 128, 129, 130, 53, 634, 370, 371, 372, 80, 73, 180, 141, 373, 374, 375, 376, 377, 26, 378, 379, 380, 382, 383, 384, 385, 386, 17, 387, 388, 389, 390, 14, 391, 392, 393, 394, 29, 395, 396, 397, 398, 399, 20, 400, 401, 402, 403, 404, 405, 406, 23, 407, 408, 411, 412, 413, 414, 648, 515, 516, 44, 517, 84, 518, 519, 520, 521, 85, 86, 522, 523, 524, 889, 890, 891, 999, 1000, 1001, 1002, 1003, 1004, 1005, 1006, 1007, 1008, 1009, 1010, 1029, 1030, 1031, 1032, 1033, 1034, 1035, 1036, 1037, 1038, 1039, 1052, 1053, 1054, 1055, 1056, 1057] (by decide +kernel) (by decide +kernel)
set_option maxRecDepth 20000 in
theorem gL_law_X10_rains : GoodIn wsL_law (wsV RL 127 RX10 yX10_rains wsX10_rains) := goodIn_app (goodIn_of _ (by decide +kernel)) ggL_law_X10_rains
set_option maxRecDepth 20000 in
theorem ggL_law_X11_rains : GoodIn wsL_law wsX11_rains := goodIn_r _ [895, 896, 109, 104, 216, 217, 218, 5, 219, 158, 159, 160, 161, 151, 152, 153, 154, 155, 156, 157, 107, 653, 654, 655, 656, 477, 478, 479, 480, 481, 482, 483, 484, 485, 486, 487, 488, 897, 898, 899, 900, 901, 108, 1011, 1012, 1013, 1014, 1015, 1016, 1017, 1018, 1019, 1020, 1021, 1022, 1023, 1024, 1025, 1026, 1027, 1028] (by decide +kernel) (by decide +kernel)
set_option maxRecDepth 20000 in
theorem gL_law_X11_rains : GoodIn wsL_law (wsV RL 130 RX11 yX11_rains wsX11_rains) := goodIn_app (goodIn_of _ (by decide +kernel)) ggL_law_X11_rains
set_option maxRecDepth 20000 in
theorem ggL_law_X10_summers : GoodIn wsL_law wsX10_summers := goodIn_r _ [905, 906, 45, 34, 258, 907, 908, 909, 501, 910, 911, 580, 124, 125, 2, 126, 169, 170, 171, 127, 128, 129, 130, 53, 648, 515, 516, 44, 517, 84, 518, 519, 520, 521, 85, 86, 522, 523, 524, 543, 544, 545, 33, 546, 136, 211, 135, 180, 419, 409, 381, 410, 142, 140, 547, 548, 357, 358, 359, 360, 361, 362, 363, 364, 365, 366, 367, 368, 210, 369, 370, 371, 372, 80, 73, 141, 373, 374, 375, 376, 377, 26, 378, 379, 380, 382, 383, 384, 385, 386, 17, 387, 388, 389, 390, 14, 391, 392, 393, 394, 29, 395, 396, 397, 398, 399, 20, 400, 401, 402, 403, 404, 405, 406, 23, 407, 408, 411, 412, 413, 414, 415, 416, 417, 418, 420, 999, 1000, 1001, 1002, 1003, 1004, 1005, 1006, 1007, 1008, 1009, 1010, 1029, 1030, 1031, 1032, 1033, 1034, 1035, 1036, 1037, 1038, 1039, 1052, 1053, 1054, 1055, 1056, 1057] (by decide +kernel) (by decide +kernel)
set_option maxRecDepth 20000 in
theorem gL_law_X10_summers : GoodIn wsL_law (wsV RL 131 RX10 yX10_summers wsX10_summers) := goodIn_app (goodIn_of _ (by decide +kernel)) ggL_law_X10_summers
set_option maxRecDepth 20000 in
theorem ggL_law_X11_summers : GoodIn wsL_law wsX11_summers := goodIn_r _ [915, 916, 189, 917, 918, 919, 109, 920, 896, 151, 152, 5, 153, 154, 155, 156, 157, 107, 653, 654, 655, 656, 104, 553, 554, 555, 556, 557, 558, 471, 472, 473, 474, 475, 476, 477, 478, 479, 480, 481, 482, 483, 484, 485, 486, 487, 488, 1011, 1012, 1013, 1014, 1015, 1016, 1017, 1018, 1019, 1020, 1021, 1022, 1023, 1024, 1025, 1026, 1027, 1028] (by decide +kernel) (by decide +kernel)
set_option maxRecDepth 20000 in
theorem gL_law_X11_summers : GoodIn wsL_law (wsV RL 134 RX11 yX11_summers wsX11_summers) := goodIn_app (goodIn_of _ (by decide +kernel)) ggL_law_X11_summers
set_option maxRecDepth 20000 in
theorem ggL_law_X10_part : GoodIn wsL_law wsX10_part := goodIn_r _ [924, 54, 55, 124, 125, 2, 126, 127, 128, 129, 130, 53, 999, 1000, 1001, 1002, 1003, 1004, 1005, 1006, 1007, 1008, 1009, 1010] (by decide +kernel) (by decide +kernel)
set_option maxRecDepth 20000 in
theorem gL_law_X10_part : GoodIn wsL_law (wsV RL 135 RX10 yX10_part wsX10_part) := goodIn_app (goodIn_of _ (by decide +kernel)) ggL_law_X10_part
set_option maxRecDepth 20000 in
theorem ggL_law_X11_part : GoodIn wsL_law wsX11_part := goodIn_r _ [928, 901, 108, 154, 155, 156, 5, 157, 107, 1011, 1012, 1013, 1014, 1015, 1016, 1017, 1018, 1019, 1020, 1021, 1022, 1023, 1024, 1025, 1026, 1027, 1028] (by decide +kernel) (by decide +kernel)
set_option maxRecDepth 20000 in
theorem gL_law_X11_part : GoodIn wsL_law (wsV RL 139 RX11 yX11_part wsX11_part) := goodIn_app (goodIn_of _ (by decide +kernel)) ggL_law_X11_part
set_option maxRecDepth 20000 in
theorem ggL_law_X10_image : GoodIn wsL_law wsX10_image := goodIn_r _ [932, 35, 34, 37, 124, 125, 2, 126, 127, 128, 129, 130, 53, 933, 934, 935, 33, 936, 73, 937, 519, 520, 521, 75, 137, 76, 138, 78, 139, 79, 135, 136, 514, 515, 516, 44, 517, 84, 518, 85, 86, 522, 523, 524, 999, 1000, 1001, 1002, 1003, 1004, 1005, 1006, 1007, 1008, 1009, 1010, 1029, 1030, 1031, 1032, 1033, 1034, 1035, 1036, 1037, 1038, 1039, 1052, 1053, 1054, 1055, 1056, 1057] (by decide +kernel) (by decide +kernel)
set_option maxRecDepth 20000 in
theorem gL_law_X10_image : GoodIn wsL_law (wsV RL 140 RX10 yX10_image wsX10_image) := goodIn_app (goodIn_of _ (by decide +kernel)) ggL_law_X10_image
set_option maxRecDepth 20000 in
theorem ggL_law_X11_image : GoodIn wsL_law wsX11_image := goodIn_r _ [941, 105, 104, 106, 151, 152, 5, 153, 154, 155, 156, 157, 107, 1011, 1012, 1013, 1014, 1015, 1016, 1017, 1018, 1019, 1020, 1021, 1022, 1023, 1024, 1025, 1026, 1027, 1028] (by decide +kernel) (by decide +kernel)
set_option maxRecDepth 20000 in
theorem gL_law_X11_image : GoodIn wsL_law (wsV RL 143 RX11 yX11_image wsX11_image) := goodIn_app (goodIn_of _ (by decide +kernel)) ggL_law_X11_image
set_option maxRecDepth 20000 in
theorem ggL_law_X10_from : GoodIn wsL_law wsX10_from := goodIn_r _ [945, 37, 34, 35, 124, 125, 2, 126, 127, 128, 129, 130, 53, 502, 503, 504, 505, 933, 934, 935, 33, 936, 73, 937, 519, 520, 521, 75, 137, 76, 138, 78, 139, 79, 135, 136, 514, 515, 516, 44, 517, 84, 518, 85, 86, 522, 523, 524, 999, 1000, 1001, 1002, 1003, 1004, 1005, 1006, 1007, 1008, 1009, 1010, 1029, 1030, 1031, 1032, 1033, 1034, 1035, 1036, 1037, 1038, 1039, 1052, 1053, 1054, 1055, 1056, 1057] (by decide +kernel) (by decide +kernel)
set_option maxRecDepth 20000 in
theorem gL_law_X10_from : GoodIn wsL_law (wsV RL 144 RX10 yX10_from wsX10_from) := goodIn_app (goodIn_of _ (by decide +kernel)) ggL_law_X10_from
set_option maxRecDepth 20000 in
theorem ggL_law_X11_from : GoodIn wsL_law wsX11_from := goodIn_r _ [949, 106, 104, 105, 151, 152, 5, 153, 154, 155, 156, 157, 107, 530, 531, 532, 533, 1011, 1012, 1013, 1014, 1015, 1016, 1017, 1018, 1019, 1020, 1021, 1022, 1023, 1024, 1025, 1026, 1027, 1028] (by decide +kernel) (by decide +kernel)
set_option maxRecDepth 20000 in
theorem gL_law_X11_from : GoodIn wsL_law (wsV RL 147 RX11 yX11_from wsX11_from) := goodIn_app (goodIn_of _ (by decide +kernel)) ggL_law_X11_from
