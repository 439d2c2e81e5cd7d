theorem dX11_spells_49 : decode cX11_spells 49 = .ok (.iload 9, 2) := by decide +kernel
theorem dX11_spells_51 : decode cX11_spells 51 = .ok (.ifCond .ne 7, 3) := by decide +kernel
theorem dX11_spells_54 : decode cX11_spells 54 = .ok (.iload_n 2, 1) := by decide +kernel
theorem dX11_spells_55 : decode cX11_spells 55 = .ok (.goto 48, 3) := by decide +kernel
theorem dX11_spells_58 : decode cX11_spells 58 = .ok (.iload 9, 2) := by decide +kernel
theorem dX11_spells_60 : decode cX11_spells 60 = .ok (.iconst 1, 1) := by decide +kernel
theorem dX11_spells_61 : decode cX11_spells 61 = .ok (.if_icmp .ne 7, 3) := by decide +kernel
theorem dX11_spells_64 : decode cX11_spells 64 = .ok (.iload_n 3, 1) := by decide +kernel
theorem dX11_spells_65 : decode cX11_spells 65 = .ok (.goto 38, 3) := by decide +kernel
theorem dX11_spells_68 : decode cX11_spells 68 = .ok (.iload 9, 2) := by decide +kernel
theorem dX11_spells_70 : decode cX11_spells 70 = .ok (.iconst 2, 1) := by decide +kernel
theorem dX11_spells_71 : decode cX11_spells 71 = .ok (.if_icmp .ne 8, 3) := by decide +kernel
theorem dX11_spells_74 : decode cX11_spells 74 = .ok (.iload 4, 2) := by decide +kernel
theorem dX11_spells_76 : decode cX11_spells 76 = .ok (.goto 27, 3) := by decide +kernel
theorem dX11_spells_79 : decode cX11_spells 79 = .ok (.iload 9, 2) := by decide +kernel
theorem dX11_spells_81 : decode cX11_spells 81 = .ok (.iconst 3, 1) := by decide +kernel
theorem dX11_spells_82 : decode cX11_spells 82 = .ok (.if_icmp .ne 8, 3) := by decide +kernel
theorem dX11_spells_85 : decode cX11_spells 85 = .ok (.iload 5, 2) := by decide +kernel
theorem dX11_spells_87 : decode cX11_spells 87 = .ok (.goto 16, 3) := by decide +kernel
theorem dX11_spells_90 : decode cX11_spells 90 = .ok (.iload 9, 2) := by decide +kernel
theorem dX11_spells_92 : decode cX11_spells 92 = .ok (.iconst 4, 1) := by decide +kernel
theorem dX11_spells_93 : decode cX11_spells 93 = .ok (.if_icmp .ne 8, 3) := by decide +kernel
theorem dX11_spells_96 : decode cX11_spells 96 = .ok (.iload 6, 2) := by decide +kernel
theorem dX11_spells_98 : decode cX11_spells 98 = .ok (.goto 5, 3) := by decide +kernel
theorem dX11_spells_101 : decode cX11_spells 101 = .ok (.iload 7, 2) := by decide +kernel
theorem dX11_spells_103 : decode cX11_spells 103 = .ok (.if_icmp .ne 7, 3) := by decide +kernel
theorem dX11_spells_106 : decode cX11_spells 106 = .ok (.iconst 1, 1) := by decide +kernel
theorem dX11_spells_107 : decode cX11_spells 107 = .ok (.goto 4, 3) := by decide +kernel
theorem dX11_spells_110 : decode cX11_spells 110 = .ok (.iconst 0, 1) := by decide +kernel
theorem dX11_spells_111 : decode cX11_spells 111 = .ok (.istore 8, 2) := by decide +kernel
theorem dX11_spells_113 : decode cX11_spells 113 = .ok (.iinc 9 1, 3) := by decide +kernel
theorem dX11_spells_116 : decode cX11_spells 116 = .ok (.goto (-90), 3) := by decide +kernel
theorem dX11_spells_119 : decode cX11_spells 119 = .ok (.iload 8, 2) := by decide +kernel
theorem dX11_spells_121 : decode cX11_spells 121 = .ok (.ireturn, 1) := by decide +kernel
set_option maxRecDepth 20000 in
theorem ggX11_takes_X11_in : GoodIn wsX11_takes wsX11_in := goodIn_r _ [7] (by decide +kernel) (by decide +kernel)
set_option maxRecDepth 20000 in
theorem gX11_takes_X11_in : GoodIn wsX11_takes (va_wsS RX11 56 yX11_in wsX11_in) := goodIn_app (goodIn_of _ (by decide +kernel)) ggX11_takes_X11_in
set_option maxRecDepth 20000 in
theorem ggX11_takes_X11_goBehind : GoodIn wsX11_takes wsX11_goBehind := goodIn_r _ [11, 12, 13, 14, 15, 16, 6, 17, 18, 19, 1, 2, 20, 21, 22, 23, 24, 4, 5, 7, 25, 26, 27, 28, 29, 30, 31, 32, 33, 34, 35, 36, 37, 38, 39, 40, 41, 42, 43, 44, 45, 46, 47] (by decide +kernel) (by decide +kernel)
set_option maxRecDepth 20000 in
theorem gX11_takes_X11_goBehind : GoodIn wsX11_takes (wsV RX11 244 RX11 yX11_goBehind wsX11_goBehind) := goodIn_app (goodIn_of _ (by decide +kernel)) ggX11_takes_X11_goBehind
theorem dX11_takes_0 : decode cX11_takes 0 = .ok (.aload_n 0, 1) := by decide +kernel
theorem dX11_takes_1 : decode cX11_takes 1 = .ok (.getfield 228, 3) := by decide +kernel
theorem dX11_takes_4 : decode cX11_takes 4 = .ok (.iconst 2, 1) := by decide +kernel
theorem dX11_takes_5 : decode cX11_takes 5 = .ok (.if_icmp .ne 18, 3) := by decide +kernel
theorem dX11_takes_8 : decode cX11_takes 8 = .ok (.aload_n 0, 1) := by decide +kernel
theorem dX11_takes_9 : decode cX11_takes 9 = .ok (.getfield 231, 3) := by decide +kernel
theorem dX11_takes_12 : decode cX11_takes 12 = .ok (.i2l, 1) := by decide +kernel
theorem dX11_takes_13 : decode cX11_takes 13 = .ok (.iload_n 2, 1) := by decide +kernel
theorem dX11_takes_14 : decode cX11_takes 14 = .ok (.i2l, 1) := by decide +kernel
theorem dX11_takes_15 : decode cX11_takes 15 = .ok (.iload_n 3, 1) := by decide +kernel
theorem dX11_takes_16 : decode cX11_takes 16 = .ok (.i2l, 1) := by decide +kernel
theorem dX11_takes_17 : decode cX11_takes 17 = .ok (.invokestatic 56, 3) := by decide +kernel
theorem dX11_takes_20 : decode cX11_takes 20 = .ok (.ifCond .ne 5, 3) := by decide +kernel
theorem dX11_takes_23 : decode cX11_takes 23 = .ok (.iconst 0, 1) := by decide +kernel
theorem dX11_takes_24 : decode cX11_takes 24 = .ok (.ireturn, 1) := by decide +kernel
theorem dX11_takes_25 : decode cX11_takes 25 = .ok (.aload_n 0, 1) := by decide +kernel
theorem dX11_takes_26 : decode cX11_takes 26 = .ok (.getfield 45, 3) := by decide +kernel
theorem dX11_takes_29 : decode cX11_takes 29 = .ok (.iload_n 1, 1) := by decide +kernel
theorem dX11_takes_30 : decode cX11_takes 30 = .ok (.aload_n 0, 1) := by decide +kernel
theorem dX11_takes_31 : decode cX11_takes 31 = .ok (.getfield 231, 3) := by decide +kernel
theorem dX11_takes_34 : decode cX11_takes 34 = .ok (.iastore, 1) := by decide +kernel
theorem dX11_takes_35 : decode cX11_takes 35 = .ok (.aload_n 0, 1) := by decide +kernel
theorem dX11_takes_36 : decode cX11_takes 36 = .ok (.invokevirtual 244, 3) := by decide +kernel
theorem dX11_takes_39 : decode cX11_takes 39 = .ok (.iconst 1, 1) := by decide +kernel
theorem dX11_takes_40 : decode cX11_takes 40 = .ok (.ireturn, 1) := by decide +kernel
set_option maxRecDepth 20000 in
theorem ggX11_takesParish_X11_spells : GoodIn wsX11_takesParish wsX11_spells := goodIn_r _ [8, 3, 9, 10, 11, 42, 43, 44, 45, 46, 47, 48, 49, 50, 51, 52, 53, 54, 55, 56, 57, 58, 59] (by decide +kernel) (by decide +kernel)
set_option maxRecDepth 20000 in
theorem gX11_takesParish_X11_spells : GoodIn wsX11_takesParish (wsV RX11 247 RX11 yX11_spells wsX11_spells) := goodIn_app (goodIn_of _ (by decide +kernel)) ggX11_takesParish_X11_spells
set_option maxRecDepth 20000 in
theorem ggX11_takesParish_X11_goBehind : GoodIn wsX11_takesParish wsX11_goBehind := goodIn_r _ [15, 11, 9, 16, 17, 18, 7, 19, 20, 10, 3, 21, 22, 23, 24, 25, 26, 27, 28, 29, 30, 31, 32, 33, 34, 42, 43, 44, 45, 46, 47, 48, 49, 50, 51, 52, 53, 54, 55, 56, 57, 58, 59] (by decide +kernel) (by decide +kernel)
set_option maxRecDepth 20000 in
theorem gX11_takesParish_X11_goBehind : GoodIn wsX11_takesParish (wsV RX11 244 RX11 yX11_goBehind wsX11_goBehind) := goodIn_app (goodIn_of _ (by decide +kernel)) ggX11_takesParish_X11_goBehind
set_option maxRecDepth 20000 in
theorem ggX11_takesParish_X11_takes : GoodIn wsX11_takesParish wsX11_takes := goodIn_r _ [38, 3, 21, 2, 27, 28, 7, 29, 12, 13, 14, 15, 11, 9, 16, 17, 18, 19, 20, 10, 22, 23, 24, 25, 26, 30, 31, 32, 33, 34, 42, 43, 44, 45, 46, 47, 48, 49, 50, 51, 52, 53, 54, 55, 56, 57, 58, 59] (by decide +kernel) (by decide +kernel)
set_option maxRecDepth 20000 in
theorem gX11_takesParish_X11_takes : GoodIn wsX11_takesParish (wsV RX11 251 RX11 yX11_takes wsX11_takes) := goodIn_app (goodIn_of _ (by decide +kernel)) ggX11_takesParish_X11_takes
set_option maxRecDepth 20000 in
theorem ggX11_takesParish_X11_begin : GoodIn wsX11_takesParish wsX11_begin := goodIn_r _ [41] (by decide +kernel) (by decide +kernel)
set_option maxRecDepth 20000 in
theorem gX11_takesParish_X11_begin : GoodIn wsX11_takesParish (va_wsS RX11 48 yX11_begin wsX11_begin) := goodIn_app (goodIn_of _ (by decide +kernel)) ggX11_takesParish_X11_begin
theorem dX11_takesParish_0 : decode cX11_takesParish 0 = .ok (.aload_n 0, 1) := by decide +kernel
theorem dX11_takesParish_1 : decode cX11_takesParish 1 = .ok (.bipush 6, 2) := by decide +kernel
theorem dX11_takesParish_3 : decode cX11_takesParish 3 = .ok (.bipush 112, 2) := by decide +kernel
theorem dX11_takesParish_5 : decode cX11_takesParish 5 = .ok (.bipush 97, 2) := by decide +kernel
theorem dX11_takesParish_7 : decode cX11_takesParish 7 = .ok (.bipush 114, 2) := by decide +kernel
theorem dX11_takesParish_9 : decode cX11_takesParish 9 = .ok (.bipush 105, 2) := by decide +kernel
theorem dX11_takesParish_11 : decode cX11_takesParish 11 = .ok (.bipush 115, 2) := by decide +kernel
theorem dX11_takesParish_13 : decode cX11_takesParish 13 = .ok (.bipush 104, 2) := by decide +kernel
theorem dX11_takesParish_15 : decode cX11_takesParish 15 = .ok (.invokevirtual 247, 3) := by decide +kernel
theorem dX11_takesParish_18 : decode cX11_takesParish 18 = .ok (.ifCond .ne 5, 3) := by decide +kernel
theorem dX11_takesParish_21 : decode cX11_takesParish 21 = .ok (.iconst 0, 1) := by decide +kernel
theorem dX11_takesParish_22 : decode cX11_takesParish 22 = .ok (.ireturn, 1) := by decide +kernel
theorem dX11_takesParish_23 : decode cX11_takesParish 23 = .ok (.aload_n 0, 1) := by decide +kernel
theorem dX11_takesParish_24 : decode cX11_takesParish 24 = .ok (.invokevirtual 244, 3) := by decide +kernel
theorem dX11_takesParish_27 : decode cX11_takesParish 27 = .ok (.aload_n 0, 1) := by decide +kernel
theorem dX11_takesParish_28 : decode cX11_takesParish 28 = .ok (.iconst 0, 1) := by decide +kernel
theorem dX11_takesParish_29 : decode cX11_takesParish 29 = .ok (.iconst 0, 1) := by decide +kernel
theorem dX11_takesParish_30 : decode cX11_takesParish 30 = .ok (.bipush 9, 2) := by decide +kernel
theorem dX11_takesParish_32 : decode cX11_takesParish 32 = .ok (.invokevirtual 251, 3) := by decide +kernel
theorem dX11_takesParish_35 : decode cX11_takesParish 35 = .ok (.ifCond .ne 5, 3) := by decide +kernel
theorem dX11_takesParish_38 : decode cX11_takesParish 38 = .ok (.iconst 0, 1) := by decide +kernel
theorem dX11_takesParish_39 : decode cX11_takesParish 39 = .ok (.ireturn, 1) := by decide +kernel
theorem dX11_takesParish_40 : decode cX11_takesParish 40 = .ok (.aload_n 0, 1) := by decide +kernel
theorem dX11_takesParish_41 : decode cX11_takesParish 41 = .ok (.getfield 42, 3) := by decide +kernel
theorem dX11_takesParish_44 : decode cX11_takesParish 44 = .ok (.aload_n 0, 1) := by decide +kernel
theorem dX11_takesParish_45 : decode cX11_takesParish 45 = .ok (.getfield 45, 3) := by decide +kernel
theorem dX11_takesParish_48 : decode cX11_takesParish 48 = .ok (.iconst 0, 1) := by decide +kernel
theorem dX11_takesParish_49 : decode cX11_takesParish 49 = .ok (.iaload, 1) := by decide +kernel
theorem dX11_takesParish_50 : decode cX11_takesParish 50 = .ok (.invokestatic 48, 3) := by decide +kernel
theorem dX11_takesParish_53 : decode cX11_takesParish 53 = .ok (.aload_n 0, 1) := by decide +kernel
theorem dX11_takesParish_54 : decode cX11_takesParish 54 = .ok (.getfield 228, 3) := by decide +kernel
theorem dX11_takesParish_57 : decode cX11_takesParish 57 = .ok (.iconst 3, 1) := by decide +kernel
theorem dX11_takesParish_58 : decode cX11_takesParish 58 = .ok (.if_icmp .ne 7, 3) := by decide +kernel
theorem dX11_takesParish_61 : decode cX11_takesParish 61 = .ok (.iconst 1, 1) := by decide +kernel
theorem dX11_takesParish_62 : decode cX11_takesParish 62 = .ok (.goto 4, 3) := by decide +kernel
theorem dX11_takesParish_65 : decode cX11_takesParish 65 = .ok (.iconst 0, 1) := by decide +kernel
theorem dX11_takesParish_66 : decode cX11_takesParish 66 = .ok (.ireturn, 1) := by decide +kernel
set_option maxRecDepth 20000 in
theorem ggX11_takesField_X11_goBehind : GoodIn wsX11_takesField wsX11_goBehind := goodIn_r _ [7, 8, 9, 10, 11, 12, 6, 13, 14, 15, 16, 17, 18, 19, 20, 21, 22, 23, 24, 25, 26, 27, 28, 29, 30, 38, 39, 40, 41, 42, 43, 44, 45, 46, 47, 48, 49, 50, 51, 52, 53, 54, 55] (by decide +kernel) (by decide +kernel)
set_option maxRecDepth 20000 in
theorem gX11_takesField_X11_goBehind : GoodIn wsX11_takesField (wsV RX11 244 RX11 yX11_goBehind wsX11_goBehind) := goodIn_app (goodIn_of _ (by decide +kernel)) ggX11_takesField_X11_goBehind
set_option maxRecDepth 20000 in
theorem ggX11_takesField_X11_takes : GoodIn wsX11_takesField wsX11_takes := goodIn_r _ [34, 16, 17, 2, 23, 24, 6, 25, 3, 4, 5, 7, 8, 9, 10, 11, 12, 13, 14, 15, 18, 19, 20, 21, 22, 26, 27, 28, 29, 30, 38, 39, 40, 41, 42, 43, 44, 45, 46, 47, 48, 49, 50, 51, 52, 53, 54, 55] (by decide +kernel) (by decide +kernel)
set_option maxRecDepth 20000 in
theorem gX11_takesField_X11_takes : GoodIn wsX11_takesField (wsV RX11 251 RX11 yX11_takes wsX11_takes) := goodIn_app (goodIn_of _ (by decide +kernel)) ggX11_takesField_X11_takes
set_option maxRecDepth 20000 in
theorem ggX11_takesField_X11_layField : GoodIn wsX11_takesField wsX11_layField := goodIn_r _ [37] (by decide +kernel) (by decide +kernel)
set_option maxRecDepth 20000 in
theorem gX11_takesField_X11_layField : GoodIn wsX11_takesField (va_wsS RX11 85 yX11_layField wsX11_layField) := goodIn_app (goodIn_of _ (by decide +kernel)) ggX11_takesField_X11_layField
theorem dX11_takesField_0 : decode cX11_takesField 0 = .ok (.aload_n 0, 1) := by decide +kernel
theorem dX11_takesField_1 : decode cX11_takesField 1 = .ok (.getfield 42, 3) := by decide +kernel
theorem dX11_takesField_4 : decode cX11_takesField 4 = .ok (.iconst 0, 1) := by decide +kernel
theorem dX11_takesField_5 : decode cX11_takesField 5 = .ok (.iaload, 1) := by decide +kernel
theorem dX11_takesField_6 : decode cX11_takesField 6 = .ok (.bipush 6, 2) := by decide +kernel
theorem dX11_takesField_8 : decode cX11_takesField 8 = .ok (.if_icmp .ne 5, 3) := by decide +kernel
theorem dX11_takesField_11 : decode cX11_takesField 11 = .ok (.iconst 0, 1) := by decide +kernel
theorem dX11_takesField_12 : decode cX11_takesField 12 = .ok (.ireturn, 1) := by decide +kernel
theorem dX11_takesField_13 : decode cX11_takesField 13 = .ok (.aload_n 0, 1) := by decide +kernel
theorem dX11_takesField_14 : decode cX11_takesField 14 = .ok (.invokevirtual 244, 3) := by decide +kernel
theorem dX11_takesField_17 : decode cX11_takesField 17 = .ok (.aload_n 0, 1) := by decide +kernel
theorem dX11_takesField_18 : decode cX11_takesField 18 = .ok (.iconst 0, 1) := by decide +kernel
theorem dX11_takesField_19 : decode cX11_takesField 19 = .ok (.iconst 0, 1) := by decide +kernel
theorem dX11_takesField_20 : decode cX11_takesField 20 = .ok (.iconst 5, 1) := by decide +kernel
theorem dX11_takesField_21 : decode cX11_takesField 21 = .ok (.invokevirtual 251, 3) := by decide +kernel
theorem dX11_takesField_24 : decode cX11_takesField 24 = .ok (.ifCond .eq 14, 3) := by decide +kernel
theorem dX11_takesField_27 : decode cX11_takesField 27 = .ok (.aload_n 0, 1) := by decide +kernel
theorem dX11_takesField_28 : decode cX11_takesField 28 = .ok (.iconst 1, 1) := by decide +kernel
theorem dX11_takesField_29 : decode cX11_takesField 29 = .ok (.iconst 0, 1) := by decide +kernel
theorem dX11_takesField_30 : decode cX11_takesField 30 = .ok (.bipush 60, 2) := by decide +kernel
theorem dX11_takesField_32 : decode cX11_takesField 32 = .ok (.invokevirtual 251, 3) := by decide +kernel
theorem dX11_takesField_35 : decode cX11_takesField 35 = .ok (.ifCond .ne 5, 3) := by decide +kernel
theorem dX11_takesField_38 : decode cX11_takesField 38 = .ok (.iconst 0, 1) := by decide +kernel
theorem dX11_takesField_39 : decode cX11_takesField 39 = .ok (.ireturn, 1) := by decide +kernel
theorem dX11_takesField_40 : decode cX11_takesField 40 = .ok (.aload_n 0, 1) := by decide +kernel
theorem dX11_takesField_41 : decode cX11_takesField 41 = .ok (.getfield 42, 3) := by decide +kernel
theorem dX11_takesField_44 : decode cX11_takesField 44 = .ok (.aload_n 0, 1) := by decide +kernel
theorem dX11_takesField_45 : decode cX11_takesField 45 = .ok (.getfield 45, 3) := by decide +kernel
theorem dX11_takesField_48 : decode cX11_takesField 48 = .ok (.iconst 0, 1) := by decide +kernel
theorem dX11_takesField_49 : decode cX11_takesField 49 = .ok (.iaload, 1) := by decide +kernel
theorem dX11_takesField_50 : decode cX11_takesField 50 = .ok (.aload_n 0, 1) := by decide +kernel
theorem dX11_takesField_51 : decode cX11_takesField 51 = .ok (.getfield 45, 3) := by decide +kernel
theorem dX11_takesField_54 : decode cX11_takesField 54 = .ok (.iconst 1, 1) := by decide +kernel
theorem dX11_takesField_55 : decode cX11_takesField 55 = .ok (.iaload, 1) := by decide +kernel
theorem dX11_takesField_56 : decode cX11_takesField 56 = .ok (.invokestatic 85, 3) := by decide +kernel
theorem dX11_takesField_59 : decode cX11_takesField 59 = .ok (.iconst 1, 1) := by decide +kernel
theorem dX11_takesField_60 : decode cX11_takesField 60 = .ok (.ireturn, 1) := by decide +kernel
set_option maxRecDepth 20000 in
theorem ggX11_takesGleaner_X11_goBehind : GoodIn wsX11_takesGleaner wsX11_goBehind := goodIn_r _ [7, 8, 9, 10, 11, 12, 6, 13, 14, 15, 16, 17, 18, 19, 20, 21, 22, 23, 24, 25, 26, 27, 28, 29, 30, 38, 39, 40, 41, 42, 43, 44, 45, 46, 47, 48, 49, 50, 51, 52, 53, 54, 55] (by decide +kernel) (by decide +kernel)
set_option maxRecDepth 20000 in
theorem gX11_takesGleaner_X11_goBehind : GoodIn wsX11_takesGleaner (wsV RX11 244 RX11 yX11_goBehind wsX11_goBehind) := goodIn_app (goodIn_of _ (by decide +kernel)) ggX11_takesGleaner_X11_goBehind
set_option maxRecDepth 20000 in
theorem ggX11_takesGleaner_X11_takes : GoodIn wsX11_takesGleaner wsX11_takes := goodIn_r _ [34, 16, 17, 2, 23, 24, 6, 25, 3, 4, 5, 7, 8, 9, 10, 11, 12, 13, 14, 15, 18, 19, 20, 21, 22, 26, 27, 28, 29, 30, 38, 39, 40, 41, 42, 43, 44, 45, 46, 47, 48, 49, 50, 51, 52, 53, 54, 55] (by decide +kernel) (by decide +kernel)
set_option maxRecDepth 20000 in
theorem gX11_takesGleaner_X11_takes : GoodIn wsX11_takesGleaner (wsV RX11 251 RX11 yX11_takes wsX11_takes) := goodIn_app (goodIn_of _ (by decide +kernel)) ggX11_takesGleaner_X11_takes
set_option maxRecDepth 20000 in
theorem ggX11_takesGleaner_X11_layGleaner : GoodIn wsX11_takesGleaner wsX11_layGleaner := goodIn_r _ [37] (by decide +kernel) (by decide +kernel)
set_option maxRecDepth 20000 in
theorem gX11_takesGleaner_X11_layGleaner : GoodIn wsX11_takesGleaner (va_wsS RX11 92 yX11_layGleaner wsX11_layGleaner) := goodIn_app (goodIn_of _ (by decide +kernel)) ggX11_takesGleaner_X11_layGleaner
theorem dX11_takesGleaner_0 : decode cX11_takesGleaner 0 = .ok (.aload_n 0, 1) := by decide +kernel
theorem dX11_takesGleaner_1 : decode cX11_takesGleaner 1 = .ok (.getfield 42, 3) := by decide +kernel
theorem dX11_takesGleaner_4 : decode cX11_takesGleaner 4 = .ok (.iconst 1, 1) := by decide +kernel
theorem dX11_takesGleaner_5 : decode cX11_takesGleaner 5 = .ok (.iaload, 1) := by decide +kernel
theorem dX11_takesGleaner_6 : decode cX11_takesGleaner 6 = .ok (.iconst 5, 1) := by decide +kernel
theorem dX11_takesGleaner_7 : decode cX11_takesGleaner 7 = .ok (.if_icmp .ne 5, 3) := by decide +kernel
theorem dX11_takesGleaner_10 : decode cX11_takesGleaner 10 = .ok (.iconst 0, 1) := by decide +kernel
theorem dX11_takesGleaner_11 : decode cX11_takesGleaner 11 = .ok (.ireturn, 1) := by decide +kernel
theorem dX11_takesGleaner_12 : decode cX11_takesGleaner 12 = .ok (.aload_n 0, 1) := by decide +kernel
theorem dX11_takesGleaner_13 : decode cX11_takesGleaner 13 = .ok (.invokevirtual 244, 3) := by decide +kernel
theorem dX11_takesGleaner_16 : decode cX11_takesGleaner 16 = .ok (.aload_n 0, 1) := by decide +kernel
theorem dX11_takesGleaner_17 : decode cX11_takesGleaner 17 = .ok (.iconst 0, 1) := by decide +kernel
theorem dX11_takesGleaner_18 : decode cX11_takesGleaner 18 = .ok (.iconst 0, 1) := by decide +kernel
theorem dX11_takesGleaner_19 : decode cX11_takesGleaner 19 = .ok (.aload_n 0, 1) := by decide +kernel
theorem dX11_takesGleaner_20 : decode cX11_takesGleaner 20 = .ok (.getfield 42, 3) := by decide +kernel
theorem dX11_takesGleaner_23 : decode cX11_takesGleaner 23 = .ok (.iconst 0, 1) := by decide +kernel
theorem dX11_takesGleaner_24 : decode cX11_takesGleaner 24 = .ok (.iaload, 1) := by decide +kernel
theorem dX11_takesGleaner_25 : decode cX11_takesGleaner 25 = .ok (.iconst 1, 1) := by decide +kernel
theorem dX11_takesGleaner_26 : decode cX11_takesGleaner 26 = .ok (.isub, 1) := by decide +kernel
theorem dX11_takesGleaner_27 : decode cX11_takesGleaner 27 = .ok (.invokevirtual 251, 3) := by decide +kernel
theorem dX11_takesGleaner_30 : decode cX11_takesGleaner 30 = .ok (.ifCond .ne 5, 3) := by decide +kernel
theorem dX11_takesGleaner_33 : decode cX11_takesGleaner 33 = .ok (.iconst 0, 1) := by decide +kernel
theorem dX11_takesGleaner_34 : decode cX11_takesGleaner 34 = .ok (.ireturn, 1) := by decide +kernel
theorem dX11_takesGleaner_35 : decode cX11_takesGleaner 35 = .ok (.aload_n 0, 1) := by decide +kernel
theorem dX11_takesGleaner_36 : decode cX11_takesGleaner 36 = .ok (.getfield 42, 3) := by decide +kernel
theorem dX11_takesGleaner_39 : decode cX11_takesGleaner 39 = .ok (.aload_n 0, 1) := by decide +kernel
theorem dX11_takesGleaner_40 : decode cX11_takesGleaner 40 = .ok (.getfield 45, 3) := by decide +kernel
theorem dX11_takesGleaner_43 : decode cX11_takesGleaner 43 = .ok (.iconst 0, 1) := by decide +kernel
theorem dX11_takesGleaner_44 : decode cX11_takesGleaner 44 = .ok (.iaload, 1) := by decide +kernel
theorem dX11_takesGleaner_45 : decode cX11_takesGleaner 45 = .ok (.invokestatic 92, 3) := by decide +kernel
theorem dX11_takesGleaner_48 : decode cX11_takesGleaner 48 = .ok (.iconst 1, 1) := by decide +kernel
theorem dX11_takesGleaner_49 : decode cX11_takesGleaner 49 = .ok (.ireturn, 1) := by decide +kernel
set_option maxRecDepth 20000 in
theorem ggX11_takesGlean_X11_goBehind : GoodIn wsX11_takesGlean wsX11_goBehind := goodIn_r _ [7, 8, 9, 10, 11, 12, 6, 13, 14, 15, 16, 17, 18, 19, 20, 21, 22, 23, 24, 25, 26, 27, 28, 29, 30, 53, 54, 55, 56, 57, 58, 59, 60, 61, 62, 63, 64, 65, 66, 67, 68, 69, 70] (by decide +kernel) (by decide +kernel)
set_option maxRecDepth 20000 in
theorem gX11_takesGlean_X11_goBehind : GoodIn wsX11_takesGlean (wsV RX11 244 RX11 yX11_goBehind wsX11_goBehind) := goodIn_app (goodIn_of _ (by decide +kernel)) ggX11_takesGlean_X11_goBehind
set_option maxRecDepth 20000 in
theorem ggX11_takesGlean_X11_takes : GoodIn wsX11_takesGlean wsX11_takes := goodIn_r _ [34, 16, 17, 2, 23, 24, 6, 25, 3, 4, 5, 7, 8, 9, 10, 11, 12, 13, 14, 15, 18, 19, 20, 21, 22, 26, 27, 28, 29, 30, 53, 54, 55, 56, 57, 58, 59, 60, 61, 62, 63, 64, 65, 66, 67, 68, 69, 70] (by decide +kernel) (by decide +kernel)
set_option maxRecDepth 20000 in
theorem gX11_takesGlean_X11_takes : GoodIn wsX11_takesGlean (wsV RX11 251 RX11 yX11_takes wsX11_takes) := goodIn_app (goodIn_of _ (by decide +kernel)) ggX11_takesGlean_X11_takes
set_option maxRecDepth 20000 in
theorem ggX11_takesGlean_X11_goStep : GoodIn wsX11_takesGlean wsX11_goStep := goodIn_r _ [37, 38, 39, 6, 40, 41, 42, 43, 44, 45, 46, 47, 48, 49, 50, 51, 52] (by decide +kernel) (by decide +kernel)
set_option maxRecDepth 20000 in
theorem gX11_takesGlean_X11_goStep : GoodIn wsX11_takesGlean (va_wsS RX11 125 yX11_goStep wsX11_goStep) := goodIn_app (goodIn_of _ (by decide +kernel)) ggX11_takesGlean_X11_goStep
theorem dX11_takesGlean_0 : decode cX11_takesGlean 0 = .ok (.aload_n 0, 1) := by decide +kernel
theorem dX11_takesGlean_1 : decode cX11_takesGlean 1 = .ok (.invokevirtual 244, 3) := by decide +kernel
theorem dX11_takesGlean_4 : decode cX11_takesGlean 4 = .ok (.aload_n 0, 1) := by decide +kernel
theorem dX11_takesGlean_5 : decode cX11_takesGlean 5 = .ok (.iconst 0, 1) := by decide +kernel
theorem dX11_takesGlean_6 : decode cX11_takesGlean 6 = .ok (.iconst 1, 1) := by decide +kernel
theorem dX11_takesGlean_7 : decode cX11_takesGlean 7 = .ok (.bipush 12, 2) := by decide +kernel
theorem dX11_takesGlean_9 : decode cX11_takesGlean 9 = .ok (.aload_n 0, 1) := by decide +kernel
theorem dX11_takesGlean_10 : decode cX11_takesGlean 10 = .ok (.getfield 42, 3) := by decide +kernel
theorem dX11_takesGlean_13 : decode cX11_takesGlean 13 = .ok (.bipush 21, 2) := by decide +kernel
theorem dX11_takesGlean_15 : decode cX11_takesGlean 15 = .ok (.iaload, 1) := by decide +kernel
theorem dX11_takesGlean_16 : decode cX11_takesGlean 16 = .ok (.isub, 1) := by decide +kernel
theorem dX11_takesGlean_17 : decode cX11_takesGlean 17 = .ok (.invokevirtual 251, 3) := by decide +kernel
theorem dX11_takesGlean_20 : decode cX11_takesGlean 20 = .ok (.ifCond .ne 5, 3) := by decide +kernel
theorem dX11_takesGlean_23 : decode cX11_takesGlean 23 = .ok (.iconst 0, 1) := by decide +kernel
theorem dX11_takesGlean_24 : decode cX11_takesGlean 24 = .ok (.ireturn, 1) := by decide +kernel
theorem dX11_takesGlean_25 : decode cX11_takesGlean 25 = .ok (.iconst 0, 1) := by decide +kernel
theorem dX11_takesGlean_26 : decode cX11_takesGlean 26 = .ok (.istore_n 1, 1) := by decide +kernel
theorem dX11_takesGlean_27 : decode cX11_takesGlean 27 = .ok (.iload_n 1, 1) := by decide +kernel
theorem dX11_takesGlean_28 : decode cX11_takesGlean 28 = .ok (.aload_n 0, 1) := by decide +kernel
theorem dX11_takesGlean_29 : decode cX11_takesGlean 29 = .ok (.getfield 45, 3) := by decide +kernel
theorem dX11_takesGlean_32 : decode cX11_takesGlean 32 = .ok (.iconst 0, 1) := by decide +kernel
theorem dX11_takesGlean_33 : decode cX11_takesGlean 33 = .ok (.iaload, 1) := by decide +kernel
theorem dX11_takesGlean_34 : decode cX11_takesGlean 34 = .ok (.if_icmp .ge 17, 3) := by decide +kernel
theorem dX11_takesGlean_37 : decode cX11_takesGlean 37 = .ok (.aload_n 0, 1) := by decide +kernel
theorem dX11_takesGlean_38 : decode cX11_takesGlean 38 = .ok (.getfield 42, 3) := by decide +kernel
theorem dX11_takesGlean_41 : decode cX11_takesGlean 41 = .ok (.invokestatic 125, 3) := by decide +kernel
theorem dX11_takesGlean_44 : decode cX11_takesGlean 44 = .ok (.istore_n 2, 1) := by decide +kernel
theorem dX11_takesGlean_45 : decode cX11_takesGlean 45 = .ok (.iinc 1 1, 3) := by decide +kernel
theorem dX11_takesGlean_48 : decode cX11_takesGlean 48 = .ok (.goto (-21), 3) := by decide +kernel
theorem dX11_takesGlean_51 : decode cX11_takesGlean 51 = .ok (.iconst 1, 1) := by decide +kernel
theorem dX11_takesGlean_52 : decode cX11_takesGlean 52 = .ok (.ireturn, 1) := by decide +kernel
set_option maxRecDepth 20000 in
theorem ggX11_isGleanerWord_X11_spells : GoodIn wsX11_isGleanerWord wsX11_spells := goodIn_r _ [9, 1, 2, 3, 4, 10, 11, 12, 13, 14, 15, 16, 17, 18, 19, 20, 21, 22, 23, 24, 25, 26, 27] (by decide +kernel) (by decide +kernel)
set_option maxRecDepth 20000 in
theorem gX11_isGleanerWord_X11_spells : GoodIn wsX11_isGleanerWord (wsV RX11 247 RX11 yX11_spells wsX11_spells) := goodIn_app (goodIn_of _ (by decide +kernel)) ggX11_isGleanerWord_X11_spells
theorem dX11_isGleanerWord_0 : decode cX11_isGleanerWord 0 = .ok (.aload_n 0, 1) := by decide +kernel
theorem dX11_isGleanerWord_1 : decode cX11_isGleanerWord 1 = .ok (.getfield 228, 3) := by decide +kernel
theorem dX11_isGleanerWord_4 : decode cX11_isGleanerWord 4 = .ok (.iconst 1, 1) := by decide +kernel
theorem dX11_isGleanerWord_5 : decode cX11_isGleanerWord 5 = .ok (.if_icmp .ne 16, 3) := by decide +kernel
theorem dX11_isGleanerWord_8 : decode cX11_isGleanerWord 8 = .ok (.aload_n 0, 1) := by decide +kernel
theorem dX11_isGleanerWord_9 : decode cX11_isGleanerWord 9 = .ok (.getfield 225, 3) := by decide +kernel
theorem dX11_isGleanerWord_12 : decode cX11_isGleanerWord 12 = .ok (.bipush 7, 2) := by decide +kernel
theorem dX11_isGleanerWord_14 : decode cX11_isGleanerWord 14 = .ok (.if_icmp .ne 7, 3) := by decide +kernel
theorem dX11_isGleanerWord_17 : decode cX11_isGleanerWord 17 = .ok (.iconst 1, 1) := by decide +kernel
theorem dX11_isGleanerWord_18 : decode cX11_isGleanerWord 18 = .ok (.goto 4, 3) := by decide +kernel
theorem dX11_isGleanerWord_21 : decode cX11_isGleanerWord 21 = .ok (.iconst 0, 1) := by decide +kernel
theorem dX11_isGleanerWord_22 : decode cX11_isGleanerWord 22 = .ok (.istore_n 1, 1) := by decide +kernel
theorem dX11_isGleanerWord_23 : decode cX11_isGleanerWord 23 = .ok (.aload_n 0, 1) := by decide +kernel
theorem dX11_isGleanerWord_24 : decode cX11_isGleanerWord 24 = .ok (.iload_n 1, 1) := by decide +kernel
theorem dX11_isGleanerWord_25 : decode cX11_isGleanerWord 25 = .ok (.ifCond .eq 8, 3) := by decide +kernel
theorem dX11_isGleanerWord_28 : decode cX11_isGleanerWord 28 = .ok (.bipush 6, 2) := by decide +kernel
theorem dX11_isGleanerWord_30 : decode cX11_isGleanerWord 30 = .ok (.goto 7, 3) := by decide +kernel
theorem dX11_isGleanerWord_33 : decode cX11_isGleanerWord 33 = .ok (.aload_n 0, 1) := by decide +kernel
theorem dX11_isGleanerWord_34 : decode cX11_isGleanerWord 34 = .ok (.getfield 225, 3) := by decide +kernel
theorem dX11_isGleanerWord_37 : decode cX11_isGleanerWord 37 = .ok (.putfield 225, 3) := by decide +kernel
theorem dX11_isGleanerWord_40 : decode cX11_isGleanerWord 40 = .ok (.aload_n 0, 1) := by decide +kernel
theorem dX11_isGleanerWord_41 : decode cX11_isGleanerWord 41 = .ok (.bipush 6, 2) := by decide +kernel
theorem dX11_isGleanerWord_43 : decode cX11_isGleanerWord 43 = .ok (.bipush 103, 2) := by decide +kernel
theorem dX11_isGleanerWord_45 : decode cX11_isGleanerWord 45 = .ok (.bipush 108, 2) := by decide +kernel
theorem dX11_isGleanerWord_47 : decode cX11_isGleanerWord 47 = .ok (.bipush 101, 2) := by decide +kernel
theorem dX11_isGleanerWord_49 : decode cX11_isGleanerWord 49 = .ok (.bipush 97, 2) := by decide +kernel
theorem dX11_isGleanerWord_51 : decode cX11_isGleanerWord 51 = .ok (.bipush 110, 2) := by decide +kernel
theorem dX11_isGleanerWord_53 : decode cX11_isGleanerWord 53 = .ok (.bipush 101, 2) := by decide +kernel
theorem dX11_isGleanerWord_55 : decode cX11_isGleanerWord 55 = .ok (.invokevirtual 247, 3) := by decide +kernel
theorem dX11_isGleanerWord_58 : decode cX11_isGleanerWord 58 = .ok (.istore_n 2, 1) := by decide +kernel
theorem dX11_isGleanerWord_59 : decode cX11_isGleanerWord 59 = .ok (.aload_n 0, 1) := by decide +kernel
theorem dX11_isGleanerWord_60 : decode cX11_isGleanerWord 60 = .ok (.iload_n 1, 1) := by decide +kernel
theorem dX11_isGleanerWord_61 : decode cX11_isGleanerWord 61 = .ok (.ifCond .eq 8, 3) := by decide +kernel
theorem dX11_isGleanerWord_64 : decode cX11_isGleanerWord 64 = .ok (.bipush 7, 2) := by decide +kernel
theorem dX11_isGleanerWord_66 : decode cX11_isGleanerWord 66 = .ok (.goto 7, 3) := by decide +kernel
theorem dX11_isGleanerWord_69 : decode cX11_isGleanerWord 69 = .ok (.aload_n 0, 1) := by decide +kernel
theorem dX11_isGleanerWord_70 : decode cX11_isGleanerWord 70 = .ok (.getfield 225, 3) := by decide +kernel
theorem dX11_isGleanerWord_73 : decode cX11_isGleanerWord 73 = .ok (.putfield 225, 3) := by decide +kernel
theorem dX11_isGleanerWord_76 : decode cX11_isGleanerWord 76 = .ok (.iload_n 1, 1) := by decide +kernel
theorem dX11_isGleanerWord_77 : decode cX11_isGleanerWord 77 = .ok (.ifCond .eq 28, 3) := by decide +kernel
theorem dX11_isGleanerWord_80 : decode cX11_isGleanerWord 80 = .ok (.iload_n 2, 1) := by decide +kernel
theorem dX11_isGleanerWord_81 : decode cX11_isGleanerWord 81 = .ok (.ifCond .eq 24, 3) := by decide +kernel
theorem dX11_isGleanerWord_84 : decode cX11_isGleanerWord 84 = .ok (.aload_n 0, 1) := by decide +kernel
theorem dX11_isGleanerWord_85 : decode cX11_isGleanerWord 85 = .ok (.getfield 39, 3) := by decide +kernel
theorem dX11_isGleanerWord_88 : decode cX11_isGleanerWord 88 = .ok (.aload_n 0, 1) := by decide +kernel
theorem dX11_isGleanerWord_89 : decode cX11_isGleanerWord 89 = .ok (.getfield 222, 3) := by decide +kernel
theorem dX11_isGleanerWord_92 : decode cX11_isGleanerWord 92 = .ok (.bipush 6, 2) := by decide +kernel
theorem dX11_isGleanerWord_94 : decode cX11_isGleanerWord 94 = .ok (.iadd, 1) := by decide +kernel
theorem dX11_isGleanerWord_95 : decode cX11_isGleanerWord 95 = .ok (.iaload, 1) := by decide +kernel
theorem dX11_isGleanerWord_96 : decode cX11_isGleanerWord 96 = .ok (.bipush 114, 2) := by decide +kernel
theorem dX11_isGleanerWord_98 : decode cX11_isGleanerWord 98 = .ok (.if_icmp .ne 7, 3) := by decide +kernel
theorem dX11_isGleanerWord_101 : decode cX11_isGleanerWord 101 = .ok (.iconst 1, 1) := by decide +kernel
theorem dX11_isGleanerWord_102 : decode cX11_isGleanerWord 102 = .ok (.goto 4, 3) := by decide +kernel
theorem dX11_isGleanerWord_105 : decode cX11_isGleanerWord 105 = .ok (.iconst 0, 1) := by decide +kernel
theorem dX11_isGleanerWord_106 : decode cX11_isGleanerWord 106 = .ok (.ireturn, 1) := by decide +kernel
set_option maxRecDepth 20000 in
theorem ggX11_takesItem_X11_spells : GoodIn wsX11_takesItem wsX11_spells := goodIn_r _ [5, 6, 7, 8, 9, 79, 80, 81, 82, 83, 84, 85, 86, 87, 88, 89, 90, 91, 92, 93, 94, 95, 96] (by decide +kernel) (by decide +kernel)
set_option maxRecDepth 20000 in
theorem gX11_takesItem_X11_spells : GoodIn wsX11_takesItem (wsV RX11 247 RX11 yX11_spells wsX11_spells) := goodIn_app (goodIn_of _ (by decide +kernel)) ggX11_takesItem_X11_spells
set_option maxRecDepth 20000 in
theorem ggX11_takesItem_X11_takesField : GoodIn wsX11_takesItem wsX11_takesField := goodIn_r _ [13, 14, 15, 16, 17, 18, 4, 19, 9, 7, 20, 21, 22, 23, 24, 8, 6, 25, 26, 27, 28, 29, 30, 31, 32, 33, 34, 35, 36, 37, 38, 39, 40, 41, 42, 43, 44, 45, 79, 80, 81, 82, 83, 84, 85, 86, 87, 88, 89, 90, 91, 92, 93, 94, 95, 96] (by decide +kernel) (by decide +kernel)
set_option maxRecDepth 20000 in
theorem gX11_takesItem_X11_takesField : GoodIn wsX11_takesItem (wsV RX11 255 RX11 yX11_takesField wsX11_takesField) := goodIn_app (goodIn_of _ (by decide +kernel)) ggX11_takesItem_X11_takesField
set_option maxRecDepth 20000 in
theorem ggX11_takesItem_X11_takesGlean : GoodIn wsX11_takesItem wsX11_takesGlean := goodIn_r _ [49, 14, 15, 16, 17, 18, 4, 19, 9, 7, 20, 21, 22, 23, 24, 8, 6, 25, 26, 27, 28, 29, 30, 31, 32, 33, 34, 35, 36, 37, 38, 39, 40, 41, 42, 50, 51, 52, 53, 54, 55, 56, 57, 58, 59, 60, 61, 62, 63, 64, 65, 66, 67, 79, 80, 81, 82, 83, 84, 85, 86, 87, 88, 89, 90, 91, 92, 93, 94, 95, 96] (by decide +kernel) (by decide +kernel)
set_option maxRecDepth 20000 in
theorem gX11_takesItem_X11_takesGlean : GoodIn wsX11_takesItem (wsV RX11 259 RX11 yX11_takesGlean wsX11_takesGlean) := goodIn_app (goodIn_of _ (by decide +kernel)) ggX11_takesItem_X11_takesGlean
set_option maxRecDepth 20000 in
theorem ggX11_takesItem_X11_isGleanerWord : GoodIn wsX11_takesItem wsX11_isGleanerWord := goodIn_r _ [71, 6, 7, 8, 9, 1, 2, 3, 4, 5, 79, 80, 81, 82, 83, 84, 85, 86, 87, 88, 89, 90, 91, 92, 93, 94, 95, 96] (by decide +kernel) (by decide +kernel)
set_option maxRecDepth 20000 in
theorem gX11_takesItem_X11_isGleanerWord : GoodIn wsX11_takesItem (wsV RX11 262 RX11 yX11_isGleanerWord wsX11_isGleanerWord) := goodIn_app (goodIn_of _ (by decide +kernel)) ggX11_takesItem_X11_isGleanerWord
set_option maxRecDepth 20000 in
theorem ggX11_takesItem_X11_takesGleaner : GoodIn wsX11_takesItem wsX11_takesGleaner := goodIn_r _ [75, 14, 15, 16, 17, 18, 4, 19, 9, 7, 20, 21, 22, 23, 24, 8, 6, 25, 26, 27, 28, 29, 30, 31, 32, 33, 34, 35, 36, 37, 38, 39, 40, 41, 42, 76, 77, 78, 79, 80, 81, 82, 83, 84, 85, 86, 87, 88, 89, 90, 91, 92, 93, 94, 95, 96] (by decide +kernel) (by decide +kernel)
set_option maxRecDepth 20000 in
theorem gX11_takesItem_X11_takesGleaner : GoodIn wsX11_takesItem (wsV RX11 265 RX11 yX11_takesGleaner wsX11_takesGleaner) := goodIn_app (goodIn_of _ (by decide +kernel)) ggX11_takesItem_X11_takesGleaner
theorem dX11_takesItem_0 : decode cX11_takesItem 0 = .ok (.aload_n 0, 1) := by decide +kernel
theorem dX11_takesItem_1 : decode cX11_takesItem 1 = .ok (.iconst 5, 1) := by decide +kernel
theorem dX11_takesItem_2 : decode cX11_takesItem 2 = .ok (.bipush 102, 2) := by decide +kernel
theorem dX11_takesItem_4 : decode cX11_takesItem 4 = .ok (.bipush 105, 2) := by decide +kernel
theorem dX11_takesItem_6 : decode cX11_takesItem 6 = .ok (.bipush 101, 2) := by decide +kernel
theorem dX11_takesItem_8 : decode cX11_takesItem 8 = .ok (.bipush 108, 2) := by decide +kernel
theorem dX11_takesItem_10 : decode cX11_takesItem 10 = .ok (.bipush 100, 2) := by decide +kernel
theorem dX11_takesItem_12 : decode cX11_takesItem 12 = .ok (.iconst 0, 1) := by decide +kernel
theorem dX11_takesItem_13 : decode cX11_takesItem 13 = .ok (.invokevirtual 247, 3) := by decide +kernel
theorem dX11_takesItem_16 : decode cX11_takesItem 16 = .ok (.ifCond .eq 8, 3) := by decide +kernel
theorem dX11_takesItem_19 : decode cX11_takesItem 19 = .ok (.aload_n 0, 1) := by decide +kernel
theorem dX11_takesItem_20 : decode cX11_takesItem 20 = .ok (.invokevirtual 255, 3) := by decide +kernel
theorem dX11_takesItem_23 : decode cX11_takesItem 23 = .ok (.ireturn, 1) := by decide +kernel
theorem dX11_takesItem_24 : decode cX11_takesItem 24 = .ok (.aload_n 0, 1) := by decide +kernel
theorem dX11_takesItem_25 : decode cX11_takesItem 25 = .ok (.iconst 5, 1) := by decide +kernel
theorem dX11_takesItem_26 : decode cX11_takesItem 26 = .ok (.bipush 103, 2) := by decide +kernel
theorem dX11_takesItem_28 : decode cX11_takesItem 28 = .ok (.bipush 108, 2) := by decide +kernel
theorem dX11_takesItem_30 : decode cX11_takesItem 30 = .ok (.bipush 101, 2) := by decide +kernel
theorem dX11_takesItem_32 : decode cX11_takesItem 32 = .ok (.bipush 97, 2) := by decide +kernel
theorem dX11_takesItem_34 : decode cX11_takesItem 34 = .ok (.bipush 110, 2) := by decide +kernel
theorem dX11_takesItem_36 : decode cX11_takesItem 36 = .ok (.iconst 0, 1) := by decide +kernel
theorem dX11_takesItem_37 : decode cX11_takesItem 37 = .ok (.invokevirtual 247, 3) := by decide +kernel
theorem dX11_takesItem_40 : decode cX11_takesItem 40 = .ok (.ifCond .eq 8, 3) := by decide +kernel
theorem dX11_takesItem_43 : decode cX11_takesItem 43 = .ok (.aload_n 0, 1) := by decide +kernel
theorem dX11_takesItem_44 : decode cX11_takesItem 44 = .ok (.invokevirtual 259, 3) := by decide +kernel
theorem dX11_takesItem_47 : decode cX11_takesItem 47 = .ok (.ireturn, 1) := by decide +kernel
theorem dX11_takesItem_48 : decode cX11_takesItem 48 = .ok (.aload_n 0, 1) := by decide +kernel
theorem dX11_takesItem_49 : decode cX11_takesItem 49 = .ok (.invokevirtual 262, 3) := by decide +kernel
theorem dX11_takesItem_52 : decode cX11_takesItem 52 = .ok (.ifCond .eq 14, 3) := by decide +kernel
theorem dX11_takesItem_55 : decode cX11_takesItem 55 = .ok (.aload_n 0, 1) := by decide +kernel
theorem dX11_takesItem_56 : decode cX11_takesItem 56 = .ok (.invokevirtual 265, 3) := by decide +kernel
theorem dX11_takesItem_59 : decode cX11_takesItem 59 = .ok (.ifCond .eq 7, 3) := by decide +kernel
theorem dX11_takesItem_62 : decode cX11_takesItem 62 = .ok (.iconst 1, 1) := by decide +kernel
theorem dX11_takesItem_63 : decode cX11_takesItem 63 = .ok (.goto 4, 3) := by decide +kernel
theorem dX11_takesItem_66 : decode cX11_takesItem 66 = .ok (.iconst 0, 1) := by decide +kernel
theorem dX11_takesItem_67 : decode cX11_takesItem 67 = .ok (.ireturn, 1) := by decide +kernel
set_option maxRecDepth 20000 in
theorem ggX11_read_X11_lookAt : GoodIn wsX11_read wsX11_lookAt := goodIn_r _ [9, 1, 10, 11, 12, 2, 13, 14, 15, 8, 16, 17, 18, 19, 20, 21, 22, 23, 24, 25, 26, 91, 92, 93, 94, 95, 96, 97, 98, 99, 100, 101, 102, 103, 104, 105, 106, 107, 108] (by decide +kernel) (by decide +kernel)
set_option maxRecDepth 20000 in
theorem gX11_read_X11_lookAt : GoodIn wsX11_read (wsV RX11 240 RX11 yX11_lookAt wsX11_lookAt) := goodIn_app (goodIn_of _ (by decide +kernel)) ggX11_read_X11_lookAt
set_option maxRecDepth 20000 in
theorem ggX11_read_X11_takesParish : GoodIn wsX11_read wsX11_takesParish := goodIn_r _ [30, 4, 31, 2, 32, 33, 34, 8, 35, 12, 11, 1, 36, 37, 38, 39, 5, 6, 7, 9, 10, 13, 14, 15, 16, 17, 18, 19, 20, 21, 22, 23, 24, 25, 26, 40, 41, 42, 43, 44, 45, 46, 91, 92, 93, 94, 95, 96, 97, 98, 99, 100, 101, 102, 103, 104, 105, 106, 107, 108] (by decide +kernel) (by decide +kernel)
set_option maxRecDepth 20000 in
theorem gX11_read_X11_takesParish : GoodIn wsX11_read (wsV RX11 268 RX11 yX11_takesParish wsX11_takesParish) := goodIn_app (goodIn_of _ (by decide +kernel)) ggX11_read_X11_takesParish
set_option maxRecDepth 20000 in
theorem ggX11_read_X11_goBehind : GoodIn wsX11_read wsX11_goBehind := goodIn_r _ [39, 1, 12, 5, 6, 7, 8, 9, 10, 11, 2, 13, 14, 15, 16, 17, 18, 19, 20, 21, 22, 23, 24, 25, 26, 91, 92, 93, 94, 95, 96, 97, 98, 99, 100, 101, 102, 103, 104, 105, 106, 107, 108] (by decide +kernel) (by decide +kernel)
set_option maxRecDepth 20000 in
theorem gX11_read_X11_goBehind : GoodIn wsX11_read (wsV RX11 244 RX11 yX11_goBehind wsX11_goBehind) := goodIn_app (goodIn_of _ (by decide +kernel)) ggX11_read_X11_goBehind
set_option maxRecDepth 20000 in
theorem ggX11_read_X11_takesItem : GoodIn wsX11_read wsX11_takesItem := goodIn_r _ [50, 32, 33, 34, 8, 35, 2, 12, 11, 1, 51, 52, 53, 54, 4, 31, 36, 37, 38, 39, 5, 6, 7, 9, 10, 13, 14, 15, 16, 17, 18, 19, 20, 21, 22, 23, 24, 25, 26, 40, 41, 42, 43, 55, 56, 57, 58, 59, 60, 61, 62, 63, 64, 65, 66, 67, 68, 69, 70, 71, 72, 73, 74, 75, 76, 77, 78, 79, 80, 81, 82, 83, 84, 85, 86, 87, 88, 89, 90, 91, 92, 93, 94, 95, 96, 97, 98, 99, 100, 101, 102, 103, 104, 105, 106, 107, 108] (by decide +kernel) (by decide +kernel)
set_option maxRecDepth 20000 in
theorem gX11_read_X11_takesItem : GoodIn wsX11_read (wsV RX11 271 RX11 yX11_takesItem wsX11_takesItem) := goodIn_app (goodIn_of _ (by decide +kernel)) ggX11_read_X11_takesItem
theorem dX11_read_0 : decode cX11_read 0 = .ok (.aload_n 0, 1) := by decide +kernel
theorem dX11_read_1 : decode cX11_read 1 = .ok (.iconst 0, 1) := by decide +kernel
theorem dX11_read_2 : decode cX11_read 2 = .ok (.invokevirtual 240, 3) := by decide +kernel
theorem dX11_read_5 : decode cX11_read 5 = .ok (.aload_n 0, 1) := by decide +kernel
theorem dX11_read_6 : decode cX11_read 6 = .ok (.invokevirtual 268, 3) := by decide +kernel
theorem dX11_read_9 : decode cX11_read 9 = .ok (.ifCond .ne 11, 3) := by decide +kernel
theorem dX11_read_12 : decode cX11_read 12 = .ok (.bipush (-10), 2) := by decide +kernel
theorem dX11_read_14 : decode cX11_read 14 = .ok (.aload_n 0, 1) := by decide +kernel
theorem dX11_read_15 : decode cX11_read 15 = .ok (.getfield 222, 3) := by decide +kernel
theorem dX11_read_18 : decode cX11_read 18 = .ok (.isub, 1) := by decide +kernel
theorem dX11_read_19 : decode cX11_read 19 = .ok (.ireturn, 1) := by decide +kernel
theorem dX11_read_20 : decode cX11_read 20 = .ok (.aload_n 0, 1) := by decide +kernel
theorem dX11_read_21 : decode cX11_read 21 = .ok (.invokevirtual 244, 3) := by decide +kernel
theorem dX11_read_24 : decode cX11_read 24 = .ok (.iconst 1, 1) := by decide +kernel
theorem dX11_read_25 : decode cX11_read 25 = .ok (.istore_n 1, 1) := by decide +kernel
theorem dX11_read_26 : decode cX11_read 26 = .ok (.aload_n 0, 1) := by decide +kernel
theorem dX11_read_27 : decode cX11_read 27 = .ok (.getfield 228, 3) := by decide +kernel
theorem dX11_read_30 : decode cX11_read 30 = .ok (.ifCond .eq 36, 3) := by decide +kernel
theorem dX11_read_33 : decode cX11_read 33 = .ok (.aload_n 0, 1) := by decide +kernel
theorem dX11_read_34 : decode cX11_read 34 = .ok (.invokevirtual 271, 3) := by decide +kernel
theorem dX11_read_37 : decode cX11_read 37 = .ok (.ifCond .eq 11, 3) := by decide +kernel
theorem dX11_read_40 : decode cX11_read 40 = .ok (.aload_n 0, 1) := by decide +kernel
theorem dX11_read_41 : decode cX11_read 41 = .ok (.getfield 228, 3) := by decide +kernel
theorem dX11_read_44 : decode cX11_read 44 = .ok (.iconst 3, 1) := by decide +kernel
theorem dX11_read_45 : decode cX11_read 45 = .ok (.if_icmp .eq 11, 3) := by decide +kernel
theorem dX11_read_48 : decode cX11_read 48 = .ok (.bipush (-10), 2) := by decide +kernel
theorem dX11_read_50 : decode cX11_read 50 = .ok (.aload_n 0, 1) := by decide +kernel
theorem dX11_read_51 : decode cX11_read 51 = .ok (.getfield 222, 3) := by decide +kernel
theorem dX11_read_54 : decode cX11_read 54 = .ok (.isub, 1) := by decide +kernel
theorem dX11_read_55 : decode cX11_read 55 = .ok (.ireturn, 1) := by decide +kernel
theorem dX11_read_56 : decode cX11_read 56 = .ok (.aload_n 0, 1) := by decide +kernel
theorem dX11_read_57 : decode cX11_read 57 = .ok (.invokevirtual 244, 3) := by decide +kernel
theorem dX11_read_60 : decode cX11_read 60 = .ok (.iinc 1 1, 3) := by decide +kernel
theorem dX11_read_63 : decode cX11_read 63 = .ok (.goto (-37), 3) := by decide +kernel
theorem dX11_read_66 : decode cX11_read 66 = .ok (.iconst 0, 1) := by decide +kernel
theorem dX11_read_67 : decode cX11_read 67 = .ok (.istore_n 2, 1) := by decide +kernel
theorem dX11_read_68 : decode cX11_read 68 = .ok (.iload_n 2, 1) := by decide +kernel
theorem dX11_read_69 : decode cX11_read 69 = .ok (.bipush 76, 2) := by decide +kernel
theorem dX11_read_71 : decode cX11_read 71 = .ok (.if_icmp .ge 21, 3) := by decide +kernel
theorem dX11_read_74 : decode cX11_read 74 = .ok (.aload_n 0, 1) := by decide +kernel
theorem dX11_read_75 : decode cX11_read 75 = .ok (.getfield 7, 3) := by decide +kernel
theorem dX11_read_78 : decode cX11_read 78 = .ok (.iload_n 2, 1) := by decide +kernel
theorem dX11_read_79 : decode cX11_read 79 = .ok (.aload_n 0, 1) := by decide +kernel
theorem dX11_read_80 : decode cX11_read 80 = .ok (.getfield 42, 3) := by decide +kernel
theorem dX11_read_83 : decode cX11_read 83 = .ok (.iload_n 2, 1) := by decide +kernel
theorem dX11_read_84 : decode cX11_read 84 = .ok (.iaload, 1) := by decide +kernel
theorem dX11_read_85 : decode cX11_read 85 = .ok (.iastore, 1) := by decide +kernel
theorem dX11_read_86 : decode cX11_read 86 = .ok (.iinc 2 1, 3) := by decide +kernel
theorem dX11_read_89 : decode cX11_read 89 = .ok (.goto (-21), 3) := by decide +kernel
theorem dX11_read_92 : decode cX11_read 92 = .ok (.iload_n 1, 1) := by decide +kernel
theorem dX11_read_93 : decode cX11_read 93 = .ok (.ireturn, 1) := by decide +kernel
set_option maxRecDepth 20000 in
theorem ggX11_part_X11_bad : GoodIn wsX11_part wsX11_bad := goodIn_r _ [7, 8, 9, 10, 11, 12, 13, 14, 15, 16, 17, 18, 19, 20, 21, 22, 23, 24, 25, 26] (by decide +kernel) (by decide +kernel)
set_option maxRecDepth 20000 in
theorem gX11_part_X11_bad : GoodIn wsX11_part (wsV RX11 73 RX11 yX11_bad wsX11_bad) := goodIn_app (goodIn_of _ (by decide +kernel)) ggX11_part_X11_bad
theorem dX11_part_0 : decode cX11_part 0 = .ok (.iload_n 1, 1) := by decide +kernel
theorem dX11_part_1 : decode cX11_part 1 = .ok (.ifCond .ne 10, 3) := by decide +kernel
theorem dX11_part_4 : decode cX11_part 4 = .ok (.aload_n 0, 1) := by decide +kernel
theorem dX11_part_5 : decode cX11_part 5 = .ok (.getfield 189, 3) := by decide +kernel
theorem dX11_part_8 : decode cX11_part 8 = .ok (.goto 22, 3) := by decide +kernel
theorem dX11_part_11 : decode cX11_part 11 = .ok (.iload_n 1, 1) := by decide +kernel
theorem dX11_part_12 : decode cX11_part 12 = .ok (.iconst 1, 1) := by decide +kernel
theorem dX11_part_13 : decode cX11_part 13 = .ok (.if_icmp .ne 10, 3) := by decide +kernel
theorem dX11_part_16 : decode cX11_part 16 = .ok (.aload_n 0, 1) := by decide +kernel
theorem dX11_part_17 : decode cX11_part 17 = .ok (.getfield 23, 3) := by decide +kernel
theorem dX11_part_20 : decode cX11_part 20 = .ok (.goto 10, 3) := by decide +kernel
theorem dX11_part_23 : decode cX11_part 23 = .ok (.aload_n 0, 1) := by decide +kernel
theorem dX11_part_24 : decode cX11_part 24 = .ok (.bipush (-2), 2) := by decide +kernel
theorem dX11_part_26 : decode cX11_part 26 = .ok (.invokevirtual 73, 3) := by decide +kernel
theorem dX11_part_29 : decode cX11_part 29 = .ok (.i2l, 1) := by decide +kernel
theorem dX11_part_30 : decode cX11_part 30 = .ok (.lreturn, 1) := by decide +kernel
set_option maxRecDepth 20000 in
theorem ggX11_image_X11_in : GoodIn wsX11_image wsX11_in := goodIn_r _ [7] (by decide +kernel) (by decide +kernel)
set_option maxRecDepth 20000 in
theorem gX11_image_X11_in : GoodIn wsX11_image (va_wsS RX11 56 yX11_in wsX11_in) := goodIn_app (goodIn_of _ (by decide +kernel)) ggX11_image_X11_in
set_option maxRecDepth 20000 in
theorem ggX11_image_X11_bad : GoodIn wsX11_image wsX11_bad := goodIn_r _ [11, 12, 13, 14, 15, 16, 17, 18, 19, 20, 21, 22, 23, 24, 25, 26, 27, 28, 29, 30] (by decide +kernel) (by decide +kernel)
set_option maxRecDepth 20000 in
theorem gX11_image_X11_bad : GoodIn wsX11_image (wsV RX11 73 RX11 yX11_bad wsX11_bad) := goodIn_app (goodIn_of _ (by decide +kernel)) ggX11_image_X11_bad
theorem dX11_image_0 : decode cX11_image 0 = .ok (.iload_n 1, 1) := by decide +kernel
theorem dX11_image_1 : decode cX11_image 1 = .ok (.i2l, 1) := by decide +kernel
theorem dX11_image_2 : decode cX11_image 2 = .ok (.lconst 0, 1) := by decide +kernel
theorem dX11_image_3 : decode cX11_image 3 = .ok (.lconst 1, 1) := by decide +kernel
theorem dX11_image_4 : decode cX11_image 4 = .ok (.invokestatic 56, 3) := by decide +kernel
theorem dX11_image_7 : decode cX11_image 7 = .ok (.ifCond .ne 10, 3) := by decide +kernel
theorem dX11_image_10 : decode cX11_image 10 = .ok (.aload_n 0, 1) := by decide +kernel
theorem dX11_image_11 : decode cX11_image 11 = .ok (.bipush (-2), 2) := by decide +kernel
theorem dX11_image_13 : decode cX11_image 13 = .ok (.invokevirtual 73, 3) := by decide +kernel
theorem dX11_image_16 : decode cX11_image 16 = .ok (.ireturn, 1) := by decide +kernel
theorem dX11_image_17 : decode cX11_image 17 = .ok (.iconst 0, 1) := by decide +kernel
theorem dX11_image_18 : decode cX11_image 18 = .ok (.istore_n 2, 1) := by decide +kernel
theorem dX11_image_19 : decode cX11_image 19 = .ok (.iload_n 2, 1) := by decide +kernel
theorem dX11_image_20 : decode cX11_image 20 = .ok (.sipush 228, 3) := by decide +kernel
theorem dX11_image_23 : decode cX11_image 23 = .ok (.if_icmp .ge 27, 3) := by decide +kernel
theorem dX11_image_26 : decode cX11_image 26 = .ok (.aload_n 0, 1) := by decide +kernel
theorem dX11_image_27 : decode cX11_image 27 = .ok (.getfield 13, 3) := by decide +kernel
theorem dX11_image_30 : decode cX11_image 30 = .ok (.sipush 228, 3) := by decide +kernel
theorem dX11_image_33 : decode cX11_image 33 = .ok (.iload_n 1, 1) := by decide +kernel
theorem dX11_image_34 : decode cX11_image 34 = .ok (.imul, 1) := by decide +kernel
theorem dX11_image_35 : decode cX11_image 35 = .ok (.iload_n 2, 1) := by decide +kernel
theorem dX11_image_36 : decode cX11_image 36 = .ok (.iadd, 1) := by decide +kernel
theorem dX11_image_37 : decode cX11_image 37 = .ok (.aload_n 0, 1) := by decide +kernel
theorem dX11_image_38 : decode cX11_image 38 = .ok (.getfield 7, 3) := by decide +kernel
theorem dX11_image_41 : decode cX11_image 41 = .ok (.iload_n 2, 1) := by decide +kernel
theorem dX11_image_42 : decode cX11_image 42 = .ok (.iaload, 1) := by decide +kernel
theorem dX11_image_43 : decode cX11_image 43 = .ok (.iastore, 1) := by decide +kernel
theorem dX11_image_44 : decode cX11_image 44 = .ok (.iinc 2 1, 3) := by decide +kernel
theorem dX11_image_47 : decode cX11_image 47 = .ok (.goto (-28), 3) := by decide +kernel
theorem dX11_image_50 : decode cX11_image 50 = .ok (.aload_n 0, 1) := by decide +kernel
theorem dX11_image_51 : decode cX11_image 51 = .ok (.getfield 16, 3) := by decide +kernel
theorem dX11_image_54 : decode cX11_image 54 = .ok (.iload_n 1, 1) := by decide +kernel
theorem dX11_image_55 : decode cX11_image 55 = .ok (.iconst 1, 1) := by decide +kernel
theorem dX11_image_56 : decode cX11_image 56 = .ok (.bastore, 1) := by decide +kernel
theorem dX11_image_57 : decode cX11_image 57 = .ok (.iconst 1, 1) := by decide +kernel
theorem dX11_image_58 : decode cX11_image 58 = .ok (.ireturn, 1) := by decide +kernel
set_option maxRecDepth 20000 in
theorem ggX11_from_X11_in : GoodIn wsX11_from wsX11_in := goodIn_r _ [7] (by decide +kernel) (by decide +kernel)
set_option maxRecDepth 20000 in
theorem gX11_from_X11_in : GoodIn wsX11_from (va_wsS RX11 56 yX11_in wsX11_in) := goodIn_app (goodIn_of _ (by decide +kernel)) ggX11_from_X11_in
set_option maxRecDepth 20000 in
theorem ggX11_from_X11_bad : GoodIn wsX11_from wsX11_bad := goodIn_r _ [11, 12, 17, 18, 19, 20, 21, 22, 23, 24, 25, 26, 27, 28, 29, 30, 31, 32, 33, 34] (by decide +kernel) (by decide +kernel)
set_option maxRecDepth 20000 in
theorem gX11_from_X11_bad : GoodIn wsX11_from (wsV RX11 73 RX11 yX11_bad wsX11_bad) := goodIn_app (goodIn_of _ (by decide +kernel)) ggX11_from_X11_bad
set_option maxRecDepth 20000 in
theorem ggX11_from_X11_no : GoodIn wsX11_from wsX11_no := goodIn_r _ [16, 12, 17, 18, 19, 20, 21, 22, 23, 24, 25, 26, 27, 28, 29, 30, 31, 32, 33, 34] (by decide +kernel) (by decide +kernel)
set_option maxRecDepth 20000 in
theorem gX11_from_X11_no : GoodIn wsX11_from (wsV RX11 119 RX11 yX11_no wsX11_no) := goodIn_app (goodIn_of _ (by decide +kernel)) ggX11_from_X11_no
theorem dX11_from_0 : decode cX11_from 0 = .ok (.iload_n 1, 1) := by decide +kernel
theorem dX11_from_1 : decode cX11_from 1 = .ok (.i2l, 1) := by decide +kernel
theorem dX11_from_2 : decode cX11_from 2 = .ok (.lconst 0, 1) := by decide +kernel
theorem dX11_from_3 : decode cX11_from 3 = .ok (.lconst 1, 1) := by decide +kernel
theorem dX11_from_4 : decode cX11_from 4 = .ok (.invokestatic 56, 3) := by decide +kernel
theorem dX11_from_7 : decode cX11_from 7 = .ok (.ifCond .ne 10, 3) := by decide +kernel
theorem dX11_from_10 : decode cX11_from 10 = .ok (.aload_n 0, 1) := by decide +kernel
theorem dX11_from_11 : decode cX11_from 11 = .ok (.bipush (-2), 2) := by decide +kernel
theorem dX11_from_13 : decode cX11_from 13 = .ok (.invokevirtual 73, 3) := by decide +kernel
theorem dX11_from_16 : decode cX11_from 16 = .ok (.ireturn, 1) := by decide +kernel
theorem dX11_from_17 : decode cX11_from 17 = .ok (.aload_n 0, 1) := by decide +kernel
theorem dX11_from_18 : decode cX11_from 18 = .ok (.getfield 16, 3) := by decide +kernel
theorem dX11_from_21 : decode cX11_from 21 = .ok (.iload_n 1, 1) := by decide +kernel
theorem dX11_from_22 : decode cX11_from 22 = .ok (.baload, 1) := by decide +kernel
theorem dX11_from_23 : decode cX11_from 23 = .ok (.ifCond .ne 8, 3) := by decide +kernel
theorem dX11_from_26 : decode cX11_from 26 = .ok (.aload_n 0, 1) := by decide +kernel
theorem dX11_from_27 : decode cX11_from 27 = .ok (.invokevirtual 119, 3) := by decide +kernel
theorem dX11_from_30 : decode cX11_from 30 = .ok (.ireturn, 1) := by decide +kernel
theorem dX11_from_31 : decode cX11_from 31 = .ok (.iconst 0, 1) := by decide +kernel
theorem dX11_from_32 : decode cX11_from 32 = .ok (.istore_n 2, 1) := by decide +kernel
theorem dX11_from_33 : decode cX11_from 33 = .ok (.iload_n 2, 1) := by decide +kernel
theorem dX11_from_34 : decode cX11_from 34 = .ok (.sipush 228, 3) := by decide +kernel
theorem dX11_from_37 : decode cX11_from 37 = .ok (.if_icmp .ge 27, 3) := by decide +kernel
theorem dX11_from_40 : decode cX11_from 40 = .ok (.aload_n 0, 1) := by decide +kernel
theorem dX11_from_41 : decode cX11_from 41 = .ok (.getfield 7, 3) := by decide +kernel
theorem dX11_from_44 : decode cX11_from 44 = .ok (.iload_n 2, 1) := by decide +kernel
theorem dX11_from_45 : decode cX11_from 45 = .ok (.aload_n 0, 1) := by decide +kernel
theorem dX11_from_46 : decode cX11_from 46 = .ok (.getfield 13, 3) := by decide +kernel
theorem dX11_from_49 : decode cX11_from 49 = .ok (.sipush 228, 3) := by decide +kernel
theorem dX11_from_52 : decode cX11_from 52 = .ok (.iload_n 1, 1) := by decide +kernel
theorem dX11_from_53 : decode cX11_from 53 = .ok (.imul, 1) := by decide +kernel
theorem dX11_from_54 : decode cX11_from 54 = .ok (.iload_n 2, 1) := by decide +kernel
theorem dX11_from_55 : decode cX11_from 55 = .ok (.iadd, 1) := by decide +kernel
theorem dX11_from_56 : decode cX11_from 56 = .ok (.iaload, 1) := by decide +kernel
theorem dX11_from_57 : decode cX11_from 57 = .ok (.iastore, 1) := by decide +kernel
theorem dX11_from_58 : decode cX11_from 58 = .ok (.iinc 2 1, 3) := by decide +kernel
theorem dX11_from_61 : decode cX11_from 61 = .ok (.goto (-28), 3) := by decide +kernel
theorem dX11_from_64 : decode cX11_from 64 = .ok (.iconst 1, 1) := by decide +kernel
theorem dX11_from_65 : decode cX11_from 65 = .ok (.ireturn, 1) := by decide +kernel
set_option maxRecDepth 20000 in
theorem ggX11_status_X11_in : GoodIn wsX11_status wsX11_in := goodIn_r _ [6] (by decide +kernel) (by decide +kernel)
set_option maxRecDepth 20000 in
theorem gX11_status_X11_in : GoodIn wsX11_status (va_wsS RX11 56 yX11_in wsX11_in) := goodIn_app (goodIn_of _ (by decide +kernel)) ggX11_status_X11_in
set_option maxRecDepth 20000 in
theorem ggX11_status_X11_bad : GoodIn wsX11_status wsX11_bad := goodIn_r _ [10, 2, 11, 12, 13, 14, 15, 16, 17, 18, 19, 20, 21, 22, 23, 24, 25, 26, 27, 28] (by decide +kernel) (by decide +kernel)
set_option maxRecDepth 20000 in
theorem gX11_status_X11_bad : GoodIn wsX11_status (wsV RX11 73 RX11 yX11_bad wsX11_bad) := goodIn_app (goodIn_of _ (by decide +kernel)) ggX11_status_X11_bad
theorem dX11_status_0 : decode cX11_status 0 = .ok (.iload_n 1, 1) := by decide +kernel
theorem dX11_status_1 : decode cX11_status 1 = .ok (.i2l, 1) := by decide +kernel
theorem dX11_status_2 : decode cX11_status 2 = .ok (.lconst 0, 1) := by decide +kernel
theorem dX11_status_3 : decode cX11_status 3 = .ok (.ldc2_w 136, 3) := by decide +kernel
theorem dX11_status_6 : decode cX11_status 6 = .ok (.invokestatic 56, 3) := by decide +kernel
theorem dX11_status_9 : decode cX11_status 9 = .ok (.ifCond .eq 12, 3) := by decide +kernel
theorem dX11_status_12 : decode cX11_status 12 = .ok (.aload_n 0, 1) := by decide +kernel
theorem dX11_status_13 : decode cX11_status 13 = .ok (.getfield 20, 3) := by decide +kernel
theorem dX11_status_16 : decode cX11_status 16 = .ok (.iload_n 1, 1) := by decide +kernel
theorem dX11_status_17 : decode cX11_status 17 = .ok (.iaload, 1) := by decide +kernel
theorem dX11_status_18 : decode cX11_status 18 = .ok (.goto 8, 3) := by decide +kernel
theorem dX11_status_21 : decode cX11_status 21 = .ok (.aload_n 0, 1) := by decide +kernel
theorem dX11_status_22 : decode cX11_status 22 = .ok (.iconst (-1), 1) := by decide +kernel
theorem dX11_status_23 : decode cX11_status 23 = .ok (.invokevirtual 73, 3) := by decide +kernel
theorem dX11_status_26 : decode cX11_status 26 = .ok (.ireturn, 1) := by decide +kernel
set_option maxRecDepth 20000 in
theorem ggX11_counted_X11_many : GoodIn wsX11_counted wsX11_many := goodIn_r _ [7, 1, 12, 13, 14, 15, 16, 17, 18, 19, 20, 21, 22, 23, 24, 25, 26, 27, 28, 29] (by decide +kernel) (by decide +kernel)
set_option maxRecDepth 20000 in
theorem gX11_counted_X11_many : GoodIn wsX11_counted (wsV RX11 52 RX11 yX11_many wsX11_many) := goodIn_app (goodIn_of _ (by decide +kernel)) ggX11_counted_X11_many
set_option maxRecDepth 20000 in
theorem ggX11_counted_X11_manyGleaners : GoodIn wsX11_counted wsX11_manyGleaners := goodIn_r _ [11, 1, 12, 13, 14, 15, 16, 17, 18, 19, 20, 21, 22, 23, 24, 25, 26, 27, 28, 29] (by decide +kernel) (by decide +kernel)
set_option maxRecDepth 20000 in
theorem gX11_counted_X11_manyGleaners : GoodIn wsX11_counted (wsV RX11 60 RX11 yX11_manyGleaners wsX11_manyGleaners) := goodIn_app (goodIn_of _ (by decide +kernel)) ggX11_counted_X11_manyGleaners
theorem dX11_counted_0 : decode cX11_counted 0 = .ok (.iload_n 1, 1) := by decide +kernel
theorem dX11_counted_1 : decode cX11_counted 1 = .ok (.tableswitch 102 0 7 #[47, 52, 57, 65, 73, 81, 88, 95], 47) := by decide +kernel
theorem dX11_counted_48 : decode cX11_counted 48 = .ok (.aload_n 0, 1) := by decide +kernel
theorem dX11_counted_49 : decode cX11_counted 49 = .ok (.invokevirtual 52, 3) := by decide +kernel
theorem dX11_counted_52 : decode cX11_counted 52 = .ok (.ireturn, 1) := by decide +kernel
theorem dX11_counted_53 : decode cX11_counted 53 = .ok (.aload_n 0, 1) := by decide +kernel
theorem dX11_counted_54 : decode cX11_counted 54 = .ok (.invokevirtual 60, 3) := by decide +kernel
theorem dX11_counted_57 : decode cX11_counted 57 = .ok (.ireturn, 1) := by decide +kernel
theorem dX11_counted_58 : decode cX11_counted 58 = .ok (.aload_n 0, 1) := by decide +kernel
theorem dX11_counted_59 : decode cX11_counted 59 = .ok (.getfield 7, 3) := by decide +kernel
theorem dX11_counted_62 : decode cX11_counted 62 = .ok (.bipush 21, 2) := by decide +kernel
theorem dX11_counted_64 : decode cX11_counted 64 = .ok (.iaload, 1) := by decide +kernel
theorem dX11_counted_65 : decode cX11_counted 65 = .ok (.ireturn, 1) := by decide +kernel
theorem dX11_counted_66 : decode cX11_counted 66 = .ok (.aload_n 0, 1) := by decide +kernel
theorem dX11_counted_67 : decode cX11_counted 67 = .ok (.getfield 7, 3) := by decide +kernel
theorem dX11_counted_70 : decode cX11_counted 70 = .ok (.bipush 22, 2) := by decide +kernel
theorem dX11_counted_72 : decode cX11_counted 72 = .ok (.iaload, 1) := by decide +kernel
theorem dX11_counted_73 : decode cX11_counted 73 = .ok (.ireturn, 1) := by decide +kernel
theorem dX11_counted_74 : decode cX11_counted 74 = .ok (.aload_n 0, 1) := by decide +kernel
theorem dX11_counted_75 : decode cX11_counted 75 = .ok (.getfield 7, 3) := by decide +kernel
theorem dX11_counted_78 : decode cX11_counted 78 = .ok (.bipush 23, 2) := by decide +kernel
theorem dX11_counted_80 : decode cX11_counted 80 = .ok (.iaload, 1) := by decide +kernel
theorem dX11_counted_81 : decode cX11_counted 81 = .ok (.ireturn, 1) := by decide +kernel
theorem dX11_counted_82 : decode cX11_counted 82 = .ok (.aload_n 0, 1) := by decide +kernel
theorem dX11_counted_83 : decode cX11_counted 83 = .ok (.getfield 7, 3) := by decide +kernel
theorem dX11_counted_86 : decode cX11_counted 86 = .ok (.iconst 2, 1) := by decide +kernel
theorem dX11_counted_87 : decode cX11_counted 87 = .ok (.iaload, 1) := by decide +kernel
theorem dX11_counted_88 : decode cX11_counted 88 = .ok (.ireturn, 1) := by decide +kernel
theorem dX11_counted_89 : decode cX11_counted 89 = .ok (.aload_n 0, 1) := by decide +kernel
theorem dX11_counted_90 : decode cX11_counted 90 = .ok (.getfield 7, 3) := by decide +kernel
theorem dX11_counted_93 : decode cX11_counted 93 = .ok (.iconst 3, 1) := by decide +kernel
theorem dX11_counted_94 : decode cX11_counted 94 = .ok (.iaload, 1) := by decide +kernel
theorem dX11_counted_95 : decode cX11_counted 95 = .ok (.ireturn, 1) := by decide +kernel
theorem dX11_counted_96 : decode cX11_counted 96 = .ok (.aload_n 0, 1) := by decide +kernel
theorem dX11_counted_97 : decode cX11_counted 97 = .ok (.getfield 7, 3) := by decide +kernel
theorem dX11_counted_100 : decode cX11_counted 100 = .ok (.iconst 4, 1) := by decide +kernel
theorem dX11_counted_101 : decode cX11_counted 101 = .ok (.iaload, 1) := by decide +kernel
theorem dX11_counted_102 : decode cX11_counted 102 = .ok (.ireturn, 1) := by decide +kernel
theorem dX11_counted_103 : decode cX11_counted 103 = .ok (.aload_n 0, 1) := by decide +kernel
theorem dX11_counted_104 : decode cX11_counted 104 = .ok (.getfield 210, 3) := by decide +kernel
theorem dX11_counted_107 : decode cX11_counted 107 = .ok (.ireturn, 1) := by decide +kernel
set_option maxRecDepth 20000 in
theorem ggX11_count_X11_in : GoodIn wsX11_count wsX11_in := goodIn_r _ [5] (by decide +kernel) (by decide +kernel)
set_option maxRecDepth 20000 in
theorem gX11_count_X11_in : GoodIn wsX11_count (va_wsS RX11 56 yX11_in wsX11_in) := goodIn_app (goodIn_of _ (by decide +kernel)) ggX11_count_X11_in
set_option maxRecDepth 20000 in
theorem ggX11_count_X11_counted : GoodIn wsX11_count wsX11_counted := goodIn_r _ [9, 10, 11, 12, 13, 14, 4, 15, 16, 17, 18, 19, 25, 26, 27, 28, 29, 30, 31, 32, 33, 34, 35, 36, 37, 38, 39, 40, 41, 42] (by decide +kernel) (by decide +kernel)
set_option maxRecDepth 20000 in
theorem gX11_count_X11_counted : GoodIn wsX11_count (wsV RX11 276 RX11 yX11_counted wsX11_counted) := goodIn_app (goodIn_of _ (by decide +kernel)) ggX11_count_X11_counted
set_option maxRecDepth 20000 in
theorem ggX11_count_X11_bad : GoodIn wsX11_count wsX11_bad := goodIn_r _ [23, 24, 25, 26, 27, 28, 29, 30, 31, 32, 33, 34, 35, 36, 37, 38, 39, 40, 41, 42] (by decide +kernel) (by decide +kernel)
set_option maxRecDepth 20000 in
theorem gX11_count_X11_bad : GoodIn wsX11_count (wsV RX11 73 RX11 yX11_bad wsX11_bad) := goodIn_app (goodIn_of _ (by decide +kernel)) ggX11_count_X11_bad
theorem dX11_count_0 : decode cX11_count 0 = .ok (.iload_n 1, 1) := by decide +kernel
theorem dX11_count_1 : decode cX11_count 1 = .ok (.i2l, 1) := by decide +kernel
theorem dX11_count_2 : decode cX11_count 2 = .ok (.lconst 0, 1) := by decide +kernel
theorem dX11_count_3 : decode cX11_count 3 = .ok (.ldc2_w 274, 3) := by decide +kernel
theorem dX11_count_6 : decode cX11_count 6 = .ok (.invokestatic 56, 3) := by decide +kernel
theorem dX11_count_9 : decode cX11_count 9 = .ok (.ifCond .eq 11, 3) := by decide +kernel
theorem dX11_count_12 : decode cX11_count 12 = .ok (.aload_n 0, 1) := by decide +kernel
theorem dX11_count_13 : decode cX11_count 13 = .ok (.iload_n 1, 1) := by decide +kernel
theorem dX11_count_14 : decode cX11_count 14 = .ok (.invokevirtual 276, 3) := by decide +kernel
theorem dX11_count_17 : decode cX11_count 17 = .ok (.goto 9, 3) := by decide +kernel
theorem dX11_count_20 : decode cX11_count 20 = .ok (.aload_n 0, 1) := by decide +kernel
theorem dX11_count_21 : decode cX11_count 21 = .ok (.bipush (-2), 2) := by decide +kernel
theorem dX11_count_23 : decode cX11_count 23 = .ok (.invokevirtual 73, 3) := by decide +kernel
theorem dX11_count_26 : decode cX11_count 26 = .ok (.ireturn, 1) := by decide +kernel
theorem dX11_sums_0 : decode cX11_sums 0 = .ok (.lload_n 1, 1) := by decide +kernel
theorem dX11_sums_1 : decode cX11_sums 1 = .ok (.lstore 5, 2) := by decide +kernel
theorem dX11_sums_3 : decode cX11_sums 3 = .ok (.iconst 0, 1) := by decide +kernel
theorem dX11_sums_4 : decode cX11_sums 4 = .ok (.istore 7, 2) := by decide +kernel
theorem dX11_sums_6 : decode cX11_sums 6 = .ok (.iload 7, 2) := by decide +kernel
theorem dX11_sums_8 : decode cX11_sums 8 = .ok (.iload 4, 2) := by decide +kernel
theorem dX11_sums_10 : decode cX11_sums 10 = .ok (.if_icmp .ge 28, 3) := by decide +kernel
theorem dX11_sums_13 : decode cX11_sums 13 = .ok (.ldc2_w 279, 3) := by decide +kernel
theorem dX11_sums_16 : decode cX11_sums 16 = .ok (.lload 5, 2) := by decide +kernel
theorem dX11_sums_18 : decode cX11_sums 18 = .ok (.lmul, 1) := by decide +kernel
theorem dX11_sums_19 : decode cX11_sums 19 = .ok (.aload_n 0, 1) := by decide +kernel
theorem dX11_sums_20 : decode cX11_sums 20 = .ok (.getfield 7, 3) := by decide +kernel
theorem dX11_sums_23 : decode cX11_sums 23 = .ok (.iload_n 3, 1) := by decide +kernel
theorem dX11_sums_24 : decode cX11_sums 24 = .ok (.iload 7, 2) := by decide +kernel
theorem dX11_sums_26 : decode cX11_sums 26 = .ok (.iadd, 1) := by decide +kernel
theorem dX11_sums_27 : decode cX11_sums 27 = .ok (.iaload, 1) := by decide +kernel
theorem dX11_sums_28 : decode cX11_sums 28 = .ok (.i2l, 1) := by decide +kernel
theorem dX11_sums_29 : decode cX11_sums 29 = .ok (.ladd, 1) := by decide +kernel
theorem dX11_sums_30 : decode cX11_sums 30 = .ok (.lstore 5, 2) := by decide +kernel
theorem dX11_sums_32 : decode cX11_sums 32 = .ok (.iinc 7 1, 3) := by decide +kernel
theorem dX11_sums_35 : decode cX11_sums 35 = .ok (.goto (-29), 3) := by decide +kernel
theorem dX11_sums_38 : decode cX11_sums 38 = .ok (.lload 5, 2) := by decide +kernel
theorem dX11_sums_40 : decode cX11_sums 40 = .ok (.lreturn, 1) := by decide +kernel
set_option maxRecDepth 20000 in
theorem ggX11_digest_X11_counted : GoodIn wsX11_digest wsX11_counted := goodIn_r _ [10, 3, 11, 12, 13, 14, 9, 15, 16, 17, 18, 19, 24, 25, 26, 27, 28, 29, 30, 31, 32, 33, 34, 35, 36, 37, 38, 39, 40, 41] (by decide +kernel) (by decide +kernel)
set_option maxRecDepth 20000 in
theorem gX11_digest_X11_counted : GoodIn wsX11_digest (wsV RX11 276 RX11 yX11_counted wsX11_counted) := goodIn_app (goodIn_of _ (by decide +kernel)) ggX11_digest_X11_counted
set_option maxRecDepth 20000 in
theorem ggX11_digest_X11_many : GoodIn wsX11_digest wsX11_many := goodIn_r _ [15, 3, 24, 25, 26, 27, 28, 29, 30, 31, 32, 33, 34, 35, 36, 37, 38, 39, 40, 41] (by decide +kernel) (by decide +kernel)
set_option maxRecDepth 20000 in
theorem gX11_digest_X11_many : GoodIn wsX11_digest (wsV RX11 52 RX11 yX11_many wsX11_many) := goodIn_app (goodIn_of _ (by decide +kernel)) ggX11_digest_X11_many
set_option maxRecDepth 20000 in
theorem ggX11_digest_X11_manyGleaners : GoodIn wsX11_digest wsX11_manyGleaners := goodIn_r _ [19, 3, 24, 25, 26, 27, 28, 29, 30, 31, 32, 33, 34, 35, 36, 37, 38, 39, 40, 41] (by decide +kernel) (by decide +kernel)
set_option maxRecDepth 20000 in
theorem gX11_digest_X11_manyGleaners : GoodIn wsX11_digest (wsV RX11 60 RX11 yX11_manyGleaners wsX11_manyGleaners) := goodIn_app (goodIn_of _ (by decide +kernel)) ggX11_digest_X11_manyGleaners
set_option maxRecDepth 20000 in
theorem ggX11_digest_X11_sums : GoodIn wsX11_digest wsX11_sums := goodIn_r _ [23, 2, 3, 24, 25, 26, 27, 28, 29, 30, 31, 32, 33, 34, 35, 36, 37, 38, 39, 40, 41] (by decide +kernel) (by decide +kernel)
set_option maxRecDepth 20000 in
theorem gX11_digest_X11_sums : GoodIn wsX11_digest (wsV RX11 283 RX11 yX11_sums wsX11_sums) := goodIn_app (goodIn_of _ (by decide +kernel)) ggX11_digest_X11_sums
theorem dX11_digest_0 : decode cX11_digest 0 = .ok (.ldc2_w 281, 3) := by decide +kernel
theorem dX11_digest_3 : decode cX11_digest 3 = .ok (.lstore_n 1, 1) := by decide +kernel
theorem dX11_digest_4 : decode cX11_digest 4 = .ok (.iconst 0, 1) := by decide +kernel
theorem dX11_digest_5 : decode cX11_digest 5 = .ok (.istore_n 3, 1) := by decide +kernel
theorem dX11_digest_6 : decode cX11_digest 6 = .ok (.iload_n 3, 1) := by decide +kernel
theorem dX11_digest_7 : decode cX11_digest 7 = .ok (.bipush 9, 2) := by decide +kernel
theorem dX11_digest_9 : decode cX11_digest 9 = .ok (.if_icmp .ge 22, 3) := by decide +kernel
theorem dX11_digest_12 : decode cX11_digest 12 = .ok (.ldc2_w 279, 3) := by decide +kernel
theorem dX11_digest_15 : decode cX11_digest 15 = .ok (.lload_n 1, 1) := by decide +kernel
theorem dX11_digest_16 : decode cX11_digest 16 = .ok (.lmul, 1) := by decide +kernel
theorem dX11_digest_17 : decode cX11_digest 17 = .ok (.aload_n 0, 1) := by decide +kernel
theorem dX11_digest_18 : decode cX11_digest 18 = .ok (.iload_n 3, 1) := by decide +kernel
theorem dX11_digest_19 : decode cX11_digest 19 = .ok (.invokevirtual 276, 3) := by decide +kernel
theorem dX11_digest_22 : decode cX11_digest 22 = .ok (.i2l, 1) := by decide +kernel
theorem dX11_digest_23 : decode cX11_digest 23 = .ok (.ladd, 1) := by decide +kernel
theorem dX11_digest_24 : decode cX11_digest 24 = .ok (.lstore_n 1, 1) := by decide +kernel
theorem dX11_digest_25 : decode cX11_digest 25 = .ok (.iinc 3 1, 3) := by decide +kernel
theorem dX11_digest_28 : decode cX11_digest 28 = .ok (.goto (-22), 3) := by decide +kernel
theorem dX11_digest_31 : decode cX11_digest 31 = .ok (.iconst 0, 1) := by decide +kernel
theorem dX11_digest_32 : decode cX11_digest 32 = .ok (.istore_n 3, 1) := by decide +kernel
theorem dX11_digest_33 : decode cX11_digest 33 = .ok (.iload_n 3, 1) := by decide +kernel
theorem dX11_digest_34 : decode cX11_digest 34 = .ok (.aload_n 0, 1) := by decide +kernel
theorem dX11_digest_35 : decode cX11_digest 35 = .ok (.invokevirtual 52, 3) := by decide +kernel
theorem dX11_digest_38 : decode cX11_digest 38 = .ok (.if_icmp .ge 40, 3) := by decide +kernel
theorem dX11_digest_41 : decode cX11_digest 41 = .ok (.ldc2_w 279, 3) := by decide +kernel
theorem dX11_digest_44 : decode cX11_digest 44 = .ok (.ldc2_w 279, 3) := by decide +kernel
theorem dX11_digest_47 : decode cX11_digest 47 = .ok (.lload_n 1, 1) := by decide +kernel
theorem dX11_digest_48 : decode cX11_digest 48 = .ok (.lmul, 1) := by decide +kernel
theorem dX11_digest_49 : decode cX11_digest 49 = .ok (.aload_n 0, 1) := by decide +kernel
theorem dX11_digest_50 : decode cX11_digest 50 = .ok (.getfield 7, 3) := by decide +kernel
theorem dX11_digest_53 : decode cX11_digest 53 = .ok (.bipush 24, 2) := by decide +kernel
theorem dX11_digest_55 : decode cX11_digest 55 = .ok (.iload_n 3, 1) := by decide +kernel
theorem dX11_digest_56 : decode cX11_digest 56 = .ok (.iadd, 1) := by decide +kernel
theorem dX11_digest_57 : decode cX11_digest 57 = .ok (.iaload, 1) := by decide +kernel
theorem dX11_digest_58 : decode cX11_digest 58 = .ok (.i2l, 1) := by decide +kernel
theorem dX11_digest_59 : decode cX11_digest 59 = .ok (.ladd, 1) := by decide +kernel
theorem dX11_digest_60 : decode cX11_digest 60 = .ok (.lmul, 1) := by decide +kernel
theorem dX11_digest_61 : decode cX11_digest 61 = .ok (.aload_n 0, 1) := by decide +kernel
theorem dX11_digest_62 : decode cX11_digest 62 = .ok (.getfield 7, 3) := by decide +kernel
theorem dX11_digest_65 : decode cX11_digest 65 = .ok (.iconst 5, 1) := by decide +kernel
theorem dX11_digest_66 : decode cX11_digest 66 = .ok (.iload_n 3, 1) := by decide +kernel
theorem dX11_digest_67 : decode cX11_digest 67 = .ok (.iadd, 1) := by decide +kernel
theorem dX11_digest_68 : decode cX11_digest 68 = .ok (.iaload, 1) := by decide +kernel
theorem dX11_digest_69 : decode cX11_digest 69 = .ok (.i2l, 1) := by decide +kernel
theorem dX11_digest_70 : decode cX11_digest 70 = .ok (.ladd, 1) := by decide +kernel
theorem dX11_digest_71 : decode cX11_digest 71 = .ok (.lstore_n 1, 1) := by decide +kernel
theorem dX11_digest_72 : decode cX11_digest 72 = .ok (.iinc 3 1, 3) := by decide +kernel
theorem dX11_digest_75 : decode cX11_digest 75 = .ok (.goto (-42), 3) := by decide +kernel
theorem dX11_digest_78 : decode cX11_digest 78 = .ok (.iconst 0, 1) := by decide +kernel
theorem dX11_digest_79 : decode cX11_digest 79 = .ok (.istore_n 3, 1) := by decide +kernel
theorem dX11_digest_80 : decode cX11_digest 80 = .ok (.iload_n 3, 1) := by decide +kernel
theorem dX11_digest_81 : decode cX11_digest 81 = .ok (.aload_n 0, 1) := by decide +kernel
theorem dX11_digest_82 : decode cX11_digest 82 = .ok (.invokevirtual 60, 3) := by decide +kernel
theorem dX11_digest_85 : decode cX11_digest 85 = .ok (.if_icmp .ge 41, 3) := by decide +kernel
theorem dX11_digest_88 : decode cX11_digest 88 = .ok (.ldc2_w 279, 3) := by decide +kernel
theorem dX11_digest_91 : decode cX11_digest 91 = .ok (.ldc2_w 279, 3) := by decide +kernel
theorem dX11_digest_94 : decode cX11_digest 94 = .ok (.lload_n 1, 1) := by decide +kernel
theorem dX11_digest_95 : decode cX11_digest 95 = .ok (.lmul, 1) := by decide +kernel
theorem dX11_digest_96 : decode cX11_digest 96 = .ok (.aload_n 0, 1) := by decide +kernel
theorem dX11_digest_97 : decode cX11_digest 97 = .ok (.getfield 7, 3) := by decide +kernel
theorem dX11_digest_100 : decode cX11_digest 100 = .ok (.bipush 11, 2) := by decide +kernel
theorem dX11_digest_102 : decode cX11_digest 102 = .ok (.iload_n 3, 1) := by decide +kernel
theorem dX11_digest_103 : decode cX11_digest 103 = .ok (.iadd, 1) := by decide +kernel
theorem dX11_digest_104 : decode cX11_digest 104 = .ok (.iaload, 1) := by decide +kernel
theorem dX11_digest_105 : decode cX11_digest 105 = .ok (.i2l, 1) := by decide +kernel
theorem dX11_digest_106 : decode cX11_digest 106 = .ok (.ladd, 1) := by decide +kernel
theorem dX11_digest_107 : decode cX11_digest 107 = .ok (.lmul, 1) := by decide +kernel
theorem dX11_digest_108 : decode cX11_digest 108 = .ok (.aload_n 0, 1) := by decide +kernel
theorem dX11_digest_109 : decode cX11_digest 109 = .ok (.getfield 7, 3) := by decide +kernel
theorem dX11_digest_112 : decode cX11_digest 112 = .ok (.bipush 16, 2) := by decide +kernel
theorem dX11_digest_114 : decode cX11_digest 114 = .ok (.iload_n 3, 1) := by decide +kernel
theorem dX11_digest_115 : decode cX11_digest 115 = .ok (.iadd, 1) := by decide +kernel
theorem dX11_digest_116 : decode cX11_digest 116 = .ok (.iaload, 1) := by decide +kernel
theorem dX11_digest_117 : decode cX11_digest 117 = .ok (.i2l, 1) := by decide +kernel
theorem dX11_digest_118 : decode cX11_digest 118 = .ok (.ladd, 1) := by decide +kernel
theorem dX11_digest_119 : decode cX11_digest 119 = .ok (.lstore_n 1, 1) := by decide +kernel
theorem dX11_digest_120 : decode cX11_digest 120 = .ok (.iinc 3 1, 3) := by decide +kernel
theorem dX11_digest_123 : decode cX11_digest 123 = .ok (.goto (-43), 3) := by decide +kernel
theorem dX11_digest_126 : decode cX11_digest 126 = .ok (.aload_n 0, 1) := by decide +kernel
theorem dX11_digest_127 : decode cX11_digest 127 = .ok (.lload_n 1, 1) := by decide +kernel
theorem dX11_digest_128 : decode cX11_digest 128 = .ok (.bipush 30, 2) := by decide +kernel
theorem dX11_digest_130 : decode cX11_digest 130 = .ok (.iconst 4, 1) := by decide +kernel
theorem dX11_digest_131 : decode cX11_digest 131 = .ok (.aload_n 0, 1) := by decide +kernel
theorem dX11_digest_132 : decode cX11_digest 132 = .ok (.getfield 7, 3) := by decide +kernel
theorem dX11_digest_135 : decode cX11_digest 135 = .ok (.iconst 2, 1) := by decide +kernel
theorem dX11_digest_136 : decode cX11_digest 136 = .ok (.iaload, 1) := by decide +kernel
theorem dX11_digest_137 : decode cX11_digest 137 = .ok (.imul, 1) := by decide +kernel
theorem dX11_digest_138 : decode cX11_digest 138 = .ok (.invokevirtual 283, 3) := by decide +kernel
theorem dX11_digest_141 : decode cX11_digest 141 = .ok (.lstore_n 1, 1) := by decide +kernel
theorem dX11_digest_142 : decode cX11_digest 142 = .ok (.aload_n 0, 1) := by decide +kernel
theorem dX11_digest_143 : decode cX11_digest 143 = .ok (.lload_n 1, 1) := by decide +kernel
theorem dX11_digest_144 : decode cX11_digest 144 = .ok (.bipush 46, 2) := by decide +kernel
theorem dX11_digest_146 : decode cX11_digest 146 = .ok (.iconst 5, 1) := by decide +kernel
theorem dX11_digest_147 : decode cX11_digest 147 = .ok (.aload_n 0, 1) := by decide +kernel
theorem dX11_digest_148 : decode cX11_digest 148 = .ok (.getfield 7, 3) := by decide +kernel
theorem dX11_digest_151 : decode cX11_digest 151 = .ok (.iconst 3, 1) := by decide +kernel
theorem dX11_digest_152 : decode cX11_digest 152 = .ok (.iaload, 1) := by decide +kernel
theorem dX11_digest_153 : decode cX11_digest 153 = .ok (.imul, 1) := by decide +kernel
theorem dX11_digest_154 : decode cX11_digest 154 = .ok (.invokevirtual 283, 3) := by decide +kernel
theorem dX11_digest_157 : decode cX11_digest 157 = .ok (.lstore_n 1, 1) := by decide +kernel
theorem dX11_digest_158 : decode cX11_digest 158 = .ok (.ldc2_w 279, 3) := by decide +kernel
theorem dX11_digest_161 : decode cX11_digest 161 = .ok (.ldc2_w 279, 3) := by decide +kernel
theorem dX11_digest_164 : decode cX11_digest 164 = .ok (.lload_n 1, 1) := by decide +kernel
theorem dX11_digest_165 : decode cX11_digest 165 = .ok (.lmul, 1) := by decide +kernel
theorem dX11_digest_166 : decode cX11_digest 166 = .ok (.aload_n 0, 1) := by decide +kernel
theorem dX11_digest_167 : decode cX11_digest 167 = .ok (.getfield 189, 3) := by decide +kernel
theorem dX11_digest_170 : decode cX11_digest 170 = .ok (.ladd, 1) := by decide +kernel
theorem dX11_digest_171 : decode cX11_digest 171 = .ok (.lmul, 1) := by decide +kernel
theorem dX11_digest_172 : decode cX11_digest 172 = .ok (.aload_n 0, 1) := by decide +kernel
theorem dX11_digest_173 : decode cX11_digest 173 = .ok (.getfield 23, 3) := by decide +kernel
theorem dX11_digest_176 : decode cX11_digest 176 = .ok (.ladd, 1) := by decide +kernel
theorem dX11_digest_177 : decode cX11_digest 177 = .ok (.lreturn, 1) := by decide +kernel
theorem dJ6_bitCount_0f7a4_0 : decode cJ6_bitCount_0f7a4 0 = .ok (.iload_n 0, 1) := by decide +kernel
theorem dJ6_bitCount_0f7a4_1 : decode cJ6_bitCount_0f7a4 1 = .ok (.iload_n 0, 1) := by decide +kernel
theorem dJ6_bitCount_0f7a4_2 : decode cJ6_bitCount_0f7a4 2 = .ok (.iconst 1, 1) := by decide +kernel
theorem dJ6_bitCount_0f7a4_3 : decode cJ6_bitCount_0f7a4 3 = .ok (.iushr, 1) := by decide +kernel
theorem dJ6_bitCount_0f7a4_4 : decode cJ6_bitCount_0f7a4 4 = .ok (.ldc_w 265, 3) := by decide +kernel
theorem dJ6_bitCount_0f7a4_7 : decode cJ6_bitCount_0f7a4 7 = .ok (.iand, 1) := by decide +kernel
theorem dJ6_bitCount_0f7a4_8 : decode cJ6_bitCount_0f7a4 8 = .ok (.isub, 1) := by decide +kernel
theorem dJ6_bitCount_0f7a4_9 : decode cJ6_bitCount_0f7a4 9 = .ok (.istore_n 0, 1) := by decide +kernel
theorem dJ6_bitCount_0f7a4_10 : decode cJ6_bitCount_0f7a4 10 = .ok (.iload_n 0, 1) := by decide +kernel
theorem dJ6_bitCount_0f7a4_11 : decode cJ6_bitCount_0f7a4 11 = .ok (.ldc_w 266, 3) := by decide +kernel
theorem dJ6_bitCount_0f7a4_14 : decode cJ6_bitCount_0f7a4 14 = .ok (.iand, 1) := by decide +kernel
theorem dJ6_bitCount_0f7a4_15 : decode cJ6_bitCount_0f7a4 15 = .ok (.iload_n 0, 1) := by decide +kernel
theorem dJ6_bitCount_0f7a4_16 : decode cJ6_bitCount_0f7a4 16 = .ok (.iconst 2, 1) := by decide +kernel
theorem dJ6_bitCount_0f7a4_17 : decode cJ6_bitCount_0f7a4 17 = .ok (.iushr, 1) := by decide +kernel
theorem dJ6_bitCount_0f7a4_18 : decode cJ6_bitCount_0f7a4 18 = .ok (.ldc_w 266, 3) := by decide +kernel
theorem dJ6_bitCount_0f7a4_21 : decode cJ6_bitCount_0f7a4 21 = .ok (.iand, 1) := by decide +kernel
theorem dJ6_bitCount_0f7a4_22 : decode cJ6_bitCount_0f7a4 22 = .ok (.iadd, 1) := by decide +kernel
theorem dJ6_bitCount_0f7a4_23 : decode cJ6_bitCount_0f7a4 23 = .ok (.istore_n 0, 1) := by decide +kernel
theorem dJ6_bitCount_0f7a4_24 : decode cJ6_bitCount_0f7a4 24 = .ok (.iload_n 0, 1) := by decide +kernel
theorem dJ6_bitCount_0f7a4_25 : decode cJ6_bitCount_0f7a4 25 = .ok (.iload_n 0, 1) := by decide +kernel
theorem dJ6_bitCount_0f7a4_26 : decode cJ6_bitCount_0f7a4 26 = .ok (.iconst 4, 1) := by decide +kernel
theorem dJ6_bitCount_0f7a4_27 : decode cJ6_bitCount_0f7a4 27 = .ok (.iushr, 1) := by decide +kernel
theorem dJ6_bitCount_0f7a4_28 : decode cJ6_bitCount_0f7a4 28 = .ok (.iadd, 1) := by decide +kernel
theorem dJ6_bitCount_0f7a4_29 : decode cJ6_bitCount_0f7a4 29 = .ok (.ldc_w 267, 3) := by decide +kernel
theorem dJ6_bitCount_0f7a4_32 : decode cJ6_bitCount_0f7a4 32 = .ok (.iand, 1) := by decide +kernel
theorem dJ6_bitCount_0f7a4_33 : decode cJ6_bitCount_0f7a4 33 = .ok (.istore_n 0, 1) := by decide +kernel
theorem dJ6_bitCount_0f7a4_34 : decode cJ6_bitCount_0f7a4 34 = .ok (.iload_n 0, 1) := by decide +kernel
theorem dJ6_bitCount_0f7a4_35 : decode cJ6_bitCount_0f7a4 35 = .ok (.iload_n 0, 1) := by decide +kernel
theorem dJ6_bitCount_0f7a4_36 : decode cJ6_bitCount_0f7a4 36 = .ok (.bipush 8, 2) := by decide +kernel
theorem dJ6_bitCount_0f7a4_38 : decode cJ6_bitCount_0f7a4 38 = .ok (.iushr, 1) := by decide +kernel
theorem dJ6_bitCount_0f7a4_39 : decode cJ6_bitCount_0f7a4 39 = .ok (.iadd, 1) := by decide +kernel
theorem dJ6_bitCount_0f7a4_40 : decode cJ6_bitCount_0f7a4 40 = .ok (.istore_n 0, 1) := by decide +kernel
theorem dJ6_bitCount_0f7a4_41 : decode cJ6_bitCount_0f7a4 41 = .ok (.iload_n 0, 1) := by decide +kernel
theorem dJ6_bitCount_0f7a4_42 : decode cJ6_bitCount_0f7a4 42 = .ok (.iload_n 0, 1) := by decide +kernel
theorem dJ6_bitCount_0f7a4_43 : decode cJ6_bitCount_0f7a4 43 = .ok (.bipush 16, 2) := by decide +kernel
theorem dJ6_bitCount_0f7a4_45 : decode cJ6_bitCount_0f7a4 45 = .ok (.iushr, 1) := by decide +kernel
theorem dJ6_bitCount_0f7a4_46 : decode cJ6_bitCount_0f7a4 46 = .ok (.iadd, 1) := by decide +kernel
theorem dJ6_bitCount_0f7a4_47 : decode cJ6_bitCount_0f7a4 47 = .ok (.istore_n 0, 1) := by decide +kernel
theorem dJ6_bitCount_0f7a4_48 : decode cJ6_bitCount_0f7a4 48 = .ok (.iload_n 0, 1) := by decide +kernel
theorem dJ6_bitCount_0f7a4_49 : decode cJ6_bitCount_0f7a4 49 = .ok (.bipush 63, 2) := by decide +kernel
theorem dJ6_bitCount_0f7a4_51 : decode cJ6_bitCount_0f7a4 51 = .ok (.iand, 1) := by decide +kernel
theorem dJ6_bitCount_0f7a4_52 : decode cJ6_bitCount_0f7a4 52 = .ok (.ireturn, 1) := by decide +kernel
theorem dJ9_abs_0f7a4_0 : decode cJ9_abs_0f7a4 0 = .ok (.iload_n 0, 1) := by decide +kernel
theorem dJ9_abs_0f7a4_1 : decode cJ9_abs_0f7a4 1 = .ok (.ifCond .ge 8, 3) := by decide +kernel
theorem dJ9_abs_0f7a4_4 : decode cJ9_abs_0f7a4 4 = .ok (.iload_n 0, 1) := by decide +kernel
theorem dJ9_abs_0f7a4_5 : decode cJ9_abs_0f7a4 5 = .ok (.ineg, 1) := by decide +kernel
theorem dJ9_abs_0f7a4_6 : decode cJ9_abs_0f7a4 6 = .ok (.goto 4, 3) := by decide +kernel
theorem dJ9_abs_0f7a4_9 : decode cJ9_abs_0f7a4 9 = .ok (.iload_n 0, 1) := by decide +kernel
theorem dJ9_abs_0f7a4_10 : decode cJ9_abs_0f7a4 10 = .ok (.ireturn, 1) := by decide +kernel
theorem dJ9_max_7cf53_0 : decode cJ9_max_7cf53 0 = .ok (.iload_n 0, 1) := by decide +kernel
theorem dJ9_max_7cf53_1 : decode cJ9_max_7cf53 1 = .ok (.iload_n 1, 1) := by decide +kernel
theorem dJ9_max_7cf53_2 : decode cJ9_max_7cf53 2 = .ok (.if_icmp .lt 7, 3) := by decide +kernel
theorem dJ9_max_7cf53_5 : decode cJ9_max_7cf53 5 = .ok (.iload_n 0, 1) := by decide +kernel
theorem dJ9_max_7cf53_6 : decode cJ9_max_7cf53 6 = .ok (.goto 4, 3) := by decide +kernel
theorem dJ9_max_7cf53_9 : decode cJ9_max_7cf53 9 = .ok (.iload_n 1, 1) := by decide +kernel
theorem dJ9_max_7cf53_10 : decode cJ9_max_7cf53 10 = .ok (.ireturn, 1) := by decide +kernel
theorem dJ9_min_7cf53_0 : decode cJ9_min_7cf53 0 = .ok (.iload_n 0, 1) := by decide +kernel
theorem dJ9_min_7cf53_1 : decode cJ9_min_7cf53 1 = .ok (.iload_n 1, 1) := by decide +kernel
theorem dJ9_min_7cf53_2 : decode cJ9_min_7cf53 2 = .ok (.if_icmp .gt 7, 3) := by decide +kernel
theorem dJ9_min_7cf53_5 : decode cJ9_min_7cf53 5 = .ok (.iload_n 0, 1) := by decide +kernel
theorem dJ9_min_7cf53_6 : decode cJ9_min_7cf53 6 = .ok (.goto 4, 3) := by decide +kernel
theorem dJ9_min_7cf53_9 : decode cJ9_min_7cf53 9 = .ok (.iload_n 1, 1) := by decide +kernel
theorem dJ9_min_7cf53_10 : decode cJ9_min_7cf53 10 = .ok (.ireturn, 1) := by decide +kernel
set_option maxRecDepth 20000 in
theorem ggJ0_length_8abf5_J0_coder_7d493 : GoodIn wsJ0_length_8abf5 wsJ0_coder_7d493 := goodIn_r _ [6, 7, 8] (by decide +kernel) (by decide +kernel)
set_option maxRecDepth 20000 in
theorem gJ0_length_8abf5_J0_coder_7d493 : GoodIn wsJ0_length_8abf5 (wsV RJ0 335 RJ0 yJ0_coder_7d493 wsJ0_coder_7d493) := goodIn_app (goodIn_of _ (by decide +kernel)) ggJ0_length_8abf5_J0_coder_7d493
theorem dJ0_length_8abf5_0 : decode cJ0_length_8abf5 0 = .ok (.aload_n 0, 1) := by decide +kernel
theorem dJ0_length_8abf5_1 : decode cJ0_length_8abf5 1 = .ok (.getfield 9, 3) := by decide +kernel
theorem dJ0_length_8abf5_4 : decode cJ0_length_8abf5 4 = .ok (.arraylength, 1) := by decide +kernel
theorem dJ0_length_8abf5_5 : decode cJ0_length_8abf5 5 = .ok (.aload_n 0, 1) := by decide +kernel
theorem dJ0_length_8abf5_6 : decode cJ0_length_8abf5 6 = .ok (.invokevirtual 335, 3) := by decide +kernel
theorem dJ0_length_8abf5_9 : decode cJ0_length_8abf5 9 = .ok (.ishr, 1) := by decide +kernel
theorem dJ0_length_8abf5_10 : decode cJ0_length_8abf5 10 = .ok (.ireturn, 1) := by decide +kernel
set_option maxRecDepth 20000 in
theorem ggJ0_charAt_5068e_J0_isLatin1_aae02 : GoodIn wsJ0_charAt_5068e wsJ0_isLatin1_aae02 := goodIn_r _ [6, 7, 8] (by decide +kernel) (by decide +kernel)
set_option maxRecDepth 20000 in
theorem gJ0_charAt_5068e_J0_isLatin1_aae02 : GoodIn wsJ0_charAt_5068e (wsV RJ0 492 RJ0 yJ0_isLatin1_aae02 wsJ0_isLatin1_aae02) := goodIn_app (goodIn_of _ (by decide +kernel)) ggJ0_charAt_5068e_J0_isLatin1_aae02
set_option maxRecDepth 20000 in
theorem ggJ0_charAt_5068e_J1_charAt_3b067 : GoodIn wsJ0_charAt_5068e wsJ1_charAt_3b067 := goodIn_r _ [12, 13, 14, 5, 15, 16, 17, 18, 19, 20] (by decide +kernel) (by decide +kernel)
set_option maxRecDepth 20000 in
theorem gJ0_charAt_5068e_J1_charAt_3b067 : GoodIn wsJ0_charAt_5068e (va_wsS RJ0 495 yJ1_charAt_3b067 wsJ1_charAt_3b067) := goodIn_app (goodIn_of _ (by decide +kernel)) ggJ0_charAt_5068e_J1_charAt_3b067
set_option maxRecDepth 20000 in
theorem ggJ0_charAt_5068e_J2_charAt_3b067 : GoodIn wsJ0_charAt_5068e wsJ2_charAt_3b067 := goodIn_r _ [24, 25, 26, 23, 27, 28, 29, 30, 31, 14, 5, 15, 16, 17, 18, 19, 20, 32, 33, 34, 35, 36, 37] (by decide +kernel) (by decide +kernel)
set_option maxRecDepth 20000 in
theorem gJ0_charAt_5068e_J2_charAt_3b067 : GoodIn wsJ0_charAt_5068e (va_wsS RJ0 498 yJ2_charAt_3b067 wsJ2_charAt_3b067) := goodIn_app (goodIn_of _ (by decide +kernel)) ggJ0_charAt_5068e_J2_charAt_3b067
theorem dJ0_charAt_5068e_0 : decode cJ0_charAt_5068e 0 = .ok (.aload_n 0, 1) := by decide +kernel
theorem dJ0_charAt_5068e_1 : decode cJ0_charAt_5068e 1 = .ok (.invokevirtual 492, 3) := by decide +kernel
theorem dJ0_charAt_5068e_4 : decode cJ0_charAt_5068e 4 = .ok (.ifCond .eq 12, 3) := by decide +kernel
theorem dJ0_charAt_5068e_7 : decode cJ0_charAt_5068e 7 = .ok (.aload_n 0, 1) := by decide +kernel
theorem dJ0_charAt_5068e_8 : decode cJ0_charAt_5068e 8 = .ok (.getfield 9, 3) := by decide +kernel
theorem dJ0_charAt_5068e_11 : decode cJ0_charAt_5068e 11 = .ok (.iload_n 1, 1) := by decide +kernel
theorem dJ0_charAt_5068e_12 : decode cJ0_charAt_5068e 12 = .ok (.invokestatic 495, 3) := by decide +kernel
theorem dJ0_charAt_5068e_15 : decode cJ0_charAt_5068e 15 = .ok (.ireturn, 1) := by decide +kernel
theorem dJ0_charAt_5068e_16 : decode cJ0_charAt_5068e 16 = .ok (.aload_n 0, 1) := by decide +kernel
theorem dJ0_charAt_5068e_17 : decode cJ0_charAt_5068e 17 = .ok (.getfield 9, 3) := by decide +kernel
theorem dJ0_charAt_5068e_20 : decode cJ0_charAt_5068e 20 = .ok (.iload_n 1, 1) := by decide +kernel
theorem dJ0_charAt_5068e_21 : decode cJ0_charAt_5068e 21 = .ok (.invokestatic 498, 3) := by decide +kernel
theorem dJ0_charAt_5068e_24 : decode cJ0_charAt_5068e 24 = .ok (.ireturn, 1) := by decide +kernel
theorem dJ0_coder_7d493_0 : decode cJ0_coder_7d493 0 = .ok (.getstatic 38, 3) := by decide +kernel
theorem dJ0_coder_7d493_3 : decode cJ0_coder_7d493 3 = .ok (.ifCond .eq 10, 3) := by decide +kernel
theorem dJ0_coder_7d493_6 : decode cJ0_coder_7d493 6 = .ok (.aload_n 0, 1) := by decide +kernel
theorem dJ0_coder_7d493_7 : decode cJ0_coder_7d493 7 = .ok (.getfield 15, 3) := by decide +kernel
theorem dJ0_coder_7d493_10 : decode cJ0_coder_7d493 10 = .ok (.goto 4, 3) := by decide +kernel
theorem dJ0_coder_7d493_13 : decode cJ0_coder_7d493 13 = .ok (.iconst 1, 1) := by decide +kernel
theorem dJ0_coder_7d493_14 : decode cJ0_coder_7d493 14 = .ok (.ireturn, 1) := by decide +kernel
theorem dJ0_isLatin1_aae02_0 : decode cJ0_isLatin1_aae02 0 = .ok (.getstatic 38, 3) := by decide +kernel
theorem dJ0_isLatin1_aae02_3 : decode cJ0_isLatin1_aae02 3 = .ok (.ifCond .eq 14, 3) := by decide +kernel
theorem dJ0_isLatin1_aae02_6 : decode cJ0_isLatin1_aae02 6 = .ok (.aload_n 0, 1) := by decide +kernel
theorem dJ0_isLatin1_aae02_7 : decode cJ0_isLatin1_aae02 7 = .ok (.getfield 15, 3) := by decide +kernel
theorem dJ0_isLatin1_aae02_10 : decode cJ0_isLatin1_aae02 10 = .ok (.ifCond .ne 7, 3) := by decide +kernel
theorem dJ0_isLatin1_aae02_13 : decode cJ0_isLatin1_aae02 13 = .ok (.iconst 1, 1) := by decide +kernel
theorem dJ0_isLatin1_aae02_14 : decode cJ0_isLatin1_aae02 14 = .ok (.goto 4, 3) := by decide +kernel
theorem dJ0_isLatin1_aae02_17 : decode cJ0_isLatin1_aae02 17 = .ok (.iconst 0, 1) := by decide +kernel
theorem dJ0_isLatin1_aae02_18 : decode cJ0_isLatin1_aae02 18 = .ok (.ireturn, 1) := by decide +kernel
set_option maxRecDepth 20000 in
theorem ggJ0_checkIndex_df160_J3_checkIndex_8e157 : GoodIn wsJ0_checkIndex_df160 wsJ3_checkIndex_8e157 := goodIn_r _ [5] (by decide +kernel) (by decide +kernel)
set_option maxRecDepth 20000 in
theorem gJ0_checkIndex_df160_J3_checkIndex_8e157 : GoodIn wsJ0_checkIndex_df160 (va_wsS RJ0 1059 yJ3_checkIndex_8e157 wsJ3_checkIndex_8e157) := goodIn_app (goodIn_of _ (by decide +kernel)) ggJ0_checkIndex_df160_J3_checkIndex_8e157
theorem dJ0_checkIndex_df160_0 : decode cJ0_checkIndex_df160 0 = .ok (.iload_n 0, 1) := by decide +kernel
theorem dJ0_checkIndex_df160_1 : decode cJ0_checkIndex_df160 1 = .ok (.iload_n 1, 1) := by decide +kernel
theorem dJ0_checkIndex_df160_2 : decode cJ0_checkIndex_df160 2 = .ok (.getstatic 1053, 3) := by decide +kernel
theorem dJ0_checkIndex_df160_5 : decode cJ0_checkIndex_df160 5 = .ok (.invokestatic 1059, 3) := by decide +kernel
theorem dJ0_checkIndex_df160_8 : decode cJ0_checkIndex_df160 8 = .ok (.pop, 1) := by decide +kernel
theorem dJ0_checkIndex_df160_9 : decode cJ0_checkIndex_df160 9 = .ok (.return_, 1) := by decide +kernel
set_option maxRecDepth 20000 in
theorem ggJ1_charAt_3b067_J0_checkIndex_df160 : GoodIn wsJ1_charAt_3b067 wsJ0_checkIndex_df160 := goodIn_r _ [4, 5, 6, 7, 8, 9] (by decide +kernel) (by decide +kernel)
set_option maxRecDepth 20000 in
theorem gJ1_charAt_3b067_J0_checkIndex_df160 : GoodIn wsJ1_charAt_3b067 (va_wsS RJ1 9 yJ0_checkIndex_df160 wsJ0_checkIndex_df160) := goodIn_app (goodIn_of _ (by decide +kernel)) ggJ1_charAt_3b067_J0_checkIndex_df160
theorem dJ1_charAt_3b067_0 : decode cJ1_charAt_3b067 0 = .ok (.iload_n 1, 1) := by decide +kernel
theorem dJ1_charAt_3b067_1 : decode cJ1_charAt_3b067 1 = .ok (.aload_n 0, 1) := by decide +kernel
theorem dJ1_charAt_3b067_2 : decode cJ1_charAt_3b067 2 = .ok (.arraylength, 1) := by decide +kernel
theorem dJ1_charAt_3b067_3 : decode cJ1_charAt_3b067 3 = .ok (.invokestatic 9, 3) := by decide +kernel
theorem dJ1_charAt_3b067_6 : decode cJ1_charAt_3b067 6 = .ok (.aload_n 0, 1) := by decide +kernel
theorem dJ1_charAt_3b067_7 : decode cJ1_charAt_3b067 7 = .ok (.iload_n 1, 1) := by decide +kernel
theorem dJ1_charAt_3b067_8 : decode cJ1_charAt_3b067 8 = .ok (.baload, 1) := by decide +kernel
theorem dJ1_charAt_3b067_9 : decode cJ1_charAt_3b067 9 = .ok (.sipush 255, 3) := by decide +kernel
theorem dJ1_charAt_3b067_12 : decode cJ1_charAt_3b067 12 = .ok (.iand, 1) := by decide +kernel
theorem dJ1_charAt_3b067_13 : decode cJ1_charAt_3b067 13 = .ok (.i2c, 1) := by decide +kernel
theorem dJ1_charAt_3b067_14 : decode cJ1_charAt_3b067 14 = .ok (.ireturn, 1) := by decide +kernel
set_option maxRecDepth 20000 in
theorem ggJ2_getChar_3b067_J2_length_9d52b : GoodIn wsJ2_getChar_3b067 wsJ2_length_9d52b := goodIn_r _ [7] (by decide +kernel) (by decide +kernel)
set_option maxRecDepth 20000 in
theorem gJ2_getChar_3b067_J2_length_9d52b : GoodIn wsJ2_getChar_3b067 (va_wsS RJ2 48 yJ2_length_9d52b wsJ2_length_9d52b) := goodIn_app (goodIn_of _ (by decide +kernel)) ggJ2_getChar_3b067_J2_length_9d52b
theorem dJ2_getChar_3b067_0 : decode cJ2_getChar_3b067 0 = .ok (.getstatic 44, 3) := by decide +kernel
theorem dJ2_getChar_3b067_3 : decode cJ2_getChar_3b067 3 = .ok (.ifCond .ne 25, 3) := by decide +kernel
theorem dJ2_getChar_3b067_6 : decode cJ2_getChar_3b067 6 = .ok (.iload_n 1, 1) := by decide +kernel
theorem dJ2_getChar_3b067_7 : decode cJ2_getChar_3b067 7 = .ok (.ifCond .lt 11, 3) := by decide +kernel
theorem dJ2_getChar_3b067_10 : decode cJ2_getChar_3b067 10 = .ok (.iload_n 1, 1) := by decide +kernel
theorem dJ2_getChar_3b067_11 : decode cJ2_getChar_3b067 11 = .ok (.aload_n 0, 1) := by decide +kernel
theorem dJ2_getChar_3b067_12 : decode cJ2_getChar_3b067 12 = .ok (.invokestatic 48, 3) := by decide +kernel
theorem dJ2_getChar_3b067_15 : decode cJ2_getChar_3b067 15 = .ok (.if_icmp .lt 13, 3) := by decide +kernel
theorem dJ2_getChar_3b067_18 : decode cJ2_getChar_3b067 18 = .ok (.new 52, 3) := by decide +kernel
theorem dJ2_getChar_3b067_21 : decode cJ2_getChar_3b067 21 = .ok (.dup, 1) := by decide +kernel
theorem dJ2_getChar_3b067_22 : decode cJ2_getChar_3b067 22 = .ok (.ldc 54, 2) := by decide +kernel
theorem dJ2_getChar_3b067_24 : decode cJ2_getChar_3b067 24 = .ok (.invokespecial 56, 3) := by decide +kernel
theorem dJ2_getChar_3b067_27 : decode cJ2_getChar_3b067 27 = .ok (.athrow, 1) := by decide +kernel
theorem dJ2_getChar_3b067_28 : decode cJ2_getChar_3b067 28 = .ok (.iload_n 1, 1) := by decide +kernel
theorem dJ2_getChar_3b067_29 : decode cJ2_getChar_3b067 29 = .ok (.iconst 1, 1) := by decide +kernel
theorem dJ2_getChar_3b067_30 : decode cJ2_getChar_3b067 30 = .ok (.ishl, 1) := by decide +kernel
theorem dJ2_getChar_3b067_31 : decode cJ2_getChar_3b067 31 = .ok (.istore_n 1, 1) := by decide +kernel
theorem dJ2_getChar_3b067_32 : decode cJ2_getChar_3b067 32 = .ok (.aload_n 0, 1) := by decide +kernel
theorem dJ2_getChar_3b067_33 : decode cJ2_getChar_3b067 33 = .ok (.iload_n 1, 1) := by decide +kernel
theorem dJ2_getChar_3b067_34 : decode cJ2_getChar_3b067 34 = .ok (.iinc 1 1, 3) := by decide +kernel
theorem dJ2_getChar_3b067_37 : decode cJ2_getChar_3b067 37 = .ok (.baload, 1) := by decide +kernel
theorem dJ2_getChar_3b067_38 : decode cJ2_getChar_3b067 38 = .ok (.sipush 255, 3) := by decide +kernel
theorem dJ2_getChar_3b067_41 : decode cJ2_getChar_3b067 41 = .ok (.iand, 1) := by decide +kernel
theorem dJ2_getChar_3b067_42 : decode cJ2_getChar_3b067 42 = .ok (.getstatic 59, 3) := by decide +kernel
theorem dJ2_getChar_3b067_45 : decode cJ2_getChar_3b067 45 = .ok (.ishl, 1) := by decide +kernel
theorem dJ2_getChar_3b067_46 : decode cJ2_getChar_3b067 46 = .ok (.aload_n 0, 1) := by decide +kernel
theorem dJ2_getChar_3b067_47 : decode cJ2_getChar_3b067 47 = .ok (.iload_n 1, 1) := by decide +kernel
theorem dJ2_getChar_3b067_48 : decode cJ2_getChar_3b067 48 = .ok (.baload, 1) := by decide +kernel
theorem dJ2_getChar_3b067_49 : decode cJ2_getChar_3b067 49 = .ok (.sipush 255, 3) := by decide +kernel
theorem dJ2_getChar_3b067_52 : decode cJ2_getChar_3b067 52 = .ok (.iand, 1) := by decide +kernel
theorem dJ2_getChar_3b067_53 : decode cJ2_getChar_3b067 53 = .ok (.getstatic 63, 3) := by decide +kernel
theorem dJ2_getChar_3b067_56 : decode cJ2_getChar_3b067 56 = .ok (.ishl, 1) := by decide +kernel
theorem dJ2_getChar_3b067_57 : decode cJ2_getChar_3b067 57 = .ok (.ior, 1) := by decide +kernel
theorem dJ2_getChar_3b067_58 : decode cJ2_getChar_3b067 58 = .ok (.i2c, 1) := by decide +kernel
theorem dJ2_getChar_3b067_59 : decode cJ2_getChar_3b067 59 = .ok (.ireturn, 1) := by decide +kernel
theorem dJ2_length_9d52b_0 : decode cJ2_length_9d52b 0 = .ok (.aload_n 0, 1) := by decide +kernel
theorem dJ2_length_9d52b_1 : decode cJ2_length_9d52b 1 = .ok (.arraylength, 1) := by decide +kernel
theorem dJ2_length_9d52b_2 : decode cJ2_length_9d52b 2 = .ok (.iconst 1, 1) := by decide +kernel
theorem dJ2_length_9d52b_3 : decode cJ2_length_9d52b 3 = .ok (.ishr, 1) := by decide +kernel
theorem dJ2_length_9d52b_4 : decode cJ2_length_9d52b 4 = .ok (.ireturn, 1) := by decide +kernel
set_option maxRecDepth 20000 in
theorem ggJ2_charAt_3b067_J2_checkIndex_2214a : GoodIn wsJ2_charAt_3b067 wsJ2_checkIndex_2214a := goodIn_r _ [4, 5, 6, 3, 7, 8, 9, 10, 11, 12, 13, 14, 15, 16] (by decide +kernel) (by decide +kernel)
set_option maxRecDepth 20000 in
theorem gJ2_charAt_3b067_J2_checkIndex_2214a : GoodIn wsJ2_charAt_3b067 (va_wsS RJ2 67 yJ2_checkIndex_2214a wsJ2_checkIndex_2214a) := goodIn_app (goodIn_of _ (by decide +kernel)) ggJ2_charAt_3b067_J2_checkIndex_2214a
set_option maxRecDepth 20000 in
theorem ggJ2_charAt_3b067_J2_getChar_3b067 : GoodIn wsJ2_charAt_3b067 wsJ2_getChar_3b067 := goodIn_r _ [19, 20, 21, 22, 5, 6, 3, 7] (by decide +kernel) (by decide +kernel)
set_option maxRecDepth 20000 in
theorem gJ2_charAt_3b067_J2_getChar_3b067 : GoodIn wsJ2_charAt_3b067 (va_wsS RJ2 71 yJ2_getChar_3b067 wsJ2_getChar_3b067) := goodIn_app (goodIn_of _ (by decide +kernel)) ggJ2_charAt_3b067_J2_getChar_3b067
theorem dJ2_charAt_3b067_0 : decode cJ2_charAt_3b067 0 = .ok (.iload_n 1, 1) := by decide +kernel
theorem dJ2_charAt_3b067_1 : decode cJ2_charAt_3b067 1 = .ok (.aload_n 0, 1) := by decide +kernel
theorem dJ2_charAt_3b067_2 : decode cJ2_charAt_3b067 2 = .ok (.invokestatic 67, 3) := by decide +kernel
theorem dJ2_charAt_3b067_5 : decode cJ2_charAt_3b067 5 = .ok (.aload_n 0, 1) := by decide +kernel
theorem dJ2_charAt_3b067_6 : decode cJ2_charAt_3b067 6 = .ok (.iload_n 1, 1) := by decide +kernel
theorem dJ2_charAt_3b067_7 : decode cJ2_charAt_3b067 7 = .ok (.invokestatic 71, 3) := by decide +kernel
theorem dJ2_charAt_3b067_10 : decode cJ2_charAt_3b067 10 = .ok (.ireturn, 1) := by decide +kernel
set_option maxRecDepth 20000 in
theorem ggJ2_checkIndex_2214a_J2_length_9d52b : GoodIn wsJ2_checkIndex_2214a wsJ2_length_9d52b := goodIn_r _ [4] (by decide +kernel) (by decide +kernel)
set_option maxRecDepth 20000 in
theorem gJ2_checkIndex_2214a_J2_length_9d52b : GoodIn wsJ2_checkIndex_2214a (va_wsS RJ2 48 yJ2_length_9d52b wsJ2_length_9d52b) := goodIn_app (goodIn_of _ (by decide +kernel)) ggJ2_checkIndex_2214a_J2_length_9d52b
set_option maxRecDepth 20000 in
theorem ggJ2_checkIndex_2214a_J0_checkIndex_df160 : GoodIn wsJ2_checkIndex_2214a wsJ0_checkIndex_df160 := goodIn_r _ [8, 9, 10, 11, 12, 13] (by decide +kernel) (by decide +kernel)
set_option maxRecDepth 20000 in
theorem gJ2_checkIndex_2214a_J0_checkIndex_df160 : GoodIn wsJ2_checkIndex_2214a (va_wsS RJ2 414 yJ0_checkIndex_df160 wsJ0_checkIndex_df160) := goodIn_app (goodIn_of _ (by decide +kernel)) ggJ2_checkIndex_2214a_J0_checkIndex_df160
theorem dJ2_checkIndex_2214a_0 : decode cJ2_checkIndex_2214a 0 = .ok (.iload_n 0, 1) := by decide +kernel
theorem dJ2_checkIndex_2214a_1 : decode cJ2_checkIndex_2214a 1 = .ok (.aload_n 1, 1) := by decide +kernel
theorem dJ2_checkIndex_2214a_2 : decode cJ2_checkIndex_2214a 2 = .ok (.invokestatic 48, 3) := by decide +kernel
theorem dJ2_checkIndex_2214a_5 : decode cJ2_checkIndex_2214a 5 = .ok (.invokestatic 414, 3) := by decide +kernel
theorem dJ2_checkIndex_2214a_8 : decode cJ2_checkIndex_2214a 8 = .ok (.return_, 1) := by decide +kernel
theorem dJ3_checkIndex_8e157_0 : decode cJ3_checkIndex_8e157 0 = .ok (.iload_n 0, 1) := by decide +kernel
theorem dJ3_checkIndex_8e157_1 : decode cJ3_checkIndex_8e157 1 = .ok (.ifCond .lt 8, 3) := by decide +kernel
theorem dJ3_checkIndex_8e157_4 : decode cJ3_checkIndex_8e157 4 = .ok (.iload_n 0, 1) := by decide +kernel
theorem dJ3_checkIndex_8e157_5 : decode cJ3_checkIndex_8e157 5 = .ok (.iload_n 1, 1) := by decide +kernel
theorem dJ3_checkIndex_8e157_6 : decode cJ3_checkIndex_8e157 6 = .ok (.if_icmp .lt 10, 3) := by decide +kernel
theorem dJ3_checkIndex_8e157_9 : decode cJ3_checkIndex_8e157 9 = .ok (.aload_n 2, 1) := by decide +kernel
theorem dJ3_checkIndex_8e157_10 : decode cJ3_checkIndex_8e157 10 = .ok (.iload_n 0, 1) := by decide +kernel
theorem dJ3_checkIndex_8e157_11 : decode cJ3_checkIndex_8e157 11 = .ok (.iload_n 1, 1) := by decide +kernel
theorem dJ3_checkIndex_8e157_12 : decode cJ3_checkIndex_8e157 12 = .ok (.invokestatic 95, 3) := by decide +kernel
theorem dJ3_checkIndex_8e157_15 : decode cJ3_checkIndex_8e157 15 = .ok (.athrow, 1) := by decide +kernel
theorem dJ3_checkIndex_8e157_16 : decode cJ3_checkIndex_8e157 16 = .ok (.iload_n 0, 1) := by decide +kernel
theorem dJ3_checkIndex_8e157_17 : decode cJ3_checkIndex_8e157 17 = .ok (.ireturn, 1) := by decide +kernel
set_option maxRecDepth 20000 in
theorem ggL_law_X10_init : GoodIn wsL_law wsX10_init := goodIn_r _ [8, 9, 10, 11, 12, 13, 14, 15, 16, 17, 18, 19, 20, 21, 22, 23, 24, 25, 26, 27, 28, 29, 30, 31, 32, 33, 34, 35, 36, 37, 38, 39, 40, 41, 42, 43, 44, 45, 46, 47, 48, 49, 50, 51, 52, 53, 54, 55, 56, 57, 58, 59, 60, 61, 62, 63, 64, 65, 66, 67, 68, 69, 70, 71, 72, 73, 74, 75, 76, 77, 78, 79, 80, 81, 82, 83, 84, 85, 86, 87, 88, 89, 90, 91, 92, 93, 94, 95, 96, 97, 98, 99, 999, 1000, 1001, 1002, 1003, 1004, 1005, 1006, 1007, 1008, 1009, 1010, 1029, 1030, 1031, 1032, 1033, 1034, 1035, 1036, 1037, 1038, 1039, 1040, 1041, 1042, 1043, 1044, 1045, 1046, 1047, 1048, 1049, 1050, 1051, 1052, 1053, 1054, 1055, 1056, 1057, 1058, 1059, 1060] (by decide +kernel) (by decide +kernel)
set_option maxRecDepth 20000 in
theorem gL_law_X10_init : GoodIn wsL_law (wsX10_init) := ggL_law_X10_init
set_option maxRecDepth 20000 in
theorem ggL_law_X11_init : GoodIn wsL_law wsX11_init := goodIn_r _ [102, 103, 10, 11, 50, 104, 105, 36, 106, 107, 108, 109, 110, 111, 112, 113, 114, 115, 116, 117, 5, 118, 1011, 1012, 1013, 1014, 1015, 1016, 1017, 1018, 1019, 1020, 1021, 1022, 1023, 1024, 1025, 1026, 1027, 1028] (by decide +kernel) (by decide +kernel)
set_option maxRecDepth 20000 in
theorem gL_law_X11_init : GoodIn wsL_law (wsX11_init) := ggL_law_X11_init
set_option maxRecDepth 20000 in
theorem ggL_law_X10_parish : GoodIn wsL_law wsX10_parish := goodIn_r _ [122, 34, 123, 124, 125, 2, 126, 127, 128, 129, 130, 53, 131, 132, 133, 33, 134, 135, 136, 137, 138, 139, 75, 140, 141, 142, 999, 1000, 1001, 1002, 1003, 1004, 1005, 1006, 1007, 1008, 1009, 1010, 1029, 1030, 1031, 1032, 1033, 1034, 1035, 1036, 1037, 1038, 1039, 1052, 1053, 1054, 1055, 1056, 1057] (by decide +kernel) (by decide +kernel)
set_option maxRecDepth 20000 in
theorem gL_law_X10_parish : GoodIn wsL_law (wsV RL 13 RX10 yX10_parish wsX10_parish) := goodIn_app (goodIn_of _ (by decide +kernel)) ggL_law_X10_parish
set_option maxRecDepth 20000 in
theorem ggL_law_X11_parish : GoodIn wsL_law wsX11_parish := goodIn_r _ [146, 104, 147, 148, 5, 149, 150, 151, 152, 153, 154, 155, 156, 157, 107, 158, 159, 160, 161, 116, 117, 118, 1011, 1012, 1013, 1014, 1015, 1016, 1017, 1018, 1019, 1020, 1021, 1022, 1023, 1024, 1025, 1026, 1027, 1028] (by decide +kernel) (by decide +kernel)
set_option maxRecDepth 20000 in
theorem gL_law_X11_parish : GoodIn wsL_law (wsV RL 17 RX11 yX11_parish wsX11_parish) := goodIn_app (goodIn_of _ (by decide +kernel)) ggL_law_X11_parish
set_option maxRecDepth 20000 in
theorem ggL_law_X10_field : GoodIn wsL_law wsX10_field := goodIn_r _ [165, 34, 123, 124, 125, 2, 126, 166, 167, 168, 169, 170, 171, 127, 128, 129, 130, 53, 172, 173, 174, 175, 176, 177, 178, 33, 179, 73, 135, 75, 180, 137, 999, 1000, 1001, 1002, 1003, 1004, 1005, 1006, 1007, 1008, 1009, 1010, 1029, 1030, 1031, 1032, 1033, 1034, 1035, 1036, 1037, 1038, 1039, 1052, 1053, 1054, 1055, 1056, 1057] (by decide +kernel) (by decide +kernel)
set_option maxRecDepth 20000 in
theorem gL_law_X10_field : GoodIn wsL_law (wsV RL 18 RX10 yX10_field wsX10_field) := goodIn_app (goodIn_of _ (by decide +kernel)) ggL_law_X10_field
set_option maxRecDepth 20000 in
theorem ggL_law_X11_field : GoodIn wsL_law wsX11_field := goodIn_r _ [184, 185, 104, 151, 152, 5, 153, 186, 187, 188, 189, 154, 155, 156, 157, 107, 158, 159, 160, 161, 190, 191, 192, 193, 194, 195, 196, 1011, 1012, 1013, 1014, 1015, 1016, 1017, 1018, 1019, 1020, 1021, 1022, 1023, 1024, 1025, 1026, 1027, 1028] (by decide +kernel) (by decide +kernel)
set_option maxRecDepth 20000 in
theorem gL_law_X11_field : GoodIn wsL_law (wsV RL 22 RX11 yX11_field wsX11_field) := goodIn_app (goodIn_of _ (by decide +kernel)) ggL_law_X11_field
set_option maxRecDepth 20000 in
theorem ggL_law_X10_gleaner : GoodIn wsL_law wsX10_gleaner := goodIn_r _ [200, 34, 201, 202, 203, 204, 33, 205, 135, 125, 2, 126, 127, 128, 129, 130, 53, 172, 173, 174, 175, 206, 207, 208, 209, 75, 210, 136, 211, 137, 999, 1000, 1001, 1002, 1003, 1004, 1005, 1006, 1007, 1008, 1009, 1010, 1029, 1030, 1031, 1032, 1033, 1034, 1035, 1036, 1037, 1038, 1039, 1052, 1053, 1054, 1055, 1056, 1057] (by decide +kernel) (by decide +kernel)
set_option maxRecDepth 20000 in
theorem gL_law_X10_gleaner : GoodIn wsL_law (wsV RL 23 RX10 yX10_gleaner wsX10_gleaner) := goodIn_app (goodIn_of _ (by decide +kernel)) ggL_law_X10_gleaner
set_option maxRecDepth 20000 in
theorem ggL_law_X11_gleaner : GoodIn wsL_law wsX11_gleaner := goodIn_r _ [215, 104, 216, 217, 218, 5, 219, 158, 159, 160, 161, 151, 152, 153, 154, 155, 156, 157, 107, 220, 221, 222, 223, 190, 191, 192, 193, 224, 225, 226, 1011, 1012, 1013, 1014, 1015, 1016, 1017, 1018, 1019, 1020, 1021, 1022, 1023, 1024, 1025, 1026, 1027, 1028] (by decide +kernel) (by decide +kernel)
set_option maxRecDepth 20000 in
theorem gL_law_X11_gleaner : GoodIn wsL_law (wsV RL 26 RX11 yX11_gleaner wsX11_gleaner) := goodIn_app (goodIn_of _ (by decide +kernel)) ggL_law_X11_gleaner
set_option maxRecDepth 20000 in
theorem ggL_law_X10_type : GoodIn wsL_law wsX10_type := goodIn_r _ [230, 41, 231, 124, 125, 2, 126, 127, 128, 129, 130, 53, 172, 173, 174, 175, 232, 233, 234, 40, 235, 91, 236, 999, 1000, 1001, 1002, 1003, 1004, 1005, 1006, 1007, 1008, 1009, 1010, 1040, 1041, 1042, 1043, 1044, 1045, 1046, 1047, 1048, 1049, 1050, 1051] (by decide +kernel) (by decide +kernel)
set_option maxRecDepth 20000 in
theorem gL_law_X10_type : GoodIn wsL_law (wsV RL 27 RX10 yX10_type wsX10_type) := goodIn_app (goodIn_of _ (by decide +kernel)) ggL_law_X10_type
set_option maxRecDepth 20000 in
theorem ggL_law_X11_type : GoodIn wsL_law wsX11_type := goodIn_r _ [240, 241, 242, 113, 151, 152, 5, 153, 154, 155, 156, 157, 107, 190, 191, 192, 193, 1011, 1012, 1013, 1014, 1015, 1016, 1017, 1018, 1019, 1020, 1021, 1022, 1023, 1024, 1025, 1026, 1027, 1028] (by decide +kernel) (by decide +kernel)
set_option maxRecDepth 20000 in
theorem gL_law_X11_type : GoodIn wsL_law (wsV RL 30 RX11 yX11_type wsX11_type) := goodIn_app (goodIn_of _ (by decide +kernel)) ggL_law_X11_type
set_option maxRecDepth 20000 in
theorem ggL_law_X10_clear : GoodIn wsL_law wsX10_clear := goodIn_r _ [246, 41, 231, 999, 1000, 1001, 1002, 1003, 1004, 1005, 1006, 1007, 1008, 1009, 1010, 1040, 1041, 1042, 1043, 1044, 1045, 1046, 1047, 1048, 1049, 1050, 1051] (by decide +kernel) (by decide +kernel)
set_option maxRecDepth 20000 in
theorem gL_law_X10_clear : GoodIn wsL_law (wsV RL 31 RX10 yX10_clear wsX10_clear) := goodIn_app (goodIn_of _ (by decide +kernel)) ggL_law_X10_clear
set_option maxRecDepth 20000 in
theorem ggL_law_X11_clear : GoodIn wsL_law wsX11_clear := goodIn_r _ [250, 242, 1011, 1012, 1013, 1014, 1015, 1016, 1017, 1018, 1019, 1020, 1021, 1022, 1023, 1024, 1025, 1026, 1027, 1028] (by decide +kernel) (by decide +kernel)
set_option maxRecDepth 20000 in
theorem gL_law_X11_clear : GoodIn wsL_law (wsV RL 35 RX11 yX11_clear wsX11_clear) := goodIn_app (goodIn_of _ (by decide +kernel)) ggL_law_X11_clear
set_option maxRecDepth 20000 in
theorem ggL_law_X10_read : GoodIn wsL_law wsX10_read := goodIn_r _ [254, 41, 34, 255, 256, 257, 258, 259, 260, 261, 40, 262, 263, 264, 265, 266, 267, 268, 269, 270, 271, 272, 236, 91, 273, 274, 275, 276, 277, 278, 279, 280, 281, 282, 283, 284, 285, 286, 287, 288, 289, 290, 291, 292, 293, 294, 295, 92, 93, 94, 296, 297, 298, 299, 300, 301, 302, 303, 304, 305, 306, 307, 308, 309, 310, 311, 312, 313, 314, 315, 316, 317, 318, 319, 320, 321, 322, 323, 324, 325, 326, 327, 328, 329, 330, 331, 332, 333, 334, 335, 336, 337, 338, 339, 340, 341, 342, 343, 344, 345, 346, 347, 348, 349, 350, 351, 352, 353, 354, 355, 356, 170, 2, 171, 131, 132, 133, 33, 134, 135, 136, 137, 138, 139, 75, 140, 141, 142, 176, 177, 178, 179, 73, 180, 206, 207, 208, 209, 210, 211, 357, 358, 359, 360, 361, 362, 363, 364, 365, 366, 367, 368, 369, 370, 371, 372, 80, 373, 374, 375, 376, 377, 26, 378, 379, 380, 381, 382, 383, 384, 385, 386, 17, 387, 388, 389, 390, 14, 391, 392, 393, 394, 29, 395, 396, 397, 398, 399, 20, 400, 401, 402, 403, 404, 405, 406, 23, 407, 408, 409, 410, 411, 412, 413, 414, 415, 416, 417, 418, 419, 420, 999, 1000, 1001, 1002, 1003, 1004, 1005, 1006, 1007, 1008, 1009, 1010, 1040, 1041, 1042, 1043, 1044, 1045, 1046, 1047, 1048, 1049, 1050, 1051, 1029, 1030, 1031, 1032, 1033, 1034, 1035, 1036, 1037, 1038, 1039, 1052, 1053, 1054, 1055, 1056, 1057] (by decide +kernel) (by decide +kernel)
set_option maxRecDepth 20000 in
theorem gL_law_X10_read : GoodIn wsL_law (wsV RL 36 RX10 yX10_read wsX10_read) := goodIn_app (goodIn_of _ (by decide +kernel)) ggL_law_X10_read
set_option maxRecDepth 20000 in
theorem ggL_law_X11_read : GoodIn wsL_law wsX11_read := goodIn_r _ [424, 425, 426, 104, 114, 427, 428, 429, 5, 430, 242, 113, 431, 432, 433, 434, 435, 436, 437, 151, 152, 153, 438, 439, 440, 441, 442, 443, 444, 445, 446, 115, 447, 448, 449, 450, 451, 452, 453, 454, 455, 456, 457, 458, 116, 117, 118, 459, 460, 461, 462, 463, 464, 465, 466, 194, 195, 196, 467, 468, 469, 470, 471, 472, 473, 474, 475, 476, 477, 478, 479, 480, 481, 482, 483, 484, 485, 486, 487, 488, 489, 490, 491, 492, 493, 494, 495, 496, 224, 225, 226, 1011, 1012, 1013, 1014, 1015, 1016, 1017, 1018, 1019, 1020, 1021, 1022, 1023, 1024, 1025, 1026, 1027, 1028] (by decide +kernel) (by decide +kernel)
set_option maxRecDepth 20000 in
theorem gL_law_X11_read : GoodIn wsL_law (wsV RL 39 RX11 yX11_read wsX11_read) := goodIn_app (goodIn_of _ (by decide +kernel)) ggL_law_X11_read
set_option maxRecDepth 20000 in
theorem ggL_law_X10_glean : GoodIn wsL_law wsX10_glean := goodIn_r _ [500, 34, 258, 501, 169, 170, 2, 171, 127, 128, 129, 130, 53, 502, 503, 504, 505, 506, 507, 508, 33, 509, 137, 76, 75, 510, 511, 512, 513, 514, 515, 516, 44, 517, 84, 518, 519, 520, 521, 85, 86, 522, 523, 524, 357, 358, 359, 360, 135, 140, 361, 362, 363, 364, 365, 366, 367, 368, 136, 210, 369, 370, 371, 372, 80, 73, 180, 141, 373, 374, 375, 376, 377, 26, 378, 379, 380, 381, 382, 383, 384, 385, 386, 17, 387, 388, 389, 390, 14, 391, 392, 393, 394, 29, 395, 396, 397, 398, 399, 20, 400, 401, 402, 403, 404, 405, 406, 23, 407, 408, 409, 410, 411, 412, 413, 414, 415, 416, 417, 418, 211, 419, 420, 999, 1000, 1001, 1002, 1003, 1004, 1005, 1006, 1007, 1008, 1009, 1010, 1029, 1030, 1031, 1032, 1033, 1034, 1035, 1036, 1037, 1038, 1039, 1052, 1053, 1054, 1055, 1056, 1057] (by decide +kernel) (by decide +kernel)
set_option maxRecDepth 20000 in
theorem gL_law_X10_glean : GoodIn wsL_law (wsV RL 40 RX10 yX10_glean wsX10_glean) := goodIn_app (goodIn_of _ (by decide +kernel)) ggL_law_X10_glean
set_option maxRecDepth 20000 in
theorem ggL_law_X11_glean : GoodIn wsL_law wsX11_glean := goodIn_r _ [528, 529, 104, 151, 152, 5, 153, 154, 155, 156, 157, 107, 530, 531, 532, 533, 534, 535, 536, 537, 471, 472, 473, 474, 475, 476, 477, 478, 479, 480, 481, 482, 483, 484, 485, 486, 487, 488, 1011, 1012, 1013, 1014, 1015, 1016, 1017, 1018, 1019, 1020, 1021, 1022, 1023, 1024, 1025, 1026, 1027, 1028] (by decide +kernel) (by decide +kernel)
set_option maxRecDepth 20000 in
theorem gL_law_X11_glean : GoodIn wsL_law (wsV RL 43 RX11 yX11_glean wsX11_glean) := goodIn_app (goodIn_of _ (by decide +kernel)) ggL_law_X11_glean
set_option maxRecDepth 20000 in
theorem ggL_law_X10_night : GoodIn wsL_law wsX10_night := goodIn_r _ [541, 34, 258, 542, 506, 507, 508, 33, 509, 137, 76, 75, 510, 511, 512, 513, 514, 515, 516, 44, 517, 84, 518, 519, 520, 521, 85, 86, 522, 523, 524, 543, 544, 545, 546, 136, 211, 135, 180, 419, 409, 381, 410, 142, 140, 547, 2, 548, 999, 1000, 1001, 1002, 1003, 1004, 1005, 1006, 1007, 1008, 1009, 1010, 1029, 1030, 1031, 1032, 1033, 1034, 1035, 1036, 1037, 1038, 1039, 1052, 1053, 1054, 1055, 1056, 1057] (by decide +kernel) (by decide +kernel)
set_option maxRecDepth 20000 in
theorem gL_law_X10_night : GoodIn wsL_law (wsV RL 44 RX10 yX10_night wsX10_night) := goodIn_app (goodIn_of _ (by decide +kernel)) ggL_law_X10_night
set_option maxRecDepth 20000 in
theorem ggL_law_X11_night : GoodIn wsL_law wsX11_night := goodIn_r _ [552, 104, 534, 535, 536, 5, 537, 553, 554, 555, 556, 557, 558, 1011, 1012, 1013, 1014, 1015, 1016, 1017, 1018, 1019, 1020, 1021, 1022, 1023, 1024, 1025, 1026, 1027, 1028] (by decide +kernel) (by decide +kernel)
set_option maxRecDepth 20000 in
theorem gL_law_X11_night : GoodIn wsL_law (wsV RL 47 RX11 yX11_night wsX11_night) := goodIn_app (goodIn_of _ (by decide +kernel)) ggL_law_X11_night
set_option maxRecDepth 20000 in
theorem ggL_law_X10_goes : GoodIn wsL_law wsX10_goes := goodIn_r _ [562, 34, 258, 563, 564, 565, 566, 33, 567, 136, 125, 2, 126, 202, 203, 204, 205, 135, 127, 128, 129, 130, 53, 506, 507, 508, 509, 137, 76, 75, 510, 511, 512, 513, 514, 515, 516, 44, 517, 84, 518, 519, 520, 521, 85, 86, 522, 523, 524, 999, 1000, 1001, 1002, 1003, 1004, 1005, 1006, 1007, 1008, 1009, 1010, 1029, 1030, 1031, 1032, 1033, 1034, 1035, 1036, 1037, 1038, 1039, 1052, 1053, 1054, 1055, 1056, 1057] (by decide +kernel) (by decide +kernel)
set_option maxRecDepth 20000 in
theorem gL_law_X10_goes : GoodIn wsL_law (wsV RL 48 RX10 yX10_goes wsX10_goes) := goodIn_app (goodIn_of _ (by decide +kernel)) ggL_law_X10_goes
set_option maxRecDepth 20000 in
theorem ggL_law_X11_goes : GoodIn wsL_law wsX11_goes := goodIn_r _ [571, 104, 572, 573, 574, 5, 575, 220, 221, 222, 223, 151, 152, 153, 216, 217, 218, 219, 158, 159, 160, 161, 154, 155, 156, 157, 107, 534, 535, 536, 537, 1011, 1012, 1013, 1014, 1015, 1016, 1017, 1018, 1019, 1020, 1021, 1022, 1023, 1024, 1025, 1026, 1027, 1028] (by decide +kernel) (by decide +kernel)
set_option maxRecDepth 20000 in
theorem gL_law_X11_goes : GoodIn wsL_law (wsV RL 51 RX11 yX11_goes wsX11_goes) := goodIn_app (goodIn_of _ (by decide +kernel)) ggL_law_X11_goes
set_option maxRecDepth 20000 in
theorem ggL_law_X10_cloud : GoodIn wsL_law wsX10_cloud := goodIn_r _ [579, 34, 258, 580, 124, 125, 2, 126, 127, 128, 129, 130, 53, 506, 507, 508, 33, 509, 137, 76, 75, 510, 511, 512, 513, 514, 515, 516, 44, 517, 84, 518, 519, 520, 521, 85, 86, 522, 523, 524, 999, 1000, 1001, 1002, 1003, 1004, 1005, 1006, 1007, 1008, 1009, 1010, 1029, 1030, 1031, 1032, 1033, 1034, 1035, 1036, 1037, 1038, 1039, 1052, 1053, 1054, 1055, 1056, 1057] (by decide +kernel) (by decide +kernel)
set_option maxRecDepth 20000 in
theorem gL_law_X10_cloud : GoodIn wsL_law (wsV RL 52 RX10 yX10_cloud wsX10_cloud) := goodIn_app (goodIn_of _ (by decide +kernel)) ggL_law_X10_cloud
set_option maxRecDepth 20000 in
theorem ggL_law_X11_cloud : GoodIn wsL_law wsX11_cloud := goodIn_r _ [584, 104, 147, 148, 5, 149, 150, 151, 152, 153, 154, 155, 156, 157, 107, 534, 535, 536, 537, 1011, 1012, 1013, 1014, 1015, 1016, 1017, 1018, 1019, 1020, 1021, 1022, 1023, 1024, 1025, 1026, 1027, 1028] (by decide +kernel) (by decide +kernel)
set_option maxRecDepth 20000 in
theorem gL_law_X11_cloud : GoodIn wsL_law (wsV RL 55 RX11 yX11_cloud wsX11_cloud) := goodIn_app (goodIn_of _ (by decide +kernel)) ggL_law_X11_cloud
set_option maxRecDepth 20000 in
theorem ggL_law_X10_undo : GoodIn wsL_law wsX10_undo := goodIn_r _ [588, 34, 589, 258, 501, 502, 503, 504, 2, 505, 53, 590, 591, 592, 33, 593, 137, 75, 76, 514, 515, 516, 44, 517, 84, 518, 519, 520, 521, 85, 86, 522, 523, 524, 999, 1000, 1001, 1002, 1003, 1004, 1005, 1006, 1007, 1008, 1009, 1010, 1029, 1030, 1031, 1032, 1033, 1034, 1035, 1036, 1037, 1038, 1039, 1052, 1053, 1054, 1055, 1056, 1057] (by decide +kernel) (by decide +kernel)
set_option maxRecDepth 20000 in
theorem gL_law_X10_undo : GoodIn wsL_law (wsV RL 56 RX10 yX10_undo wsX10_undo) := goodIn_app (goodIn_of _ (by decide +kernel)) ggL_law_X10_undo
set_option maxRecDepth 20000 in
theorem ggL_law_X11_undo : GoodIn wsL_law wsX11_undo := goodIn_r _ [597, 104, 530, 531, 532, 5, 533, 107, 1011, 1012, 1013, 1014, 1015, 1016, 1017, 1018, 1019, 1020, 1021, 1022, 1023, 1024, 1025, 1026, 1027, 1028] (by decide +kernel) (by decide +kernel)
set_option maxRecDepth 20000 in
theorem gL_law_X11_undo : GoodIn wsL_law (wsV RL 59 RX11 yX11_undo wsX11_undo) := goodIn_app (goodIn_of _ (by decide +kernel)) ggL_law_X11_undo
set_option maxRecDepth 20000 in
theorem ggL_law_X10_of : GoodIn wsL_law wsX10_of := goodIn_r _ [601, 34, 602, 258, 603, 202, 203, 204, 33, 205, 135, 125, 2, 126, 124, 127, 128, 129, 130, 53, 604, 605, 606, 607, 136, 75, 210, 999, 1000, 1001, 1002, 1003, 1004, 1005, 1006, 1007, 1008, 1009, 1010, 1029, 1030, 1031, 1032, 1033, 1034, 1035, 1036, 1037, 1038, 1039, 1052, 1053, 1054, 1055, 1056, 1057] (by decide +kernel) (by decide +kernel)
set_option maxRecDepth 20000 in
theorem gL_law_X10_of : GoodIn wsL_law (wsV RL 60 RX10 yX10_of wsX10_of) := goodIn_app (goodIn_of _ (by decide +kernel)) ggL_law_X10_of
set_option maxRecDepth 20000 in
theorem ggL_law_X11_of : GoodIn wsL_law wsX11_of := goodIn_r _ [611, 612, 104, 216, 217, 218, 5, 219, 158, 159, 160, 161, 151, 152, 153, 154, 155, 156, 157, 107, 613, 614, 615, 616, 220, 221, 222, 223, 1011, 1012, 1013, 1014, 1015, 1016, 1017, 1018, 1019, 1020, 1021, 1022, 1023, 1024, 1025, 1026, 1027, 1028] (by decide +kernel) (by decide +kernel)
set_option maxRecDepth 20000 in
theorem gL_law_X11_of : GoodIn wsL_law (wsV RL 63 RX11 yX11_of wsX11_of) := goodIn_app (goodIn_of _ (by decide +kernel)) ggL_law_X11_of
set_option maxRecDepth 20000 in
theorem ggL_law_X10_about : GoodIn wsL_law wsX10_about := goodIn_r _ [620, 34, 258, 563, 621, 564, 565, 566, 33, 567, 136, 125, 2, 126, 124, 127, 128, 129, 130, 53, 622, 362, 363, 364, 140, 365, 366, 367, 368, 210, 369, 370, 371, 372, 80, 73, 180, 141, 373, 374, 375, 376, 377, 26, 378, 379, 380, 381, 382, 383, 384, 385, 386, 17, 387, 388, 389, 390, 14, 391, 392, 393, 394, 29, 395, 396, 397, 398, 399, 20, 400, 401, 402, 403, 404, 405, 406, 23, 407, 408, 409, 410, 411, 412, 413, 414, 999, 1000, 1001, 1002, 1003, 1004, 1005, 1006, 1007, 1008, 1009, 1010, 1029, 1030, 1031, 1032, 1033, 1034, 1035, 1036, 1037, 1038, 1039, 1052, 1053, 1054, 1055, 1056, 1057] (by decide +kernel) (by decide +kernel)
set_option maxRecDepth 20000 in
theorem gL_law_X10_about : GoodIn wsL_law (wsV RL 64 RX10 yX10_about wsX10_about) := goodIn_app (goodIn_of _ (by decide +kernel)) ggL_law_X10_about
set_option maxRecDepth 20000 in
theorem ggL_law_X11_about : GoodIn wsL_law wsX11_about := goodIn_r _ [626, 612, 104, 572, 573, 574, 5, 575, 220, 221, 222, 223, 151, 152, 153, 154, 155, 156, 157, 107, 627, 628, 629, 477, 478, 479, 480, 481, 482, 483, 484, 485, 486, 487, 488, 474, 475, 476, 1011, 1012, 1013, 1014, 1015, 1016, 1017, 1018, 1019, 1020, 1021, 1022, 1023, 1024, 1025, 1026, 1027, 1028] (by decide +kernel) (by decide +kernel)
set_option maxRecDepth 20000 in
theorem gL_law_X11_about : GoodIn wsL_law (wsV RL 67 RX11 yX11_about wsX11_about) := goodIn_app (goodIn_of _ (by decide +kernel)) ggL_law_X11_about
set_option maxRecDepth 20000 in
theorem ggL_law_X10_seen : GoodIn wsL_law wsX10_seen := goodIn_r _ [633, 34, 258, 202, 203, 204, 33, 205, 135, 125, 2, 126, 124, 127, 128, 129, 130, 53, 634, 370, 371, 372, 80, 73, 180, 141, 373, 374, 375, 376, 377, 26, 378, 379, 380, 381, 382, 383, 384, 385, 386, 17, 387, 388, 389, 390, 14, 391, 392, 393, 394, 29, 395, 396, 397, 398, 399, 20, 400, 401, 402, 403, 404, 405, 406, 23, 407, 408, 409, 410, 411, 412, 413, 414, 999, 1000, 1001, 1002, 1003, 1004, 1005, 1006, 1007, 1008, 1009, 1010, 1029, 1030, 1031, 1032, 1033, 1034, 1035, 1036, 1037, 1038, 1039, 1052, 1053, 1054, 1055, 1056, 1057] (by decide +kernel) (by decide +kernel)
set_option maxRecDepth 20000 in
theorem gL_law_X10_seen : GoodIn wsL_law (wsV RL 68 RX10 yX10_seen wsX10_seen) := goodIn_app (goodIn_of _ (by decide +kernel)) ggL_law_X10_seen
set_option maxRecDepth 20000 in
theorem ggL_law_X11_seen : GoodIn wsL_law wsX11_seen := goodIn_r _ [638, 104, 216, 217, 218, 5, 219, 158, 159, 160, 161, 151, 152, 153, 639, 640, 641, 642, 477, 478, 479, 480, 481, 482, 483, 484, 485, 486, 487, 488, 154, 155, 156, 157, 107, 1011, 1012, 1013, 1014, 1015, 1016, 1017, 1018, 1019, 1020, 1021, 1022, 1023, 1024, 1025, 1026, 1027, 1028] (by decide +kernel) (by decide +kernel)
set_option maxRecDepth 20000 in
theorem gL_law_X11_seen : GoodIn wsL_law (wsV RL 71 RX11 yX11_seen wsX11_seen) := goodIn_app (goodIn_of _ (by decide +kernel)) ggL_law_X11_seen
set_option maxRecDepth 20000 in
theorem ggL_law_X10_then : GoodIn wsL_law wsX10_then := goodIn_r _ [646, 34, 45, 258, 501, 647, 409, 381, 410, 621, 564, 565, 566, 33, 567, 136, 125, 2, 126, 169, 170, 171, 127, 128, 129, 130, 53, 648, 515, 516, 44, 517, 84, 518, 519, 520, 521, 85, 86, 522, 523, 524, 357, 358, 359, 360, 135, 140, 361, 362, 363, 364, 365, 366, 367, 368, 210, 369, 370, 371, 372, 80, 73, 180, 141, 373, 374, 375, 376, 377, 26, 378, 379, 380, 382, 383, 384, 385, 386, 17, 387, 388, 389, 390, 14, 391, 392, 393, 394, 29, 395, 396, 397, 398, 399, 20, 400, 401, 402, 403, 404, 405, 406, 23, 407, 408, 411, 412, 413, 414, 415, 416, 417, 418, 211, 419, 420, 999, 1000, 1001, 1002, 1003, 1004, 1005, 1006, 1007, 1008, 1009, 1010, 1029, 1030, 1031, 1032, 1033, 1034, 1035, 1036, 1037, 1038, 1039, 1052, 1053, 1054, 1055, 1056, 1057] (by decide +kernel) (by decide +kernel)
set_option maxRecDepth 20000 in
theorem gL_law_X10_then : GoodIn wsL_law (wsV RL 72 RX10 yX10_then wsX10_then) := goodIn_app (goodIn_of _ (by decide +kernel)) ggL_law_X10_then
set_option maxRecDepth 20000 in
theorem ggL_law_X11_then : GoodIn wsL_law wsX11_then := goodIn_r _ [652, 529, 109, 572, 573, 574, 5, 575, 220, 221, 222, 223, 104, 151, 152, 153, 154, 155, 156, 157, 107, 653, 654, 655, 656, 471, 472, 473, 474, 475, 476, 477, 478, 479, 480, 481, 482, 483, 484, 485, 486, 487, 488, 1011, 1012, 1013, 1014, 1015, 1016, 1017, 1018, 1019, 1020, 1021, 1022, 1023, 1024, 1025, 1026, 1027, 1028] (by decide +kernel) (by decide +kernel)
set_option maxRecDepth 20000 in
theorem gL_law_X11_then : GoodIn wsL_law (wsV RL 75 RX11 yX11_then wsX11_then) := goodIn_app (goodIn_of _ (by decide +kernel)) ggL_law_X11_then
set_option maxRecDepth 20000 in
theorem ggL_law_X10_round : GoodIn wsL_law wsX10_round := goodIn_r _ [660, 34, 45, 258, 49, 563, 661, 662, 564, 565, 566, 33, 567, 136, 125, 2, 126, 169, 170, 171, 663, 664, 665, 666, 53, 648, 515, 516, 44, 517, 84, 518, 519, 520, 521, 85, 86, 522, 523, 524, 667, 668, 669, 48, 670, 671, 672, 673, 674, 675, 676, 677, 678, 679, 680, 98, 99, 681, 409, 381, 410, 682, 202, 203, 204, 205, 135, 683, 684, 685, 686, 603, 501, 687, 380, 382, 634, 370, 371, 372, 80, 73, 180, 141, 373, 374, 375, 376, 377, 26, 378, 379, 383, 384, 385, 386, 17, 387, 388, 389, 390, 14, 391, 392, 393, 394, 29, 395, 396, 397, 398, 399, 20, 400, 401, 402, 403, 404, 405, 406, 23, 407, 408, 411, 412, 413, 414, 999, 1000, 1001, 1002, 1003, 1004, 1005, 1006, 1007, 1008, 1009, 1010, 1029, 1030, 1031, 1032, 1033, 1034, 1035, 1036, 1037, 1038, 1039, 1052, 1053, 1054, 1055, 1056, 1057, 1058, 1059, 1060] (by decide +kernel) (by decide +kernel)
set_option maxRecDepth 20000 in
theorem gL_law_X10_round : GoodIn wsL_law (wsV RL 76 RX10 yX10_round wsX10_round) := goodIn_app (goodIn_of _ (by decide +kernel)) ggL_law_X10_round
set_option maxRecDepth 20000 in
theorem ggL_law_X11_round : GoodIn wsL_law wsX11_round := goodIn_r _ [691, 692, 111, 110, 572, 573, 574, 5, 575, 220, 221, 222, 223, 104, 151, 152, 153, 154, 155, 156, 157, 107, 693, 694, 695, 696, 697, 698, 699, 109, 653, 654, 655, 656, 477, 478, 479, 480, 481, 482, 483, 484, 485, 486, 487, 488, 216, 217, 218, 219, 158, 159, 160, 161, 1011, 1012, 1013, 1014, 1015, 1016, 1017, 1018, 1019, 1020, 1021, 1022, 1023, 1024, 1025, 1026, 1027, 1028] (by decide +kernel) (by decide +kernel)
set_option maxRecDepth 20000 in
theorem gL_law_X11_round : GoodIn wsL_law (wsV RL 80 RX11 yX11_round wsX11_round) := goodIn_app (goodIn_of _ (by decide +kernel)) ggL_law_X11_round
set_option maxRecDepth 20000 in
theorem ggL_law_X10_places : GoodIn wsL_law wsX10_places := goodIn_r _ [703, 34, 201, 258, 501, 49, 661, 662, 124, 125, 2, 126, 564, 565, 566, 33, 567, 136, 663, 664, 665, 666, 53, 704, 705, 706, 707, 123, 51, 634, 370, 371, 372, 80, 73, 180, 141, 373, 374, 375, 376, 377, 26, 378, 379, 380, 381, 382, 383, 384, 385, 386, 17, 387, 388, 389, 390, 14, 391, 392, 393, 394, 29, 395, 396, 397, 398, 399, 20, 400, 401, 402, 403, 404, 405, 406, 23, 407, 408, 409, 410, 411, 412, 413, 414, 667, 668, 669, 48, 670, 671, 708, 709, 710, 711, 676, 52, 712, 713, 714, 715, 716, 717, 718, 719, 720, 647, 677, 678, 679, 680, 98, 99, 681, 682, 519, 520, 521, 999, 1000, 1001, 1002, 1003, 1004, 1005, 1006, 1007, 1008, 1009, 1010, 1029, 1030, 1031, 1032, 1033, 1034, 1035, 1036, 1037, 1038, 1039, 1052, 1053, 1054, 1055, 1056, 1057, 1058, 1059, 1060] (by decide +kernel) (by decide +kernel)
set_option maxRecDepth 20000 in
theorem gL_law_X10_places : GoodIn wsL_law (wsV RL 81 RX10 yX10_places wsX10_places) := goodIn_app (goodIn_of _ (by decide +kernel)) ggL_law_X10_places
set_option maxRecDepth 20000 in
theorem ggL_law_X11_places : GoodIn wsL_law wsX11_places := goodIn_r _ [724, 725, 112, 109, 151, 152, 5, 153, 220, 221, 222, 223, 104, 154, 155, 156, 157, 107, 653, 654, 655, 656, 158, 159, 160, 161, 726, 727, 728, 729, 730, 627, 628, 629, 477, 478, 479, 480, 481, 482, 483, 484, 485, 486, 487, 488, 474, 475, 476, 1011, 1012, 1013, 1014, 1015, 1016, 1017, 1018, 1019, 1020, 1021, 1022, 1023, 1024, 1025, 1026, 1027, 1028] (by decide +kernel) (by decide +kernel)
set_option maxRecDepth 20000 in
theorem gL_law_X11_places : GoodIn wsL_law (wsV RL 84 RX11 yX11_places wsX11_places) := goodIn_app (goodIn_of _ (by decide +kernel)) ggL_law_X11_places
set_option maxRecDepth 20000 in
theorem ggL_law_X10_which : GoodIn wsL_law wsX10_which := goodIn_r _ [734, 34, 123, 51, 124, 125, 2, 126, 127, 128, 129, 130, 53, 704, 705, 706, 707, 258, 634, 370, 371, 33, 372, 80, 73, 180, 141, 373, 374, 375, 376, 377, 26, 378, 379, 380, 381, 382, 383, 384, 385, 386, 17, 387, 388, 389, 390, 14, 391, 392, 393, 394, 29, 395, 396, 397, 398, 399, 20, 400, 401, 402, 403, 404, 405, 406, 23, 407, 408, 409, 410, 411, 412, 413, 414, 999, 1000, 1001, 1002, 1003, 1004, 1005, 1006, 1007, 1008, 1009, 1010, 1029, 1030, 1031, 1032, 1033, 1034, 1035, 1036, 1037, 1038, 1039, 1052, 1053, 1054, 1055, 1056, 1057] (by decide +kernel) (by decide +kernel)
set_option maxRecDepth 20000 in
theorem gL_law_X10_which : GoodIn wsL_law (wsV RL 85 RX10 yX10_which wsX10_which) := goodIn_app (goodIn_of _ (by decide +kernel)) ggL_law_X10_which
set_option maxRecDepth 20000 in
theorem ggL_law_X11_which : GoodIn wsL_law wsX11_which := goodIn_r _ [738, 104, 639, 640, 5, 641, 642, 151, 152, 153, 154, 155, 156, 157, 107, 158, 159, 160, 161, 477, 478, 479, 480, 481, 482, 483, 484, 485, 486, 487, 488, 1011, 1012, 1013, 1014, 1015, 1016, 1017, 1018, 1019, 1020, 1021, 1022, 1023, 1024, 1025, 1026, 1027, 1028] (by decide +kernel) (by decide +kernel)
set_option maxRecDepth 20000 in
theorem gL_law_X11_which : GoodIn wsL_law (wsV RL 88 RX11 yX11_which wsX11_which) := goodIn_app (goodIn_of _ (by decide +kernel)) ggL_law_X11_which
set_option maxRecDepth 20000 in
theorem ggL_law_X10_lasts : GoodIn wsL_law wsX10_lasts := goodIn_r _ [742, 34, 258, 621, 564, 565, 566, 33, 567, 136, 125, 2, 126, 169, 170, 171, 127, 128, 129, 130, 53, 743, 547, 548, 999, 1000, 1001, 1002, 1003, 1004, 1005, 1006, 1007, 1008, 1009, 1010, 1029, 1030, 1031, 1032, 1033, 1034, 1035, 1036, 1037, 1038, 1039, 1052, 1053, 1054, 1055, 1056, 1057] (by decide +kernel) (by decide +kernel)
set_option maxRecDepth 20000 in
theorem gL_law_X10_lasts : GoodIn wsL_law (wsV RL 89 RX10 yX10_lasts wsX10_lasts) := goodIn_app (goodIn_of _ (by decide +kernel)) ggL_law_X10_lasts
set_option maxRecDepth 20000 in
theorem ggL_law_X11_lasts : GoodIn wsL_law wsX11_lasts := goodIn_r _ [747, 748, 104, 572, 573, 574, 5, 575, 220, 221, 222, 223, 151, 152, 153, 154, 155, 156, 157, 107, 556, 557, 558, 1011, 1012, 1013, 1014, 1015, 1016, 1017, 1018, 1019, 1020, 1021, 1022, 1023, 1024, 1025, 1026, 1027, 1028] (by decide +kernel) (by decide +kernel)
set_option maxRecDepth 20000 in
theorem gL_law_X11_lasts : GoodIn wsL_law (wsV RL 92 RX11 yX11_lasts wsX11_lasts) := goodIn_app (goodIn_of _ (by decide +kernel)) ggL_law_X11_lasts
set_option maxRecDepth 20000 in
theorem ggL_law_X10_enough : GoodIn wsL_law wsX10_enough := goodIn_r _ [752, 34, 201, 169, 170, 2, 171, 127, 128, 129, 130, 53, 753, 754, 755, 756, 757, 758, 759, 760, 761, 762, 33, 763, 136, 75, 211, 999, 1000, 1001, 1002, 1003, 1004, 1005, 1006, 1007, 1008, 1009, 1010, 1029, 1030, 1031, 1032, 1033, 1034, 1035, 1036, 1037, 1038, 1039, 1052, 1053, 1054, 1055, 1056, 1057] (by decide +kernel) (by decide +kernel)
set_option maxRecDepth 20000 in
theorem gL_law_X10_enough : GoodIn wsL_law (wsV RL 93 RX10 yX10_enough wsX10_enough) := goodIn_app (goodIn_of _ (by decide +kernel)) ggL_law_X10_enough
set_option maxRecDepth 20000 in
theorem ggL_law_X11_enough : GoodIn wsL_law wsX11_enough := goodIn_r _ [767, 748, 104, 151, 152, 5, 153, 154, 155, 156, 157, 107, 220, 221, 222, 223, 768, 769, 770, 771, 772, 773, 1011, 1012, 1013, 1014, 1015, 1016, 1017, 1018, 1019, 1020, 1021, 1022, 1023, 1024, 1025, 1026, 1027, 1028] (by decide +kernel) (by decide +kernel)
set_option maxRecDepth 20000 in
theorem gL_law_X11_enough : GoodIn wsL_law (wsV RL 96 RX11 yX11_enough wsX11_enough) := goodIn_app (goodIn_of _ (by decide +kernel)) ggL_law_X11_enough
set_option maxRecDepth 20000 in
theorem ggL_law_X10_missed : GoodIn wsL_law wsX10_missed := goodIn_r _ [777, 34, 778, 202, 203, 204, 33, 205, 135, 125, 2, 126, 124, 166, 167, 168, 169, 170, 171, 127, 128, 129, 130, 53, 172, 173, 174, 175, 779, 780, 781, 782, 78, 138, 999, 1000, 1001, 1002, 1003, 1004, 1005, 1006, 1007, 1008, 1009, 1010, 1029, 1030, 1031, 1032, 1033, 1034, 1035, 1036, 1037, 1038, 1039] (by decide +kernel) (by decide +kernel)
set_option maxRecDepth 20000 in
theorem gL_law_X10_missed : GoodIn wsL_law (wsV RL 97 RX10 yX10_missed wsX10_missed) := goodIn_app (goodIn_of _ (by decide +kernel)) ggL_law_X10_missed
set_option maxRecDepth 20000 in
theorem ggL_law_X11_missed : GoodIn wsL_law wsX11_missed := goodIn_r _ [786, 104, 216, 217, 218, 5, 219, 158, 159, 160, 161, 151, 152, 153, 639, 640, 641, 642, 186, 187, 188, 189, 154, 155, 156, 157, 107, 190, 191, 192, 193, 1011, 1012, 1013, 1014, 1015, 1016, 1017, 1018, 1019, 1020, 1021, 1022, 1023, 1024, 1025, 1026, 1027, 1028] (by decide +kernel) (by decide +kernel)
set_option maxRecDepth 20000 in
theorem gL_law_X11_missed : GoodIn wsL_law (wsV RL 101 RX11 yX11_missed wsX11_missed) := goodIn_app (goodIn_of _ (by decide +kernel)) ggL_law_X11_missed
set_option maxRecDepth 20000 in
theorem ggL_law_X10_clouds : GoodIn wsL_law wsX10_clouds := goodIn_r _ [790, 34, 791, 792, 793, 33, 794, 138, 78, 80, 73, 373, 374, 375, 376, 377, 26, 378, 379, 380, 381, 382, 383, 384, 385, 386, 17, 387, 388, 389, 390, 14, 391, 392, 393, 394, 29, 395, 396, 397, 398, 399, 20, 400, 401, 402, 403, 404, 405, 406, 23, 407, 408, 409, 410, 411, 412, 413, 414, 999, 1000, 1001, 1002, 1003, 1004, 1005, 1006, 1007, 1008, 1009, 1010, 1029, 1030, 1031, 1032, 1033, 1034, 1035, 1036, 1037, 1038, 1039] (by decide +kernel) (by decide +kernel)
set_option maxRecDepth 20000 in
theorem gL_law_X10_clouds : GoodIn wsL_law (wsV RL 102 RX10 yX10_clouds wsX10_clouds) := goodIn_app (goodIn_of _ (by decide +kernel)) ggL_law_X10_clouds
set_option maxRecDepth 20000 in
theorem ggL_law_X11_clouds : GoodIn wsL_law wsX11_clouds := goodIn_r _ [798, 104, 480, 481, 5, 482, 483, 484, 485, 486, 487, 488, 1011, 1012, 1013, 1014, 1015, 1016, 1017, 1018, 1019, 1020, 1021, 1022, 1023, 1024, 1025, 1026, 1027, 1028] (by decide +kernel) (by decide +kernel)
set_option maxRecDepth 20000 in
theorem gL_law_X11_clouds : GoodIn wsL_law (wsV RL 105 RX11 yX11_clouds wsX11_clouds) := goodIn_app (goodIn_of _ (by decide +kernel)) ggL_law_X11_clouds
set_option maxRecDepth 20000 in
theorem ggL_law_X10_note : GoodIn wsL_law wsX10_note := goodIn_r _ [802, 34, 803, 202, 203, 204, 33, 205, 135, 125, 2, 126, 124, 166, 167, 168, 169, 170, 171, 127, 128, 129, 130, 53, 172, 173, 174, 175, 804, 805, 806, 807, 79, 139, 999, 1000, 1001, 1002, 1003, 1004, 1005, 1006, 1007, 1008, 1009, 1010, 1029, 1030, 1031, 1032, 1033, 1034, 1035, 1036, 1037, 1038, 1039] (by decide +kernel) (by decide +kernel)
set_option maxRecDepth 20000 in
theorem gL_law_X10_note : GoodIn wsL_law (wsV RL 106 RX10 yX10_note wsX10_note) := goodIn_app (goodIn_of _ (by decide +kernel)) ggL_law_X10_note
set_option maxRecDepth 20000 in
theorem ggL_law_X11_note : GoodIn wsL_law wsX11_note := goodIn_r _ [811, 812, 104, 216, 217, 218, 5, 219, 158, 159, 160, 161, 151, 152, 153, 639, 640, 641, 642, 186, 187, 188, 189, 147, 148, 149, 150, 154, 155, 156, 157, 107, 190, 191, 192, 193, 1011, 1012, 1013, 1014, 1015, 1016, 1017, 1018, 1019, 1020, 1021, 1022, 1023, 1024, 1025, 1026, 1027, 1028] (by decide +kernel) (by decide +kernel)
set_option maxRecDepth 20000 in
theorem gL_law_X11_note : GoodIn wsL_law (wsV RL 110 RX11 yX11_note wsX11_note) := goodIn_app (goodIn_of _ (by decide +kernel)) ggL_law_X11_note
set_option maxRecDepth 20000 in
theorem ggL_law_X10_forget : GoodIn wsL_law wsX10_forget := goodIn_r _ [816, 34, 778, 803, 124, 125, 2, 126, 127, 128, 129, 130, 53, 999, 1000, 1001, 1002, 1003, 1004, 1005, 1006, 1007, 1008, 1009, 1010, 1029, 1030, 1031, 1032, 1033, 1034, 1035, 1036, 1037, 1038, 1039] (by decide +kernel) (by decide +kernel)
set_option maxRecDepth 20000 in
theorem gL_law_X10_forget : GoodIn wsL_law (wsV RL 111 RX10 yX10_forget wsX10_forget) := goodIn_app (goodIn_of _ (by decide +kernel)) ggL_law_X10_forget
set_option maxRecDepth 20000 in
theorem ggL_law_X11_forget : GoodIn wsL_law wsX11_forget := goodIn_r _ [820, 104, 151, 152, 5, 153, 154, 155, 156, 157, 107, 1011, 1012, 1013, 1014, 1015, 1016, 1017, 1018, 1019, 1020, 1021, 1022, 1023, 1024, 1025, 1026, 1027, 1028] (by decide +kernel) (by decide +kernel)
set_option maxRecDepth 20000 in
theorem gL_law_X11_forget : GoodIn wsL_law (wsV RL 114 RX11 yX11_forget wsX11_forget) := goodIn_app (goodIn_of _ (by decide +kernel)) ggL_law_X11_forget
set_option maxRecDepth 20000 in
theorem ggL_law_X10_is : GoodIn wsL_law wsX10_is := goodIn_r _ [824, 34, 202, 203, 204, 33, 205, 135, 125, 2, 126, 127, 128, 129, 130, 53, 825, 826, 827, 828, 80, 829, 830, 831, 832, 139, 79, 373, 374, 375, 376, 377, 26, 378, 379, 380, 381, 382, 383, 384, 385, 386, 17, 387, 388, 389, 390, 14, 391, 392, 393, 394, 29, 395, 396, 397, 398, 399, 20, 400, 401, 402, 403, 404, 405, 406, 23, 407, 408, 409, 410, 411, 412, 413, 414, 999, 1000, 1001, 1002, 1003, 1004, 1005, 1006, 1007, 1008, 1009, 1010, 1029, 1030, 1031, 1032, 1033, 1034, 1035, 1036, 1037, 1038, 1039] (by decide +kernel) (by decide +kernel)
set_option maxRecDepth 20000 in
theorem gL_law_X10_is : GoodIn wsL_law (wsV RL 115 RX10 yX10_is wsX10_is) := goodIn_app (goodIn_of _ (by decide +kernel)) ggL_law_X10_is
set_option maxRecDepth 20000 in
theorem ggL_law_X11_is : GoodIn wsL_law wsX11_is := goodIn_r _ [836, 216, 217, 218, 5, 219, 158, 159, 160, 161, 104, 151, 152, 153, 837, 838, 839, 840, 480, 481, 482, 483, 484, 485, 486, 487, 488, 154, 155, 156, 157, 107, 1011, 1012, 1013, 1014, 1015, 1016, 1017, 1018, 1019, 1020, 1021, 1022, 1023, 1024, 1025, 1026, 1027, 1028] (by decide +kernel) (by decide +kernel)
set_option maxRecDepth 20000 in
theorem gL_law_X11_is : GoodIn wsL_law (wsV RL 118 RX11 yX11_is wsX11_is) := goodIn_app (goodIn_of _ (by decide +kernel)) ggL_law_X11_is
set_option maxRecDepth 20000 in
theorem ggL_law_X10_look : GoodIn wsL_law wsX10_look := goodIn_r _ [844, 34, 258, 603, 202, 203, 204, 33, 205, 135, 125, 2, 126, 127, 128, 129, 130, 53, 825, 826, 827, 828, 80, 829, 830, 831, 832, 139, 79, 373, 374, 375, 376, 377, 26, 378, 379, 380, 381, 382, 383, 384, 385, 386, 17, 387, 388, 389, 390, 14, 391, 392, 393, 394, 29, 395, 396, 397, 398, 399, 20, 400, 401, 402, 403, 404, 405, 406, 23, 407, 408, 409, 410, 411, 412, 413, 414, 845, 846, 847, 848, 30, 687, 849, 850, 999, 1000, 1001, 1002, 1003, 1004, 1005, 1006, 1007, 1008, 1009, 1010, 1029, 1030, 1031, 1032, 1033, 1034, 1035, 1036, 1037, 1038, 1039, 1052, 1053, 1054, 1055, 1056, 1057] (by decide +kernel) (by decide +kernel)
set_option maxRecDepth 20000 in
theorem gL_law_X10_look : GoodIn wsL_law (wsV RL 119 RX10 yX10_look wsX10_look) := goodIn_app (goodIn_of _ (by decide +kernel)) ggL_law_X10_look
set_option maxRecDepth 20000 in
theorem ggL_law_X11_look : GoodIn wsL_law wsX11_look := goodIn_r _ [854, 730, 104, 216, 217, 218, 5, 219, 158, 159, 160, 161, 151, 152, 153, 154, 155, 156, 157, 107, 837, 838, 839, 840, 480, 481, 482, 483, 484, 485, 486, 487, 488, 768, 769, 770, 1011, 1012, 1013, 1014, 1015, 1016, 1017, 1018, 1019, 1020, 1021, 1022, 1023, 1024, 1025, 1026, 1027, 1028] (by decide +kernel) (by decide +kernel)
set_option maxRecDepth 20000 in
theorem gL_law_X11_look : GoodIn wsL_law (wsV RL 122 RX11 yX11_look wsX11_look) := goodIn_app (goodIn_of _ (by decide +kernel)) ggL_law_X11_look
set_option maxRecDepth 20000 in
theorem ggL_law_X10_two : GoodIn wsL_law wsX10_two := goodIn_r _ [858, 34, 258, 501, 123, 563, 564, 565, 566, 33, 567, 136, 125, 2, 126, 663, 664, 665, 666, 53, 704, 705, 706, 707, 51, 634, 370, 371, 372, 80, 73, 180, 141, 373, 374, 375, 376, 377, 26, 378, 379, 380, 381, 382, 383, 384, 385, 386, 17, 387, 388, 389, 390, 14, 391, 392, 393, 394, 29, 395, 396, 397, 398, 399, 20, 400, 401, 402, 403, 404, 405, 406, 23, 407, 408, 409, 410, 411, 412, 413, 414, 859, 860, 861, 862, 863, 864, 865, 866, 867, 868, 869, 999, 1000, 1001, 1002, 1003, 1004, 1005, 1006, 1007, 1008, 1009, 1010, 1029, 1030, 1031, 1032, 1033, 1034, 1035, 1036, 1037, 1038, 1039, 1052, 1053, 1054, 1055, 1056, 1057] (by decide +kernel) (by decide +kernel)
set_option maxRecDepth 20000 in
theorem gL_law_X10_two : GoodIn wsL_law (wsV RL 123 RX10 yX10_two wsX10_two) := goodIn_app (goodIn_of _ (by decide +kernel)) ggL_law_X10_two
set_option maxRecDepth 20000 in
theorem ggL_law_X11_two : GoodIn wsL_law wsX11_two := goodIn_r _ [873, 572, 573, 574, 5, 575, 220, 221, 222, 223, 104, 151, 152, 153, 154, 155, 156, 157, 107, 158, 159, 160, 161, 874, 875, 876, 877, 878, 879, 880, 881, 477, 478, 479, 480, 481, 482, 483, 484, 485, 486, 487, 488, 882, 883, 884, 1011, 1012, 1013, 1014, 1015, 1016, 1017, 1018, 1019, 1020, 1021, 1022, 1023, 1024, 1025, 1026, 1027, 1028] (by decide +kernel) (by decide +kernel)
set_option maxRecDepth 20000 in
theorem gL_law_X11_two : GoodIn wsL_law (wsV RL 126 RX11 yX11_two wsX11_two) := goodIn_app (goodIn_of _ (by decide +kernel)) ggL_law_X11_two
set_option maxRecDepth 20000 in
theorem ggL_law_X10_rains : GoodIn wsL_law wsX10_rains := goodIn_r _ [888, 34, 258, 501, 45, 580, 647, 409, 381, 410, 54, 55, 202, 203, 204, 33, 205, 135, 125, 2, 126, 169, 170, 171, 127, 128, 129, 130, 53, 634, 370, 371, 372, 80, 73, 180, 141, 373, 374, 375, 376, 377, 26, 378, 379, 380, 382, 383, 384, 385, 386, 17, 387, 388, 389, 390, 14, 391, 392, 393, 394, 29, 395, 396, 397, 398, 399, 20, 400, 401, 402, 403, 404, 405, 406, 23, 407, 408, 411, 412, 413, 414, 648, 515, 516, 44, 517, 84, 518, 519, 520, 521, 85, 86, 522, 523, 524, 889, 890, 891, 999, 1000, 1001, 1002, 1003, 1004, 1005, 1006, 1007, 1008, 1009, 1010, 1029, 1030, 1031, 1032, 1033, 1034, 1035, 1036, 1037, 1038, 1039, 1052, 1053, 1054, 1055, 1056, 1057] (by decide +kernel) (by decide +kernel)
set_option maxRecDepth 20000 in
theorem gL_law_X10_rains : GoodIn wsL_law (wsV RL 127 RX10 yX10_rains wsX10_rains) := goodIn_app (goodIn_of _ (by decide +kernel)) ggL_law_X10_rains
set_option maxRecDepth 20000 in
theorem ggL_law_X11_rains : GoodIn wsL_law wsX11_rains := goodIn_r _ [895, 896, 109, 104, 216, 217, 218, 5, 219, 158, 159, 160, 161, 151, 152, 153, 154, 155, 156, 157, 107, 653, 654, 655, 656, 477, 478, 479, 480, 481, 482, 483, 484, 485, 486, 487, 488, 897, 898, 899, 900, 901, 108, 1011, 1012, 1013, 1014, 1015, 1016, 1017, 1018, 1019, 1020, 1021, 1022, 1023, 1024, 1025, 1026, 1027, 1028] (by decide +kernel) (by decide +kernel)
set_option maxRecDepth 20000 in
theorem gL_law_X11_rains : GoodIn wsL_law (wsV RL 130 RX11 yX11_rains wsX11_rains) := goodIn_app (goodIn_of _ (by decide +kernel)) ggL_law_X11_rains
set_option maxRecDepth 20000 in
theorem ggL_law_X10_summers : GoodIn wsL_law wsX10_summers := goodIn_r _ [905, 906, 45, 34, 258, 907, 908, 909, 501, 910, 911, 580, 124, 125, 2, 126, 169, 170, 171, 127, 128, 129, 130, 53, 648, 515, 516, 44, 517, 84, 518, 519, 520, 521, 85, 86, 522, 523, 524, 543, 544, 545, 33, 546, 136, 211, 135, 180, 419, 409, 381, 410, 142, 140, 547, 548, 357, 358, 359, 360, 361, 362, 363, 364, 365, 366, 367, 368, 210, 369, 370, 371, 372, 80, 73, 141, 373, 374, 375, 376, 377, 26, 378, 379, 380, 382, 383, 384, 385, 386, 17, 387, 388, 389, 390, 14, 391, 392, 393, 394, 29, 395, 396, 397, 398, 399, 20, 400, 401, 402, 403, 404, 405, 406, 23, 407, 408, 411, 412, 413, 414, 415, 416, 417, 418, 420, 999, 1000, 1001, 1002, 1003, 1004, 1005, 1006, 1007, 1008, 1009, 1010, 1029, 1030, 1031, 1032, 1033, 1034, 1035, 1036, 1037, 1038, 1039, 1052, 1053, 1054, 1055, 1056, 1057] (by decide +kernel) (by decide +kernel)
set_option maxRecDepth 20000 in
theorem gL_law_X10_summers : GoodIn wsL_law (wsV RL 131 RX10 yX10_summers wsX10_summers) := goodIn_app (goodIn_of _ (by decide +kernel)) ggL_law_X10_summers
set_option maxRecDepth 20000 in
theorem ggL_law_X11_summers : GoodIn wsL_law wsX11_summers := goodIn_r _ [915, 916, 189, 917, 918, 919, 109, 920, 896, 151, 152, 5, 153, 154, 155, 156, 157, 107, 653, 654, 655, 656, 104, 553, 554, 555, 556, 557, 558, 471, 472, 473, 474, 475, 476, 477, 478, 479, 480, 481, 482, 483, 484, 485, 486, 487, 488, 1011, 1012, 1013, 1014, 1015, 1016, 1017, 1018, 1019, 1020, 1021, 1022, 1023, 1024, 1025, 1026, 1027, 1028] (by decide +kernel) (by decide +kernel)
set_option maxRecDepth 20000 in
theorem gL_law_X11_summers : GoodIn wsL_law (wsV RL 134 RX11 yX11_summers wsX11_summers) := goodIn_app (goodIn_of _ (by decide +kernel)) ggL_law_X11_summers
set_option maxRecDepth 20000 in
theorem ggL_law_X10_part : GoodIn wsL_law wsX10_part := goodIn_r _ [924, 54, 55, 124, 125, 2, 126, 127, 128, 129, 130, 53, 999, 1000, 1001, 1002, 1003, 1004, 1005, 1006, 1007, 1008, 1009, 1010] (by decide +kernel) (by decide +kernel)
set_option maxRecDepth 20000 in
theorem gL_law_X10_part : GoodIn wsL_law (wsV RL 135 RX10 yX10_part wsX10_part) := goodIn_app (goodIn_of _ (by decide +kernel)) ggL_law_X10_part
set_option maxRecDepth 20000 in
theorem ggL_law_X11_part : GoodIn wsL_law wsX11_part := goodIn_r _ [928, 901, 108, 154, 155, 156, 5, 157, 107, 1011, 1012, 1013, 1014, 1015, 1016, 1017, 1018, 1019, 1020, 1021, 1022, 1023, 1024, 1025, 1026, 1027, 1028] (by decide +kernel) (by decide +kernel)
set_option maxRecDepth 20000 in
theorem gL_law_X11_part : GoodIn wsL_law (wsV RL 139 RX11 yX11_part wsX11_part) := goodIn_app (goodIn_of _ (by decide +kernel)) ggL_law_X11_part
set_option maxRecDepth 20000 in
theorem ggL_law_X10_image : GoodIn wsL_law wsX10_image := goodIn_r _ [932, 35, 34, 37, 124, 125, 2, 126, 127, 128, 129, 130, 53, 933, 934, 935, 33, 936, 73, 937, 519, 520, 521, 75, 137, 76, 138, 78, 139, 79, 135, 136, 514, 515, 516, 44, 517, 84, 518, 85, 86, 522, 523, 524, 999, 1000, 1001, 1002, 1003, 1004, 1005, 1006, 1007, 1008, 1009, 1010, 1029, 1030, 1031, 1032, 1033, 1034, 1035, 1036, 1037, 1038, 1039, 1052, 1053, 1054, 1055, 1056, 1057] (by decide +kernel) (by decide +kernel)
set_option maxRecDepth 20000 in
theorem gL_law_X10_image : GoodIn wsL_law (wsV RL 140 RX10 yX10_image wsX10_image) := goodIn_app (goodIn_of _ (by decide +kernel)) ggL_law_X10_image
set_option maxRecDepth 20000 in
theorem ggL_law_X11_image : GoodIn wsL_law wsX11_image := goodIn_r _ [941, 105, 104, 106, 151, 152, 5, 153, 154, 155, 156, 157, 107, 1011, 1012, 1013, 1014, 1015, 1016, 1017, 1018, 1019, 1020, 1021, 1022, 1023, 1024, 1025, 1026, 1027, 1028] (by decide +kernel) (by decide +kernel)
set_option maxRecDepth 20000 in
theorem gL_law_X11_image : GoodIn wsL_law (wsV RL 143 RX11 yX11_image wsX11_image) := goodIn_app (goodIn_of _ (by decide +kernel)) ggL_law_X11_image
set_option maxRecDepth 20000 in
theorem ggL_law_X10_from : GoodIn wsL_law wsX10_from := goodIn_r _ [945, 37, 34, 35, 124, 125, 2, 126, 127, 128, 129, 130, 53, 502, 503, 504, 505, 933, 934, 935, 33, 936, 73, 937, 519, 520, 521, 75, 137, 76, 138, 78, 139, 79, 135, 136, 514, 515, 516, 44, 517, 84, 518, 85, 86, 522, 523, 524, 999, 1000, 1001, 1002, 1003, 1004, 1005, 1006, 1007, 1008, 1009, 1010, 1029, 1030, 1031, 1032, 1033, 1034, 1035, 1036, 1037, 1038, 1039, 1052, 1053, 1054, 1055, 1056, 1057] (by decide +kernel) (by decide +kernel)
set_option maxRecDepth 20000 in
theorem gL_law_X10_from : GoodIn wsL_law (wsV RL 144 RX10 yX10_from wsX10_from) := goodIn_app (goodIn_of _ (by decide +kernel)) ggL_law_X10_from
set_option maxRecDepth 20000 in
theorem ggL_law_X11_from : GoodIn wsL_law wsX11_from := goodIn_r _ [949, 106, 104, 105, 151, 152, 5, 153, 154, 155, 156, 157, 107, 530, 531, 532, 533, 1011, 1012, 1013, 1014, 1015, 1016, 1017, 1018, 1019, 1020, 1021, 1022, 1023, 1024, 1025, 1026, 1027, 1028] (by decide +kernel) (by decide +kernel)
set_option maxRecDepth 20000 in
theorem gL_law_X11_from : GoodIn wsL_law (wsV RL 147 RX11 yX11_from wsX11_from) := goodIn_app (goodIn_of _ (by decide +kernel)) ggL_law_X11_from
set_option maxRecDepth 20000 in
theorem ggL_law_X10_status : GoodIn wsL_law wsX10_status := goodIn_r _ [953, 53, 124, 125, 2, 126, 127, 128, 129, 130, 999, 1000, 1001, 1002, 1003, 1004, 1005, 1006, 1007, 1008, 1009, 1010] (by decide +kernel) (by decide +kernel)
set_option maxRecDepth 20000 in
theorem gL_law_X10_status : GoodIn wsL_law (wsV RL 148 RX10 yX10_status wsX10_status) := goodIn_app (goodIn_of _ (by decide +kernel)) ggL_law_X10_status
set_option maxRecDepth 20000 in
theorem ggL_law_X11_status : GoodIn wsL_law wsX11_status := goodIn_r _ [957, 612, 107, 151, 152, 5, 153, 154, 155, 156, 157, 1011, 1012, 1013, 1014, 1015, 1016, 1017, 1018, 1019, 1020, 1021, 1022, 1023, 1024, 1025, 1026, 1027, 1028] (by decide +kernel) (by decide +kernel)
set_option maxRecDepth 20000 in
theorem gL_law_X11_status : GoodIn wsL_law (wsV RL 151 RX11 yX11_status wsX11_status) := goodIn_app (goodIn_of _ (by decide +kernel)) ggL_law_X11_status
set_option maxRecDepth 20000 in
theorem ggL_law_X10_count : GoodIn wsL_law wsX10_count := goodIn_r _ [961, 124, 125, 2, 126, 127, 128, 129, 130, 53, 962, 963, 964, 965, 34, 123, 201, 258, 501, 580, 542, 778, 803, 589, 41, 231, 999, 1000, 1001, 1002, 1003, 1004, 1005, 1006, 1007, 1008, 1009, 1010, 1029, 1030, 1031, 1032, 1033, 1034, 1035, 1036, 1037, 1038, 1039, 1052, 1053, 1054, 1055, 1056, 1057, 1040, 1041, 1042, 1043, 1044, 1045, 1046, 1047, 1048, 1049, 1050, 1051] (by decide +kernel) (by decide +kernel)
set_option maxRecDepth 20000 in
theorem gL_law_X10_count : GoodIn wsL_law (wsV RL 152 RX10 yX10_count wsX10_count) := goodIn_app (goodIn_of _ (by decide +kernel)) ggL_law_X10_count
set_option maxRecDepth 20000 in
theorem ggL_law_X11_count : GoodIn wsL_law wsX11_count := goodIn_r _ [969, 970, 151, 152, 5, 153, 971, 972, 973, 974, 104, 242, 158, 159, 160, 161, 220, 221, 222, 223, 154, 155, 156, 157, 107, 1011, 1012, 1013, 1014, 1015, 1016, 1017, 1018, 1019, 1020, 1021, 1022, 1023, 1024, 1025, 1026, 1027, 1028] (by decide +kernel) (by decide +kernel)
set_option maxRecDepth 20000 in
theorem gL_law_X11_count : GoodIn wsL_law (wsV RL 155 RX11 yX11_count wsX11_count) := goodIn_app (goodIn_of _ (by decide +kernel)) ggL_law_X11_count
set_option maxRecDepth 20000 in
theorem ggL_law_X10_digest : GoodIn wsL_law wsX10_digest := goodIn_r _ [978, 979, 34, 123, 602, 258, 603, 201, 563, 621, 778, 980, 803, 981, 54, 55, 962, 963, 964, 2, 965, 501, 580, 542, 589, 41, 231, 982, 983, 984, 985, 986, 987, 988, 999, 1000, 1001, 1002, 1003, 1004, 1005, 1006, 1007, 1008, 1009, 1010, 1029, 1030, 1031, 1032, 1033, 1034, 1035, 1036, 1037, 1038, 1039, 1052, 1053, 1054, 1055, 1056, 1057, 1040, 1041, 1042, 1043, 1044, 1045, 1046, 1047, 1048, 1049, 1050, 1051] (by decide +kernel) (by decide +kernel)
set_option maxRecDepth 20000 in
theorem gL_law_X10_digest : GoodIn wsL_law (wsV RL 156 RX10 yX10_digest wsX10_digest) := goodIn_app (goodIn_of _ (by decide +kernel)) ggL_law_X10_digest
set_option maxRecDepth 20000 in
theorem ggL_law_X11_digest : GoodIn wsL_law wsX11_digest := goodIn_r _ [992, 993, 994, 104, 901, 108, 971, 972, 973, 5, 974, 242, 158, 159, 160, 161, 220, 221, 222, 223, 995, 996, 997, 998, 1011, 1012, 1013, 1014, 1015, 1016, 1017, 1018, 1019, 1020, 1021, 1022, 1023, 1024, 1025, 1026, 1027, 1028] (by decide +kernel) (by decide +kernel)
set_option maxRecDepth 20000 in
theorem gL_law_X11_digest : GoodIn wsL_law (wsV RL 160 RX11 yX11_digest wsX11_digest) := goodIn_app (goodIn_of _ (by decide +kernel)) ggL_law_X11_digest
theorem dL_law_0 : decode cL_law 0 = .ok (.new 7, 3) := by decide +kernel
theorem dL_law_3 : decode cL_law 3 = .ok (.dup, 1) := by decide +kernel
theorem dL_law_4 : decode cL_law 4 = .ok (.invokespecial 9, 3) := by decide +kernel
theorem dL_law_7 : decode cL_law 7 = .ok (.astore_n 1, 1) := by decide +kernel
theorem dL_law_8 : decode cL_law 8 = .ok (.new 10, 3) := by decide +kernel
theorem dL_law_11 : decode cL_law 11 = .ok (.dup, 1) := by decide +kernel
theorem dL_law_12 : decode cL_law 12 = .ok (.invokespecial 12, 3) := by decide +kernel
theorem dL_law_15 : decode cL_law 15 = .ok (.astore_n 2, 1) := by decide +kernel
theorem dL_law_16 : decode cL_law 16 = .ok (.iconst 0, 1) := by decide +kernel
theorem dL_law_17 : decode cL_law 17 = .ok (.istore_n 3, 1) := by decide +kernel
theorem dL_law_18 : decode cL_law 18 = .ok (.iload_n 3, 1) := by decide +kernel
theorem dL_law_19 : decode cL_law 19 = .ok (.aload_n 0, 1) := by decide +kernel
theorem dL_law_20 : decode cL_law 20 = .ok (.arraylength, 1) := by decide +kernel
theorem dL_law_21 : decode cL_law 21 = .ok (.bipush 6, 2) := by decide +kernel
theorem dL_law_23 : decode cL_law 23 = .ok (.isub, 1) := by decide +kernel
theorem dL_law_24 : decode cL_law 24 = .ok (.if_icmp .gt 1127, 3) := by decide +kernel
theorem dL_law_27 : decode cL_law 27 = .ok (.aload_n 0, 1) := by decide +kernel
theorem dL_law_28 : decode cL_law 28 = .ok (.iload_n 3, 1) := by decide +kernel
theorem dL_law_29 : decode cL_law 29 = .ok (.iaload, 1) := by decide +kernel
theorem dL_law_30 : decode cL_law 30 = .ok (.bipush 63, 2) := by decide +kernel
theorem dL_law_32 : decode cL_law 32 = .ok (.iand, 1) := by decide +kernel
theorem dL_law_33 : decode cL_law 33 = .ok (.tableswitch 1112 0 34 #[155, 178, 211, 234, 257, 270, 283, 306, 319, 352, 375, 388, 421, 454, 487, 520, 563, 596, 619, 652, 675, 728, 741, 804, 827, 850, 873, 916, 949, 982, 1006, 1029, 1052, 1075, 1098], 155) := by decide +kernel
theorem dL_law_188 : decode cL_law 188 = .ok (.aload_n 1, 1) := by decide +kernel
theorem dL_law_189 : decode cL_law 189 = .ok (.aload_n 0, 1) := by decide +kernel
theorem dL_law_190 : decode cL_law 190 = .ok (.iload_n 3, 1) := by decide +kernel
theorem dL_law_191 : decode cL_law 191 = .ok (.iconst 1, 1) := by decide +kernel
theorem dL_law_192 : decode cL_law 192 = .ok (.iadd, 1) := by decide +kernel
theorem dL_law_193 : decode cL_law 193 = .ok (.iaload, 1) := by decide +kernel
theorem dL_law_194 : decode cL_law 194 = .ok (.invokevirtual 13, 3) := by decide +kernel
theorem dL_law_197 : decode cL_law 197 = .ok (.aload_n 2, 1) := by decide +kernel
theorem dL_law_198 : decode cL_law 198 = .ok (.aload_n 0, 1) := by decide +kernel
theorem dL_law_199 : decode cL_law 199 = .ok (.iload_n 3, 1) := by decide +kernel
theorem dL_law_200 : decode cL_law 200 = .ok (.iconst 1, 1) := by decide +kernel
theorem dL_law_201 : decode cL_law 201 = .ok (.iadd, 1) := by decide +kernel
theorem dL_law_202 : decode cL_law 202 = .ok (.iaload, 1) := by decide +kernel
theorem dL_law_203 : decode cL_law 203 = .ok (.invokevirtual 17, 3) := by decide +kernel
theorem dL_law_206 : decode cL_law 206 = .ok (.if_icmp .eq 939, 3) := by decide +kernel
theorem dL_law_209 : decode cL_law 209 = .ok (.iconst 0, 1) := by decide +kernel
theorem dL_law_210 : decode cL_law 210 = .ok (.ireturn, 1) := by decide +kernel
theorem dL_law_211 : decode cL_law 211 = .ok (.aload_n 1, 1) := by decide +kernel
theorem dL_law_212 : decode cL_law 212 = .ok (.aload_n 0, 1) := by decide +kernel
theorem dL_law_213 : decode cL_law 213 = .ok (.iload_n 3, 1) := by decide +kernel
theorem dL_law_214 : decode cL_law 214 = .ok (.iconst 1, 1) := by decide +kernel
theorem dL_law_215 : decode cL_law 215 = .ok (.iadd, 1) := by decide +kernel
theorem dL_law_216 : decode cL_law 216 = .ok (.iaload, 1) := by decide +kernel
theorem dL_law_217 : decode cL_law 217 = .ok (.aload_n 0, 1) := by decide +kernel
theorem dL_law_218 : decode cL_law 218 = .ok (.iload_n 3, 1) := by decide +kernel
theorem dL_law_219 : decode cL_law 219 = .ok (.iconst 2, 1) := by decide +kernel
theorem dL_law_220 : decode cL_law 220 = .ok (.iadd, 1) := by decide +kernel
theorem dL_law_221 : decode cL_law 221 = .ok (.iaload, 1) := by decide +kernel
theorem dL_law_222 : decode cL_law 222 = .ok (.invokevirtual 18, 3) := by decide +kernel
theorem dL_law_225 : decode cL_law 225 = .ok (.aload_n 2, 1) := by decide +kernel
theorem dL_law_226 : decode cL_law 226 = .ok (.aload_n 0, 1) := by decide +kernel
theorem dL_law_227 : decode cL_law 227 = .ok (.iload_n 3, 1) := by decide +kernel
theorem dL_law_228 : decode cL_law 228 = .ok (.iconst 1, 1) := by decide +kernel
theorem dL_law_229 : decode cL_law 229 = .ok (.iadd, 1) := by decide +kernel
theorem dL_law_230 : decode cL_law 230 = .ok (.iaload, 1) := by decide +kernel
theorem dL_law_231 : decode cL_law 231 = .ok (.aload_n 0, 1) := by decide +kernel
theorem dL_law_232 : decode cL_law 232 = .ok (.iload_n 3, 1) := by decide +kernel
theorem dL_law_233 : decode cL_law 233 = .ok (.iconst 2, 1) := by decide +kernel
theorem dL_law_234 : decode cL_law 234 = .ok (.iadd, 1) := by decide +kernel
theorem dL_law_235 : decode cL_law 235 = .ok (.iaload, 1) := by decide +kernel
theorem dL_law_236 : decode cL_law 236 = .ok (.invokevirtual 22, 3) := by decide +kernel
theorem dL_law_239 : decode cL_law 239 = .ok (.if_icmp .eq 906, 3) := by decide +kernel
theorem dL_law_242 : decode cL_law 242 = .ok (.iconst 0, 1) := by decide +kernel
theorem dL_law_243 : decode cL_law 243 = .ok (.ireturn, 1) := by decide +kernel
theorem dL_law_244 : decode cL_law 244 = .ok (.aload_n 1, 1) := by decide +kernel
theorem dL_law_245 : decode cL_law 245 = .ok (.aload_n 0, 1) := by decide +kernel
theorem dL_law_246 : decode cL_law 246 = .ok (.iload_n 3, 1) := by decide +kernel
theorem dL_law_247 : decode cL_law 247 = .ok (.iconst 1, 1) := by decide +kernel
theorem dL_law_248 : decode cL_law 248 = .ok (.iadd, 1) := by decide +kernel
theorem dL_law_249 : decode cL_law 249 = .ok (.iaload, 1) := by decide +kernel
theorem dL_law_250 : decode cL_law 250 = .ok (.invokevirtual 23, 3) := by decide +kernel
theorem dL_law_253 : decode cL_law 253 = .ok (.aload_n 2, 1) := by decide +kernel
theorem dL_law_254 : decode cL_law 254 = .ok (.aload_n 0, 1) := by decide +kernel
theorem dL_law_255 : decode cL_law 255 = .ok (.iload_n 3, 1) := by decide +kernel
theorem dL_law_256 : decode cL_law 256 = .ok (.iconst 1, 1) := by decide +kernel
theorem dL_law_257 : decode cL_law 257 = .ok (.iadd, 1) := by decide +kernel
theorem dL_law_258 : decode cL_law 258 = .ok (.iaload, 1) := by decide +kernel
theorem dL_law_259 : decode cL_law 259 = .ok (.invokevirtual 26, 3) := by decide +kernel
theorem dL_law_262 : decode cL_law 262 = .ok (.if_icmp .eq 883, 3) := by decide +kernel
theorem dL_law_265 : decode cL_law 265 = .ok (.iconst 0, 1) := by decide +kernel
theorem dL_law_266 : decode cL_law 266 = .ok (.ireturn, 1) := by decide +kernel
theorem dL_law_267 : decode cL_law 267 = .ok (.aload_n 1, 1) := by decide +kernel
theorem dL_law_268 : decode cL_law 268 = .ok (.aload_n 0, 1) := by decide +kernel
theorem dL_law_269 : decode cL_law 269 = .ok (.iload_n 3, 1) := by decide +kernel
theorem dL_law_270 : decode cL_law 270 = .ok (.iconst 1, 1) := by decide +kernel
theorem dL_law_271 : decode cL_law 271 = .ok (.iadd, 1) := by decide +kernel
theorem dL_law_272 : decode cL_law 272 = .ok (.iaload, 1) := by decide +kernel
theorem dL_law_273 : decode cL_law 273 = .ok (.invokevirtual 27, 3) := by decide +kernel
theorem dL_law_276 : decode cL_law 276 = .ok (.aload_n 2, 1) := by decide +kernel
theorem dL_law_277 : decode cL_law 277 = .ok (.aload_n 0, 1) := by decide +kernel
theorem dL_law_278 : decode cL_law 278 = .ok (.iload_n 3, 1) := by decide +kernel
theorem dL_law_279 : decode cL_law 279 = .ok (.iconst 1, 1) := by decide +kernel
theorem dL_law_280 : decode cL_law 280 = .ok (.iadd, 1) := by decide +kernel
theorem dL_law_281 : decode cL_law 281 = .ok (.iaload, 1) := by decide +kernel
theorem dL_law_282 : decode cL_law 282 = .ok (.invokevirtual 30, 3) := by decide +kernel
theorem dL_law_285 : decode cL_law 285 = .ok (.if_icmp .eq 860, 3) := by decide +kernel
theorem dL_law_288 : decode cL_law 288 = .ok (.iconst 0, 1) := by decide +kernel
theorem dL_law_289 : decode cL_law 289 = .ok (.ireturn, 1) := by decide +kernel
theorem dL_law_290 : decode cL_law 290 = .ok (.aload_n 1, 1) := by decide +kernel
theorem dL_law_291 : decode cL_law 291 = .ok (.invokevirtual 31, 3) := by decide +kernel
theorem dL_law_294 : decode cL_law 294 = .ok (.aload_n 2, 1) := by decide +kernel
theorem dL_law_295 : decode cL_law 295 = .ok (.invokevirtual 35, 3) := by decide +kernel
theorem dL_law_298 : decode cL_law 298 = .ok (.if_icmp .eq 847, 3) := by decide +kernel
theorem dL_law_301 : decode cL_law 301 = .ok (.iconst 0, 1) := by decide +kernel
theorem dL_law_302 : decode cL_law 302 = .ok (.ireturn, 1) := by decide +kernel
theorem dL_law_303 : decode cL_law 303 = .ok (.aload_n 1, 1) := by decide +kernel
theorem dL_law_304 : decode cL_law 304 = .ok (.invokevirtual 36, 3) := by decide +kernel
theorem dL_law_307 : decode cL_law 307 = .ok (.aload_n 2, 1) := by decide +kernel
theorem dL_law_308 : decode cL_law 308 = .ok (.invokevirtual 39, 3) := by decide +kernel
theorem dL_law_311 : decode cL_law 311 = .ok (.if_icmp .eq 834, 3) := by decide +kernel
theorem dL_law_314 : decode cL_law 314 = .ok (.iconst 0, 1) := by decide +kernel
theorem dL_law_315 : decode cL_law 315 = .ok (.ireturn, 1) := by decide +kernel
theorem dL_law_316 : decode cL_law 316 = .ok (.aload_n 1, 1) := by decide +kernel
theorem dL_law_317 : decode cL_law 317 = .ok (.aload_n 0, 1) := by decide +kernel
theorem dL_law_318 : decode cL_law 318 = .ok (.iload_n 3, 1) := by decide +kernel
theorem dL_law_319 : decode cL_law 319 = .ok (.iconst 1, 1) := by decide +kernel
theorem dL_law_320 : decode cL_law 320 = .ok (.iadd, 1) := by decide +kernel
theorem dL_law_321 : decode cL_law 321 = .ok (.iaload, 1) := by decide +kernel
theorem dL_law_322 : decode cL_law 322 = .ok (.invokevirtual 40, 3) := by decide +kernel
theorem dL_law_325 : decode cL_law 325 = .ok (.aload_n 2, 1) := by decide +kernel
theorem dL_law_326 : decode cL_law 326 = .ok (.aload_n 0, 1) := by decide +kernel
theorem dL_law_327 : decode cL_law 327 = .ok (.iload_n 3, 1) := by decide +kernel
theorem dL_law_328 : decode cL_law 328 = .ok (.iconst 1, 1) := by decide +kernel
theorem dL_law_329 : decode cL_law 329 = .ok (.iadd, 1) := by decide +kernel
theorem dL_law_330 : decode cL_law 330 = .ok (.iaload, 1) := by decide +kernel
theorem dL_law_331 : decode cL_law 331 = .ok (.invokevirtual 43, 3) := by decide +kernel
theorem dL_law_334 : decode cL_law 334 = .ok (.if_icmp .eq 811, 3) := by decide +kernel
theorem dL_law_337 : decode cL_law 337 = .ok (.iconst 0, 1) := by decide +kernel
theorem dL_law_338 : decode cL_law 338 = .ok (.ireturn, 1) := by decide +kernel
theorem dL_law_339 : decode cL_law 339 = .ok (.aload_n 1, 1) := by decide +kernel
theorem dL_law_340 : decode cL_law 340 = .ok (.invokevirtual 44, 3) := by decide +kernel
theorem dL_law_343 : decode cL_law 343 = .ok (.aload_n 2, 1) := by decide +kernel
theorem dL_law_344 : decode cL_law 344 = .ok (.invokevirtual 47, 3) := by decide +kernel
theorem dL_law_347 : decode cL_law 347 = .ok (.if_icmp .eq 798, 3) := by decide +kernel
theorem dL_law_350 : decode cL_law 350 = .ok (.iconst 0, 1) := by decide +kernel
theorem dL_law_351 : decode cL_law 351 = .ok (.ireturn, 1) := by decide +kernel
theorem dL_law_352 : decode cL_law 352 = .ok (.aload_n 1, 1) := by decide +kernel
theorem dL_law_353 : decode cL_law 353 = .ok (.aload_n 0, 1) := by decide +kernel
theorem dL_law_354 : decode cL_law 354 = .ok (.iload_n 3, 1) := by decide +kernel
theorem dL_law_355 : decode cL_law 355 = .ok (.iconst 1, 1) := by decide +kernel
theorem dL_law_356 : decode cL_law 356 = .ok (.iadd, 1) := by decide +kernel
theorem dL_law_357 : decode cL_law 357 = .ok (.iaload, 1) := by decide +kernel
theorem dL_law_358 : decode cL_law 358 = .ok (.aload_n 0, 1) := by decide +kernel
theorem dL_law_359 : decode cL_law 359 = .ok (.iload_n 3, 1) := by decide +kernel
theorem dL_law_360 : decode cL_law 360 = .ok (.iconst 2, 1) := by decide +kernel
theorem dL_law_361 : decode cL_law 361 = .ok (.iadd, 1) := by decide +kernel
theorem dL_law_362 : decode cL_law 362 = .ok (.iaload, 1) := by decide +kernel
theorem dL_law_363 : decode cL_law 363 = .ok (.invokevirtual 48, 3) := by decide +kernel
theorem dL_law_366 : decode cL_law 366 = .ok (.aload_n 2, 1) := by decide +kernel
theorem dL_law_367 : decode cL_law 367 = .ok (.aload_n 0, 1) := by decide +kernel
theorem dL_law_368 : decode cL_law 368 = .ok (.iload_n 3, 1) := by decide +kernel
theorem dL_law_369 : decode cL_law 369 = .ok (.iconst 1, 1) := by decide +kernel
theorem dL_law_370 : decode cL_law 370 = .ok (.iadd, 1) := by decide +kernel
theorem dL_law_371 : decode cL_law 371 = .ok (.iaload, 1) := by decide +kernel
theorem dL_law_372 : decode cL_law 372 = .ok (.aload_n 0, 1) := by decide +kernel
theorem dL_law_373 : decode cL_law 373 = .ok (.iload_n 3, 1) := by decide +kernel
theorem dL_law_374 : decode cL_law 374 = .ok (.iconst 2, 1) := by decide +kernel
theorem dL_law_375 : decode cL_law 375 = .ok (.iadd, 1) := by decide +kernel
theorem dL_law_376 : decode cL_law 376 = .ok (.iaload, 1) := by decide +kernel
theorem dL_law_377 : decode cL_law 377 = .ok (.invokevirtual 51, 3) := by decide +kernel
theorem dL_law_380 : decode cL_law 380 = .ok (.if_icmp .eq 765, 3) := by decide +kernel
theorem dL_law_383 : decode cL_law 383 = .ok (.iconst 0, 1) := by decide +kernel
theorem dL_law_384 : decode cL_law 384 = .ok (.ireturn, 1) := by decide +kernel
theorem dL_law_385 : decode cL_law 385 = .ok (.aload_n 1, 1) := by decide +kernel
theorem dL_law_386 : decode cL_law 386 = .ok (.aload_n 0, 1) := by decide +kernel
theorem dL_law_387 : decode cL_law 387 = .ok (.iload_n 3, 1) := by decide +kernel
theorem dL_law_388 : decode cL_law 388 = .ok (.iconst 1, 1) := by decide +kernel
theorem dL_law_389 : decode cL_law 389 = .ok (.iadd, 1) := by decide +kernel
theorem dL_law_390 : decode cL_law 390 = .ok (.iaload, 1) := by decide +kernel
theorem dL_law_391 : decode cL_law 391 = .ok (.invokevirtual 52, 3) := by decide +kernel
theorem dL_law_394 : decode cL_law 394 = .ok (.aload_n 2, 1) := by decide +kernel
theorem dL_law_395 : decode cL_law 395 = .ok (.aload_n 0, 1) := by decide +kernel
theorem dL_law_396 : decode cL_law 396 = .ok (.iload_n 3, 1) := by decide +kernel
theorem dL_law_397 : decode cL_law 397 = .ok (.iconst 1, 1) := by decide +kernel
theorem dL_law_398 : decode cL_law 398 = .ok (.iadd, 1) := by decide +kernel
theorem dL_law_399 : decode cL_law 399 = .ok (.iaload, 1) := by decide +kernel
theorem dL_law_400 : decode cL_law 400 = .ok (.invokevirtual 55, 3) := by decide +kernel
theorem dL_law_403 : decode cL_law 403 = .ok (.if_icmp .eq 742, 3) := by decide +kernel
theorem dL_law_406 : decode cL_law 406 = .ok (.iconst 0, 1) := by decide +kernel
theorem dL_law_407 : decode cL_law 407 = .ok (.ireturn, 1) := by decide +kernel
theorem dL_law_408 : decode cL_law 408 = .ok (.aload_n 1, 1) := by decide +kernel
theorem dL_law_409 : decode cL_law 409 = .ok (.invokevirtual 56, 3) := by decide +kernel
theorem dL_law_412 : decode cL_law 412 = .ok (.aload_n 2, 1) := by decide +kernel
theorem dL_law_413 : decode cL_law 413 = .ok (.invokevirtual 59, 3) := by decide +kernel
theorem dL_law_416 : decode cL_law 416 = .ok (.if_icmp .eq 729, 3) := by decide +kernel
theorem dL_law_419 : decode cL_law 419 = .ok (.iconst 0, 1) := by decide +kernel
theorem dL_law_420 : decode cL_law 420 = .ok (.ireturn, 1) := by decide +kernel
theorem dL_law_421 : decode cL_law 421 = .ok (.aload_n 1, 1) := by decide +kernel
theorem dL_law_422 : decode cL_law 422 = .ok (.aload_n 0, 1) := by decide +kernel
theorem dL_law_423 : decode cL_law 423 = .ok (.iload_n 3, 1) := by decide +kernel
theorem dL_law_424 : decode cL_law 424 = .ok (.iconst 1, 1) := by decide +kernel
theorem dL_law_425 : decode cL_law 425 = .ok (.iadd, 1) := by decide +kernel
theorem dL_law_426 : decode cL_law 426 = .ok (.iaload, 1) := by decide +kernel
theorem dL_law_427 : decode cL_law 427 = .ok (.aload_n 0, 1) := by decide +kernel
theorem dL_law_428 : decode cL_law 428 = .ok (.iload_n 3, 1) := by decide +kernel
theorem dL_law_429 : decode cL_law 429 = .ok (.iconst 2, 1) := by decide +kernel
theorem dL_law_430 : decode cL_law 430 = .ok (.iadd, 1) := by decide +kernel
theorem dL_law_431 : decode cL_law 431 = .ok (.iaload, 1) := by decide +kernel
theorem dL_law_432 : decode cL_law 432 = .ok (.invokevirtual 60, 3) := by decide +kernel
theorem dL_law_435 : decode cL_law 435 = .ok (.aload_n 2, 1) := by decide +kernel
theorem dL_law_436 : decode cL_law 436 = .ok (.aload_n 0, 1) := by decide +kernel
theorem dL_law_437 : decode cL_law 437 = .ok (.iload_n 3, 1) := by decide +kernel
theorem dL_law_438 : decode cL_law 438 = .ok (.iconst 1, 1) := by decide +kernel
theorem dL_law_439 : decode cL_law 439 = .ok (.iadd, 1) := by decide +kernel
theorem dL_law_440 : decode cL_law 440 = .ok (.iaload, 1) := by decide +kernel
theorem dL_law_441 : decode cL_law 441 = .ok (.aload_n 0, 1) := by decide +kernel
theorem dL_law_442 : decode cL_law 442 = .ok (.iload_n 3, 1) := by decide +kernel
theorem dL_law_443 : decode cL_law 443 = .ok (.iconst 2, 1) := by decide +kernel
theorem dL_law_444 : decode cL_law 444 = .ok (.iadd, 1) := by decide +kernel
theorem dL_law_445 : decode cL_law 445 = .ok (.iaload, 1) := by decide +kernel
theorem dL_law_446 : decode cL_law 446 = .ok (.invokevirtual 63, 3) := by decide +kernel
theorem dL_law_449 : decode cL_law 449 = .ok (.if_icmp .eq 696, 3) := by decide +kernel
theorem dL_law_452 : decode cL_law 452 = .ok (.iconst 0, 1) := by decide +kernel
theorem dL_law_453 : decode cL_law 453 = .ok (.ireturn, 1) := by decide +kernel
theorem dL_law_454 : decode cL_law 454 = .ok (.aload_n 1, 1) := by decide +kernel
theorem dL_law_455 : decode cL_law 455 = .ok (.aload_n 0, 1) := by decide +kernel
theorem dL_law_456 : decode cL_law 456 = .ok (.iload_n 3, 1) := by decide +kernel
theorem dL_law_457 : decode cL_law 457 = .ok (.iconst 1, 1) := by decide +kernel
theorem dL_law_458 : decode cL_law 458 = .ok (.iadd, 1) := by decide +kernel
theorem dL_law_459 : decode cL_law 459 = .ok (.iaload, 1) := by decide +kernel
theorem dL_law_460 : decode cL_law 460 = .ok (.aload_n 0, 1) := by decide +kernel
theorem dL_law_461 : decode cL_law 461 = .ok (.iload_n 3, 1) := by decide +kernel
theorem dL_law_462 : decode cL_law 462 = .ok (.iconst 2, 1) := by decide +kernel
theorem dL_law_463 : decode cL_law 463 = .ok (.iadd, 1) := by decide +kernel
theorem dL_law_464 : decode cL_law 464 = .ok (.iaload, 1) := by decide +kernel
theorem dL_law_465 : decode cL_law 465 = .ok (.invokevirtual 64, 3) := by decide +kernel
theorem dL_law_468 : decode cL_law 468 = .ok (.aload_n 2, 1) := by decide +kernel
theorem dL_law_469 : decode cL_law 469 = .ok (.aload_n 0, 1) := by decide +kernel
theorem dL_law_470 : decode cL_law 470 = .ok (.iload_n 3, 1) := by decide +kernel
theorem dL_law_471 : decode cL_law 471 = .ok (.iconst 1, 1) := by decide +kernel
theorem dL_law_472 : decode cL_law 472 = .ok (.iadd, 1) := by decide +kernel
theorem dL_law_473 : decode cL_law 473 = .ok (.iaload, 1) := by decide +kernel
theorem dL_law_474 : decode cL_law 474 = .ok (.aload_n 0, 1) := by decide +kernel
theorem dL_law_475 : decode cL_law 475 = .ok (.iload_n 3, 1) := by decide +kernel
theorem dL_law_476 : decode cL_law 476 = .ok (.iconst 2, 1) := by decide +kernel
theorem dL_law_477 : decode cL_law 477 = .ok (.iadd, 1) := by decide +kernel
theorem dL_law_478 : decode cL_law 478 = .ok (.iaload, 1) := by decide +kernel
theorem dL_law_479 : decode cL_law 479 = .ok (.invokevirtual 67, 3) := by decide +kernel
theorem dL_law_482 : decode cL_law 482 = .ok (.if_icmp .eq 663, 3) := by decide +kernel
theorem dL_law_485 : decode cL_law 485 = .ok (.iconst 0, 1) := by decide +kernel
theorem dL_law_486 : decode cL_law 486 = .ok (.ireturn, 1) := by decide +kernel
theorem dL_law_487 : decode cL_law 487 = .ok (.aload_n 1, 1) := by decide +kernel
theorem dL_law_488 : decode cL_law 488 = .ok (.aload_n 0, 1) := by decide +kernel
theorem dL_law_489 : decode cL_law 489 = .ok (.iload_n 3, 1) := by decide +kernel
theorem dL_law_490 : decode cL_law 490 = .ok (.iconst 1, 1) := by decide +kernel
theorem dL_law_491 : decode cL_law 491 = .ok (.iadd, 1) := by decide +kernel
theorem dL_law_492 : decode cL_law 492 = .ok (.iaload, 1) := by decide +kernel
theorem dL_law_493 : decode cL_law 493 = .ok (.aload_n 0, 1) := by decide +kernel
theorem dL_law_494 : decode cL_law 494 = .ok (.iload_n 3, 1) := by decide +kernel
theorem dL_law_495 : decode cL_law 495 = .ok (.iconst 2, 1) := by decide +kernel
theorem dL_law_496 : decode cL_law 496 = .ok (.iadd, 1) := by decide +kernel
theorem dL_law_497 : decode cL_law 497 = .ok (.iaload, 1) := by decide +kernel
theorem dL_law_498 : decode cL_law 498 = .ok (.invokevirtual 68, 3) := by decide +kernel
theorem dL_law_501 : decode cL_law 501 = .ok (.aload_n 2, 1) := by decide +kernel
theorem dL_law_502 : decode cL_law 502 = .ok (.aload_n 0, 1) := by decide +kernel
theorem dL_law_503 : decode cL_law 503 = .ok (.iload_n 3, 1) := by decide +kernel
theorem dL_law_504 : decode cL_law 504 = .ok (.iconst 1, 1) := by decide +kernel
theorem dL_law_505 : decode cL_law 505 = .ok (.iadd, 1) := by decide +kernel
theorem dL_law_506 : decode cL_law 506 = .ok (.iaload, 1) := by decide +kernel
theorem dL_law_507 : decode cL_law 507 = .ok (.aload_n 0, 1) := by decide +kernel
theorem dL_law_508 : decode cL_law 508 = .ok (.iload_n 3, 1) := by decide +kernel
theorem dL_law_509 : decode cL_law 509 = .ok (.iconst 2, 1) := by decide +kernel
theorem dL_law_510 : decode cL_law 510 = .ok (.iadd, 1) := by decide +kernel
theorem dL_law_511 : decode cL_law 511 = .ok (.iaload, 1) := by decide +kernel
theorem dL_law_512 : decode cL_law 512 = .ok (.invokevirtual 71, 3) := by decide +kernel
theorem dL_law_515 : decode cL_law 515 = .ok (.if_icmp .eq 630, 3) := by decide +kernel
theorem dL_law_518 : decode cL_law 518 = .ok (.iconst 0, 1) := by decide +kernel
theorem dL_law_519 : decode cL_law 519 = .ok (.ireturn, 1) := by decide +kernel
theorem dL_law_520 : decode cL_law 520 = .ok (.aload_n 1, 1) := by decide +kernel
theorem dL_law_521 : decode cL_law 521 = .ok (.aload_n 0, 1) := by decide +kernel
theorem dL_law_522 : decode cL_law 522 = .ok (.iload_n 3, 1) := by decide +kernel
theorem dL_law_523 : decode cL_law 523 = .ok (.iconst 1, 1) := by decide +kernel
theorem dL_law_524 : decode cL_law 524 = .ok (.iadd, 1) := by decide +kernel
theorem dL_law_525 : decode cL_law 525 = .ok (.iaload, 1) := by decide +kernel
theorem dL_law_526 : decode cL_law 526 = .ok (.aload_n 0, 1) := by decide +kernel
theorem dL_law_527 : decode cL_law 527 = .ok (.iload_n 3, 1) := by decide +kernel
theorem dL_law_528 : decode cL_law 528 = .ok (.iconst 2, 1) := by decide +kernel
theorem dL_law_529 : decode cL_law 529 = .ok (.iadd, 1) := by decide +kernel
theorem dL_law_530 : decode cL_law 530 = .ok (.iaload, 1) := by decide +kernel
theorem dL_law_531 : decode cL_law 531 = .ok (.invokevirtual 72, 3) := by decide +kernel
theorem dL_law_534 : decode cL_law 534 = .ok (.aload_n 2, 1) := by decide +kernel
theorem dL_law_535 : decode cL_law 535 = .ok (.aload_n 0, 1) := by decide +kernel
theorem dL_law_536 : decode cL_law 536 = .ok (.iload_n 3, 1) := by decide +kernel
theorem dL_law_537 : decode cL_law 537 = .ok (.iconst 1, 1) := by decide +kernel
theorem dL_law_538 : decode cL_law 538 = .ok (.iadd, 1) := by decide +kernel
theorem dL_law_539 : decode cL_law 539 = .ok (.iaload, 1) := by decide +kernel
theorem dL_law_540 : decode cL_law 540 = .ok (.aload_n 0, 1) := by decide +kernel
theorem dL_law_541 : decode cL_law 541 = .ok (.iload_n 3, 1) := by decide +kernel
theorem dL_law_542 : decode cL_law 542 = .ok (.iconst 2, 1) := by decide +kernel
theorem dL_law_543 : decode cL_law 543 = .ok (.iadd, 1) := by decide +kernel
theorem dL_law_544 : decode cL_law 544 = .ok (.iaload, 1) := by decide +kernel
theorem dL_law_545 : decode cL_law 545 = .ok (.invokevirtual 75, 3) := by decide +kernel
theorem dL_law_548 : decode cL_law 548 = .ok (.if_icmp .eq 597, 3) := by decide +kernel
theorem dL_law_551 : decode cL_law 551 = .ok (.iconst 0, 1) := by decide +kernel
theorem dL_law_552 : decode cL_law 552 = .ok (.ireturn, 1) := by decide +kernel
theorem dL_law_553 : decode cL_law 553 = .ok (.aload_n 1, 1) := by decide +kernel
theorem dL_law_554 : decode cL_law 554 = .ok (.aload_n 0, 1) := by decide +kernel
theorem dL_law_555 : decode cL_law 555 = .ok (.iload_n 3, 1) := by decide +kernel
theorem dL_law_556 : decode cL_law 556 = .ok (.iconst 1, 1) := by decide +kernel
theorem dL_law_557 : decode cL_law 557 = .ok (.iadd, 1) := by decide +kernel
theorem dL_law_558 : decode cL_law 558 = .ok (.iaload, 1) := by decide +kernel
theorem dL_law_559 : decode cL_law 559 = .ok (.aload_n 0, 1) := by decide +kernel
theorem dL_law_560 : decode cL_law 560 = .ok (.iload_n 3, 1) := by decide +kernel
theorem dL_law_561 : decode cL_law 561 = .ok (.iconst 2, 1) := by decide +kernel
theorem dL_law_562 : decode cL_law 562 = .ok (.iadd, 1) := by decide +kernel
theorem dL_law_563 : decode cL_law 563 = .ok (.iaload, 1) := by decide +kernel
theorem dL_law_564 : decode cL_law 564 = .ok (.aload_n 0, 1) := by decide +kernel
theorem dL_law_565 : decode cL_law 565 = .ok (.iload_n 3, 1) := by decide +kernel
theorem dL_law_566 : decode cL_law 566 = .ok (.iconst 3, 1) := by decide +kernel
theorem dL_law_567 : decode cL_law 567 = .ok (.iadd, 1) := by decide +kernel
theorem dL_law_568 : decode cL_law 568 = .ok (.iaload, 1) := by decide +kernel
theorem dL_law_569 : decode cL_law 569 = .ok (.invokevirtual 76, 3) := by decide +kernel
theorem dL_law_572 : decode cL_law 572 = .ok (.aload_n 2, 1) := by decide +kernel
theorem dL_law_573 : decode cL_law 573 = .ok (.aload_n 0, 1) := by decide +kernel
theorem dL_law_574 : decode cL_law 574 = .ok (.iload_n 3, 1) := by decide +kernel
theorem dL_law_575 : decode cL_law 575 = .ok (.iconst 1, 1) := by decide +kernel
theorem dL_law_576 : decode cL_law 576 = .ok (.iadd, 1) := by decide +kernel
theorem dL_law_577 : decode cL_law 577 = .ok (.iaload, 1) := by decide +kernel
theorem dL_law_578 : decode cL_law 578 = .ok (.aload_n 0, 1) := by decide +kernel
theorem dL_law_579 : decode cL_law 579 = .ok (.iload_n 3, 1) := by decide +kernel
theorem dL_law_580 : decode cL_law 580 = .ok (.iconst 2, 1) := by decide +kernel
theorem dL_law_581 : decode cL_law 581 = .ok (.iadd, 1) := by decide +kernel
theorem dL_law_582 : decode cL_law 582 = .ok (.iaload, 1) := by decide +kernel
theorem dL_law_583 : decode cL_law 583 = .ok (.aload_n 0, 1) := by decide +kernel
theorem dL_law_584 : decode cL_law 584 = .ok (.iload_n 3, 1) := by decide +kernel
theorem dL_law_585 : decode cL_law 585 = .ok (.iconst 3, 1) := by decide +kernel
theorem dL_law_586 : decode cL_law 586 = .ok (.iadd, 1) := by decide +kernel
theorem dL_law_587 : decode cL_law 587 = .ok (.iaload, 1) := by decide +kernel
theorem dL_law_588 : decode cL_law 588 = .ok (.invokevirtual 80, 3) := by decide +kernel
theorem dL_law_591 : decode cL_law 591 = .ok (.if_icmp .eq 554, 3) := by decide +kernel
theorem dL_law_594 : decode cL_law 594 = .ok (.iconst 0, 1) := by decide +kernel
theorem dL_law_595 : decode cL_law 595 = .ok (.ireturn, 1) := by decide +kernel
theorem dL_law_596 : decode cL_law 596 = .ok (.aload_n 1, 1) := by decide +kernel
theorem dL_law_597 : decode cL_law 597 = .ok (.aload_n 0, 1) := by decide +kernel
theorem dL_law_598 : decode cL_law 598 = .ok (.iload_n 3, 1) := by decide +kernel
theorem dL_law_599 : decode cL_law 599 = .ok (.iconst 1, 1) := by decide +kernel
theorem dL_law_600 : decode cL_law 600 = .ok (.iadd, 1) := by decide +kernel
theorem dL_law_601 : decode cL_law 601 = .ok (.iaload, 1) := by decide +kernel
theorem dL_law_602 : decode cL_law 602 = .ok (.aload_n 0, 1) := by decide +kernel
theorem dL_law_603 : decode cL_law 603 = .ok (.iload_n 3, 1) := by decide +kernel
theorem dL_law_604 : decode cL_law 604 = .ok (.iconst 2, 1) := by decide +kernel
theorem dL_law_605 : decode cL_law 605 = .ok (.iadd, 1) := by decide +kernel
theorem dL_law_606 : decode cL_law 606 = .ok (.iaload, 1) := by decide +kernel
theorem dL_law_607 : decode cL_law 607 = .ok (.invokevirtual 81, 3) := by decide +kernel
theorem dL_law_610 : decode cL_law 610 = .ok (.aload_n 2, 1) := by decide +kernel
theorem dL_law_611 : decode cL_law 611 = .ok (.aload_n 0, 1) := by decide +kernel
theorem dL_law_612 : decode cL_law 612 = .ok (.iload_n 3, 1) := by decide +kernel
theorem dL_law_613 : decode cL_law 613 = .ok (.iconst 1, 1) := by decide +kernel
theorem dL_law_614 : decode cL_law 614 = .ok (.iadd, 1) := by decide +kernel
theorem dL_law_615 : decode cL_law 615 = .ok (.iaload, 1) := by decide +kernel
theorem dL_law_616 : decode cL_law 616 = .ok (.aload_n 0, 1) := by decide +kernel
theorem dL_law_617 : decode cL_law 617 = .ok (.iload_n 3, 1) := by decide +kernel
theorem dL_law_618 : decode cL_law 618 = .ok (.iconst 2, 1) := by decide +kernel
theorem dL_law_619 : decode cL_law 619 = .ok (.iadd, 1) := by decide +kernel
theorem dL_law_620 : decode cL_law 620 = .ok (.iaload, 1) := by decide +kernel
theorem dL_law_621 : decode cL_law 621 = .ok (.invokevirtual 84, 3) := by decide +kernel
theorem dL_law_624 : decode cL_law 624 = .ok (.if_icmp .eq 521, 3) := by decide +kernel
theorem dL_law_627 : decode cL_law 627 = .ok (.iconst 0, 1) := by decide +kernel
theorem dL_law_628 : decode cL_law 628 = .ok (.ireturn, 1) := by decide +kernel
theorem dL_law_629 : decode cL_law 629 = .ok (.aload_n 1, 1) := by decide +kernel
theorem dL_law_630 : decode cL_law 630 = .ok (.aload_n 0, 1) := by decide +kernel
theorem dL_law_631 : decode cL_law 631 = .ok (.iload_n 3, 1) := by decide +kernel
theorem dL_law_632 : decode cL_law 632 = .ok (.iconst 1, 1) := by decide +kernel
theorem dL_law_633 : decode cL_law 633 = .ok (.iadd, 1) := by decide +kernel
theorem dL_law_634 : decode cL_law 634 = .ok (.iaload, 1) := by decide +kernel
theorem dL_law_635 : decode cL_law 635 = .ok (.invokevirtual 85, 3) := by decide +kernel
theorem dL_law_638 : decode cL_law 638 = .ok (.aload_n 2, 1) := by decide +kernel
theorem dL_law_639 : decode cL_law 639 = .ok (.aload_n 0, 1) := by decide +kernel
theorem dL_law_640 : decode cL_law 640 = .ok (.iload_n 3, 1) := by decide +kernel
theorem dL_law_641 : decode cL_law 641 = .ok (.iconst 1, 1) := by decide +kernel
theorem dL_law_642 : decode cL_law 642 = .ok (.iadd, 1) := by decide +kernel
theorem dL_law_643 : decode cL_law 643 = .ok (.iaload, 1) := by decide +kernel
theorem dL_law_644 : decode cL_law 644 = .ok (.invokevirtual 88, 3) := by decide +kernel
theorem dL_law_647 : decode cL_law 647 = .ok (.if_icmp .eq 498, 3) := by decide +kernel
theorem dL_law_650 : decode cL_law 650 = .ok (.iconst 0, 1) := by decide +kernel
theorem dL_law_651 : decode cL_law 651 = .ok (.ireturn, 1) := by decide +kernel
theorem dL_law_652 : decode cL_law 652 = .ok (.aload_n 1, 1) := by decide +kernel
theorem dL_law_653 : decode cL_law 653 = .ok (.aload_n 0, 1) := by decide +kernel
theorem dL_law_654 : decode cL_law 654 = .ok (.iload_n 3, 1) := by decide +kernel
theorem dL_law_655 : decode cL_law 655 = .ok (.iconst 1, 1) := by decide +kernel
theorem dL_law_656 : decode cL_law 656 = .ok (.iadd, 1) := by decide +kernel
theorem dL_law_657 : decode cL_law 657 = .ok (.iaload, 1) := by decide +kernel
theorem dL_law_658 : decode cL_law 658 = .ok (.aload_n 0, 1) := by decide +kernel
theorem dL_law_659 : decode cL_law 659 = .ok (.iload_n 3, 1) := by decide +kernel
theorem dL_law_660 : decode cL_law 660 = .ok (.iconst 2, 1) := by decide +kernel
theorem dL_law_661 : decode cL_law 661 = .ok (.iadd, 1) := by decide +kernel
theorem dL_law_662 : decode cL_law 662 = .ok (.iaload, 1) := by decide +kernel
theorem dL_law_663 : decode cL_law 663 = .ok (.invokevirtual 89, 3) := by decide +kernel
theorem dL_law_666 : decode cL_law 666 = .ok (.aload_n 2, 1) := by decide +kernel
theorem dL_law_667 : decode cL_law 667 = .ok (.aload_n 0, 1) := by decide +kernel
theorem dL_law_668 : decode cL_law 668 = .ok (.iload_n 3, 1) := by decide +kernel
theorem dL_law_669 : decode cL_law 669 = .ok (.iconst 1, 1) := by decide +kernel
theorem dL_law_670 : decode cL_law 670 = .ok (.iadd, 1) := by decide +kernel
theorem dL_law_671 : decode cL_law 671 = .ok (.iaload, 1) := by decide +kernel
theorem dL_law_672 : decode cL_law 672 = .ok (.aload_n 0, 1) := by decide +kernel
theorem dL_law_673 : decode cL_law 673 = .ok (.iload_n 3, 1) := by decide +kernel
theorem dL_law_674 : decode cL_law 674 = .ok (.iconst 2, 1) := by decide +kernel
theorem dL_law_675 : decode cL_law 675 = .ok (.iadd, 1) := by decide +kernel
theorem dL_law_676 : decode cL_law 676 = .ok (.iaload, 1) := by decide +kernel
theorem dL_law_677 : decode cL_law 677 = .ok (.invokevirtual 92, 3) := by decide +kernel
theorem dL_law_680 : decode cL_law 680 = .ok (.if_icmp .eq 465, 3) := by decide +kernel
theorem dL_law_683 : decode cL_law 683 = .ok (.iconst 0, 1) := by decide +kernel
theorem dL_law_684 : decode cL_law 684 = .ok (.ireturn, 1) := by decide +kernel
theorem dL_law_685 : decode cL_law 685 = .ok (.aload_n 1, 1) := by decide +kernel
theorem dL_law_686 : decode cL_law 686 = .ok (.aload_n 0, 1) := by decide +kernel
theorem dL_law_687 : decode cL_law 687 = .ok (.iload_n 3, 1) := by decide +kernel
theorem dL_law_688 : decode cL_law 688 = .ok (.iconst 1, 1) := by decide +kernel
theorem dL_law_689 : decode cL_law 689 = .ok (.iadd, 1) := by decide +kernel
theorem dL_law_690 : decode cL_law 690 = .ok (.iaload, 1) := by decide +kernel
theorem dL_law_691 : decode cL_law 691 = .ok (.invokevirtual 93, 3) := by decide +kernel
theorem dL_law_694 : decode cL_law 694 = .ok (.aload_n 2, 1) := by decide +kernel
theorem dL_law_695 : decode cL_law 695 = .ok (.aload_n 0, 1) := by decide +kernel
theorem dL_law_696 : decode cL_law 696 = .ok (.iload_n 3, 1) := by decide +kernel
theorem dL_law_697 : decode cL_law 697 = .ok (.iconst 1, 1) := by decide +kernel
theorem dL_law_698 : decode cL_law 698 = .ok (.iadd, 1) := by decide +kernel
theorem dL_law_699 : decode cL_law 699 = .ok (.iaload, 1) := by decide +kernel
theorem dL_law_700 : decode cL_law 700 = .ok (.invokevirtual 96, 3) := by decide +kernel
theorem dL_law_703 : decode cL_law 703 = .ok (.if_icmp .eq 442, 3) := by decide +kernel
theorem dL_law_706 : decode cL_law 706 = .ok (.iconst 0, 1) := by decide +kernel
theorem dL_law_707 : decode cL_law 707 = .ok (.ireturn, 1) := by decide +kernel
theorem dL_law_708 : decode cL_law 708 = .ok (.aload_n 1, 1) := by decide +kernel
theorem dL_law_709 : decode cL_law 709 = .ok (.aload_n 0, 1) := by decide +kernel
theorem dL_law_710 : decode cL_law 710 = .ok (.iload_n 3, 1) := by decide +kernel
theorem dL_law_711 : decode cL_law 711 = .ok (.iconst 1, 1) := by decide +kernel
theorem dL_law_712 : decode cL_law 712 = .ok (.iadd, 1) := by decide +kernel
theorem dL_law_713 : decode cL_law 713 = .ok (.iaload, 1) := by decide +kernel
theorem dL_law_714 : decode cL_law 714 = .ok (.aload_n 0, 1) := by decide +kernel
theorem dL_law_715 : decode cL_law 715 = .ok (.iload_n 3, 1) := by decide +kernel
theorem dL_law_716 : decode cL_law 716 = .ok (.iconst 2, 1) := by decide +kernel
theorem dL_law_717 : decode cL_law 717 = .ok (.iadd, 1) := by decide +kernel
theorem dL_law_718 : decode cL_law 718 = .ok (.iaload, 1) := by decide +kernel
theorem dL_law_719 : decode cL_law 719 = .ok (.aload_n 0, 1) := by decide +kernel
theorem dL_law_720 : decode cL_law 720 = .ok (.iload_n 3, 1) := by decide +kernel
theorem dL_law_721 : decode cL_law 721 = .ok (.iconst 3, 1) := by decide +kernel
theorem dL_law_722 : decode cL_law 722 = .ok (.iadd, 1) := by decide +kernel
theorem dL_law_723 : decode cL_law 723 = .ok (.iaload, 1) := by decide +kernel
theorem dL_law_724 : decode cL_law 724 = .ok (.aload_n 0, 1) := by decide +kernel
theorem dL_law_725 : decode cL_law 725 = .ok (.iload_n 3, 1) := by decide +kernel
theorem dL_law_726 : decode cL_law 726 = .ok (.iconst 4, 1) := by decide +kernel
theorem dL_law_727 : decode cL_law 727 = .ok (.iadd, 1) := by decide +kernel
theorem dL_law_728 : decode cL_law 728 = .ok (.iaload, 1) := by decide +kernel
theorem dL_law_729 : decode cL_law 729 = .ok (.invokevirtual 97, 3) := by decide +kernel
theorem dL_law_732 : decode cL_law 732 = .ok (.aload_n 2, 1) := by decide +kernel
theorem dL_law_733 : decode cL_law 733 = .ok (.aload_n 0, 1) := by decide +kernel
theorem dL_law_734 : decode cL_law 734 = .ok (.iload_n 3, 1) := by decide +kernel
theorem dL_law_735 : decode cL_law 735 = .ok (.iconst 1, 1) := by decide +kernel
theorem dL_law_736 : decode cL_law 736 = .ok (.iadd, 1) := by decide +kernel
theorem dL_law_737 : decode cL_law 737 = .ok (.iaload, 1) := by decide +kernel
theorem dL_law_738 : decode cL_law 738 = .ok (.aload_n 0, 1) := by decide +kernel
theorem dL_law_739 : decode cL_law 739 = .ok (.iload_n 3, 1) := by decide +kernel
theorem dL_law_740 : decode cL_law 740 = .ok (.iconst 2, 1) := by decide +kernel
theorem dL_law_741 : decode cL_law 741 = .ok (.iadd, 1) := by decide +kernel
theorem dL_law_742 : decode cL_law 742 = .ok (.iaload, 1) := by decide +kernel
theorem dL_law_743 : decode cL_law 743 = .ok (.aload_n 0, 1) := by decide +kernel
theorem dL_law_744 : decode cL_law 744 = .ok (.iload_n 3, 1) := by decide +kernel
theorem dL_law_745 : decode cL_law 745 = .ok (.iconst 3, 1) := by decide +kernel
theorem dL_law_746 : decode cL_law 746 = .ok (.iadd, 1) := by decide +kernel
theorem dL_law_747 : decode cL_law 747 = .ok (.iaload, 1) := by decide +kernel
theorem dL_law_748 : decode cL_law 748 = .ok (.aload_n 0, 1) := by decide +kernel
theorem dL_law_749 : decode cL_law 749 = .ok (.iload_n 3, 1) := by decide +kernel
theorem dL_law_750 : decode cL_law 750 = .ok (.iconst 4, 1) := by decide +kernel
theorem dL_law_751 : decode cL_law 751 = .ok (.iadd, 1) := by decide +kernel
theorem dL_law_752 : decode cL_law 752 = .ok (.iaload, 1) := by decide +kernel
theorem dL_law_753 : decode cL_law 753 = .ok (.invokevirtual 101, 3) := by decide +kernel
theorem dL_law_756 : decode cL_law 756 = .ok (.if_icmp .eq 389, 3) := by decide +kernel
theorem dL_law_759 : decode cL_law 759 = .ok (.iconst 0, 1) := by decide +kernel
theorem dL_law_760 : decode cL_law 760 = .ok (.ireturn, 1) := by decide +kernel
theorem dL_law_761 : decode cL_law 761 = .ok (.aload_n 1, 1) := by decide +kernel
theorem dL_law_762 : decode cL_law 762 = .ok (.invokevirtual 102, 3) := by decide +kernel
theorem dL_law_765 : decode cL_law 765 = .ok (.aload_n 2, 1) := by decide +kernel
theorem dL_law_766 : decode cL_law 766 = .ok (.invokevirtual 105, 3) := by decide +kernel
theorem dL_law_769 : decode cL_law 769 = .ok (.if_icmp .eq 376, 3) := by decide +kernel
theorem dL_law_772 : decode cL_law 772 = .ok (.iconst 0, 1) := by decide +kernel
theorem dL_law_773 : decode cL_law 773 = .ok (.ireturn, 1) := by decide +kernel
theorem dL_law_774 : decode cL_law 774 = .ok (.aload_n 1, 1) := by decide +kernel
theorem dL_law_775 : decode cL_law 775 = .ok (.aload_n 0, 1) := by decide +kernel
theorem dL_law_776 : decode cL_law 776 = .ok (.iload_n 3, 1) := by decide +kernel
theorem dL_law_777 : decode cL_law 777 = .ok (.iconst 1, 1) := by decide +kernel
theorem dL_law_778 : decode cL_law 778 = .ok (.iadd, 1) := by decide +kernel
theorem dL_law_779 : decode cL_law 779 = .ok (.iaload, 1) := by decide +kernel
theorem dL_law_780 : decode cL_law 780 = .ok (.aload_n 0, 1) := by decide +kernel
theorem dL_law_781 : decode cL_law 781 = .ok (.iload_n 3, 1) := by decide +kernel
theorem dL_law_782 : decode cL_law 782 = .ok (.iconst 2, 1) := by decide +kernel
theorem dL_law_783 : decode cL_law 783 = .ok (.iadd, 1) := by decide +kernel
theorem dL_law_784 : decode cL_law 784 = .ok (.iaload, 1) := by decide +kernel
theorem dL_law_785 : decode cL_law 785 = .ok (.aload_n 0, 1) := by decide +kernel
theorem dL_law_786 : decode cL_law 786 = .ok (.iload_n 3, 1) := by decide +kernel
theorem dL_law_787 : decode cL_law 787 = .ok (.iconst 3, 1) := by decide +kernel
theorem dL_law_788 : decode cL_law 788 = .ok (.iadd, 1) := by decide +kernel
theorem dL_law_789 : decode cL_law 789 = .ok (.iaload, 1) := by decide +kernel
theorem dL_law_790 : decode cL_law 790 = .ok (.aload_n 0, 1) := by decide +kernel
theorem dL_law_791 : decode cL_law 791 = .ok (.iload_n 3, 1) := by decide +kernel
theorem dL_law_792 : decode cL_law 792 = .ok (.iconst 4, 1) := by decide +kernel
theorem dL_law_793 : decode cL_law 793 = .ok (.iadd, 1) := by decide +kernel
theorem dL_law_794 : decode cL_law 794 = .ok (.iaload, 1) := by decide +kernel
theorem dL_law_795 : decode cL_law 795 = .ok (.aload_n 0, 1) := by decide +kernel
theorem dL_law_796 : decode cL_law 796 = .ok (.iload_n 3, 1) := by decide +kernel
theorem dL_law_797 : decode cL_law 797 = .ok (.iconst 5, 1) := by decide +kernel
theorem dL_law_798 : decode cL_law 798 = .ok (.iadd, 1) := by decide +kernel
theorem dL_law_799 : decode cL_law 799 = .ok (.iaload, 1) := by decide +kernel
theorem dL_law_800 : decode cL_law 800 = .ok (.invokevirtual 106, 3) := by decide +kernel
theorem dL_law_803 : decode cL_law 803 = .ok (.aload_n 2, 1) := by decide +kernel
theorem dL_law_804 : decode cL_law 804 = .ok (.aload_n 0, 1) := by decide +kernel
theorem dL_law_805 : decode cL_law 805 = .ok (.iload_n 3, 1) := by decide +kernel
theorem dL_law_806 : decode cL_law 806 = .ok (.iconst 1, 1) := by decide +kernel
theorem dL_law_807 : decode cL_law 807 = .ok (.iadd, 1) := by decide +kernel
theorem dL_law_808 : decode cL_law 808 = .ok (.iaload, 1) := by decide +kernel
theorem dL_law_809 : decode cL_law 809 = .ok (.aload_n 0, 1) := by decide +kernel
theorem dL_law_810 : decode cL_law 810 = .ok (.iload_n 3, 1) := by decide +kernel
theorem dL_law_811 : decode cL_law 811 = .ok (.iconst 2, 1) := by decide +kernel
theorem dL_law_812 : decode cL_law 812 = .ok (.iadd, 1) := by decide +kernel
theorem dL_law_813 : decode cL_law 813 = .ok (.iaload, 1) := by decide +kernel
theorem dL_law_814 : decode cL_law 814 = .ok (.aload_n 0, 1) := by decide +kernel
theorem dL_law_815 : decode cL_law 815 = .ok (.iload_n 3, 1) := by decide +kernel
theorem dL_law_816 : decode cL_law 816 = .ok (.iconst 3, 1) := by decide +kernel
theorem dL_law_817 : decode cL_law 817 = .ok (.iadd, 1) := by decide +kernel
theorem dL_law_818 : decode cL_law 818 = .ok (.iaload, 1) := by decide +kernel
theorem dL_law_819 : decode cL_law 819 = .ok (.aload_n 0, 1) := by decide +kernel
theorem dL_law_820 : decode cL_law 820 = .ok (.iload_n 3, 1) := by decide +kernel
theorem dL_law_821 : decode cL_law 821 = .ok (.iconst 4, 1) := by decide +kernel
theorem dL_law_822 : decode cL_law 822 = .ok (.iadd, 1) := by decide +kernel
theorem dL_law_823 : decode cL_law 823 = .ok (.iaload, 1) := by decide +kernel
theorem dL_law_824 : decode cL_law 824 = .ok (.aload_n 0, 1) := by decide +kernel
theorem dL_law_825 : decode cL_law 825 = .ok (.iload_n 3, 1) := by decide +kernel
theorem dL_law_826 : decode cL_law 826 = .ok (.iconst 5, 1) := by decide +kernel
theorem dL_law_827 : decode cL_law 827 = .ok (.iadd, 1) := by decide +kernel
theorem dL_law_828 : decode cL_law 828 = .ok (.iaload, 1) := by decide +kernel
theorem dL_law_829 : decode cL_law 829 = .ok (.invokevirtual 110, 3) := by decide +kernel
theorem dL_law_832 : decode cL_law 832 = .ok (.if_icmp .eq 313, 3) := by decide +kernel
theorem dL_law_835 : decode cL_law 835 = .ok (.iconst 0, 1) := by decide +kernel
theorem dL_law_836 : decode cL_law 836 = .ok (.ireturn, 1) := by decide +kernel
theorem dL_law_837 : decode cL_law 837 = .ok (.aload_n 1, 1) := by decide +kernel
theorem dL_law_838 : decode cL_law 838 = .ok (.aload_n 0, 1) := by decide +kernel
theorem dL_law_839 : decode cL_law 839 = .ok (.iload_n 3, 1) := by decide +kernel
theorem dL_law_840 : decode cL_law 840 = .ok (.iconst 1, 1) := by decide +kernel
theorem dL_law_841 : decode cL_law 841 = .ok (.iadd, 1) := by decide +kernel
theorem dL_law_842 : decode cL_law 842 = .ok (.iaload, 1) := by decide +kernel
theorem dL_law_843 : decode cL_law 843 = .ok (.invokevirtual 111, 3) := by decide +kernel
theorem dL_law_846 : decode cL_law 846 = .ok (.aload_n 2, 1) := by decide +kernel
theorem dL_law_847 : decode cL_law 847 = .ok (.aload_n 0, 1) := by decide +kernel
theorem dL_law_848 : decode cL_law 848 = .ok (.iload_n 3, 1) := by decide +kernel
theorem dL_law_849 : decode cL_law 849 = .ok (.iconst 1, 1) := by decide +kernel
theorem dL_law_850 : decode cL_law 850 = .ok (.iadd, 1) := by decide +kernel
theorem dL_law_851 : decode cL_law 851 = .ok (.iaload, 1) := by decide +kernel
theorem dL_law_852 : decode cL_law 852 = .ok (.invokevirtual 114, 3) := by decide +kernel
theorem dL_law_855 : decode cL_law 855 = .ok (.if_icmp .eq 290, 3) := by decide +kernel
theorem dL_law_858 : decode cL_law 858 = .ok (.iconst 0, 1) := by decide +kernel
theorem dL_law_859 : decode cL_law 859 = .ok (.ireturn, 1) := by decide +kernel
theorem dL_law_860 : decode cL_law 860 = .ok (.aload_n 1, 1) := by decide +kernel
theorem dL_law_861 : decode cL_law 861 = .ok (.aload_n 0, 1) := by decide +kernel
theorem dL_law_862 : decode cL_law 862 = .ok (.iload_n 3, 1) := by decide +kernel
theorem dL_law_863 : decode cL_law 863 = .ok (.iconst 1, 1) := by decide +kernel
theorem dL_law_864 : decode cL_law 864 = .ok (.iadd, 1) := by decide +kernel
theorem dL_law_865 : decode cL_law 865 = .ok (.iaload, 1) := by decide +kernel
theorem dL_law_866 : decode cL_law 866 = .ok (.invokevirtual 115, 3) := by decide +kernel
theorem dL_law_869 : decode cL_law 869 = .ok (.aload_n 2, 1) := by decide +kernel
theorem dL_law_870 : decode cL_law 870 = .ok (.aload_n 0, 1) := by decide +kernel
theorem dL_law_871 : decode cL_law 871 = .ok (.iload_n 3, 1) := by decide +kernel
theorem dL_law_872 : decode cL_law 872 = .ok (.iconst 1, 1) := by decide +kernel
theorem dL_law_873 : decode cL_law 873 = .ok (.iadd, 1) := by decide +kernel
theorem dL_law_874 : decode cL_law 874 = .ok (.iaload, 1) := by decide +kernel
theorem dL_law_875 : decode cL_law 875 = .ok (.invokevirtual 118, 3) := by decide +kernel
theorem dL_law_878 : decode cL_law 878 = .ok (.if_icmp .eq 267, 3) := by decide +kernel
theorem dL_law_881 : decode cL_law 881 = .ok (.iconst 0, 1) := by decide +kernel
theorem dL_law_882 : decode cL_law 882 = .ok (.ireturn, 1) := by decide +kernel
theorem dL_law_883 : decode cL_law 883 = .ok (.aload_n 1, 1) := by decide +kernel
theorem dL_law_884 : decode cL_law 884 = .ok (.aload_n 0, 1) := by decide +kernel
theorem dL_law_885 : decode cL_law 885 = .ok (.iload_n 3, 1) := by decide +kernel
theorem dL_law_886 : decode cL_law 886 = .ok (.iconst 1, 1) := by decide +kernel
theorem dL_law_887 : decode cL_law 887 = .ok (.iadd, 1) := by decide +kernel
theorem dL_law_888 : decode cL_law 888 = .ok (.iaload, 1) := by decide +kernel
theorem dL_law_889 : decode cL_law 889 = .ok (.invokevirtual 119, 3) := by decide +kernel
theorem dL_law_892 : decode cL_law 892 = .ok (.aload_n 2, 1) := by decide +kernel
theorem dL_law_893 : decode cL_law 893 = .ok (.aload_n 0, 1) := by decide +kernel
theorem dL_law_894 : decode cL_law 894 = .ok (.iload_n 3, 1) := by decide +kernel
theorem dL_law_895 : decode cL_law 895 = .ok (.iconst 1, 1) := by decide +kernel
theorem dL_law_896 : decode cL_law 896 = .ok (.iadd, 1) := by decide +kernel
theorem dL_law_897 : decode cL_law 897 = .ok (.iaload, 1) := by decide +kernel
theorem dL_law_898 : decode cL_law 898 = .ok (.invokevirtual 122, 3) := by decide +kernel
theorem dL_law_901 : decode cL_law 901 = .ok (.if_icmp .eq 244, 3) := by decide +kernel
theorem dL_law_904 : decode cL_law 904 = .ok (.iconst 0, 1) := by decide +kernel
theorem dL_law_905 : decode cL_law 905 = .ok (.ireturn, 1) := by decide +kernel
theorem dL_law_906 : decode cL_law 906 = .ok (.aload_n 1, 1) := by decide +kernel
theorem dL_law_907 : decode cL_law 907 = .ok (.aload_n 0, 1) := by decide +kernel
theorem dL_law_908 : decode cL_law 908 = .ok (.iload_n 3, 1) := by decide +kernel
theorem dL_law_909 : decode cL_law 909 = .ok (.iconst 1, 1) := by decide +kernel
theorem dL_law_910 : decode cL_law 910 = .ok (.iadd, 1) := by decide +kernel
theorem dL_law_911 : decode cL_law 911 = .ok (.iaload, 1) := by decide +kernel
theorem dL_law_912 : decode cL_law 912 = .ok (.aload_n 0, 1) := by decide +kernel
theorem dL_law_913 : decode cL_law 913 = .ok (.iload_n 3, 1) := by decide +kernel
theorem dL_law_914 : decode cL_law 914 = .ok (.iconst 2, 1) := by decide +kernel
theorem dL_law_915 : decode cL_law 915 = .ok (.iadd, 1) := by decide +kernel
theorem dL_law_916 : decode cL_law 916 = .ok (.iaload, 1) := by decide +kernel
theorem dL_law_917 : decode cL_law 917 = .ok (.aload_n 0, 1) := by decide +kernel
theorem dL_law_918 : decode cL_law 918 = .ok (.iload_n 3, 1) := by decide +kernel
theorem dL_law_919 : decode cL_law 919 = .ok (.iconst 3, 1) := by decide +kernel
theorem dL_law_920 : decode cL_law 920 = .ok (.iadd, 1) := by decide +kernel
theorem dL_law_921 : decode cL_law 921 = .ok (.iaload, 1) := by decide +kernel
theorem dL_law_922 : decode cL_law 922 = .ok (.invokevirtual 123, 3) := by decide +kernel
theorem dL_law_925 : decode cL_law 925 = .ok (.aload_n 2, 1) := by decide +kernel
theorem dL_law_926 : decode cL_law 926 = .ok (.aload_n 0, 1) := by decide +kernel
theorem dL_law_927 : decode cL_law 927 = .ok (.iload_n 3, 1) := by decide +kernel
theorem dL_law_928 : decode cL_law 928 = .ok (.iconst 1, 1) := by decide +kernel
theorem dL_law_929 : decode cL_law 929 = .ok (.iadd, 1) := by decide +kernel
theorem dL_law_930 : decode cL_law 930 = .ok (.iaload, 1) := by decide +kernel
theorem dL_law_931 : decode cL_law 931 = .ok (.aload_n 0, 1) := by decide +kernel
theorem dL_law_932 : decode cL_law 932 = .ok (.iload_n 3, 1) := by decide +kernel
theorem dL_law_933 : decode cL_law 933 = .ok (.iconst 2, 1) := by decide +kernel
theorem dL_law_934 : decode cL_law 934 = .ok (.iadd, 1) := by decide +kernel
theorem dL_law_935 : decode cL_law 935 = .ok (.iaload, 1) := by decide +kernel
theorem dL_law_936 : decode cL_law 936 = .ok (.aload_n 0, 1) := by decide +kernel
theorem dL_law_937 : decode cL_law 937 = .ok (.iload_n 3, 1) := by decide +kernel
theorem dL_law_938 : decode cL_law 938 = .ok (.iconst 3, 1) := by decide +kernel
theorem dL_law_939 : decode cL_law 939 = .ok (.iadd, 1) := by decide +kernel
theorem dL_law_940 : decode cL_law 940 = .ok (.iaload, 1) := by decide +kernel
theorem dL_law_941 : decode cL_law 941 = .ok (.invokevirtual 126, 3) := by decide +kernel
theorem dL_law_944 : decode cL_law 944 = .ok (.if_icmp .eq 201, 3) := by decide +kernel
theorem dL_law_947 : decode cL_law 947 = .ok (.iconst 0, 1) := by decide +kernel
theorem dL_law_948 : decode cL_law 948 = .ok (.ireturn, 1) := by decide +kernel
theorem dL_law_949 : decode cL_law 949 = .ok (.aload_n 1, 1) := by decide +kernel
theorem dL_law_950 : decode cL_law 950 = .ok (.aload_n 0, 1) := by decide +kernel
theorem dL_law_951 : decode cL_law 951 = .ok (.iload_n 3, 1) := by decide +kernel
theorem dL_law_952 : decode cL_law 952 = .ok (.iconst 1, 1) := by decide +kernel
theorem dL_law_953 : decode cL_law 953 = .ok (.iadd, 1) := by decide +kernel
theorem dL_law_954 : decode cL_law 954 = .ok (.iaload, 1) := by decide +kernel
theorem dL_law_955 : decode cL_law 955 = .ok (.aload_n 0, 1) := by decide +kernel
theorem dL_law_956 : decode cL_law 956 = .ok (.iload_n 3, 1) := by decide +kernel
theorem dL_law_957 : decode cL_law 957 = .ok (.iconst 2, 1) := by decide +kernel
theorem dL_law_958 : decode cL_law 958 = .ok (.iadd, 1) := by decide +kernel
theorem dL_law_959 : decode cL_law 959 = .ok (.iaload, 1) := by decide +kernel
theorem dL_law_960 : decode cL_law 960 = .ok (.invokevirtual 127, 3) := by decide +kernel
theorem dL_law_963 : decode cL_law 963 = .ok (.aload_n 2, 1) := by decide +kernel
theorem dL_law_964 : decode cL_law 964 = .ok (.aload_n 0, 1) := by decide +kernel
theorem dL_law_965 : decode cL_law 965 = .ok (.iload_n 3, 1) := by decide +kernel
theorem dL_law_966 : decode cL_law 966 = .ok (.iconst 1, 1) := by decide +kernel
theorem dL_law_967 : decode cL_law 967 = .ok (.iadd, 1) := by decide +kernel
theorem dL_law_968 : decode cL_law 968 = .ok (.iaload, 1) := by decide +kernel
theorem dL_law_969 : decode cL_law 969 = .ok (.aload_n 0, 1) := by decide +kernel
theorem dL_law_970 : decode cL_law 970 = .ok (.iload_n 3, 1) := by decide +kernel
theorem dL_law_971 : decode cL_law 971 = .ok (.iconst 2, 1) := by decide +kernel
theorem dL_law_972 : decode cL_law 972 = .ok (.iadd, 1) := by decide +kernel
theorem dL_law_973 : decode cL_law 973 = .ok (.iaload, 1) := by decide +kernel
theorem dL_law_974 : decode cL_law 974 = .ok (.invokevirtual 130, 3) := by decide +kernel
theorem dL_law_977 : decode cL_law 977 = .ok (.if_icmp .eq 168, 3) := by decide +kernel
theorem dL_law_980 : decode cL_law 980 = .ok (.iconst 0, 1) := by decide +kernel
theorem dL_law_981 : decode cL_law 981 = .ok (.ireturn, 1) := by decide +kernel
theorem dL_law_982 : decode cL_law 982 = .ok (.aload_n 1, 1) := by decide +kernel
theorem dL_law_983 : decode cL_law 983 = .ok (.aload_n 0, 1) := by decide +kernel
theorem dL_law_984 : decode cL_law 984 = .ok (.iload_n 3, 1) := by decide +kernel
theorem dL_law_985 : decode cL_law 985 = .ok (.iconst 1, 1) := by decide +kernel
theorem dL_law_986 : decode cL_law 986 = .ok (.iadd, 1) := by decide +kernel
theorem dL_law_987 : decode cL_law 987 = .ok (.iaload, 1) := by decide +kernel
theorem dL_law_988 : decode cL_law 988 = .ok (.aload_n 0, 1) := by decide +kernel
theorem dL_law_989 : decode cL_law 989 = .ok (.iload_n 3, 1) := by decide +kernel
theorem dL_law_990 : decode cL_law 990 = .ok (.iconst 2, 1) := by decide +kernel
theorem dL_law_991 : decode cL_law 991 = .ok (.iadd, 1) := by decide +kernel
theorem dL_law_992 : decode cL_law 992 = .ok (.iaload, 1) := by decide +kernel
theorem dL_law_993 : decode cL_law 993 = .ok (.invokevirtual 131, 3) := by decide +kernel
theorem dL_law_996 : decode cL_law 996 = .ok (.aload_n 2, 1) := by decide +kernel
theorem dL_law_997 : decode cL_law 997 = .ok (.aload_n 0, 1) := by decide +kernel
theorem dL_law_998 : decode cL_law 998 = .ok (.iload_n 3, 1) := by decide +kernel
theorem dL_law_999 : decode cL_law 999 = .ok (.iconst 1, 1) := by decide +kernel
theorem dL_law_1000 : decode cL_law 1000 = .ok (.iadd, 1) := by decide +kernel
theorem dL_law_1001 : decode cL_law 1001 = .ok (.iaload, 1) := by decide +kernel
theorem dL_law_1002 : decode cL_law 1002 = .ok (.aload_n 0, 1) := by decide +kernel
theorem dL_law_1003 : decode cL_law 1003 = .ok (.iload_n 3, 1) := by decide +kernel
theorem dL_law_1004 : decode cL_law 1004 = .ok (.iconst 2, 1) := by decide +kernel
theorem dL_law_1005 : decode cL_law 1005 = .ok (.iadd, 1) := by decide +kernel
theorem dL_law_1006 : decode cL_law 1006 = .ok (.iaload, 1) := by decide +kernel
theorem dL_law_1007 : decode cL_law 1007 = .ok (.invokevirtual 134, 3) := by decide +kernel
theorem dL_law_1010 : decode cL_law 1010 = .ok (.if_icmp .eq 135, 3) := by decide +kernel
theorem dL_law_1013 : decode cL_law 1013 = .ok (.iconst 0, 1) := by decide +kernel
theorem dL_law_1014 : decode cL_law 1014 = .ok (.ireturn, 1) := by decide +kernel
theorem dL_law_1015 : decode cL_law 1015 = .ok (.aload_n 1, 1) := by decide +kernel
theorem dL_law_1016 : decode cL_law 1016 = .ok (.aload_n 0, 1) := by decide +kernel
theorem dL_law_1017 : decode cL_law 1017 = .ok (.iload_n 3, 1) := by decide +kernel
theorem dL_law_1018 : decode cL_law 1018 = .ok (.iconst 1, 1) := by decide +kernel
theorem dL_law_1019 : decode cL_law 1019 = .ok (.iadd, 1) := by decide +kernel
theorem dL_law_1020 : decode cL_law 1020 = .ok (.iaload, 1) := by decide +kernel
theorem dL_law_1021 : decode cL_law 1021 = .ok (.invokevirtual 135, 3) := by decide +kernel
theorem dL_law_1024 : decode cL_law 1024 = .ok (.aload_n 2, 1) := by decide +kernel
theorem dL_law_1025 : decode cL_law 1025 = .ok (.aload_n 0, 1) := by decide +kernel
theorem dL_law_1026 : decode cL_law 1026 = .ok (.iload_n 3, 1) := by decide +kernel
theorem dL_law_1027 : decode cL_law 1027 = .ok (.iconst 1, 1) := by decide +kernel
theorem dL_law_1028 : decode cL_law 1028 = .ok (.iadd, 1) := by decide +kernel
theorem dL_law_1029 : decode cL_law 1029 = .ok (.iaload, 1) := by decide +kernel
theorem dL_law_1030 : decode cL_law 1030 = .ok (.invokevirtual 139, 3) := by decide +kernel
theorem dL_law_1033 : decode cL_law 1033 = .ok (.lcmp, 1) := by decide +kernel
theorem dL_law_1034 : decode cL_law 1034 = .ok (.ifCond .eq 111, 3) := by decide +kernel
theorem dL_law_1037 : decode cL_law 1037 = .ok (.iconst 0, 1) := by decide +kernel
theorem dL_law_1038 : decode cL_law 1038 = .ok (.ireturn, 1) := by decide +kernel
theorem dL_law_1039 : decode cL_law 1039 = .ok (.aload_n 1, 1) := by decide +kernel
theorem dL_law_1040 : decode cL_law 1040 = .ok (.aload_n 0, 1) := by decide +kernel
theorem dL_law_1041 : decode cL_law 1041 = .ok (.iload_n 3, 1) := by decide +kernel
theorem dL_law_1042 : decode cL_law 1042 = .ok (.iconst 1, 1) := by decide +kernel
theorem dL_law_1043 : decode cL_law 1043 = .ok (.iadd, 1) := by decide +kernel
theorem dL_law_1044 : decode cL_law 1044 = .ok (.iaload, 1) := by decide +kernel
theorem dL_law_1045 : decode cL_law 1045 = .ok (.invokevirtual 140, 3) := by decide +kernel
theorem dL_law_1048 : decode cL_law 1048 = .ok (.aload_n 2, 1) := by decide +kernel
theorem dL_law_1049 : decode cL_law 1049 = .ok (.aload_n 0, 1) := by decide +kernel
theorem dL_law_1050 : decode cL_law 1050 = .ok (.iload_n 3, 1) := by decide +kernel
theorem dL_law_1051 : decode cL_law 1051 = .ok (.iconst 1, 1) := by decide +kernel
theorem dL_law_1052 : decode cL_law 1052 = .ok (.iadd, 1) := by decide +kernel
theorem dL_law_1053 : decode cL_law 1053 = .ok (.iaload, 1) := by decide +kernel
theorem dL_law_1054 : decode cL_law 1054 = .ok (.invokevirtual 143, 3) := by decide +kernel
theorem dL_law_1057 : decode cL_law 1057 = .ok (.if_icmp .eq 88, 3) := by decide +kernel
theorem dL_law_1060 : decode cL_law 1060 = .ok (.iconst 0, 1) := by decide +kernel
theorem dL_law_1061 : decode cL_law 1061 = .ok (.ireturn, 1) := by decide +kernel
theorem dL_law_1062 : decode cL_law 1062 = .ok (.aload_n 1, 1) := by decide +kernel
theorem dL_law_1063 : decode cL_law 1063 = .ok (.aload_n 0, 1) := by decide +kernel
theorem dL_law_1064 : decode cL_law 1064 = .ok (.iload_n 3, 1) := by decide +kernel
theorem dL_law_1065 : decode cL_law 1065 = .ok (.iconst 1, 1) := by decide +kernel
theorem dL_law_1066 : decode cL_law 1066 = .ok (.iadd, 1) := by decide +kernel
theorem dL_law_1067 : decode cL_law 1067 = .ok (.iaload, 1) := by decide +kernel
theorem dL_law_1068 : decode cL_law 1068 = .ok (.invokevirtual 144, 3) := by decide +kernel
theorem dL_law_1071 : decode cL_law 1071 = .ok (.aload_n 2, 1) := by decide +kernel
theorem dL_law_1072 : decode cL_law 1072 = .ok (.aload_n 0, 1) := by decide +kernel
theorem dL_law_1073 : decode cL_law 1073 = .ok (.iload_n 3, 1) := by decide +kernel
theorem dL_law_1074 : decode cL_law 1074 = .ok (.iconst 1, 1) := by decide +kernel
theorem dL_law_1075 : decode cL_law 1075 = .ok (.iadd, 1) := by decide +kernel
theorem dL_law_1076 : decode cL_law 1076 = .ok (.iaload, 1) := by decide +kernel
theorem dL_law_1077 : decode cL_law 1077 = .ok (.invokevirtual 147, 3) := by decide +kernel
theorem dL_law_1080 : decode cL_law 1080 = .ok (.if_icmp .eq 65, 3) := by decide +kernel
theorem dL_law_1083 : decode cL_law 1083 = .ok (.iconst 0, 1) := by decide +kernel
theorem dL_law_1084 : decode cL_law 1084 = .ok (.ireturn, 1) := by decide +kernel
theorem dL_law_1085 : decode cL_law 1085 = .ok (.aload_n 1, 1) := by decide +kernel
theorem dL_law_1086 : decode cL_law 1086 = .ok (.aload_n 0, 1) := by decide +kernel
theorem dL_law_1087 : decode cL_law 1087 = .ok (.iload_n 3, 1) := by decide +kernel
theorem dL_law_1088 : decode cL_law 1088 = .ok (.iconst 1, 1) := by decide +kernel
theorem dL_law_1089 : decode cL_law 1089 = .ok (.iadd, 1) := by decide +kernel
theorem dL_law_1090 : decode cL_law 1090 = .ok (.iaload, 1) := by decide +kernel
theorem dL_law_1091 : decode cL_law 1091 = .ok (.invokevirtual 148, 3) := by decide +kernel
theorem dL_law_1094 : decode cL_law 1094 = .ok (.aload_n 2, 1) := by decide +kernel
theorem dL_law_1095 : decode cL_law 1095 = .ok (.aload_n 0, 1) := by decide +kernel
theorem dL_law_1096 : decode cL_law 1096 = .ok (.iload_n 3, 1) := by decide +kernel
theorem dL_law_1097 : decode cL_law 1097 = .ok (.iconst 1, 1) := by decide +kernel
theorem dL_law_1098 : decode cL_law 1098 = .ok (.iadd, 1) := by decide +kernel
theorem dL_law_1099 : decode cL_law 1099 = .ok (.iaload, 1) := by decide +kernel
theorem dL_law_1100 : decode cL_law 1100 = .ok (.invokevirtual 151, 3) := by decide +kernel
theorem dL_law_1103 : decode cL_law 1103 = .ok (.if_icmp .eq 42, 3) := by decide +kernel
theorem dL_law_1106 : decode cL_law 1106 = .ok (.iconst 0, 1) := by decide +kernel
theorem dL_law_1107 : decode cL_law 1107 = .ok (.ireturn, 1) := by decide +kernel
theorem dL_law_1108 : decode cL_law 1108 = .ok (.aload_n 1, 1) := by decide +kernel
theorem dL_law_1109 : decode cL_law 1109 = .ok (.aload_n 0, 1) := by decide +kernel
theorem dL_law_1110 : decode cL_law 1110 = .ok (.iload_n 3, 1) := by decide +kernel
theorem dL_law_1111 : decode cL_law 1111 = .ok (.iconst 1, 1) := by decide +kernel
theorem dL_law_1112 : decode cL_law 1112 = .ok (.iadd, 1) := by decide +kernel
theorem dL_law_1113 : decode cL_law 1113 = .ok (.iaload, 1) := by decide +kernel
theorem dL_law_1114 : decode cL_law 1114 = .ok (.invokevirtual 152, 3) := by decide +kernel
theorem dL_law_1117 : decode cL_law 1117 = .ok (.aload_n 2, 1) := by decide +kernel
theorem dL_law_1118 : decode cL_law 1118 = .ok (.aload_n 0, 1) := by decide +kernel
theorem dL_law_1119 : decode cL_law 1119 = .ok (.iload_n 3, 1) := by decide +kernel
theorem dL_law_1120 : decode cL_law 1120 = .ok (.iconst 1, 1) := by decide +kernel
theorem dL_law_1121 : decode cL_law 1121 = .ok (.iadd, 1) := by decide +kernel
theorem dL_law_1122 : decode cL_law 1122 = .ok (.iaload, 1) := by decide +kernel
theorem dL_law_1123 : decode cL_law 1123 = .ok (.invokevirtual 155, 3) := by decide +kernel
theorem dL_law_1126 : decode cL_law 1126 = .ok (.if_icmp .eq 19, 3) := by decide +kernel
theorem dL_law_1129 : decode cL_law 1129 = .ok (.iconst 0, 1) := by decide +kernel
theorem dL_law_1130 : decode cL_law 1130 = .ok (.ireturn, 1) := by decide +kernel
theorem dL_law_1131 : decode cL_law 1131 = .ok (.aload_n 1, 1) := by decide +kernel
theorem dL_law_1132 : decode cL_law 1132 = .ok (.invokevirtual 156, 3) := by decide +kernel
theorem dL_law_1135 : decode cL_law 1135 = .ok (.aload_n 2, 1) := by decide +kernel
theorem dL_law_1136 : decode cL_law 1136 = .ok (.invokevirtual 160, 3) := by decide +kernel
theorem dL_law_1139 : decode cL_law 1139 = .ok (.lcmp, 1) := by decide +kernel
theorem dL_law_1140 : decode cL_law 1140 = .ok (.ifCond .eq 5, 3) := by decide +kernel
theorem dL_law_1143 : decode cL_law 1143 = .ok (.iconst 0, 1) := by decide +kernel
theorem dL_law_1144 : decode cL_law 1144 = .ok (.ireturn, 1) := by decide +kernel
theorem dL_law_1145 : decode cL_law 1145 = .ok (.iinc 3 6, 3) := by decide +kernel
theorem dL_law_1148 : decode cL_law 1148 = .ok (.goto (-1130), 3) := by decide +kernel
theorem dL_law_1151 : decode cL_law 1151 = .ok (.iconst 1, 1) := by decide +kernel
theorem dL_law_1152 : decode cL_law 1152 = .ok (.ireturn, 1) := by decide +kernel
abbrev vwCl : List vw_C := [(RX0, TX0, 3), (RX1, TX1, 6), (RX2, TX2, 0), (RX3, TX3, 0), (RX4, TX4, 11), (RX5, TX5, 0), (RX6, TX6, 0), (RX7, TX7, 12), (RX8, TX8, 0), (RX9, TX9, 0), (RX10, TX10, 12), (RX11, TX11, 18)]
