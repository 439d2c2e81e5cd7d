theorem dX11_lookAt_284 : decode cX11_lookAt 284 = .ok (.getfield 225, 3) := by decide +kernel
theorem dX11_lookAt_287 : decode cX11_lookAt 287 = .ok (.iconst 2, 1) := by decide +kernel
theorem dX11_lookAt_288 : decode cX11_lookAt 288 = .ok (.if_icmp .le 7, 3) := by decide +kernel
theorem dX11_lookAt_291 : decode cX11_lookAt 291 = .ok (.iconst 4, 1) := by decide +kernel
theorem dX11_lookAt_292 : decode cX11_lookAt 292 = .ok (.goto 7, 3) := by decide +kernel
theorem dX11_lookAt_295 : decode cX11_lookAt 295 = .ok (.aload_n 0, 1) := by decide +kernel
theorem dX11_lookAt_296 : decode cX11_lookAt 296 = .ok (.getfield 228, 3) := by decide +kernel
theorem dX11_lookAt_299 : decode cX11_lookAt 299 = .ok (.putfield 228, 3) := by decide +kernel
theorem dX11_lookAt_302 : decode cX11_lookAt 302 = .ok (.return_, 1) := by decide +kernel
set_option maxRecDepth 20000 in
theorem ggX11_goBehind_X11_lookAt : GoodIn wsX11_goBehind wsX11_lookAt := goodIn_r _ [7, 1, 8, 9, 2, 10, 11, 12, 13, 6, 14, 15, 16, 17, 18, 19, 20, 21, 22, 23, 24, 25, 26, 27, 28, 29, 30, 31, 32, 33, 34, 35, 36, 37, 38, 39, 40, 41, 42] (by decide +kernel) (by decide +kernel)
set_option maxRecDepth 20000 in
theorem gX11_goBehind_X11_lookAt : GoodIn wsX11_goBehind (wsV RX11 240 RX11 yX11_lookAt wsX11_lookAt) := goodIn_app (goodIn_of _ (by decide +kernel)) ggX11_goBehind_X11_lookAt
theorem dX11_goBehind_0 : decode cX11_goBehind 0 = .ok (.aload_n 0, 1) := by decide +kernel
theorem dX11_goBehind_1 : decode cX11_goBehind 1 = .ok (.aload_n 0, 1) := by decide +kernel
theorem dX11_goBehind_2 : decode cX11_goBehind 2 = .ok (.getfield 222, 3) := by decide +kernel
theorem dX11_goBehind_5 : decode cX11_goBehind 5 = .ok (.aload_n 0, 1) := by decide +kernel
theorem dX11_goBehind_6 : decode cX11_goBehind 6 = .ok (.getfield 225, 3) := by decide +kernel
theorem dX11_goBehind_9 : decode cX11_goBehind 9 = .ok (.iadd, 1) := by decide +kernel
theorem dX11_goBehind_10 : decode cX11_goBehind 10 = .ok (.invokevirtual 240, 3) := by decide +kernel
theorem dX11_goBehind_13 : decode cX11_goBehind 13 = .ok (.return_, 1) := by decide +kernel
theorem dX11_spells_0 : decode cX11_spells 0 = .ok (.aload_n 0, 1) := by decide +kernel
theorem dX11_spells_1 : decode cX11_spells 1 = .ok (.getfield 228, 3) := by decide +kernel
theorem dX11_spells_4 : decode cX11_spells 4 = .ok (.iconst 1, 1) := by decide +kernel
theorem dX11_spells_5 : decode cX11_spells 5 = .ok (.if_icmp .ne 15, 3) := by decide +kernel
theorem dX11_spells_8 : decode cX11_spells 8 = .ok (.aload_n 0, 1) := by decide +kernel
theorem dX11_spells_9 : decode cX11_spells 9 = .ok (.getfield 225, 3) := by decide +kernel
theorem dX11_spells_12 : decode cX11_spells 12 = .ok (.iload_n 1, 1) := by decide +kernel
theorem dX11_spells_13 : decode cX11_spells 13 = .ok (.if_icmp .ne 7, 3) := by decide +kernel
theorem dX11_spells_16 : decode cX11_spells 16 = .ok (.iconst 1, 1) := by decide +kernel
theorem dX11_spells_17 : decode cX11_spells 17 = .ok (.goto 4, 3) := by decide +kernel
theorem dX11_spells_20 : decode cX11_spells 20 = .ok (.iconst 0, 1) := by decide +kernel
theorem dX11_spells_21 : decode cX11_spells 21 = .ok (.istore 8, 2) := by decide +kernel
theorem dX11_spells_23 : decode cX11_spells 23 = .ok (.iconst 0, 1) := by decide +kernel
theorem dX11_spells_24 : decode cX11_spells 24 = .ok (.istore 9, 2) := by decide +kernel
theorem dX11_spells_26 : decode cX11_spells 26 = .ok (.iload 9, 2) := by decide +kernel
theorem dX11_spells_28 : decode cX11_spells 28 = .ok (.iload_n 1, 1) := by decide +kernel
theorem dX11_spells_29 : decode cX11_spells 29 = .ok (.if_icmp .ge 90, 3) := by decide +kernel
theorem dX11_spells_32 : decode cX11_spells 32 = .ok (.iload 8, 2) := by decide +kernel
theorem dX11_spells_34 : decode cX11_spells 34 = .ok (.ifCond .eq 85, 3) := by decide +kernel
theorem dX11_spells_37 : decode cX11_spells 37 = .ok (.aload_n 0, 1) := by decide +kernel
theorem dX11_spells_38 : decode cX11_spells 38 = .ok (.getfield 39, 3) := by decide +kernel
theorem dX11_spells_41 : decode cX11_spells 41 = .ok (.aload_n 0, 1) := by decide +kernel
theorem dX11_spells_42 : decode cX11_spells 42 = .ok (.getfield 222, 3) := by decide +kernel
theorem dX11_spells_45 : decode cX11_spells 45 = .ok (.iload 9, 2) := by decide +kernel
theorem dX11_spells_47 : decode cX11_spells 47 = .ok (.iadd, 1) := by decide +kernel
theorem dX11_spells_48 : decode cX11_spells 48 = .ok (.iaload, 1) := by decide +kernel
theorem dX11_spells_49 : decode cX11_spells 49 = .ok (.iload 9, 2) := by decide +kernel
theorem dX11_spells_51 : decode cX11_spells 51 = .ok (.ifCond .ne 7, 3) := by decide +kernel
theorem dX11_spells_54 : decode cX11_spells 54 = .ok (.iload_n 2, 1) := by decide +kernel
theorem dX11_spells_55 : decode cX11_spells 55 = .ok (.goto 48, 3) := by decide +kernel
theorem dX11_spells_58 : decode cX11_spells 58 = .ok (.iload 9, 2) := by decide +kernel
theorem dX11_spells_60 : decode cX11_spells 60 = .ok (.iconst 1, 1) := by decide +kernel
theorem dX11_spells_61 : decode cX11_spells 61 = .ok (.if_icmp .ne 7, 3) := by decide +kernel
theorem dX11_spells_64 : decode cX11_spells 64 = .ok (.iload_n 3, 1) := by decide +kernel
theorem dX11_spells_65 : decode cX11_spells 65 = .ok (.goto 38, 3) := by decide +kernel
theorem dX11_spells_68 : decode cX11_spells 68 = .ok (.iload 9, 2) := by decide +kernel
theorem dX11_spells_70 : decode cX11_spells 70 = .ok (.iconst 2, 1) := by decide +kernel
theorem dX11_spells_71 : decode cX11_spells 71 = .ok (.if_icmp .ne 8, 3) := by decide +kernel
theorem dX11_spells_74 : decode cX11_spells 74 = .ok (.iload 4, 2) := by decide +kernel
theorem dX11_spells_76 : decode cX11_spells 76 = .ok (.goto 27, 3) := by decide +kernel
theorem dX11_spells_79 : decode cX11_spells 79 = .ok (.iload 9, 2) := by decide +kernel
theorem dX11_spells_81 : decode cX11_spells 81 = .ok (.iconst 3, 1) := by decide +kernel
theorem dX11_spells_82 : decode cX11_spells 82 = .ok (.if_icmp .ne 8, 3) := by decide +kernel
theorem dX11_spells_85 : decode cX11_spells 85 = .ok (.iload 5, 2) := by decide +kernel
theorem dX11_spells_87 : decode cX11_spells 87 = .ok (.goto 16, 3) := by decide +kernel
theorem dX11_spells_90 : decode cX11_spells 90 = .ok (.iload 9, 2) := by decide +kernel
theorem dX11_spells_92 : decode cX11_spells 92 = .ok (.iconst 4, 1) := by decide +kernel
theorem dX11_spells_93 : decode cX11_spells 93 = .ok (.if_icmp .ne 8, 3) := by decide +kernel
theorem dX11_spells_96 : decode cX11_spells 96 = .ok (.iload 6, 2) := by decide +kernel
theorem dX11_spells_98 : decode cX11_spells 98 = .ok (.goto 5, 3) := by decide +kernel
theorem dX11_spells_101 : decode cX11_spells 101 = .ok (.iload 7, 2) := by decide +kernel
theorem dX11_spells_103 : decode cX11_spells 103 = .ok (.if_icmp .ne 7, 3) := by decide +kernel
theorem dX11_spells_106 : decode cX11_spells 106 = .ok (.iconst 1, 1) := by decide +kernel
theorem dX11_spells_107 : decode cX11_spells 107 = .ok (.goto 4, 3) := by decide +kernel
theorem dX11_spells_110 : decode cX11_spells 110 = .ok (.iconst 0, 1) := by decide +kernel
theorem dX11_spells_111 : decode cX11_spells 111 = .ok (.istore 8, 2) := by decide +kernel
theorem dX11_spells_113 : decode cX11_spells 113 = .ok (.iinc 9 1, 3) := by decide +kernel
theorem dX11_spells_116 : decode cX11_spells 116 = .ok (.goto (-90), 3) := by decide +kernel
theorem dX11_spells_119 : decode cX11_spells 119 = .ok (.iload 8, 2) := by decide +kernel
theorem dX11_spells_121 : decode cX11_spells 121 = .ok (.ireturn, 1) := by decide +kernel
set_option maxRecDepth 20000 in
theorem ggX11_takes_X11_in : GoodIn wsX11_takes wsX11_in := goodIn_r _ [7] (by decide +kernel) (by decide +kernel)
set_option maxRecDepth 20000 in
theorem gX11_takes_X11_in : GoodIn wsX11_takes (va_wsS RX11 56 yX11_in wsX11_in) := goodIn_app (goodIn_of _ (by decide +kernel)) ggX11_takes_X11_in
set_option maxRecDepth 20000 in
theorem ggX11_takes_X11_goBehind : GoodIn wsX11_takes wsX11_goBehind := goodIn_r _ [11, 12, 13, 14, 15, 16, 6, 17, 18, 19, 1, 2, 20, 21, 22, 23, 24, 4, 5, 7, 25, 26, 27, 28, 29, 30, 31, 32, 33, 34, 35, 36, 37, 38, 39, 40, 41, 42, 43, 44, 45, 46, 47] (by decide +kernel) (by decide +kernel)
set_option maxRecDepth 20000 in
theorem gX11_takes_X11_goBehind : GoodIn wsX11_takes (wsV RX11 244 RX11 yX11_goBehind wsX11_goBehind) := goodIn_app (goodIn_of _ (by decide +kernel)) ggX11_takes_X11_goBehind
theorem dX11_takes_0 : decode cX11_takes 0 = .ok (.aload_n 0, 1) := by decide +kernel
theorem dX11_takes_1 : decode cX11_takes 1 = .ok (.getfield 228, 3) := by decide +kernel
theorem dX11_takes_4 : decode cX11_takes 4 = .ok (.iconst 2, 1) := by decide +kernel
theorem dX11_takes_5 : decode cX11_takes 5 = .ok (.if_icmp .ne 18, 3) := by decide +kernel
theorem dX11_takes_8 : decode cX11_takes 8 = .ok (.aload_n 0, 1) := by decide +kernel
theorem dX11_takes_9 : decode cX11_takes 9 = .ok (.getfield 231, 3) := by decide +kernel
theorem dX11_takes_12 : decode cX11_takes 12 = .ok (.i2l, 1) := by decide +kernel
theorem dX11_takes_13 : decode cX11_takes 13 = .ok (.iload_n 2, 1) := by decide +kernel
theorem dX11_takes_14 : decode cX11_takes 14 = .ok (.i2l, 1) := by decide +kernel
theorem dX11_takes_15 : decode cX11_takes 15 = .ok (.iload_n 3, 1) := by decide +kernel
theorem dX11_takes_16 : decode cX11_takes 16 = .ok (.i2l, 1) := by decide +kernel
theorem dX11_takes_17 : decode cX11_takes 17 = .ok (.invokestatic 56, 3) := by decide +kernel
theorem dX11_takes_20 : decode cX11_takes 20 = .ok (.ifCond .ne 5, 3) := by decide +kernel
theorem dX11_takes_23 : decode cX11_takes 23 = .ok (.iconst 0, 1) := by decide +kernel
theorem dX11_takes_24 : decode cX11_takes 24 = .ok (.ireturn, 1) := by decide +kernel
theorem dX11_takes_25 : decode cX11_takes 25 = .ok (.aload_n 0, 1) := by decide +kernel
theorem dX11_takes_26 : decode cX11_takes 26 = .ok (.getfield 45, 3) := by decide +kernel
theorem dX11_takes_29 : decode cX11_takes 29 = .ok (.iload_n 1, 1) := by decide +kernel
theorem dX11_takes_30 : decode cX11_takes 30 = .ok (.aload_n 0, 1) := by decide +kernel
theorem dX11_takes_31 : decode cX11_takes 31 = .ok (.getfield 231, 3) := by decide +kernel
theorem dX11_takes_34 : decode cX11_takes 34 = .ok (.iastore, 1) := by decide +kernel
theorem dX11_takes_35 : decode cX11_takes 35 = .ok (.aload_n 0, 1) := by decide +kernel
theorem dX11_takes_36 : decode cX11_takes 36 = .ok (.invokevirtual 244, 3) := by decide +kernel
theorem dX11_takes_39 : decode cX11_takes 39 = .ok (.iconst 1, 1) := by decide +kernel
theorem dX11_takes_40 : decode cX11_takes 40 = .ok (.ireturn, 1) := by decide +kernel
set_option maxRecDepth 20000 in
theorem ggX11_takesParish_X11_spells : GoodIn wsX11_takesParish wsX11_spells := goodIn_r _ [8, 3, 9, 10, 11, 42, 43, 44, 45, 46, 47, 48, 49, 50, 51, 52, 53, 54, 55, 56, 57, 58, 59] (by decide +kernel) (by decide +kernel)
set_option maxRecDepth 20000 in
theorem gX11_takesParish_X11_spells : GoodIn wsX11_takesParish (wsV RX11 247 RX11 yX11_spells wsX11_spells) := goodIn_app (goodIn_of _ (by decide +kernel)) ggX11_takesParish_X11_spells
set_option maxRecDepth 20000 in
theorem ggX11_takesParish_X11_goBehind : GoodIn wsX11_takesParish wsX11_goBehind := goodIn_r _ [15, 11, 9, 16, 17, 18, 7, 19, 20, 10, 3, 21, 22, 23, 24, 25, 26, 27, 28, 29, 30, 31, 32, 33, 34, 42, 43, 44, 45, 46, 47, 48, 49, 50, 51, 52, 53, 54, 55, 56, 57, 58, 59] (by decide +kernel) (by decide +kernel)
set_option maxRecDepth 20000 in
theorem gX11_takesParish_X11_goBehind : GoodIn wsX11_takesParish (wsV RX11 244 RX11 yX11_goBehind wsX11_goBehind) := goodIn_app (goodIn_of _ (by decide +kernel)) ggX11_takesParish_X11_goBehind
set_option maxRecDepth 20000 in
theorem ggX11_takesParish_X11_takes : GoodIn wsX11_takesParish wsX11_takes := goodIn_r _ [38, 3, 21, 2, 27, 28, 7, 29, 12, 13, 14, 15, 11, 9, 16, 17, 18, 19, 20, 10, 22, 23, 24, 25, 26, 30, 31, 32, 33, 34, 42, 43, 44, 45, 46, 47, 48, 49, 50, 51, 52, 53, 54, 55, 56, 57, 58, 59] (by decide +kernel) (by decide +kernel)
set_option maxRecDepth 20000 in
theorem gX11_takesParish_X11_takes : GoodIn wsX11_takesParish (wsV RX11 251 RX11 yX11_takes wsX11_takes) := goodIn_app (goodIn_of _ (by decide +kernel)) ggX11_takesParish_X11_takes
set_option maxRecDepth 20000 in
theorem ggX11_takesParish_X11_begin : GoodIn wsX11_takesParish wsX11_begin := goodIn_r _ [41] (by decide +kernel) (by decide +kernel)
set_option maxRecDepth 20000 in
theorem gX11_takesParish_X11_begin : GoodIn wsX11_takesParish (va_wsS RX11 48 yX11_begin wsX11_begin) := goodIn_app (goodIn_of _ (by decide +kernel)) ggX11_takesParish_X11_begin
theorem dX11_takesParish_0 : decode cX11_takesParish 0 = .ok (.aload_n 0, 1) := by decide +kernel
theorem dX11_takesParish_1 : decode cX11_takesParish 1 = .ok (.bipush 6, 2) := by decide +kernel
theorem dX11_takesParish_3 : decode cX11_takesParish 3 = .ok (.bipush 112, 2) := by decide +kernel
theorem dX11_takesParish_5 : decode cX11_takesParish 5 = .ok (.bipush 97, 2) := by decide +kernel
theorem dX11_takesParish_7 : decode cX11_takesParish 7 = .ok (.bipush 114, 2) := by decide +kernel
theorem dX11_takesParish_9 : decode cX11_takesParish 9 = .ok (.bipush 105, 2) := by decide +kernel
theorem dX11_takesParish_11 : decode cX11_takesParish 11 = .ok (.bipush 115, 2) := by decide +kernel
theorem dX11_takesParish_13 : decode cX11_takesParish 13 = .ok (.bipush 104, 2) := by decide +kernel
theorem dX11_takesParish_15 : decode cX11_takesParish 15 = .ok (.invokevirtual 247, 3) := by decide +kernel
theorem dX11_takesParish_18 : decode cX11_takesParish 18 = .ok (.ifCond .ne 5, 3) := by decide +kernel
theorem dX11_takesParish_21 : decode cX11_takesParish 21 = .ok (.iconst 0, 1) := by decide +kernel
theorem dX11_takesParish_22 : decode cX11_takesParish 22 = .ok (.ireturn, 1) := by decide +kernel
theorem dX11_takesParish_23 : decode cX11_takesParish 23 = .ok (.aload_n 0, 1) := by decide +kernel
theorem dX11_takesParish_24 : decode cX11_takesParish 24 = .ok (.invokevirtual 244, 3) := by decide +kernel
theorem dX11_takesParish_27 : decode cX11_takesParish 27 = .ok (.aload_n 0, 1) := by decide +kernel
theorem dX11_takesParish_28 : decode cX11_takesParish 28 = .ok (.iconst 0, 1) := by decide +kernel
theorem dX11_takesParish_29 : decode cX11_takesParish 29 = .ok (.iconst 0, 1) := by decide +kernel
theorem dX11_takesParish_30 : decode cX11_takesParish 30 = .ok (.bipush 9, 2) := by decide +kernel
theorem dX11_takesParish_32 : decode cX11_takesParish 32 = .ok (.invokevirtual 251, 3) := by decide +kernel
theorem dX11_takesParish_35 : decode cX11_takesParish 35 = .ok (.ifCond .ne 5, 3) := by decide +kernel
theorem dX11_takesParish_38 : decode cX11_takesParish 38 = .ok (.iconst 0, 1) := by decide +kernel
theorem dX11_takesParish_39 : decode cX11_takesParish 39 = .ok (.ireturn, 1) := by decide +kernel
theorem dX11_takesParish_40 : decode cX11_takesParish 40 = .ok (.aload_n 0, 1) := by decide +kernel
theorem dX11_takesParish_41 : decode cX11_takesParish 41 = .ok (.getfield 42, 3) := by decide +kernel
theorem dX11_takesParish_44 : decode cX11_takesParish 44 = .ok (.aload_n 0, 1) := by decide +kernel
theorem dX11_takesParish_45 : decode cX11_takesParish 45 = .ok (.getfield 45, 3) := by decide +kernel
theorem dX11_takesParish_48 : decode cX11_takesParish 48 = .ok (.iconst 0, 1) := by decide +kernel
theorem dX11_takesParish_49 : decode cX11_takesParish 49 = .ok (.iaload, 1) := by decide +kernel
theorem dX11_takesParish_50 : decode cX11_takesParish 50 = .ok (.invokestatic 48, 3) := by decide +kernel
theorem dX11_takesParish_53 : decode cX11_takesParish 53 = .ok (.aload_n 0, 1) := by decide +kernel
theorem dX11_takesParish_54 : decode cX11_takesParish 54 = .ok (.getfield 228, 3) := by decide +kernel
theorem dX11_takesParish_57 : decode cX11_takesParish 57 = .ok (.iconst 3, 1) := by decide +kernel
theorem dX11_takesParish_58 : decode cX11_takesParish 58 = .ok (.if_icmp .ne 7, 3) := by decide +kernel
theorem dX11_takesParish_61 : decode cX11_takesParish 61 = .ok (.iconst 1, 1) := by decide +kernel
theorem dX11_takesParish_62 : decode cX11_takesParish 62 = .ok (.goto 4, 3) := by decide +kernel
theorem dX11_takesParish_65 : decode cX11_takesParish 65 = .ok (.iconst 0, 1) := by decide +kernel
theorem dX11_takesParish_66 : decode cX11_takesParish 66 = .ok (.ireturn, 1) := by decide +kernel
set_option maxRecDepth 20000 in
theorem ggX11_takesField_X11_goBehind : GoodIn wsX11_takesField wsX11_goBehind := goodIn_r _ [7, 8, 9, 10, 11, 12, 6, 13, 14, 15, 16, 17, 18, 19, 20, 21, 22, 23, 24, 25, 26, 27, 28, 29, 30, 38, 39, 40, 41, 42, 43, 44, 45, 46, 47, 48, 49, 50, 51, 52, 53, 54, 55] (by decide +kernel) (by decide +kernel)
set_option maxRecDepth 20000 in
theorem gX11_takesField_X11_goBehind : GoodIn wsX11_takesField (wsV RX11 244 RX11 yX11_goBehind wsX11_goBehind) := goodIn_app (goodIn_of _ (by decide +kernel)) ggX11_takesField_X11_goBehind
set_option maxRecDepth 20000 in
theorem ggX11_takesField_X11_takes : GoodIn wsX11_takesField wsX11_takes := goodIn_r _ [34, 16, 17, 2, 23, 24, 6, 25, 3, 4, 5, 7, 8, 9, 10, 11, 12, 13, 14, 15, 18, 19, 20, 21, 22, 26, 27, 28, 29, 30, 38, 39, 40, 41, 42, 43, 44, 45, 46, 47, 48, 49, 50, 51, 52, 53, 54, 55] (by decide +kernel) (by decide +kernel)
set_option maxRecDepth 20000 in
theorem gX11_takesField_X11_takes : GoodIn wsX11_takesField (wsV RX11 251 RX11 yX11_takes wsX11_takes) := goodIn_app (goodIn_of _ (by decide +kernel)) ggX11_takesField_X11_takes
set_option maxRecDepth 20000 in
theorem ggX11_takesField_X11_layField : GoodIn wsX11_takesField wsX11_layField := goodIn_r _ [37] (by decide +kernel) (by decide +kernel)
set_option maxRecDepth 20000 in
theorem gX11_takesField_X11_layField : GoodIn wsX11_takesField (va_wsS RX11 85 yX11_layField wsX11_layField) := goodIn_app (goodIn_of _ (by decide +kernel)) ggX11_takesField_X11_layField
theorem dX11_takesField_0 : decode cX11_takesField 0 = .ok (.aload_n 0, 1) := by decide +kernel
theorem dX11_takesField_1 : decode cX11_takesField 1 = .ok (.getfield 42, 3) := by decide +kernel
theorem dX11_takesField_4 : decode cX11_takesField 4 = .ok (.iconst 0, 1) := by decide +kernel
theorem dX11_takesField_5 : decode cX11_takesField 5 = .ok (.iaload, 1) := by decide +kernel
theorem dX11_takesField_6 : decode cX11_takesField 6 = .ok (.bipush 6, 2) := by decide +kernel
theorem dX11_takesField_8 : decode cX11_takesField 8 = .ok (.if_icmp .ne 5, 3) := by decide +kernel
theorem dX11_takesField_11 : decode cX11_takesField 11 = .ok (.iconst 0, 1) := by decide +kernel
theorem dX11_takesField_12 : decode cX11_takesField 12 = .ok (.ireturn, 1) := by decide +kernel
theorem dX11_takesField_13 : decode cX11_takesField 13 = .ok (.aload_n 0, 1) := by decide +kernel
theorem dX11_takesField_14 : decode cX11_takesField 14 = .ok (.invokevirtual 244, 3) := by decide +kernel
theorem dX11_takesField_17 : decode cX11_takesField 17 = .ok (.aload_n 0, 1) := by decide +kernel
theorem dX11_takesField_18 : decode cX11_takesField 18 = .ok (.iconst 0, 1) := by decide +kernel
theorem dX11_takesField_19 : decode cX11_takesField 19 = .ok (.iconst 0, 1) := by decide +kernel
theorem dX11_takesField_20 : decode cX11_takesField 20 = .ok (.iconst 5, 1) := by decide +kernel
theorem dX11_takesField_21 : decode cX11_takesField 21 = .ok (.invokevirtual 251, 3) := by decide +kernel
theorem dX11_takesField_24 : decode cX11_takesField 24 = .ok (.ifCond .eq 14, 3) := by decide +kernel
theorem dX11_takesField_27 : decode cX11_takesField 27 = .ok (.aload_n 0, 1) := by decide +kernel
theorem dX11_takesField_28 : decode cX11_takesField 28 = .ok (.iconst 1, 1) := by decide +kernel
theorem dX11_takesField_29 : decode cX11_takesField 29 = .ok (.iconst 0, 1) := by decide +kernel
theorem dX11_takesField_30 : decode cX11_takesField 30 = .ok (.bipush 60, 2) := by decide +kernel
theorem dX11_takesField_32 : decode cX11_takesField 32 = .ok (.invokevirtual 251, 3) := by decide +kernel
theorem dX11_takesField_35 : decode cX11_takesField 35 = .ok (.ifCond .ne 5, 3) := by decide +kernel
theorem dX11_takesField_38 : decode cX11_takesField 38 = .ok (.iconst 0, 1) := by decide +kernel
theorem dX11_takesField_39 : decode cX11_takesField 39 = .ok (.ireturn, 1) := by decide +kernel
theorem dX11_takesField_40 : decode cX11_takesField 40 = .ok (.aload_n 0, 1) := by decide +kernel
theorem dX11_takesField_41 : decode cX11_takesField 41 = .ok (.getfield 42, 3) := by decide +kernel
theorem dX11_takesField_44 : decode cX11_takesField 44 = .ok (.aload_n 0, 1) := by decide +kernel
theorem dX11_takesField_45 : decode cX11_takesField 45 = .ok (.getfield 45, 3) := by decide +kernel
theorem dX11_takesField_48 : decode cX11_takesField 48 = .ok (.iconst 0, 1) := by decide +kernel
theorem dX11_takesField_49 : decode cX11_takesField 49 = .ok (.iaload, 1) := by decide +kernel
theorem dX11_takesField_50 : decode cX11_takesField 50 = .ok (.aload_n 0, 1) := by decide +kernel
theorem dX11_takesField_51 : decode cX11_takesField 51 = .ok (.getfield 45, 3) := by decide +kernel
theorem dX11_takesField_54 : decode cX11_takesField 54 = .ok (.iconst 1, 1) := by decide +kernel
theorem dX11_takesField_55 : decode cX11_takesField 55 = .ok (.iaload, 1) := by decide +kernel
theorem dX11_takesField_56 : decode cX11_takesField 56 = .ok (.invokestatic 85, 3) := by decide +kernel
theorem dX11_takesField_59 : decode cX11_takesField 59 = .ok (.iconst 1, 1) := by decide +kernel
theorem dX11_takesField_60 : decode cX11_takesField 60 = .ok (.ireturn, 1) := by decide +kernel
set_option maxRecDepth 20000 in
theorem ggX11_takesGleaner_X11_goBehind : GoodIn wsX11_takesGleaner wsX11_goBehind := goodIn_r _ [7, 8, 9, 10, 11, 12, 6, 13, 14, 15, 16, 17, 18, 19, 20, 21, 22, 23, 24, 25, 26, 27, 28, 29, 30, 38, 39, 40, 41, 42, 43, 44, 45, 46, 47, 48, 49, 50, 51, 52, 53, 54, 55] (by decide +kernel) (by decide +kernel)
set_option maxRecDepth 20000 in
theorem gX11_takesGleaner_X11_goBehind : GoodIn wsX11_takesGleaner (wsV RX11 244 RX11 yX11_goBehind wsX11_goBehind) := goodIn_app (goodIn_of _ (by decide +kernel)) ggX11_takesGleaner_X11_goBehind
set_option maxRecDepth 20000 in
theorem ggX11_takesGleaner_X11_takes : GoodIn wsX11_takesGleaner wsX11_takes := goodIn_r _ [34, 16, 17, 2, 23, 24, 6, 25, 3, 4, 5, 7, 8, 9, 10, 11, 12, 13, 14, 15, 18, 19, 20, 21, 22, 26, 27, 28, 29, 30, 38, 39, 40, 41, 42, 43, 44, 45, 46, 47, 48, 49, 50, 51, 52, 53, 54, 55] (by decide +kernel) (by decide +kernel)
set_option maxRecDepth 20000 in
theorem gX11_takesGleaner_X11_takes : GoodIn wsX11_takesGleaner (wsV RX11 251 RX11 yX11_takes wsX11_takes) := goodIn_app (goodIn_of _ (by decide +kernel)) ggX11_takesGleaner_X11_takes
set_option maxRecDepth 20000 in
theorem ggX11_takesGleaner_X11_layGleaner : GoodIn wsX11_takesGleaner wsX11_layGleaner := goodIn_r _ [37] (by decide +kernel) (by decide +kernel)
set_option maxRecDepth 20000 in
theorem gX11_takesGleaner_X11_layGleaner : GoodIn wsX11_takesGleaner (va_wsS RX11 92 yX11_layGleaner wsX11_layGleaner) := goodIn_app (goodIn_of _ (by decide +kernel)) ggX11_takesGleaner_X11_layGleaner
theorem dX11_takesGleaner_0 : decode cX11_takesGleaner 0 = .ok (.aload_n 0, 1) := by decide +kernel
theorem dX11_takesGleaner_1 : decode cX11_takesGleaner 1 = .ok (.getfield 42, 3) := by decide +kernel
theorem dX11_takesGleaner_4 : decode cX11_takesGleaner 4 = .ok (.iconst 1, 1) := by decide +kernel
theorem dX11_takesGleaner_5 : decode cX11_takesGleaner 5 = .ok (.iaload, 1) := by decide +kernel
theorem dX11_takesGleaner_6 : decode cX11_takesGleaner 6 = .ok (.iconst 5, 1) := by decide +kernel
theorem dX11_takesGleaner_7 : decode cX11_takesGleaner 7 = .ok (.if_icmp .ne 5, 3) := by decide +kernel
theorem dX11_takesGleaner_10 : decode cX11_takesGleaner 10 = .ok (.iconst 0, 1) := by decide +kernel
theorem dX11_takesGleaner_11 : decode cX11_takesGleaner 11 = .ok (.ireturn, 1) := by decide +kernel
theorem dX11_takesGleaner_12 : decode cX11_takesGleaner 12 = .ok (.aload_n 0, 1) := by decide +kernel
theorem dX11_takesGleaner_13 : decode cX11_takesGleaner 13 = .ok (.invokevirtual 244, 3) := by decide +kernel
theorem dX11_takesGleaner_16 : decode cX11_takesGleaner 16 = .ok (.aload_n 0, 1) := by decide +kernel
theorem dX11_takesGleaner_17 : decode cX11_takesGleaner 17 = .ok (.iconst 0, 1) := by decide +kernel
theorem dX11_takesGleaner_18 : decode cX11_takesGleaner 18 = .ok (.iconst 0, 1) := by decide +kernel
theorem dX11_takesGleaner_19 : decode cX11_takesGleaner 19 = .ok (.aload_n 0, 1) := by decide +kernel
theorem dX11_takesGleaner_20 : decode cX11_takesGleaner 20 = .ok (.getfield 42, 3) := by decide +kernel
theorem dX11_takesGleaner_23 : decode cX11_takesGleaner 23 = .ok (.iconst 0, 1) := by decide +kernel
theorem dX11_takesGleaner_24 : decode cX11_takesGleaner 24 = .ok (.iaload, 1) := by decide +kernel
theorem dX11_takesGleaner_25 : decode cX11_takesGleaner 25 = .ok (.iconst 1, 1) := by decide +kernel
theorem dX11_takesGleaner_26 : decode cX11_takesGleaner 26 = .ok (.isub, 1) := by decide +kernel
theorem dX11_takesGleaner_27 : decode cX11_takesGleaner 27 = .ok (.invokevirtual 251, 3) := by decide +kernel
theorem dX11_takesGleaner_30 : decode cX11_takesGleaner 30 = .ok (.ifCond .ne 5, 3) := by decide +kernel
theorem dX11_takesGleaner_33 : decode cX11_takesGleaner 33 = .ok (.iconst 0, 1) := by decide +kernel
theorem dX11_takesGleaner_34 : decode cX11_takesGleaner 34 = .ok (.ireturn, 1) := by decide +kernel
theorem dX11_takesGleaner_35 : decode cX11_takesGleaner 35 = .ok (.aload_n 0, 1) := by decide +kernel
theorem dX11_takesGleaner_36 : decode cX11_takesGleaner 36 = .ok (.getfield 42, 3) := by decide +kernel
theorem dX11_takesGleaner_39 : decode cX11_takesGleaner 39 = .ok (.aload_n 0, 1) := by decide +kernel
theorem dX11_takesGleaner_40 : decode cX11_takesGleaner 40 = .ok (.getfield 45, 3) := by decide +kernel
theorem dX11_takesGleaner_43 : decode cX11_takesGleaner 43 = .ok (.iconst 0, 1) := by decide +kernel
theorem dX11_takesGleaner_44 : decode cX11_takesGleaner 44 = .ok (.iaload, 1) := by decide +kernel
theorem dX11_takesGleaner_45 : decode cX11_takesGleaner 45 = .ok (.invokestatic 92, 3) := by decide +kernel
theorem dX11_takesGleaner_48 : decode cX11_takesGleaner 48 = .ok (.iconst 1, 1) := by decide +kernel
theorem dX11_takesGleaner_49 : decode cX11_takesGleaner 49 = .ok (.ireturn, 1) := by decide +kernel
set_option maxRecDepth 20000 in
theorem ggX11_takesGlean_X11_goBehind : GoodIn wsX11_takesGlean wsX11_goBehind := goodIn_r _ [7, 8, 9, 10, 11, 12, 6, 13, 14, 15, 16, 17, 18, 19, 20, 21, 22, 23, 24, 25, 26, 27, 28, 29, 30, 53, 54, 55, 56, 57, 58, 59, 60, 61, 62, 63, 64, 65, 66, 67, 68, 69, 70] (by decide +kernel) (by decide +kernel)
set_option maxRecDepth 20000 in
theorem gX11_takesGlean_X11_goBehind : GoodIn wsX11_takesGlean (wsV RX11 244 RX11 yX11_goBehind wsX11_goBehind) := goodIn_app (goodIn_of _ (by decide +kernel)) ggX11_takesGlean_X11_goBehind
set_option maxRecDepth 20000 in
theorem ggX11_takesGlean_X11_takes : GoodIn wsX11_takesGlean wsX11_takes := goodIn_r _ [34, 16, 17, 2, 23, 24, 6, 25, 3, 4, 5, 7, 8, 9, 10, 11, 12, 13, 14, 15, 18, 19, 20, 21, 22, 26, 27, 28, 29, 30, 53, 54, 55, 56, 57, 58, 59, 60, 61, 62, 63, 64, 65, 66, 67, 68, 69, 70] (by decide +kernel) (by decide +kernel)
set_option maxRecDepth 20000 in
theorem gX11_takesGlean_X11_takes : GoodIn wsX11_takesGlean (wsV RX11 251 RX11 yX11_takes wsX11_takes) := goodIn_app (goodIn_of _ (by decide +kernel)) ggX11_takesGlean_X11_takes
set_option maxRecDepth 20000 in
theorem ggX11_takesGlean_X11_goStep : GoodIn wsX11_takesGlean wsX11_goStep := goodIn_r _ [37, 38, 39, 6, 40, 41, 42, 43, 44, 45, 46, 47, 48, 49, 50, 51, 52] (by decide +kernel) (by decide +kernel)
set_option maxRecDepth 20000 in
theorem gX11_takesGlean_X11_goStep : GoodIn wsX11_takesGlean (va_wsS RX11 125 yX11_goStep wsX11_goStep) := goodIn_app (goodIn_of _ (by decide +kernel)) ggX11_takesGlean_X11_goStep
theorem dX11_takesGlean_0 : decode cX11_takesGlean 0 = .ok (.aload_n 0, 1) := by decide +kernel
theorem dX11_takesGlean_1 : decode cX11_takesGlean 1 = .ok (.invokevirtual 244, 3) := by decide +kernel
theorem dX11_takesGlean_4 : decode cX11_takesGlean 4 = .ok (.aload_n 0, 1) := by decide +kernel
theorem dX11_takesGlean_5 : decode cX11_takesGlean 5 = .ok (.iconst 0, 1) := by decide +kernel
theorem dX11_takesGlean_6 : decode cX11_takesGlean 6 = .ok (.iconst 1, 1) := by decide +kernel
theorem dX11_takesGlean_7 : decode cX11_takesGlean 7 = .ok (.bipush 12, 2) := by decide +kernel
theorem dX11_takesGlean_9 : decode cX11_takesGlean 9 = .ok (.aload_n 0, 1) := by decide +kernel
theorem dX11_takesGlean_10 : decode cX11_takesGlean 10 = .ok (.getfield 42, 3) := by decide +kernel
theorem dX11_takesGlean_13 : decode cX11_takesGlean 13 = .ok (.bipush 21, 2) := by decide +kernel
theorem dX11_takesGlean_15 : decode cX11_takesGlean 15 = .ok (.iaload, 1) := by decide +kernel
theorem dX11_takesGlean_16 : decode cX11_takesGlean 16 = .ok (.isub, 1) := by decide +kernel
theorem dX11_takesGlean_17 : decode cX11_takesGlean 17 = .ok (.invokevirtual 251, 3) := by decide +kernel
theorem dX11_takesGlean_20 : decode cX11_takesGlean 20 = .ok (.ifCond .ne 5, 3) := by decide +kernel
theorem dX11_takesGlean_23 : decode cX11_takesGlean 23 = .ok (.iconst 0, 1) := by decide +kernel
theorem dX11_takesGlean_24 : decode cX11_takesGlean 24 = .ok (.ireturn, 1) := by decide +kernel
theorem dX11_takesGlean_25 : decode cX11_takesGlean 25 = .ok (.iconst 0, 1) := by decide +kernel
theorem dX11_takesGlean_26 : decode cX11_takesGlean 26 = .ok (.istore_n 1, 1) := by decide +kernel
theorem dX11_takesGlean_27 : decode cX11_takesGlean 27 = .ok (.iload_n 1, 1) := by decide +kernel
theorem dX11_takesGlean_28 : decode cX11_takesGlean 28 = .ok (.aload_n 0, 1) := by decide +kernel
theorem dX11_takesGlean_29 : decode cX11_takesGlean 29 = .ok (.getfield 45, 3) := by decide +kernel
theorem dX11_takesGlean_32 : decode cX11_takesGlean 32 = .ok (.iconst 0, 1) := by decide +kernel
theorem dX11_takesGlean_33 : decode cX11_takesGlean 33 = .ok (.iaload, 1) := by decide +kernel
theorem dX11_takesGlean_34 : decode cX11_takesGlean 34 = .ok (.if_icmp .ge 17, 3) := by decide +kernel
theorem dX11_takesGlean_37 : decode cX11_takesGlean 37 = .ok (.aload_n 0, 1) := by decide +kernel
theorem dX11_takesGlean_38 : decode cX11_takesGlean 38 = .ok (.getfield 42, 3) := by decide +kernel
theorem dX11_takesGlean_41 : decode cX11_takesGlean 41 = .ok (.invokestatic 125, 3) := by decide +kernel
theorem dX11_takesGlean_44 : decode cX11_takesGlean 44 = .ok (.istore_n 2, 1) := by decide +kernel
theorem dX11_takesGlean_45 : decode cX11_takesGlean 45 = .ok (.iinc 1 1, 3) := by decide +kernel
theorem dX11_takesGlean_48 : decode cX11_takesGlean 48 = .ok (.goto (-21), 3) := by decide +kernel
theorem dX11_takesGlean_51 : decode cX11_takesGlean 51 = .ok (.iconst 1, 1) := by decide +kernel
theorem dX11_takesGlean_52 : decode cX11_takesGlean 52 = .ok (.ireturn, 1) := by decide +kernel
set_option maxRecDepth 20000 in
theorem ggX11_isGleanerWord_X11_spells : GoodIn wsX11_isGleanerWord wsX11_spells := goodIn_r _ [9, 1, 2, 3, 4, 10, 11, 12, 13, 14, 15, 16, 17, 18, 19, 20, 21, 22, 23, 24, 25, 26, 27] (by decide +kernel) (by decide +kernel)
set_option maxRecDepth 20000 in
theorem gX11_isGleanerWord_X11_spells : GoodIn wsX11_isGleanerWord (wsV RX11 247 RX11 yX11_spells wsX11_spells) := goodIn_app (goodIn_of _ (by decide +kernel)) ggX11_isGleanerWord_X11_spells
theorem dX11_isGleanerWord_0 : decode cX11_isGleanerWord 0 = .ok (.aload_n 0, 1) := by decide +kernel
theorem dX11_isGleanerWord_1 : decode cX11_isGleanerWord 1 = .ok (.getfield 228, 3) := by decide +kernel
theorem dX11_isGleanerWord_4 : decode cX11_isGleanerWord 4 = .ok (.iconst 1, 1) := by decide +kernel
theorem dX11_isGleanerWord_5 : decode cX11_isGleanerWord 5 = .ok (.if_icmp .ne 16, 3) := by decide +kernel
theorem dX11_isGleanerWord_8 : decode cX11_isGleanerWord 8 = .ok (.aload_n 0, 1) := by decide +kernel
theorem dX11_isGleanerWord_9 : decode cX11_isGleanerWord 9 = .ok (.getfield 225, 3) := by decide +kernel
theorem dX11_isGleanerWord_12 : decode cX11_isGleanerWord 12 = .ok (.bipush 7, 2) := by decide +kernel
theorem dX11_isGleanerWord_14 : decode cX11_isGleanerWord 14 = .ok (.if_icmp .ne 7, 3) := by decide +kernel
theorem dX11_isGleanerWord_17 : decode cX11_isGleanerWord 17 = .ok (.iconst 1, 1) := by decide +kernel
theorem dX11_isGleanerWord_18 : decode cX11_isGleanerWord 18 = .ok (.goto 4, 3) := by decide +kernel
theorem dX11_isGleanerWord_21 : decode cX11_isGleanerWord 21 = .ok (.iconst 0, 1) := by decide +kernel
theorem dX11_isGleanerWord_22 : decode cX11_isGleanerWord 22 = .ok (.istore_n 1, 1) := by decide +kernel
theorem dX11_isGleanerWord_23 : decode cX11_isGleanerWord 23 = .ok (.aload_n 0, 1) := by decide +kernel
theorem dX11_isGleanerWord_24 : decode cX11_isGleanerWord 24 = .ok (.iload_n 1, 1) := by decide +kernel
theorem dX11_isGleanerWord_25 : decode cX11_isGleanerWord 25 = .ok (.ifCond .eq 8, 3) := by decide +kernel
theorem dX11_isGleanerWord_28 : decode cX11_isGleanerWord 28 = .ok (.bipush 6, 2) := by decide +kernel
theorem dX11_isGleanerWord_30 : decode cX11_isGleanerWord 30 = .ok (.goto 7, 3) := by decide +kernel
theorem dX11_isGleanerWord_33 : decode cX11_isGleanerWord 33 = .ok (.aload_n 0, 1) := by decide +kernel
theorem dX11_isGleanerWord_34 : decode cX11_isGleanerWord 34 = .ok (.getfield 225, 3) := by decide +kernel
theorem dX11_isGleanerWord_37 : decode cX11_isGleanerWord 37 = .ok (.putfield 225, 3) := by decide +kernel
theorem dX11_isGleanerWord_40 : decode cX11_isGleanerWord 40 = .ok (.aload_n 0, 1) := by decide +kernel
theorem dX11_isGleanerWord_41 : decode cX11_isGleanerWord 41 = .ok (.bipush 6, 2) := by decide +kernel
theorem dX11_isGleanerWord_43 : decode cX11_isGleanerWord 43 = .ok (.bipush 103, 2) := by decide +kernel
theorem dX11_isGleanerWord_45 : decode cX11_isGleanerWord 45 = .ok (.bipush 108, 2) := by decide +kernel
theorem dX11_isGleanerWord_47 : decode cX11_isGleanerWord 47 = .ok (.bipush 101, 2) := by decide +kernel
theorem dX11_isGleanerWord_49 : decode cX11_isGleanerWord 49 = .ok (.bipush 97, 2) := by decide +kernel
theorem dX11_isGleanerWord_51 : decode cX11_isGleanerWord 51 = .ok (.bipush 110, 2) := by decide +kernel
theorem dX11_isGleanerWord_53 : decode cX11_isGleanerWord 53 = .ok (.bipush 101, 2) := by decide +kernel
theorem dX11_isGleanerWord_55 : decode cX11_isGleanerWord 55 = .ok (.invokevirtual 247, 3) := by decide +kernel
theorem dX11_isGleanerWord_58 : decode cX11_isGleanerWord 58 = .ok (.istore_n 2, 1) := by decide +kernel
theorem dX11_isGleanerWord_59 : decode cX11_isGleanerWord 59 = .ok (.aload_n 0, 1) := by decide +kernel
theorem dX11_isGleanerWord_60 : decode cX11_isGleanerWord 60 = .ok (.iload_n 1, 1) := by decide +kernel
theorem dX11_isGleanerWord_61 : decode cX11_isGleanerWord 61 = .ok (.ifCond .eq 8, 3) := by decide +kernel
theorem dX11_isGleanerWord_64 : decode cX11_isGleanerWord 64 = .ok (.bipush 7, 2) := by decide +kernel
theorem dX11_isGleanerWord_66 : decode cX11_isGleanerWord 66 = .ok (.goto 7, 3) := by decide +kernel
theorem dX11_isGleanerWord_69 : decode cX11_isGleanerWord 69 = .ok (.aload_n 0, 1) := by decide +kernel
theorem dX11_isGleanerWord_70 : decode cX11_isGleanerWord 70 = .ok (.getfield 225, 3) := by decide +kernel
theorem dX11_isGleanerWord_73 : decode cX11_isGleanerWord 73 = .ok (.putfield 225, 3) := by decide +kernel
theorem dX11_isGleanerWord_76 : decode cX11_isGleanerWord 76 = .ok (.iload_n 1, 1) := by decide +kernel
theorem dX11_isGleanerWord_77 : decode cX11_isGleanerWord 77 = .ok (.ifCond .eq 28, 3) := by decide +kernel
theorem dX11_isGleanerWord_80 : decode cX11_isGleanerWord 80 = .ok (.iload_n 2, 1) := by decide +kernel
theorem dX11_isGleanerWord_81 : decode cX11_isGleanerWord 81 = .ok (.ifCond .eq 24, 3) := by decide +kernel
theorem dX11_isGleanerWord_84 : decode cX11_isGleanerWord 84 = .ok (.aload_n 0, 1) := by decide +kernel
theorem dX11_isGleanerWord_85 : decode cX11_isGleanerWord 85 = .ok (.getfield 39, 3) := by decide +kernel
theorem dX11_isGleanerWord_88 : decode cX11_isGleanerWord 88 = .ok (.aload_n 0, 1) := by decide +kernel
theorem dX11_isGleanerWord_89 : decode cX11_isGleanerWord 89 = .ok (.getfield 222, 3) := by decide +kernel
theorem dX11_isGleanerWord_92 : decode cX11_isGleanerWord 92 = .ok (.bipush 6, 2) := by decide +kernel
theorem dX11_isGleanerWord_94 : decode cX11_isGleanerWord 94 = .ok (.iadd, 1) := by decide +kernel
theorem dX11_isGleanerWord_95 : decode cX11_isGleanerWord 95 = .ok (.iaload, 1) := by decide +kernel
theorem dX11_isGleanerWord_96 : decode cX11_isGleanerWord 96 = .ok (.bipush 114, 2) := by decide +kernel
theorem dX11_isGleanerWord_98 : decode cX11_isGleanerWord 98 = .ok (.if_icmp .ne 7, 3) := by decide +kernel
theorem dX11_isGleanerWord_101 : decode cX11_isGleanerWord 101 = .ok (.iconst 1, 1) := by decide +kernel
theorem dX11_isGleanerWord_102 : decode cX11_isGleanerWord 102 = .ok (.goto 4, 3) := by decide +kernel
theorem dX11_isGleanerWord_105 : decode cX11_isGleanerWord 105 = .ok (.iconst 0, 1) := by decide +kernel
theorem dX11_isGleanerWord_106 : decode cX11_isGleanerWord 106 = .ok (.ireturn, 1) := by decide +kernel
set_option maxRecDepth 20000 in
theorem ggX11_takesItem_X11_spells : GoodIn wsX11_takesItem wsX11_spells := goodIn_r _ [5, 6, 7, 8, 9, 79, 80, 81, 82, 83, 84, 85, 86, 87, 88, 89, 90, 91, 92, 93, 94, 95, 96] (by decide +kernel) (by decide +kernel)
set_option maxRecDepth 20000 in
theorem gX11_takesItem_X11_spells : GoodIn wsX11_takesItem (wsV RX11 247 RX11 yX11_spells wsX11_spells) := goodIn_app (goodIn_of _ (by decide +kernel)) ggX11_takesItem_X11_spells
set_option maxRecDepth 20000 in
theorem ggX11_takesItem_X11_takesField : GoodIn wsX11_takesItem wsX11_takesField := goodIn_r _ [13, 14, 15, 16, 17, 18, 4, 19, 9, 7, 20, 21, 22, 23, 24, 8, 6, 25, 26, 27, 28, 29, 30, 31, 32, 33, 34, 35, 36, 37, 38, 39, 40, 41, 42, 43, 44, 45, 79, 80, 81, 82, 83, 84, 85, 86, 87, 88, 89, 90, 91, 92, 93, 94, 95, 96] (by decide +kernel) (by decide +kernel)
set_option maxRecDepth 20000 in
theorem gX11_takesItem_X11_takesField : GoodIn wsX11_takesItem (wsV RX11 255 RX11 yX11_takesField wsX11_takesField) := goodIn_app (goodIn_of _ (by decide +kernel)) ggX11_takesItem_X11_takesField
set_option maxRecDepth 20000 in
theorem ggX11_takesItem_X11_takesGlean : GoodIn wsX11_takesItem wsX11_takesGlean := goodIn_r _ [49, 14, 15, 16, 17, 18, 4, 19, 9, 7, 20, 21, 22, 23, 24, 8, 6, 25, 26, 27, 28, 29, 30, 31, 32, 33, 34, 35, 36, 37, 38, 39, 40, 41, 42, 50, 51, 52, 53, 54, 55, 56, 57, 58, 59, 60, 61, 62, 63, 64, 65, 66, 67, 79, 80, 81, 82, 83, 84, 85, 86, 87, 88, 89, 90, 91, 92, 93, 94, 95, 96] (by decide +kernel) (by decide +kernel)
set_option maxRecDepth 20000 in
theorem gX11_takesItem_X11_takesGlean : GoodIn wsX11_takesItem (wsV RX11 259 RX11 yX11_takesGlean wsX11_takesGlean) := goodIn_app (goodIn_of _ (by decide +kernel)) ggX11_takesItem_X11_takesGlean
set_option maxRecDepth 20000 in
theorem ggX11_takesItem_X11_isGleanerWord : GoodIn wsX11_takesItem wsX11_isGleanerWord := goodIn_r _ [71, 6, 7, 8, 9, 1, 2, 3, 4, 5, 79, 80, 81, 82, 83, 84, 85, 86, 87, 88, 89, 90, 91, 92, 93, 94, 95, 96] (by decide +kernel) (by decide +kernel)
set_option maxRecDepth 20000 in
theorem gX11_takesItem_X11_isGleanerWord : GoodIn wsX11_takesItem (wsV RX11 262 RX11 yX11_isGleanerWord wsX11_isGleanerWord) := goodIn_app (goodIn_of _ (by decide +kernel)) ggX11_takesItem_X11_isGleanerWord
set_option maxRecDepth 20000 in
theorem ggX11_takesItem_X11_takesGleaner : GoodIn wsX11_takesItem wsX11_takesGleaner := goodIn_r _ [75, 14, 15, 16, 17, 18, 4, 19, 9, 7, 20, 21, 22, 23, 24, 8, 6, 25, 26, 27, 28, 29, 30, 31, 32, 33, 34, 35, 36, 37, 38, 39, 40, 41, 42, 76, 77, 78, 79, 80, 81, 82, 83, 84, 85, 86, 87, 88, 89, 90, 91, 92, 93, 94, 95, 96] (by decide +kernel) (by decide +kernel)
set_option maxRecDepth 20000 in
theorem gX11_takesItem_X11_takesGleaner : GoodIn wsX11_takesItem (wsV RX11 265 RX11 yX11_takesGleaner wsX11_takesGleaner) := goodIn_app (goodIn_of _ (by decide +kernel)) ggX11_takesItem_X11_takesGleaner
theorem dX11_takesItem_0 : decode cX11_takesItem 0 = .ok (.aload_n 0, 1) := by decide +kernel
theorem dX11_takesItem_1 : decode cX11_takesItem 1 = .ok (.iconst 5, 1) := by decide +kernel
theorem dX11_takesItem_2 : decode cX11_takesItem 2 = .ok (.bipush 102, 2) := by decide +kernel
theorem dX11_takesItem_4 : decode cX11_takesItem 4 = .ok (.bipush 105, 2) := by decide +kernel
theorem dX11_takesItem_6 : decode cX11_takesItem 6 = .ok (.bipush 101, 2) := by decide +kernel
theorem dX11_takesItem_8 : decode cX11_takesItem 8 = .ok (.bipush 108, 2) := by decide +kernel
theorem dX11_takesItem_10 : decode cX11_takesItem 10 = .ok (.bipush 100, 2) := by decide +kernel
theorem dX11_takesItem_12 : decode cX11_takesItem 12 = .ok (.iconst 0, 1) := by decide +kernel
theorem dX11_takesItem_13 : decode cX11_takesItem 13 = .ok (.invokevirtual 247, 3) := by decide +kernel
theorem dX11_takesItem_16 : decode cX11_takesItem 16 = .ok (.ifCond .eq 8, 3) := by decide +kernel
theorem dX11_takesItem_19 : decode cX11_takesItem 19 = .ok (.aload_n 0, 1) := by decide +kernel
theorem dX11_takesItem_20 : decode cX11_takesItem 20 = .ok (.invokevirtual 255, 3) := by decide +kernel
theorem dX11_takesItem_23 : decode cX11_takesItem 23 = .ok (.ireturn, 1) := by decide +kernel
theorem dX11_takesItem_24 : decode cX11_takesItem 24 = .ok (.aload_n 0, 1) := by decide +kernel
theorem dX11_takesItem_25 : decode cX11_takesItem 25 = .ok (.iconst 5, 1) := by decide +kernel
theorem dX11_takesItem_26 : decode cX11_takesItem 26 = .ok (.bipush 103, 2) := by decide +kernel
theorem dX11_takesItem_28 : decode cX11_takesItem 28 = .ok (.bipush 108, 2) := by decide +kernel
theorem dX11_takesItem_30 : decode cX11_takesItem 30 = .ok (.bipush 101, 2) := by decide +kernel
theorem dX11_takesItem_32 : decode cX11_takesItem 32 = .ok (.bipush 97, 2) := by decide +kernel
theorem dX11_takesItem_34 : decode cX11_takesItem 34 = .ok (.bipush 110, 2) := by decide +kernel
theorem dX11_takesItem_36 : decode cX11_takesItem 36 = .ok (.iconst 0, 1) := by decide +kernel
theorem dX11_takesItem_37 : decode cX11_takesItem 37 = .ok (.invokevirtual 247, 3) := by decide +kernel
theorem dX11_takesItem_40 : decode cX11_takesItem 40 = .ok (.ifCond .eq 8, 3) := by decide +kernel
theorem dX11_takesItem_43 : decode cX11_takesItem 43 = .ok (.aload_n 0, 1) := by decide +kernel
theorem dX11_takesItem_44 : decode cX11_takesItem 44 = .ok (.invokevirtual 259, 3) := by decide +kernel
theorem dX11_takesItem_47 : decode cX11_takesItem 47 = .ok (.ireturn, 1) := by decide +kernel
theorem dX11_takesItem_48 : decode cX11_takesItem 48 = .ok (.aload_n 0, 1) := by decide +kernel
theorem dX11_takesItem_49 : decode cX11_takesItem 49 = .ok (.invokevirtual 262, 3) := by decide +kernel
theorem dX11_takesItem_52 : decode cX11_takesItem 52 = .ok (.ifCond .eq 14, 3) := by decide +kernel
theorem dX11_takesItem_55 : decode cX11_takesItem 55 = .ok (.aload_n 0, 1) := by decide +kernel
theorem dX11_takesItem_56 : decode cX11_takesItem 56 = .ok (.invokevirtual 265, 3) := by decide +kernel
theorem dX11_takesItem_59 : decode cX11_takesItem 59 = .ok (.ifCond .eq 7, 3) := by decide +kernel
theorem dX11_takesItem_62 : decode cX11_takesItem 62 = .ok (.iconst 1, 1) := by decide +kernel
theorem dX11_takesItem_63 : decode cX11_takesItem 63 = .ok (.goto 4, 3) := by decide +kernel
theorem dX11_takesItem_66 : decode cX11_takesItem 66 = .ok (.iconst 0, 1) := by decide +kernel
theorem dX11_takesItem_67 : decode cX11_takesItem 67 = .ok (.ireturn, 1) := by decide +kernel
set_option maxRecDepth 20000 in
theorem ggX11_read_X11_lookAt : GoodIn wsX11_read wsX11_lookAt := goodIn_r _ [9, 1, 10, 11, 12, 2, 13, 14, 15, 8, 16, 17, 18, 19, 20, 21, 22, 23, 24, 25, 26, 91, 92, 93, 94, 95, 96, 97, 98, 99, 100, 101, 102, 103, 104, 105, 106, 107, 108] (by decide +kernel) (by decide +kernel)
set_option maxRecDepth 20000 in
theorem gX11_read_X11_lookAt : GoodIn wsX11_read (wsV RX11 240 RX11 yX11_lookAt wsX11_lookAt) := goodIn_app (goodIn_of _ (by decide +kernel)) ggX11_read_X11_lookAt
set_option maxRecDepth 20000 in
theorem ggX11_read_X11_takesParish : GoodIn wsX11_read wsX11_takesParish := goodIn_r _ [30, 4, 31, 2, 32, 33, 34, 8, 35, 12, 11, 1, 36, 37, 38, 39, 5, 6, 7, 9, 10, 13, 14, 15, 16, 17, 18, 19, 20, 21, 22, 23, 24, 25, 26, 40, 41, 42, 43, 44, 45, 46, 91, 92, 93, 94, 95, 96, 97, 98, 99, 100, 101, 102, 103, 104, 105, 106, 107, 108] (by decide +kernel) (by decide +kernel)
set_option maxRecDepth 20000 in
theorem gX11_read_X11_takesParish : GoodIn wsX11_read (wsV RX11 268 RX11 yX11_takesParish wsX11_takesParish) := goodIn_app (goodIn_of _ (by decide +kernel)) ggX11_read_X11_takesParish
set_option maxRecDepth 20000 in
theorem ggX11_read_X11_goBehind : GoodIn wsX11_read wsX11_goBehind := goodIn_r _ [39, 1, 12, 5, 6, 7, 8, 9, 10, 11, 2, 13, 14, 15, 16, 17, 18, 19, 20, 21, 22, 23, 24, 25, 26, 91, 92, 93, 94, 95, 96, 97, 98, 99, 100, 101, 102, 103, 104, 105, 106, 107, 108] (by decide +kernel) (by decide +kernel)
set_option maxRecDepth 20000 in
theorem gX11_read_X11_goBehind : GoodIn wsX11_read (wsV RX11 244 RX11 yX11_goBehind wsX11_goBehind) := goodIn_app (goodIn_of _ (by decide +kernel)) ggX11_read_X11_goBehind
set_option maxRecDepth 20000 in
theorem ggX11_read_X11_takesItem : GoodIn wsX11_read wsX11_takesItem := goodIn_r _ [50, 32, 33, 34, 8, 35, 2, 12, 11, 1, 51, 52, 53, 54, 4, 31, 36, 37, 38, 39, 5, 6, 7, 9, 10, 13, 14, 15, 16, 17, 18, 19, 20, 21, 22, 23, 24, 25, 26, 40, 41, 42, 43, 55, 56, 57, 58, 59, 60, 61, 62, 63, 64, 65, 66, 67, 68, 69, 70, 71, 72, 73, 74, 75, 76, 77, 78, 79, 80, 81, 82, 83, 84, 85, 86, 87, 88, 89, 90, 91, 92, 93, 94, 95, 96, 97, 98, 99, 100, 101, 102, 103, 104, 105, 106, 107, 108] (by decide +kernel) (by decide +kernel)
set_option maxRecDepth 20000 in
theorem gX11_read_X11_takesItem : GoodIn wsX11_read (wsV RX11 271 RX11 yX11_takesItem wsX11_takesItem) := goodIn_app (goodIn_of _ (by decide +kernel)) ggX11_read_X11_takesItem
theorem dX11_read_0 : decode cX11_read 0 = .ok (.aload_n 0, 1) := by decide +kernel
theorem dX11_read_1 : decode cX11_read 1 = .ok (.iconst 0, 1) := by decide +kernel
theorem dX11_read_2 : decode cX11_read 2 = .ok (.invokevirtual 240, 3) := by decide +kernel
theorem dX11_read_5 : decode cX11_read 5 = .ok (.aload_n 0, 1) := by decide +kernel
theorem dX11_read_6 : decode cX11_read 6 = .ok (.invokevirtual 268, 3) := by decide +kernel
theorem dX11_read_9 : decode cX11_read 9 = .ok (.ifCond .ne 11, 3) := by decide +kernel
theorem dX11_read_12 : decode cX11_read 12 = .ok (.bipush (-10), 2) := by decide +kernel
theorem dX11_read_14 : decode cX11_read 14 = .ok (.aload_n 0, 1) := by decide +kernel
theorem dX11_read_15 : decode cX11_read 15 = .ok (.getfield 222, 3) := by decide +kernel
theorem dX11_read_18 : decode cX11_read 18 = .ok (.isub, 1) := by decide +kernel
theorem dX11_read_19 : decode cX11_read 19 = .ok (.ireturn, 1) := by decide +kernel
theorem dX11_read_20 : decode cX11_read 20 = .ok (.aload_n 0, 1) := by decide +kernel
theorem dX11_read_21 : decode cX11_read 21 = .ok (.invokevirtual 244, 3) := by decide +kernel
theorem dX11_read_24 : decode cX11_read 24 = .ok (.iconst 1, 1) := by decide +kernel
theorem dX11_read_25 : decode cX11_read 25 = .ok (.istore_n 1, 1) := by decide +kernel
theorem dX11_read_26 : decode cX11_read 26 = .ok (.aload_n 0, 1) := by decide +kernel
theorem dX11_read_27 : decode cX11_read 27 = .ok (.getfield 228, 3) := by decide +kernel
theorem dX11_read_30 : decode cX11_read 30 = .ok (.ifCond .eq 36, 3) := by decide +kernel
theorem dX11_read_33 : decode cX11_read 33 = .ok (.aload_n 0, 1) := by decide +kernel
theorem dX11_read_34 : decode cX11_read 34 = .ok (.invokevirtual 271, 3) := by decide +kernel
theorem dX11_read_37 : decode cX11_read 37 = .ok (.ifCond .eq 11, 3) := by decide +kernel
theorem dX11_read_40 : decode cX11_read 40 = .ok (.aload_n 0, 1) := by decide +kernel
theorem dX11_read_41 : decode cX11_read 41 = .ok (.getfield 228, 3) := by decide +kernel
theorem dX11_read_44 : decode cX11_read 44 = .ok (.iconst 3, 1) := by decide +kernel
theorem dX11_read_45 : decode cX11_read 45 = .ok (.if_icmp .eq 11, 3) := by decide +kernel
theorem dX11_read_48 : decode cX11_read 48 = .ok (.bipush (-10), 2) := by decide +kernel
theorem dX11_read_50 : decode cX11_read 50 = .ok (.aload_n 0, 1) := by decide +kernel
theorem dX11_read_51 : decode cX11_read 51 = .ok (.getfield 222, 3) := by decide +kernel
theorem dX11_read_54 : decode cX11_read 54 = .ok (.isub, 1) := by decide +kernel
theorem dX11_read_55 : decode cX11_read 55 = .ok (.ireturn, 1) := by decide +kernel
theorem dX11_read_56 : decode cX11_read 56 = .ok (.aload_n 0, 1) := by decide +kernel
theorem dX11_read_57 : decode cX11_read 57 = .ok (.invokevirtual 244, 3) := by decide +kernel
theorem dX11_read_60 : decode cX11_read 60 = .ok (.iinc 1 1, 3) := by decide +kernel
theorem dX11_read_63 : decode cX11_read 63 = .ok (.goto (-37), 3) := by decide +kernel
theorem dX11_read_66 : decode cX11_read 66 = .ok (.iconst 0, 1) := by decide +kernel
theorem dX11_read_67 : decode cX11_read 67 = .ok (.istore_n 2, 1) := by decide +kernel
theorem dX11_read_68 : decode cX11_read 68 = .ok (.iload_n 2, 1) := by decide +kernel
theorem dX11_read_69 : decode cX11_read 69 = .ok (.bipush 76, 2) := by decide +kernel
theorem dX11_read_71 : decode cX11_read 71 = .ok (.if_icmp .ge 21, 3) := by decide +kernel
theorem dX11_read_74 : decode cX11_read 74 = .ok (.aload_n 0, 1) := by decide +kernel
theorem dX11_read_75 : decode cX11_read 75 = .ok (.getfield 7, 3) := by decide +kernel
theorem dX11_read_78 : decode cX11_read 78 = .ok (.iload_n 2, 1) := by decide +kernel
theorem dX11_read_79 : decode cX11_read 79 = .ok (.aload_n 0, 1) := by decide +kernel
theorem dX11_read_80 : decode cX11_read 80 = .ok (.getfield 42, 3) := by decide +kernel
theorem dX11_read_83 : decode cX11_read 83 = .ok (.iload_n 2, 1) := by decide +kernel
theorem dX11_read_84 : decode cX11_read 84 = .ok (.iaload, 1) := by decide +kernel
theorem dX11_read_85 : decode cX11_read 85 = .ok (.iastore, 1) := by decide +kernel
theorem dX11_read_86 : decode cX11_read 86 = .ok (.iinc 2 1, 3) := by decide +kernel
theorem dX11_read_89 : decode cX11_read 89 = .ok (.goto (-21), 3) := by decide +kernel
theorem dX11_read_92 : decode cX11_read 92 = .ok (.iload_n 1, 1) := by decide +kernel
theorem dX11_read_93 : decode cX11_read 93 = .ok (.ireturn, 1) := by decide +kernel
set_option maxRecDepth 20000 in
theorem ggX11_part_X11_bad : GoodIn wsX11_part wsX11_bad := goodIn_r _ [7, 8, 9, 10, 11, 12, 13, 14, 15, 16, 17, 18, 19, 20, 21, 22, 23, 24, 25, 26] (by decide +kernel) (by decide +kernel)
set_option maxRecDepth 20000 in
theorem gX11_part_X11_bad : GoodIn wsX11_part (wsV RX11 73 RX11 yX11_bad wsX11_bad) := goodIn_app (goodIn_of _ (by decide +kernel)) ggX11_part_X11_bad
theorem dX11_part_0 : decode cX11_part 0 = .ok (.iload_n 1, 1) := by decide +kernel
theorem dX11_part_1 : decode cX11_part 1 = .ok (.ifCond .ne 10, 3) := by decide +kernel
theorem dX11_part_4 : decode cX11_part 4 = .ok (.aload_n 0, 1) := by decide +kernel
theorem dX11_part_5 : decode cX11_part 5 = .ok (.getfield 189, 3) := by decide +kernel
theorem dX11_part_8 : decode cX11_part 8 = .ok (.goto 22, 3) := by decide +kernel
theorem dX11_part_11 : decode cX11_part 11 = .ok (.iload_n 1, 1) := by decide +kernel
theorem dX11_part_12 : decode cX11_part 12 = .ok (.iconst 1, 1) := by decide +kernel
theorem dX11_part_13 : decode cX11_part 13 = .ok (.if_icmp .ne 10, 3) := by decide +kernel
theorem dX11_part_16 : decode cX11_part 16 = .ok (.aload_n 0, 1) := by decide +kernel
theorem dX11_part_17 : decode cX11_part 17 = .ok (.getfield 23, 3) := by decide +kernel
theorem dX11_part_20 : decode cX11_part 20 = .ok (.goto 10, 3) := by decide +kernel
theorem dX11_part_23 : decode cX11_part 23 = .ok (.aload_n 0, 1) := by decide +kernel
theorem dX11_part_24 : decode cX11_part 24 = .ok (.bipush (-2), 2) := by decide +kernel
theorem dX11_part_26 : decode cX11_part 26 = .ok (.invokevirtual 73, 3) := by decide +kernel
theorem dX11_part_29 : decode cX11_part 29 = .ok (.i2l, 1) := by decide +kernel
theorem dX11_part_30 : decode cX11_part 30 = .ok (.lreturn, 1) := by decide +kernel
set_option maxRecDepth 20000 in
theorem ggX11_image_X11_in : GoodIn wsX11_image wsX11_in := goodIn_r _ [7] (by decide +kernel) (by decide +kernel)
set_option maxRecDepth 20000 in
theorem gX11_image_X11_in : GoodIn wsX11_image (va_wsS RX11 56 yX11_in wsX11_in) := goodIn_app (goodIn_of _ (by decide +kernel)) ggX11_image_X11_in
set_option maxRecDepth 20000 in
theorem ggX11_image_X11_bad : GoodIn wsX11_image wsX11_bad := goodIn_r _ [11, 12, 13, 14, 15, 16, 17, 18, 19, 20, 21, 22, 23, 24, 25, 26, 27, 28, 29, 30] (by decide +kernel) (by decide +kernel)
set_option maxRecDepth 20000 in
theorem gX11_image_X11_bad : GoodIn wsX11_image (wsV RX11 73 RX11 yX11_bad wsX11_bad) := goodIn_app (goodIn_of _ (by decide +kernel)) ggX11_image_X11_bad
theorem dX11_image_0 : decode cX11_image 0 = .ok (.iload_n 1, 1) := by decide +kernel
theorem dX11_image_1 : decode cX11_image 1 = .ok (.i2l, 1) := by decide +kernel
theorem dX11_image_2 : decode cX11_image 2 = .ok (.lconst 0, 1) := by decide +kernel
theorem dX11_image_3 : decode cX11_image 3 = .ok (.lconst 1, 1) := by decide +kernel
theorem dX11_image_4 : decode cX11_image 4 = .ok (.invokestatic 56, 3) := by decide +kernel
theorem dX11_image_7 : decode cX11_image 7 = .ok (.ifCond .ne 10, 3) := by decide +kernel
theorem dX11_image_10 : decode cX11_image 10 = .ok (.aload_n 0, 1) := by decide +kernel
theorem dX11_image_11 : decode cX11_image 11 = .ok (.bipush (-2), 2) := by decide +kernel
theorem dX11_image_13 : decode cX11_image 13 = .ok (.invokevirtual 73, 3) := by decide +kernel
theorem dX11_image_16 : decode cX11_image 16 = .ok (.ireturn, 1) := by decide +kernel
theorem dX11_image_17 : decode cX11_image 17 = .ok (.iconst 0, 1) := by decide +kernel
theorem dX11_image_18 : decode cX11_image 18 = .ok (.istore_n 2, 1) := by decide +kernel
theorem dX11_image_19 : decode cX11_image 19 = .ok (.iload_n 2, 1) := by decide +kernel
theorem dX11_image_20 : decode cX11_image 20 = .ok (.sipush 228, 3) := by decide +kernel
theorem dX11_image_23 : decode cX11_image 23 = .ok (.if_icmp .ge 27, 3) := by decide +kernel
theorem dX11_image_26 : decode cX11_image 26 = .ok (.aload_n 0, 1) := by decide +kernel
theorem dX11_image_27 : decode cX11_image 27 = .ok (.getfield 13, 3) := by decide +kernel
theorem dX11_image_30 : decode cX11_image 30 = .ok (.sipush 228, 3) := by decide +kernel
theorem dX11_image_33 : decode cX11_image 33 = .ok (.iload_n 1, 1) := by decide +kernel
theorem dX11_image_34 : decode cX11_image 34 = .ok (.imul, 1) := by decide +kernel
theorem dX11_image_35 : decode cX11_image 35 = .ok (.iload_n 2, 1) := by decide +kernel
theorem dX11_image_36 : decode cX11_image 36 = .ok (.iadd, 1) := by decide +kernel
theorem dX11_image_37 : decode cX11_image 37 = .ok (.aload_n 0, 1) := by decide +kernel
theorem dX11_image_38 : decode cX11_image 38 = .ok (.getfield 7, 3) := by decide +kernel
theorem dX11_image_41 : decode cX11_image 41 = .ok (.iload_n 2, 1) := by decide +kernel
theorem dX11_image_42 : decode cX11_image 42 = .ok (.iaload, 1) := by decide +kernel
theorem dX11_image_43 : decode cX11_image 43 = .ok (.iastore, 1) := by decide +kernel
theorem dX11_image_44 : decode cX11_image 44 = .ok (.iinc 2 1, 3) := by decide +kernel
theorem dX11_image_47 : decode cX11_image 47 = .ok (.goto (-28), 3) := by decide +kernel
theorem dX11_image_50 : decode cX11_image 50 = .ok (.aload_n 0, 1) := by decide +kernel
theorem dX11_image_51 : decode cX11_image 51 = .ok (.getfield 16, 3) := by decide +kernel
theorem dX11_image_54 : decode cX11_image 54 = .ok (.iload_n 1, 1) := by decide +kernel
theorem dX11_image_55 : decode cX11_image 55 = .ok (.iconst 1, 1) := by decide +kernel
theorem dX11_image_56 : decode cX11_image 56 = .ok (.bastore, 1) := by decide +kernel
theorem dX11_image_57 : decode cX11_image 57 = .ok (.iconst 1, 1) := by decide +kernel
theorem dX11_image_58 : decode cX11_image 58 = .ok (.ireturn, 1) := by decide +kernel
set_option maxRecDepth 20000 in
theorem ggX11_from_X11_in : GoodIn wsX11_from wsX11_in := goodIn_r _ [7] (by decide +kernel) (by decide +kernel)
set_option maxRecDepth 20000 in
theorem gX11_from_X11_in : GoodIn wsX11_from (va_wsS RX11 56 yX11_in wsX11_in) := goodIn_app (goodIn_of _ (by decide +kernel)) ggX11_from_X11_in
set_option maxRecDepth 20000 in
theorem ggX11_from_X11_bad : GoodIn wsX11_from wsX11_bad := goodIn_r _ [11, 12, 17, 18, 19, 20, 21, 22, 23, 24, 25, 26, 27, 28, 29, 30, 31, 32, 33, 34] (by decide +kernel) (by decide +kernel)
set_option maxRecDepth 20000 in
theorem gX11_from_X11_bad : GoodIn wsX11_from (wsV RX11 73 RX11 yX11_bad wsX11_bad) := goodIn_app (goodIn_of _ (by decide +kernel)) ggX11_from_X11_bad
set_option maxRecDepth 20000 in
theorem ggX11_from_X11_no : GoodIn wsX11_from wsX11_no := goodIn_r _ [16, 12, 17, 18, 19, 20, 21, 22, 23, 24, 25, 26, 27, 28, 29, 30, 31, 32, 33, 34] (by decide +kernel) (by decide +kernel)
set_option maxRecDepth 20000 in
theorem gX11_from_X11_no : GoodIn wsX11_from (wsV RX11 119 RX11 yX11_no wsX11_no) := goodIn_app (goodIn_of _ (by decide +kernel)) ggX11_from_X11_no
theorem dX11_from_0 : decode cX11_from 0 = .ok (.iload_n 1, 1) := by decide +kernel
theorem dX11_from_1 : decode cX11_from 1 = .ok (.i2l, 1) := by decide +kernel
theorem dX11_from_2 : decode cX11_from 2 = .ok (.lconst 0, 1) := by decide +kernel
theorem dX11_from_3 : decode cX11_from 3 = .ok (.lconst 1, 1) := by decide +kernel
theorem dX11_from_4 : decode cX11_from 4 = .ok (.invokestatic 56, 3) := by decide +kernel
theorem dX11_from_7 : decode cX11_from 7 = .ok (.ifCond .ne 10, 3) := by decide +kernel
theorem dX11_from_10 : decode cX11_from 10 = .ok (.aload_n 0, 1) := by decide +kernel
theorem dX11_from_11 : decode cX11_from 11 = .ok (.bipush (-2), 2) := by decide +kernel
theorem dX11_from_13 : decode cX11_from 13 = .ok (.invokevirtual 73, 3) := by decide +kernel
theorem dX11_from_16 : decode cX11_from 16 = .ok (.ireturn, 1) := by decide +kernel
theorem dX11_from_17 : decode cX11_from 17 = .ok (.aload_n 0, 1) := by decide +kernel
theorem dX11_from_18 : decode cX11_from 18 = .ok (.getfield 16, 3) := by decide +kernel
theorem dX11_from_21 : decode cX11_from 21 = .ok (.iload_n 1, 1) := by decide +kernel
theorem dX11_from_22 : decode cX11_from 22 = .ok (.baload, 1) := by decide +kernel
theorem dX11_from_23 : decode cX11_from 23 = .ok (.ifCond .ne 8, 3) := by decide +kernel
theorem dX11_from_26 : decode cX11_from 26 = .ok (.aload_n 0, 1) := by decide +kernel
theorem dX11_from_27 : decode cX11_from 27 = .ok (.invokevirtual 119, 3) := by decide +kernel
theorem dX11_from_30 : decode cX11_from 30 = .ok (.ireturn, 1) := by decide +kernel
theorem dX11_from_31 : decode cX11_from 31 = .ok (.iconst 0, 1) := by decide +kernel
theorem dX11_from_32 : decode cX11_from 32 = .ok (.istore_n 2, 1) := by decide +kernel
theorem dX11_from_33 : decode cX11_from 33 = .ok (.iload_n 2, 1) := by decide +kernel
theorem dX11_from_34 : decode cX11_from 34 = .ok (.sipush 228, 3) := by decide +kernel
theorem dX11_from_37 : decode cX11_from 37 = .ok (.if_icmp .ge 27, 3) := by decide +kernel
theorem dX11_from_40 : decode cX11_from 40 = .ok (.aload_n 0, 1) := by decide +kernel
theorem dX11_from_41 : decode cX11_from 41 = .ok (.getfield 7, 3) := by decide +kernel
theorem dX11_from_44 : decode cX11_from 44 = .ok (.iload_n 2, 1) := by decide +kernel
theorem dX11_from_45 : decode cX11_from 45 = .ok (.aload_n 0, 1) := by decide +kernel
theorem dX11_from_46 : decode cX11_from 46 = .ok (.getfield 13, 3) := by decide +kernel
theorem dX11_from_49 : decode cX11_from 49 = .ok (.sipush 228, 3) := by decide +kernel
theorem dX11_from_52 : decode cX11_from 52 = .ok (.iload_n 1, 1) := by decide +kernel
theorem dX11_from_53 : decode cX11_from 53 = .ok (.imul, 1) := by decide +kernel
theorem dX11_from_54 : decode cX11_from 54 = .ok (.iload_n 2, 1) := by decide +kernel
theorem dX11_from_55 : decode cX11_from 55 = .ok (.iadd, 1) := by decide +kernel
theorem dX11_from_56 : decode cX11_from 56 = .ok (.iaload, 1) := by decide +kernel
theorem dX11_from_57 : decode cX11_from 57 = .ok (.iastore, 1) := by decide +kernel
theorem dX11_from_58 : decode cX11_from 58 = .ok (.iinc 2 1, 3) := by decide +kernel
theorem dX11_from_61 : decode cX11_from 61 = .ok (.goto (-28), 3) := by decide +kernel
theorem dX11_from_64 : decode cX11_from 64 = .ok (.iconst 1, 1) := by decide +kernel
theorem dX11_from_65 : decode cX11_from 65 = .ok (.ireturn, 1) := by decide +kernel
set_option maxRecDepth 20000 in
theorem ggX11_status_X11_in : GoodIn wsX11_status wsX11_in := goodIn_r _ [6] (by decide +kernel) (by decide +kernel)
set_option maxRecDepth 20000 in
theorem gX11_status_X11_in : GoodIn wsX11_status (va_wsS RX11 56 yX11_in wsX11_in) := goodIn_app (goodIn_of _ (by decide +kernel)) ggX11_status_X11_in
set_option maxRecDepth 20000 in
theorem ggX11_status_X11_bad : GoodIn wsX11_status wsX11_bad := goodIn_r _ [10, 2, 11, 12, 13, 14, 15, 16, 17, 18, 19, 20, 21, 22, 23, 24, 25, 26, 27, 28] (by decide +kernel) (by decide +kernel)
set_option maxRecDepth 20000 in
theorem gX11_status_X11_bad : GoodIn wsX11_status (wsV RX11 73 RX11 yX11_bad wsX11_bad) := goodIn_app (goodIn_of _ (by decide +kernel)) ggX11_status_X11_bad
theorem dX11_status_0 : decode cX11_status 0 = .ok (.iload_n 1, 1) := by decide +kernel
theorem dX11_status_1 : decode cX11_status 1 = .ok (.i2l, 1) := by decide +kernel
theorem dX11_status_2 : decode cX11_status 2 = .ok (.lconst 0, 1) := by decide +kernel
theorem dX11_status_3 : decode cX11_status 3 = .ok (.ldc2_w 136, 3) := by decide +kernel
theorem dX11_status_6 : decode cX11_status 6 = .ok (.invokestatic 56, 3) := by decide +kernel
theorem dX11_status_9 : decode cX11_status 9 = .ok (.ifCond .eq 12, 3) := by decide +kernel
theorem dX11_status_12 : decode cX11_status 12 = .ok (.aload_n 0, 1) := by decide +kernel
theorem dX11_status_13 : decode cX11_status 13 = .ok (.getfield 20, 3) := by decide +kernel
theorem dX11_status_16 : decode cX11_status 16 = .ok (.iload_n 1, 1) := by decide +kernel
theorem dX11_status_17 : decode cX11_status 17 = .ok (.iaload, 1) := by decide +kernel
theorem dX11_status_18 : decode cX11_status 18 = .ok (.goto 8, 3) := by decide +kernel
theorem dX11_status_21 : decode cX11_status 21 = .ok (.aload_n 0, 1) := by decide +kernel
theorem dX11_status_22 : decode cX11_status 22 = .ok (.iconst (-1), 1) := by decide +kernel
theorem dX11_status_23 : decode cX11_status 23 = .ok (.invokevirtual 73, 3) := by decide +kernel
theorem dX11_status_26 : decode cX11_status 26 = .ok (.ireturn, 1) := by decide +kernel
set_option maxRecDepth 20000 in
theorem ggX11_counted_X11_many : GoodIn wsX11_counted wsX11_many := goodIn_r _ [7, 1, 12, 13, 14, 15, 16, 17, 18, 19, 20, 21, 22, 23, 24, 25, 26, 27, 28, 29] (by decide +kernel) (by decide +kernel)
set_option maxRecDepth 20000 in
theorem gX11_counted_X11_many : GoodIn wsX11_counted (wsV RX11 52 RX11 yX11_many wsX11_many) := goodIn_app (goodIn_of _ (by decide +kernel)) ggX11_counted_X11_many
set_option maxRecDepth 20000 in
theorem ggX11_counted_X11_manyGleaners : GoodIn wsX11_counted wsX11_manyGleaners := goodIn_r _ [11, 1, 12, 13, 14, 15, 16, 17, 18, 19, 20, 21, 22, 23, 24, 25, 26, 27, 28, 29] (by decide +kernel) (by decide +kernel)
set_option maxRecDepth 20000 in
theorem gX11_counted_X11_manyGleaners : GoodIn wsX11_counted (wsV RX11 60 RX11 yX11_manyGleaners wsX11_manyGleaners) := goodIn_app (goodIn_of _ (by decide +kernel)) ggX11_counted_X11_manyGleaners
theorem dX11_counted_0 : decode cX11_counted 0 = .ok (.iload_n 1, 1) := by decide +kernel
theorem dX11_counted_1 : decode cX11_counted 1 = .ok (.tableswitch 102 0 7 #[47, 52, 57, 65, 73, 81, 88, 95], 47) := by decide +kernel
theorem dX11_counted_48 : decode cX11_counted 48 = .ok (.aload_n 0, 1) := by decide +kernel
theorem dX11_counted_49 : decode cX11_counted 49 = .ok (.invokevirtual 52, 3) := by decide +kernel
theorem dX11_counted_52 : decode cX11_counted 52 = .ok (.ireturn, 1) := by decide +kernel
theorem dX11_counted_53 : decode cX11_counted 53 = .ok (.aload_n 0, 1) := by decide +kernel
theorem dX11_counted_54 : decode cX11_counted 54 = .ok (.invokevirtual 60, 3) := by decide +kernel
theorem dX11_counted_57 : decode cX11_counted 57 = .ok (.ireturn, 1) := by decide +kernel
theorem dX11_counted_58 : decode cX11_counted 58 = .ok (.aload_n 0, 1) := by decide +kernel
theorem dX11_counted_59 : decode cX11_counted 59 = .ok (.getfield 7, 3) := by decide +kernel
theorem dX11_counted_62 : decode cX11_counted 62 = .ok (.bipush 21, 2) := by decide +kernel
theorem dX11_counted_64 : decode cX11_counted 64 = .ok (.iaload, 1) := by decide +kernel
theorem dX11_counted_65 : decode cX11_counted 65 = .ok (.ireturn, 1) := by decide +kernel
theorem dX11_counted_66 : decode cX11_counted 66 = .ok (.aload_n 0, 1) := by decide +kernel
theorem dX11_counted_67 : decode cX11_counted 67 = .ok (.getfield 7, 3) := by decide +kernel
theorem dX11_counted_70 : decode cX11_counted 70 = .ok (.bipush 22, 2) := by decide +kernel
theorem dX11_counted_72 : decode cX11_counted 72 = .ok (.iaload, 1) := by decide +kernel
theorem dX11_counted_73 : decode cX11_counted 73 = .ok (.ireturn, 1) := by decide +kernel
theorem dX11_counted_74 : decode cX11_counted 74 = .ok (.aload_n 0, 1) := by decide +kernel
theorem dX11_counted_75 : decode cX11_counted 75 = .ok (.getfield 7, 3) := by decide +kernel
theorem dX11_counted_78 : decode cX11_counted 78 = .ok (.bipush 23, 2) := by decide +kernel
theorem dX11_counted_80 : decode cX11_counted 80 = .ok (.iaload, 1) := by decide +kernel
theorem dX11_counted_81 : decode cX11_counted 81 = .ok (.ireturn, 1) := by decide +kernel
theorem dX11_counted_82 : decode cX11_counted 82 = .ok (.aload_n 0, 1) := by decide +kernel
theorem dX11_counted_83 : decode cX11_counted 83 = .ok (.getfield 7, 3) := by decide +kernel
theorem dX11_counted_86 : decode cX11_counted 86 = .ok (.iconst 2, 1) := by decide +kernel
theorem dX11_counted_87 : decode cX11_counted 87 = .ok (.iaload, 1) := by decide +kernel
theorem dX11_counted_88 : decode cX11_counted 88 = .ok (.ireturn, 1) := by decide +kernel
theorem dX11_counted_89 : decode cX11_counted 89 = .ok (.aload_n 0, 1) := by decide +kernel
theorem dX11_counted_90 : decode cX11_counted 90 = .ok (.getfield 7, 3) := by decide +kernel
theorem dX11_counted_93 : decode cX11_counted 93 = .ok (.iconst 3, 1) := by decide +kernel
theorem dX11_counted_94 : decode cX11_counted 94 = .ok (.iaload, 1) := by decide +kernel
theorem dX11_counted_95 : decode cX11_counted 95 = .ok (.ireturn, 1) := by decide +kernel
theorem dX11_counted_96 : decode cX11_counted 96 = .ok (.aload_n 0, 1) := by decide +kernel
theorem dX11_counted_97 : decode cX11_counted 97 = .ok (.getfield 7, 3) := by decide +kernel
theorem dX11_counted_100 : decode cX11_counted 100 = .ok (.iconst 4, 1) := by decide +kernel
theorem dX11_counted_101 : decode cX11_counted 101 = .ok (.iaload, 1) := by decide +kernel
theorem dX11_counted_102 : decode cX11_counted 102 = .ok (.ireturn, 1) := by decide +kernel
theorem dX11_counted_103 : decode cX11_counted 103 = .ok (.aload_n 0, 1) := by decide +kernel
theorem dX11_counted_104 : decode cX11_counted 104 = .ok (.getfield 210, 3) := by decide +kernel
theorem dX11_counted_107 : decode cX11_counted 107 = .ok (.ireturn, 1) := by decide +kernel
set_option maxRecDepth 20000 in
theorem ggX11_count_X11_in : GoodIn wsX11_count wsX11_in := goodIn_r _ [5] (by decide +kernel) (by decide +kernel)
set_option maxRecDepth 20000 in
theorem gX11_count_X11_in : GoodIn wsX11_count (va_wsS RX11 56 yX11_in wsX11_in) := goodIn_app (goodIn_of _ (by decide +kernel)) ggX11_count_X11_in
set_option maxRecDepth 20000 in
theorem ggX11_count_X11_counted : GoodIn wsX11_count wsX11_counted := goodIn_r _ [9, 10, 11, 12, 13, 14, 4, 15, 16, 17, 18, 19, 25, 26, 27, 28, 29, 30, 31, 32, 33, 34, 35, 36, 37, 38, 39, 40, 41, 42] (by decide +kernel) (by decide +kernel)
set_option maxRecDepth 20000 in
theorem gX11_count_X11_counted : GoodIn wsX11_count (wsV RX11 276 RX11 yX11_counted wsX11_counted) := goodIn_app (goodIn_of _ (by decide +kernel)) ggX11_count_X11_counted
set_option maxRecDepth 20000 in
theorem ggX11_count_X11_bad : GoodIn wsX11_count wsX11_bad := goodIn_r _ [23, 24, 25, 26, 27, 28, 29, 30, 31, 32, 33, 34, 35, 36, 37, 38, 39, 40, 41, 42] (by decide +kernel) (by decide +kernel)
set_option maxRecDepth 20000 in
theorem gX11_count_X11_bad : GoodIn wsX11_count (wsV RX11 73 RX11 yX11_bad wsX11_bad) := goodIn_app (goodIn_of _ (by decide +kernel)) ggX11_count_X11_bad
theorem dX11_count_0 : decode cX11_count 0 = .ok (.iload_n 1, 1) := by decide +kernel
theorem dX11_count_1 : decode cX11_count 1 = .ok (.i2l, 1) := by decide +kernel
theorem dX11_count_2 : decode cX11_count 2 = .ok (.lconst 0, 1) := by decide +kernel
theorem dX11_count_3 : decode cX11_count 3 = .ok (.ldc2_w 274, 3) := by decide +kernel
theorem dX11_count_6 : decode cX11_count 6 = .ok (.invokestatic 56, 3) := by decide +kernel
theorem dX11_count_9 : decode cX11_count 9 = .ok (.ifCond .eq 11, 3) := by decide +kernel
theorem dX11_count_12 : decode cX11_count 12 = .ok (.aload_n 0, 1) := by decide +kernel
theorem dX11_count_13 : decode cX11_count 13 = .ok (.iload_n 1, 1) := by decide +kernel
theorem dX11_count_14 : decode cX11_count 14 = .ok (.invokevirtual 276, 3) := by decide +kernel
theorem dX11_count_17 : decode cX11_count 17 = .ok (.goto 9, 3) := by decide +kernel
theorem dX11_count_20 : decode cX11_count 20 = .ok (.aload_n 0, 1) := by decide +kernel
theorem dX11_count_21 : decode cX11_count 21 = .ok (.bipush (-2), 2) := by decide +kernel
theorem dX11_count_23 : decode cX11_count 23 = .ok (.invokevirtual 73, 3) := by decide +kernel
theorem dX11_count_26 : decode cX11_count 26 = .ok (.ireturn, 1) := by decide +kernel
theorem dX11_sums_0 : decode cX11_sums 0 = .ok (.lload_n 1, 1) := by decide +kernel
theorem dX11_sums_1 : decode cX11_sums 1 = .ok (.lstore 5, 2) := by decide +kernel
theorem dX11_sums_3 : decode cX11_sums 3 = .ok (.iconst 0, 1) := by decide +kernel
theorem dX11_sums_4 : decode cX11_sums 4 = .ok (.istore 7, 2) := by decide +kernel
theorem dX11_sums_6 : decode cX11_sums 6 = .ok (.iload 7, 2) := by decide +kernel
theorem dX11_sums_8 : decode cX11_sums 8 = .ok (.iload 4, 2) := by decide +kernel
theorem dX11_sums_10 : decode cX11_sums 10 = .ok (.if_icmp .ge 28, 3) := by decide +kernel
theorem dX11_sums_13 : decode cX11_sums 13 = .ok (.ldc2_w 279, 3) := by decide +kernel
theorem dX11_sums_16 : decode cX11_sums 16 = .ok (.lload 5, 2) := by decide +kernel
theorem dX11_sums_18 : decode cX11_sums 18 = .ok (.lmul, 1) := by decide +kernel
theorem dX11_sums_19 : decode cX11_sums 19 = .ok (.aload_n 0, 1) := by decide +kernel
theorem dX11_sums_20 : decode cX11_sums 20 = .ok (.getfield 7, 3) := by decide +kernel
theorem dX11_sums_23 : decode cX11_sums 23 = .ok (.iload_n 3, 1) := by decide +kernel
theorem dX11_sums_24 : decode cX11_sums 24 = .ok (.iload 7, 2) := by decide +kernel
theorem dX11_sums_26 : decode cX11_sums 26 = .ok (.iadd, 1) := by decide +kernel
theorem dX11_sums_27 : decode cX11_sums 27 = .ok (.iaload, 1) := by decide +kernel
theorem dX11_sums_28 : decode cX11_sums 28 = .ok (.i2l, 1) := by decide +kernel
theorem dX11_sums_29 : decode cX11_sums 29 = .ok (.ladd, 1) := by decide +kernel
theorem dX11_sums_30 : decode cX11_sums 30 = .ok (.lstore 5, 2) := by decide +kernel
theorem dX11_sums_32 : decode cX11_sums 32 = .ok (.iinc 7 1, 3) := by decide +kernel
theorem dX11_sums_35 : decode cX11_sums 35 = .ok (.goto (-29), 3) := by decide +kernel
theorem dX11_sums_38 : decode cX11_sums 38 = .ok (.lload 5, 2) := by decide +kernel
theorem dX11_sums_40 : decode cX11_sums 40 = .ok (.lreturn, 1) := by decide +kernel
set_option maxRecDepth 20000 in
theorem ggX11_digest_X11_counted : GoodIn wsX11_digest wsX11_counted := goodIn_r _ [10, 3, 11, 12, 13, 14, 9, 15, 16, 17, 18, 19, 24, 25, 26, 27, 28, 29, 30, 31, 32, 33, 34, 35, 36, 37, 38, 39, 40, 41] (by decide +kernel) (by decide +kernel)
set_option maxRecDepth 20000 in
theorem gX11_digest_X11_counted : GoodIn wsX11_digest (wsV RX11 276 RX11 yX11_counted wsX11_counted) := goodIn_app (goodIn_of _ (by decide +kernel)) ggX11_digest_X11_counted
set_option maxRecDepth 20000 in
theorem ggX11_digest_X11_many : GoodIn wsX11_digest wsX11_many := goodIn_r _ [15, 3, 24, 25, 26, 27, 28, 29, 30, 31, 32, 33, 34, 35, 36, 37, 38, 39, 40, 41] (by decide +kernel) (by decide +kernel)
set_option maxRecDepth 20000 in
theorem gX11_digest_X11_many : GoodIn wsX11_digest (wsV RX11 52 RX11 yX11_many wsX11_many) := goodIn_app (goodIn_of _ (by decide +kernel)) ggX11_digest_X11_many
set_option maxRecDepth 20000 in
theorem ggX11_digest_X11_manyGleaners : GoodIn wsX11_digest wsX11_manyGleaners := goodIn_r _ [19, 3, 24, 25, 26, 27, 28, 29, 30, 31, 32, 33, 34, 35, 36, 37, 38, 39, 40, 41] (by decide +kernel) (by decide +kernel)
set_option maxRecDepth 20000 in
theorem gX11_digest_X11_manyGleaners : GoodIn wsX11_digest (wsV RX11 60 RX11 yX11_manyGleaners wsX11_manyGleaners) := goodIn_app (goodIn_of _ (by decide +kernel)) ggX11_digest_X11_manyGleaners
set_option maxRecDepth 20000 in
theorem ggX11_digest_X11_sums : GoodIn wsX11_digest wsX11_sums := goodIn_r _ [23, 2, 3, 24, 25, 26, 27, 28, 29, 30, 31, 32, 33, 34, 35, 36, 37, 38, 39, 40, 41] (by decide +kernel) (by decide +kernel)
set_option maxRecDepth 20000 in
theorem gX11_digest_X11_sums : GoodIn wsX11_digest (wsV RX11 283 RX11 yX11_sums wsX11_sums) := goodIn_app (goodIn_of _ (by decide +kernel)) ggX11_digest_X11_sums
theorem dX11_digest_0 : decode cX11_digest 0 = .ok (.ldc2_w 281, 3) := by decide +kernel
theorem dX11_digest_3 : decode cX11_digest 3 = .ok (.lstore_n 1, 1) := by decide +kernel
theorem dX11_digest_4 : decode cX11_digest 4 = .ok (.iconst 0, 1) := by decide +kernel
theorem dX11_digest_5 : decode cX11_digest 5 = .ok (.istore_n 3, 1) := by decide +kernel
theorem dX11_digest_6 : decode cX11_digest 6 = .ok (.iload_n 3, 1) := by decide +kernel
theorem dX11_digest_7 : decode cX11_digest 7 = .ok (.bipush 9, 2) := by decide +kernel
theorem dX11_digest_9 : decode cX11_digest 9 = .ok (.if_icmp .ge 22, 3) := by decide +kernel
theorem dX11_digest_12 : decode cX11_digest 12 = .ok (.ldc2_w 279, 3) := by decide +kernel
theorem dX11_digest_15 : decode cX11_digest 15 = .ok (.lload_n 1, 1) := by decide +kernel
theorem dX11_digest_16 : decode cX11_digest 16 = .ok (.lmul, 1) := by decide +kernel
theorem dX11_digest_17 : decode cX11_digest 17 = .ok (.aload_n 0, 1) := by decide +kernel
theorem dX11_digest_18 : decode cX11_digest 18 = .ok (.iload_n 3, 1) := by decide +kernel
theorem dX11_digest_19 : decode cX11_digest 19 = .ok (.invokevirtual 276, 3) := by decide +kernel
theorem dX11_digest_22 : decode cX11_digest 22 = .ok (.i2l, 1) := by decide +kernel
theorem dX11_digest_23 : decode cX11_digest 23 = .ok (.ladd, 1) := by decide +kernel
theorem dX11_digest_24 : decode cX11_digest 24 = .ok (.lstore_n 1, 1) := by decide +kernel
theorem dX11_digest_25 : decode cX11_digest 25 = .ok (.iinc 3 1, 3) := by decide +kernel
theorem dX11_digest_28 : decode cX11_digest 28 = .ok (.goto (-22), 3) := by decide +kernel
theorem dX11_digest_31 : decode cX11_digest 31 = .ok (.iconst 0, 1) := by decide +kernel
theorem dX11_digest_32 : decode cX11_digest 32 = .ok (.istore_n 3, 1) := by decide +kernel
theorem dX11_digest_33 : decode cX11_digest 33 = .ok (.iload_n 3, 1) := by decide +kernel
theorem dX11_digest_34 : decode cX11_digest 34 = .ok (.aload_n 0, 1) := by decide +kernel
theorem dX11_digest_35 : decode cX11_digest 35 = .ok (.invokevirtual 52, 3) := by decide +kernel
theorem dX11_digest_38 : decode cX11_digest 38 = .ok (.if_icmp .ge 40, 3) := by decide +kernel
theorem dX11_digest_41 : decode cX11_digest 41 = .ok (.ldc2_w 279, 3) := by decide +kernel
theorem dX11_digest_44 : decode cX11_digest 44 = .ok (.ldc2_w 279, 3) := by decide +kernel
theorem dX11_digest_47 : decode cX11_digest 47 = .ok (.lload_n 1, 1) := by decide +kernel
theorem dX11_digest_48 : decode cX11_digest 48 = .ok (.lmul, 1) := by decide +kernel
theorem dX11_digest_49 : decode cX11_digest 49 = .ok (.aload_n 0, 1) := by decide +kernel
theorem dX11_digest_50 : decode cX11_digest 50 = .ok (.getfield 7, 3) := by decide +kernel
theorem dX11_digest_53 : decode cX11_digest 53 = .ok (.bipush 24, 2) := by decide +kernel
theorem dX11_digest_55 : decode cX11_digest 55 = .ok (.iload_n 3, 1) := by decide +kernel
theorem dX11_digest_56 : decode cX11_digest 56 = .ok (.iadd, 1) := by decide +kernel
theorem dX11_digest_57 : decode cX11_digest 57 = .ok (.iaload, 1) := by decide +kernel
theorem dX11_digest_58 : decode cX11_digest 58 = .ok (.i2l, 1) := by decide +kernel
theorem dX11_digest_59 : decode cX11_digest 59 = .ok (.ladd, 1) := by decide +kernel
theorem dX11_digest_60 : decode cX11_digest 60 = .ok (.lmul, 1) := by decide +kernel
theorem dX11_digest_61 : decode cX11_digest 61 = .ok (.aload_n 0, 1) := by decide +kernel
theorem dX11_digest_62 : decode cX11_digest 62 = .ok (.getfield 7, 3) := by decide +kernel
theorem dX11_digest_65 : decode cX11_digest 65 = .ok (.iconst 5, 1) := by decide +kernel
theorem dX11_digest_66 : decode cX11_digest 66 = .ok (.iload_n 3, 1) := by decide +kernel
theorem dX11_digest_67 : decode cX11_digest 67 = .ok (.iadd, 1) := by decide +kernel
theorem dX11_digest_68 : decode cX11_digest 68 = .ok (.iaload, 1) := by decide +kernel
theorem dX11_digest_69 : decode cX11_digest 69 = .ok (.i2l, 1) := by decide +kernel
theorem dX11_digest_70 : decode cX11_digest 70 = .ok (.ladd, 1) := by decide +kernel
theorem dX11_digest_71 : decode cX11_digest 71 = .ok (.lstore_n 1, 1) := by decide +kernel
theorem dX11_digest_72 : decode cX11_digest 72 = .ok (.iinc 3 1, 3) := by decide +kernel
theorem dX11_digest_75 : decode cX11_digest 75 = .ok (.goto (-42), 3) := by decide +kernel
theorem dX11_digest_78 : decode cX11_digest 78 = .ok (.iconst 0, 1) := by decide +kernel
theorem dX11_digest_79 : decode cX11_digest 79 = .ok (.istore_n 3, 1) := by decide +kernel
theorem dX11_digest_80 : decode cX11_digest 80 = .ok (.iload_n 3, 1) := by decide +kernel
theorem dX11_digest_81 : decode cX11_digest 81 = .ok (.aload_n 0, 1) := by decide +kernel
theorem dX11_digest_82 : decode cX11_digest 82 = .ok (.invokevirtual 60, 3) := by decide +kernel
theorem dX11_digest_85 : decode cX11_digest 85 = .ok (.if_icmp .ge 41, 3) := by decide +kernel
theorem dX11_digest_88 : decode cX11_digest 88 = .ok (.ldc2_w 279, 3) := by decide +kernel
theorem dX11_digest_91 : decode cX11_digest 91 = .ok (.ldc2_w 279, 3) := by decide +kernel
theorem dX11_digest_94 : decode cX11_digest 94 = .ok (.lload_n 1, 1) := by decide +kernel
theorem dX11_digest_95 : decode cX11_digest 95 = .ok (.lmul, 1) := by decide +kernel
theorem dX11_digest_96 : decode cX11_digest 96 = .ok (.aload_n 0, 1) := by decide +kernel
theorem dX11_digest_97 : decode cX11_digest 97 = .ok (.getfield 7, 3) := by decide +kernel
theorem dX11_digest_100 : decode cX11_digest 100 = .ok (.bipush 11, 2) := by decide +kernel
theorem dX11_digest_102 : decode cX11_digest 102 = .ok (.iload_n 3, 1) := by decide +kernel
theorem dX11_digest_103 : decode cX11_digest 103 = .ok (.iadd, 1) := by decide +kernel
theorem dX11_digest_104 : decode cX11_digest 104 = .ok (.iaload, 1) := by decide +kernel
theorem dX11_digest_105 : decode cX11_digest 105 = .ok (.i2l, 1) := by decide +kernel
theorem dX11_digest_106 : decode cX11_digest 106 = .ok (.ladd, 1) := by decide +kernel
theorem dX11_digest_107 : decode cX11_digest 107 = .ok (.lmul, 1) := by decide +kernel
theorem dX11_digest_108 : decode cX11_digest 108 = .ok (.aload_n 0, 1) := by decide +kernel
theorem dX11_digest_109 : decode cX11_digest 109 = .ok (.getfield 7, 3) := by decide +kernel
theorem dX11_digest_112 : decode cX11_digest 112 = .ok (.bipush 16, 2) := by decide +kernel
theorem dX11_digest_114 : decode cX11_digest 114 = .ok (.iload_n 3, 1) := by decide +kernel
theorem dX11_digest_115 : decode cX11_digest 115 = .ok (.iadd, 1) := by decide +kernel
theorem dX11_digest_116 : decode cX11_digest 116 = .ok (.iaload, 1) := by decide +kernel
theorem dX11_digest_117 : decode cX11_digest 117 = .ok (.i2l, 1) := by decide +kernel
theorem dX11_digest_118 : decode cX11_digest 118 = .ok (.ladd, 1) := by decide +kernel
theorem dX11_digest_119 : decode cX11_digest 119 = .ok (.lstore_n 1, 1) := by decide +kernel
theorem dX11_digest_120 : decode cX11_digest 120 = .ok (.iinc 3 1, 3) := by decide +kernel
theorem dX11_digest_123 : decode cX11_digest 123 = .ok (.goto (-43), 3) := by decide +kernel
theorem dX11_digest_126 : decode cX11_digest 126 = .ok (.aload_n 0, 1) := by decide +kernel
theorem dX11_digest_127 : decode cX11_digest 127 = .ok (.lload_n 1, 1) := by decide +kernel
theorem dX11_digest_128 : decode cX11_digest 128 = .ok (.bipush 30, 2) := by decide +kernel
theorem dX11_digest_130 : decode cX11_digest 130 = .ok (.iconst 4, 1) := by decide +kernel
theorem dX11_digest_131 : decode cX11_digest 131 = .ok (.aload_n 0, 1) := by decide +kernel
theorem dX11_digest_132 : decode cX11_digest 132 = .ok (.getfield 7, 3) := by decide +kernel
theorem dX11_digest_135 : decode cX11_digest 135 = .ok (.iconst 2, 1) := by decide +kernel
theorem dX11_digest_136 : decode cX11_digest 136 = .ok (.iaload, 1) := by decide +kernel
theorem dX11_digest_137 : decode cX11_digest 137 = .ok (.imul, 1) := by decide +kernel
theorem dX11_digest_138 : decode cX11_digest 138 = .ok (.invokevirtual 283, 3) := by decide +kernel
theorem dX11_digest_141 : decode cX11_digest 141 = .ok (.lstore_n 1, 1) := by decide +kernel
theorem dX11_digest_142 : decode cX11_digest 142 = .ok (.aload_n 0, 1) := by decide +kernel
theorem dX11_digest_143 : decode cX11_digest 143 = .ok (.lload_n 1, 1) := by decide +kernel
theorem dX11_digest_144 : decode cX11_digest 144 = .ok (.bipush 46, 2) := by decide +kernel
theorem dX11_digest_146 : decode cX11_digest 146 = .ok (.iconst 5, 1) := by decide +kernel
theorem dX11_digest_147 : decode cX11_digest 147 = .ok (.aload_n 0, 1) := by decide +kernel
theorem dX11_digest_148 : decode cX11_digest 148 = .ok (.getfield 7, 3) := by decide +kernel
theorem dX11_digest_151 : decode cX11_digest 151 = .ok (.iconst 3, 1) := by decide +kernel
theorem dX11_digest_152 : decode cX11_digest 152 = .ok (.iaload, 1) := by decide +kernel
theorem dX11_digest_153 : decode cX11_digest 153 = .ok (.imul, 1) := by decide +kernel
theorem dX11_digest_154 : decode cX11_digest 154 = .ok (.invokevirtual 283, 3) := by decide +kernel
theorem dX11_digest_157 : decode cX11_digest 157 = .ok (.lstore_n 1, 1) := by decide +kernel
theorem dX11_digest_158 : decode cX11_digest 158 = .ok (.ldc2_w 279, 3) := by decide +kernel
theorem dX11_digest_161 : decode cX11_digest 161 = .ok (.ldc2_w 279, 3) := by decide +kernel
theorem dX11_digest_164 : decode cX11_digest 164 = .ok (.lload_n 1, 1) := by decide +kernel
theorem dX11_digest_165 : decode cX11_digest 165 = .ok (.lmul, 1) := by decide +kernel
theorem dX11_digest_166 : decode cX11_digest 166 = .ok (.aload_n 0, 1) := by decide +kernel
theorem dX11_digest_167 : decode cX11_digest 167 = .ok (.getfield 189, 3) := by decide +kernel
theorem dX11_digest_170 : decode cX11_digest 170 = .ok (.ladd, 1) := by decide +kernel
theorem dX11_digest_171 : decode cX11_digest 171 = .ok (.lmul, 1) := by decide +kernel
theorem dX11_digest_172 : decode cX11_digest 172 = .ok (.aload_n 0, 1) := by decide +kernel
theorem dX11_digest_173 : decode cX11_digest 173 = .ok (.getfield 23, 3) := by decide +kernel
theorem dX11_digest_176 : decode cX11_digest 176 = .ok (.ladd, 1) := by decide +kernel
theorem dX11_digest_177 : decode cX11_digest 177 = .ok (.lreturn, 1) := by decide +kernel
theorem dJ6_bitCount_0f7a4_0 : decode cJ6_bitCount_0f7a4 0 = .ok (.iload_n 0, 1) := by decide +kernel
theorem dJ6_bitCount_0f7a4_1 : decode cJ6_bitCount_0f7a4 1 = .ok (.iload_n 0, 1) := by decide +kernel
theorem dJ6_bitCount_0f7a4_2 : decode cJ6_bitCount_0f7a4 2 = .ok (.iconst 1, 1) := by decide +kernel
theorem dJ6_bitCount_0f7a4_3 : decode cJ6_bitCount_0f7a4 3 = .ok (.iushr, 1) := by decide +kernel
theorem dJ6_bitCount_0f7a4_4 : decode cJ6_bitCount_0f7a4 4 = .ok (.ldc_w 265, 3) := by decide +kernel
theorem dJ6_bitCount_0f7a4_7 : decode cJ6_bitCount_0f7a4 7 = .ok (.iand, 1) := by decide +kernel
theorem dJ6_bitCount_0f7a4_8 : decode cJ6_bitCount_0f7a4 8 = .ok (.isub, 1) := by decide +kernel
theorem dJ6_bitCount_0f7a4_9 : decode cJ6_bitCount_0f7a4 9 = .ok (.istore_n 0, 1) := by decide +kernel
theorem dJ6_bitCount_0f7a4_10 : decode cJ6_bitCount_0f7a4 10 = .ok (.iload_n 0, 1) := by decide +kernel
theorem dJ6_bitCount_0f7a4_11 : decode cJ6_bitCount_0f7a4 11 = .ok (.ldc_w 266, 3) := by decide +kernel
theorem dJ6_bitCount_0f7a4_14 : decode cJ6_bitCount_0f7a4 14 = .ok (.iand, 1) := by decide +kernel
theorem dJ6_bitCount_0f7a4_15 : decode cJ6_bitCount_0f7a4 15 = .ok (.iload_n 0, 1) := by decide +kernel
theorem dJ6_bitCount_0f7a4_16 : decode cJ6_bitCount_0f7a4 16 = .ok (.iconst 2, 1) := by decide +kernel
theorem dJ6_bitCount_0f7a4_17 : decode cJ6_bitCount_0f7a4 17 = .ok (.iushr, 1) := by decide +kernel
theorem dJ6_bitCount_0f7a4_18 : decode cJ6_bitCount_0f7a4 18 = .ok (.ldc_w 266, 3) := by decide +kernel
theorem dJ6_bitCount_0f7a4_21 : decode cJ6_bitCount_0f7a4 21 = .ok (.iand, 1) := by decide +kernel
theorem dJ6_bitCount_0f7a4_22 : decode cJ6_bitCount_0f7a4 22 = .ok (.iadd, 1) := by decide +kernel
theorem dJ6_bitCount_0f7a4_23 : decode cJ6_bitCount_0f7a4 23 = .ok (.istore_n 0, 1) := by decide +kernel
theorem dJ6_bitCount_0f7a4_24 : decode cJ6_bitCount_0f7a4 24 = .ok (.iload_n 0, 1) := by decide +kernel
theorem dJ6_bitCount_0f7a4_25 : decode cJ6_bitCount_0f7a4 25 = .ok (.iload_n 0, 1) := by decide +kernel
theorem dJ6_bitCount_0f7a4_26 : decode cJ6_bitCount_0f7a4 26 = .ok (.iconst 4, 1) := by decide +kernel
theorem dJ6_bitCount_0f7a4_27 : decode cJ6_bitCount_0f7a4 27 = .ok (.iushr, 1) := by decide +kernel
theorem dJ6_bitCount_0f7a4_28 : decode cJ6_bitCount_0f7a4 28 = .ok (.iadd, 1) := by decide +kernel
theorem dJ6_bitCount_0f7a4_29 : decode cJ6_bitCount_0f7a4 29 = .ok (.ldc_w 267, 3) := by decide +kernel
theorem dJ6_bitCount_0f7a4_32 : decode cJ6_bitCount_0f7a4 32 = .ok (.iand, 1) := by decide +kernel
theorem dJ6_bitCount_0f7a4_33 : decode cJ6_bitCount_0f7a4 33 = .ok (.istore_n 0, 1) := by decide +kernel
theorem dJ6_bitCount_0f7a4_34 : decode cJ6_bitCount_0f7a4 34 = .ok (.iload_n 0, 1) := by decide +kernel
theorem dJ6_bitCount_0f7a4_35 : decode cJ6_bitCount_0f7a4 35 = .ok (.iload_n 0, 1) := by decide +kernel
theorem dJ6_bitCount_0f7a4_36 : decode cJ6_bitCount_0f7a4 36 = .ok (.bipush 8, 2) := by decide +kernel
theorem dJ6_bitCount_0f7a4_38 : decode cJ6_bitCount_0f7a4 38 = .ok (.iushr, 1) := by decide +kernel
theorem dJ6_bitCount_0f7a4_39 : decode cJ6_bitCount_0f7a4 39 = .ok (.iadd, 1) := by decide +kernel
theorem dJ6_bitCount_0f7a4_40 : decode cJ6_bitCount_0f7a4 40 = .ok (.istore_n 0, 1) := by decide +kernel
theorem dJ6_bitCount_0f7a4_41 : decode cJ6_bitCount_0f7a4 41 = .ok (.iload_n 0, 1) := by decide +kernel
theorem dJ6_bitCount_0f7a4_42 : decode cJ6_bitCount_0f7a4 42 = .ok (.iload_n 0, 1) := by decide +kernel
theorem dJ6_bitCount_0f7a4_43 : decode cJ6_bitCount_0f7a4 43 = .ok (.bipush 16, 2) := by decide +kernel
theorem dJ6_bitCount_0f7a4_45 : decode cJ6_bitCount_0f7a4 45 = .ok (.iushr, 1) := by decide +kernel
theorem dJ6_bitCount_0f7a4_46 : decode cJ6_bitCount_0f7a4 46 = .ok (.iadd, 1) := by decide +kernel
theorem dJ6_bitCount_0f7a4_47 : decode cJ6_bitCount_0f7a4 47 = .ok (.istore_n 0, 1) := by decide +kernel
theorem dJ6_bitCount_0f7a4_48 : decode cJ6_bitCount_0f7a4 48 = .ok (.iload_n 0, 1) := by decide +kernel
theorem dJ6_bitCount_0f7a4_49 : decode cJ6_bitCount_0f7a4 49 = .ok (.bipush 63, 2) := by decide +kernel
theorem dJ6_bitCount_0f7a4_51 : decode cJ6_bitCount_0f7a4 51 = .ok (.iand, 1) := by decide +kernel
theorem dJ6_bitCount_0f7a4_52 : decode cJ6_bitCount_0f7a4 52 = .ok (.ireturn, 1) := by decide +kernel
theorem dJ9_abs_0f7a4_0 : decode cJ9_abs_0f7a4 0 = .ok (.iload_n 0, 1) := by decide +kernel
theorem dJ9_abs_0f7a4_1 : decode cJ9_abs_0f7a4 1 = .ok (.ifCond .ge 8, 3) := by decide +kernel
theorem dJ9_abs_0f7a4_4 : decode cJ9_abs_0f7a4 4 = .ok (.iload_n 0, 1) := by decide +kernel
theorem dJ9_abs_0f7a4_5 : decode cJ9_abs_0f7a4 5 = .ok (.ineg, 1) := by decide +kernel
theorem dJ9_abs_0f7a4_6 : decode cJ9_abs_0f7a4 6 = .ok (.goto 4, 3) := by decide +kernel
theorem dJ9_abs_0f7a4_9 : decode cJ9_abs_0f7a4 9 = .ok (.iload_n 0, 1) := by decide +kernel
theorem dJ9_abs_0f7a4_10 : decode cJ9_abs_0f7a4 10 = .ok (.ireturn, 1) := by decide +kernel
theorem dJ9_max_7cf53_0 : decode cJ9_max_7cf53 0 = .ok (.iload_n 0, 1) := by decide +kernel
theorem dJ9_max_7cf53_1 : decode cJ9_max_7cf53 1 = .ok (.iload_n 1, 1) := by decide +kernel
theorem dJ9_max_7cf53_2 : decode cJ9_max_7cf53 2 = .ok (.if_icmp .lt 7, 3) := by decide +kernel
theorem dJ9_max_7cf53_5 : decode cJ9_max_7cf53 5 = .ok (.iload_n 0, 1) := by decide +kernel
theorem dJ9_max_7cf53_6 : decode cJ9_max_7cf53 6 = .ok (.goto 4, 3) := by decide +kernel
theorem dJ9_max_7cf53_9 : decode cJ9_max_7cf53 9 = .ok (.iload_n 1, 1) := by decide +kernel
theorem dJ9_max_7cf53_10 : decode cJ9_max_7cf53 10 = .ok (.ireturn, 1) := by decide +kernel
theorem dJ9_min_7cf53_0 : decode cJ9_min_7cf53 0 = .ok (.iload_n 0, 1) := by decide +kernel
theorem dJ9_min_7cf53_1 : decode cJ9_min_7cf53 1 = .ok (.iload_n 1, 1) := by decide +kernel
theorem dJ9_min_7cf53_2 : decode cJ9_min_7cf53 2 = .ok (.if_icmp .gt 7, 3) := by decide +kernel
theorem dJ9_min_7cf53_5 : decode cJ9_min_7cf53 5 = .ok (.iload_n 0, 1) := by decide +kernel
theorem dJ9_min_7cf53_6 : decode cJ9_min_7cf53 6 = .ok (.goto 4, 3) := by decide +kernel
theorem dJ9_min_7cf53_9 : decode cJ9_min_7cf53 9 = .ok (.iload_n 1, 1) := by decide +kernel
theorem dJ9_min_7cf53_10 : decode cJ9_min_7cf53 10 = .ok (.ireturn, 1) := by decide +kernel
set_option maxRecDepth 20000 in
theorem ggJ0_length_8abf5_J0_coder_7d493 : GoodIn wsJ0_length_8abf5 wsJ0_coder_7d493 := goodIn_r _ [6, 7, 8] (by decide +kernel) (by decide +kernel)
set_option maxRecDepth 20000 in
theorem gJ0_length_8abf5_J0_coder_7d493 : GoodIn wsJ0_length_8abf5 (wsV RJ0 335 RJ0 yJ0_coder_7d493 wsJ0_coder_7d493) := goodIn_app (goodIn_of _ (by decide +kernel)) ggJ0_length_8abf5_J0_coder_7d493
theorem dJ0_length_8abf5_0 : decode cJ0_length_8abf5 0 = .ok (.aload_n 0, 1) := by decide +kernel
theorem dJ0_length_8abf5_1 : decode cJ0_length_8abf5 1 = .ok (.getfield 9, 3) := by decide +kernel
theorem dJ0_length_8abf5_4 : decode cJ0_length_8abf5 4 = .ok (.arraylength, 1) := by decide +kernel
theorem dJ0_length_8abf5_5 : decode cJ0_length_8abf5 5 = .ok (.aload_n 0, 1) := by decide +kernel
theorem dJ0_length_8abf5_6 : decode cJ0_length_8abf5 6 = .ok (.invokevirtual 335, 3) := by decide +kernel
theorem dJ0_length_8abf5_9 : decode cJ0_length_8abf5 9 = .ok (.ishr, 1) := by decide +kernel
theorem dJ0_length_8abf5_10 : decode cJ0_length_8abf5 10 = .ok (.ireturn, 1) := by decide +kernel
set_option maxRecDepth 20000 in
theorem ggJ0_charAt_5068e_J0_isLatin1_aae02 : GoodIn wsJ0_charAt_5068e wsJ0_isLatin1_aae02 := goodIn_r _ [6, 7, 8] (by decide +kernel) (by decide +kernel)
set_option maxRecDepth 20000 in
theorem gJ0_charAt_5068e_J0_isLatin1_aae02 : GoodIn wsJ0_charAt_5068e (wsV RJ0 492 RJ0 yJ0_isLatin1_aae02 wsJ0_isLatin1_aae02) := goodIn_app (goodIn_of _ (by decide +kernel)) ggJ0_charAt_5068e_J0_isLatin1_aae02
set_option maxRecDepth 20000 in
theorem ggJ0_charAt_5068e_J1_charAt_3b067 : GoodIn wsJ0_charAt_5068e wsJ1_charAt_3b067 := goodIn_r _ [12, 13, 14, 5, 15, 16, 17, 18, 19, 20] (by decide +kernel) (by decide +kernel)
set_option maxRecDepth 20000 in
theorem gJ0_charAt_5068e_J1_charAt_3b067 : GoodIn wsJ0_charAt_5068e (va_wsS RJ0 495 yJ1_charAt_3b067 wsJ1_charAt_3b067) := goodIn_app (goodIn_of _ (by decide +kernel)) ggJ0_charAt_5068e_J1_charAt_3b067
set_option maxRecDepth 20000 in
theorem ggJ0_charAt_5068e_J2_charAt_3b067 : GoodIn wsJ0_charAt_5068e wsJ2_charAt_3b067 := goodIn_r _ [24, 25, 26, 23, 27, 28, 29, 30, 31, 14, 5, 15, 16, 17, 18, 19, 20, 32, 33, 34, 35, 36, 37] (by decide +kernel) (by decide +kernel)
set_option maxRecDepth 20000 in
theorem gJ0_charAt_5068e_J2_charAt_3b067 : GoodIn wsJ0_charAt_5068e (va_wsS RJ0 498 yJ2_charAt_3b067 wsJ2_charAt_3b067) := goodIn_app (goodIn_of _ (by decide +kernel)) ggJ0_charAt_5068e_J2_charAt_3b067
theorem dJ0_charAt_5068e_0 : decode cJ0_charAt_5068e 0 = .ok (.aload_n 0, 1) := by decide +kernel
theorem dJ0_charAt_5068e_1 : decode cJ0_charAt_5068e 1 = .ok (.invokevirtual 492, 3) := by decide +kernel
theorem dJ0_charAt_5068e_4 : decode cJ0_charAt_5068e 4 = .ok (.ifCond .eq 12, 3) := by decide +kernel
theorem dJ0_charAt_5068e_7 : decode cJ0_charAt_5068e 7 = .ok (.aload_n 0, 1) := by decide +kernel
theorem dJ0_charAt_5068e_8 : decode cJ0_charAt_5068e 8 = .ok (.getfield 9, 3) := by decide +kernel
theorem dJ0_charAt_5068e_11 : decode cJ0_charAt_5068e 11 = .ok (.iload_n 1, 1) := by decide +kernel
theorem dJ0_charAt_5068e_12 : decode cJ0_charAt_5068e 12 = .ok (.invokestatic 495, 3) := by decide +kernel
theorem dJ0_charAt_5068e_15 : decode cJ0_charAt_5068e 15 = .ok (.ireturn, 1) := by decide +kernel
theorem dJ0_charAt_5068e_16 : decode cJ0_charAt_5068e 16 = .ok (.aload_n 0, 1) := by decide +kernel
theorem dJ0_charAt_5068e_17 : decode cJ0_charAt_5068e 17 = .ok (.getfield 9, 3) := by decide +kernel
theorem dJ0_charAt_5068e_20 : decode cJ0_charAt_5068e 20 = .ok (.iload_n 1, 1) := by decide +kernel
theorem dJ0_charAt_5068e_21 : decode cJ0_charAt_5068e 21 = .ok (.invokestatic 498, 3) := by decide +kernel
theorem dJ0_charAt_5068e_24 : decode cJ0_charAt_5068e 24 = .ok (.ireturn, 1) := by decide +kernel
theorem dJ0_coder_7d493_0 : decode cJ0_coder_7d493 0 = .ok (.getstatic 38, 3) := by decide +kernel
theorem dJ0_coder_7d493_3 : decode cJ0_coder_7d493 3 = .ok (.ifCond .eq 10, 3) := by decide +kernel
theorem dJ0_coder_7d493_6 : decode cJ0_coder_7d493 6 = .ok (.aload_n 0, 1) := by decide +kernel
theorem dJ0_coder_7d493_7 : decode cJ0_coder_7d493 7 = .ok (.getfield 15, 3) := by decide +kernel
theorem dJ0_coder_7d493_10 : decode cJ0_coder_7d493 10 = .ok (.goto 4, 3) := by decide +kernel
theorem dJ0_coder_7d493_13 : decode cJ0_coder_7d493 13 = .ok (.iconst 1, 1) := by decide +kernel
theorem dJ0_coder_7d493_14 : decode cJ0_coder_7d493 14 = .ok (.ireturn, 1) := by decide +kernel
theorem dJ0_isLatin1_aae02_0 : decode cJ0_isLatin1_aae02 0 = .ok (.getstatic 38, 3) := by decide +kernel
theorem dJ0_isLatin1_aae02_3 : decode cJ0_isLatin1_aae02 3 = .ok (.ifCond .eq 14, 3) := by decide +kernel
theorem dJ0_isLatin1_aae02_6 : decode cJ0_isLatin1_aae02 6 = .ok (.aload_n 0, 1) := by decide +kernel
theorem dJ0_isLatin1_aae02_7 : decode cJ0_isLatin1_aae02 7 = .ok (.getfield 15, 3) := by decide +kernel
theorem dJ0_isLatin1_aae02_10 : decode cJ0_isLatin1_aae02 10 = .ok (.ifCond .ne 7, 3) := by decide +kernel
theorem dJ0_isLatin1_aae02_13 : decode cJ0_isLatin1_aae02 13 = .ok (.iconst 1, 1) := by decide +kernel
theorem dJ0_isLatin1_aae02_14 : decode cJ0_isLatin1_aae02 14 = .ok (.goto 4, 3) := by decide +kernel
theorem dJ0_isLatin1_aae02_17 : decode cJ0_isLatin1_aae02 17 = .ok (.iconst 0, 1) := by decide +kernel
theorem dJ0_isLatin1_aae02_18 : decode cJ0_isLatin1_aae02 18 = .ok (.ireturn, 1) := by decide +kernel
set_option maxRecDepth 20000 in
theorem ggJ0_checkIndex_df160_J3_checkIndex_8e157 : GoodIn wsJ0_checkIndex_df160 wsJ3_checkIndex_8e157 := goodIn_r _ [5] (by decide +kernel) (by decide +kernel)
set_option maxRecDepth 20000 in
theorem gJ0_checkIndex_df160_J3_checkIndex_8e157 : GoodIn wsJ0_checkIndex_df160 (va_wsS RJ0 1059 yJ3_checkIndex_8e157 wsJ3_checkIndex_8e157) := goodIn_app (goodIn_of _ (by decide +kernel)) ggJ0_checkIndex_df160_J3_checkIndex_8e157
theorem dJ0_checkIndex_df160_0 : decode cJ0_checkIndex_df160 0 = .ok (.iload_n 0, 1) := by decide +kernel
theorem dJ0_checkIndex_df160_1 : decode cJ0_checkIndex_df160 1 = .ok (.iload_n 1, 1) := by decide +kernel
theorem dJ0_checkIndex_df160_2 : decode cJ0_checkIndex_df160 2 = .ok (.getstatic 1053, 3) := by decide +kernel
theorem dJ0_checkIndex_df160_5 : decode cJ0_checkIndex_df160 5 = .ok (.invokestatic 1059, 3) := by decide +kernel
theorem dJ0_checkIndex_df160_8 : decode cJ0_checkIndex_df160 8 = .ok (.pop, 1) := by decide +kernel
theorem dJ0_checkIndex_df160_9 : decode cJ0_checkIndex_df160 9 = .ok (.return_, 1) := by decide +kernel
set_option maxRecDepth 20000 in
theorem ggJ1_charAt_3b067_J0_checkIndex_df160 : GoodIn wsJ1_charAt_3b067 wsJ0_checkIndex_df160 := goodIn_r _ [4, 5, 6, 7, 8, 9] (by decide +kernel) (by decide +kernel)
set_option maxRecDepth 20000 in
theorem gJ1_charAt_3b067_J0_checkIndex_df160 : GoodIn wsJ1_charAt_3b067 (va_wsS RJ1 9 yJ0_checkIndex_df160 wsJ0_checkIndex_df160) := goodIn_app (goodIn_of _ (by decide +kernel)) ggJ1_charAt_3b067_J0_checkIndex_df160
theorem dJ1_charAt_3b067_0 : decode cJ1_charAt_3b067 0 = .ok (.iload_n 1, 1) := by decide +kernel
theorem dJ1_charAt_3b067_1 : decode cJ1_charAt_3b067 1 = .ok (.aload_n 0, 1) := by decide +kernel
theorem dJ1_charAt_3b067_2 : decode cJ1_charAt_3b067 2 = .ok (.arraylength, 1) := by decide +kernel
theorem dJ1_charAt_3b067_3 : decode cJ1_charAt_3b067 3 = .ok (.invokestatic 9, 3) := by decide +kernel
theorem dJ1_charAt_3b067_6 : decode cJ1_charAt_3b067 6 = .ok (.aload_n 0, 1) := by decide +kernel
theorem dJ1_charAt_3b067_7 : decode cJ1_charAt_3b067 7 = .ok (.iload_n 1, 1) := by decide +kernel
theorem dJ1_charAt_3b067_8 : decode cJ1_charAt_3b067 8 = .ok (.baload, 1) := by decide +kernel
theorem dJ1_charAt_3b067_9 : decode cJ1_charAt_3b067 9 = .ok (.sipush 255, 3) := by decide +kernel
theorem dJ1_charAt_3b067_12 : decode cJ1_charAt_3b067 12 = .ok (.iand, 1) := by decide +kernel
theorem dJ1_charAt_3b067_13 : decode cJ1_charAt_3b067 13 = .ok (.i2c, 1) := by decide +kernel
theorem dJ1_charAt_3b067_14 : decode cJ1_charAt_3b067 14 = .ok (.ireturn, 1) := by decide +kernel
set_option maxRecDepth 20000 in
theorem ggJ2_getChar_3b067_J2_length_9d52b : GoodIn wsJ2_getChar_3b067 wsJ2_length_9d52b := goodIn_r _ [7] (by decide +kernel) (by decide +kernel)
set_option maxRecDepth 20000 in
theorem gJ2_getChar_3b067_J2_length_9d52b : GoodIn wsJ2_getChar_3b067 (va_wsS RJ2 48 yJ2_length_9d52b wsJ2_length_9d52b) := goodIn_app (goodIn_of _ (by decide +kernel)) ggJ2_getChar_3b067_J2_length_9d52b
theorem dJ2_getChar_3b067_0 : decode cJ2_getChar_3b067 0 = .ok (.getstatic 44, 3) := by decide +kernel
theorem dJ2_getChar_3b067_3 : decode cJ2_getChar_3b067 3 = .ok (.ifCond .ne 25, 3) := by decide +kernel
theorem dJ2_getChar_3b067_6 : decode cJ2_getChar_3b067 6 = .ok (.iload_n 1, 1) := by decide +kernel
theorem dJ2_getChar_3b067_7 : decode cJ2_getChar_3b067 7 = .ok (.ifCond .lt 11, 3) := by decide +kernel
theorem dJ2_getChar_3b067_10 : decode cJ2_getChar_3b067 10 = .ok (.iload_n 1, 1) := by decide +kernel
theorem dJ2_getChar_3b067_11 : decode cJ2_getChar_3b067 11 = .ok (.aload_n 0, 1) := by decide +kernel
theorem dJ2_getChar_3b067_12 : decode cJ2_getChar_3b067 12 = .ok (.invokestatic 48, 3) := by decide +kernel
theorem dJ2_getChar_3b067_15 : decode cJ2_getChar_3b067 15 = .ok (.if_icmp .lt 13, 3) := by decide +kernel
theorem dJ2_getChar_3b067_18 : decode cJ2_getChar_3b067 18 = .ok (.new 52, 3) := by decide +kernel
theorem dJ2_getChar_3b067_21 : decode cJ2_getChar_3b067 21 = .ok (.dup, 1) := by decide +kernel
theorem dJ2_getChar_3b067_22 : decode cJ2_getChar_3b067 22 = .ok (.ldc 54, 2) := by decide +kernel
theorem dJ2_getChar_3b067_24 : decode cJ2_getChar_3b067 24 = .ok (.invokespecial 56, 3) := by decide +kernel
theorem dJ2_getChar_3b067_27 : decode cJ2_getChar_3b067 27 = .ok (.athrow, 1) := by decide +kernel
theorem dJ2_getChar_3b067_28 : decode cJ2_getChar_3b067 28 = .ok (.iload_n 1, 1) := by decide +kernel
theorem dJ2_getChar_3b067_29 : decode cJ2_getChar_3b067 29 = .ok (.iconst 1, 1) := by decide +kernel
theorem dJ2_getChar_3b067_30 : decode cJ2_getChar_3b067 30 = .ok (.ishl, 1) := by decide +kernel
theorem dJ2_getChar_3b067_31 : decode cJ2_getChar_3b067 31 = .ok (.istore_n 1, 1) := by decide +kernel
theorem dJ2_getChar_3b067_32 : decode cJ2_getChar_3b067 32 = .ok (.aload_n 0, 1) := by decide +kernel
theorem dJ2_getChar_3b067_33 : decode cJ2_getChar_3b067 33 = .ok (.iload_n 1, 1) := by decide +kernel
theorem dJ2_getChar_3b067_34 : decode cJ2_getChar_3b067 34 = .ok (.iinc 1 1, 3) := by decide +kernel
theorem dJ2_getChar_3b067_37 : decode cJ2_getChar_3b067 37 = .ok (.baload, 1) := by decide +kernel
theorem dJ2_getChar_3b067_38 : decode cJ2_getChar_3b067 38 = .ok (.sipush 255, 3) := by decide +kernel
theorem dJ2_getChar_3b067_41 : decode cJ2_getChar_3b067 41 = .ok (.iand, 1) := by decide +kernel
theorem dJ2_getChar_3b067_42 : decode cJ2_getChar_3b067 42 = .ok (.getstatic 59, 3) := by decide +kernel
theorem dJ2_getChar_3b067_45 : decode cJ2_getChar_3b067 45 = .ok (.ishl, 1) := by decide +kernel
theorem dJ2_getChar_3b067_46 : decode cJ2_getChar_3b067 46 = .ok (.aload_n 0, 1) := by decide +kernel
theorem dJ2_getChar_3b067_47 : decode cJ2_getChar_3b067 47 = .ok (.iload_n 1, 1) := by decide +kernel
theorem dJ2_getChar_3b067_48 : decode cJ2_getChar_3b067 48 = .ok (.baload, 1) := by decide +kernel
theorem dJ2_getChar_3b067_49 : decode cJ2_getChar_3b067 49 = .ok (.sipush 255, 3) := by decide +kernel
theorem dJ2_getChar_3b067_52 : decode cJ2_getChar_3b067 52 = .ok (.iand, 1) := by decide +kernel
theorem dJ2_getChar_3b067_53 : decode cJ2_getChar_3b067 53 = .ok (.getstatic 63, 3) := by decide +kernel
theorem dJ2_getChar_3b067_56 : decode cJ2_getChar_3b067 56 = .ok (.ishl, 1) := by decide +kernel
theorem dJ2_getChar_3b067_57 : decode cJ2_getChar_3b067 57 = .ok (.ior, 1) := by decide +kernel
theorem dJ2_getChar_3b067_58 : decode cJ2_getChar_3b067 58 = .ok (.i2c, 1) := by decide +kernel
theorem dJ2_getChar_3b067_59 : decode cJ2_getChar_3b067 59 = .ok (.ireturn, 1) := by decide +kernel
theorem dJ2_length_9d52b_0 : decode cJ2_length_9d52b 0 = .ok (.aload_n 0, 1) := by decide +kernel
theorem dJ2_length_9d52b_1 : decode cJ2_length_9d52b 1 = .ok (.arraylength, 1) := by decide +kernel
theorem dJ2_length_9d52b_2 : decode cJ2_length_9d52b 2 = .ok (.iconst 1, 1) := by decide +kernel
theorem dJ2_length_9d52b_3 : decode cJ2_length_9d52b 3 = .ok (.ishr, 1) := by decide +kernel
theorem dJ2_length_9d52b_4 : decode cJ2_length_9d52b 4 = .ok (.ireturn, 1) := by decide +kernel
set_option maxRecDepth 20000 in
theorem ggJ2_charAt_3b067_J2_checkIndex_2214a : GoodIn wsJ2_charAt_3b067 wsJ2_checkIndex_2214a := goodIn_r _ [4, 5, 6, 3, 7, 8, 9, 10, 11, 12, 13, 14, 15, 16] (by decide +kernel) (by decide +kernel)
set_option maxRecDepth 20000 in
theorem gJ2_charAt_3b067_J2_checkIndex_2214a : GoodIn wsJ2_charAt_3b067 (va_wsS RJ2 67 yJ2_checkIndex_2214a wsJ2_checkIndex_2214a) := goodIn_app (goodIn_of _ (by decide +kernel)) ggJ2_charAt_3b067_J2_checkIndex_2214a
set_option maxRecDepth 20000 in
theorem ggJ2_charAt_3b067_J2_getChar_3b067 : GoodIn wsJ2_charAt_3b067 wsJ2_getChar_3b067 := goodIn_r _ [19, 20, 21, 22, 5, 6, 3, 7] (by decide +kernel) (by decide +kernel)
set_option maxRecDepth 20000 in
theorem gJ2_charAt_3b067_J2_getChar_3b067 : GoodIn wsJ2_charAt_3b067 (va_wsS RJ2 71 yJ2_getChar_3b067 wsJ2_getChar_3b067) := goodIn_app (goodIn_of _ (by decide +kernel)) ggJ2_charAt_3b067_J2_getChar_3b067
theorem dJ2_charAt_3b067_0 : decode cJ2_charAt_3b067 0 = .ok (.iload_n 1, 1) := by decide +kernel
theorem dJ2_charAt_3b067_1 : decode cJ2_charAt_3b067 1 = .ok (.aload_n 0, 1) := by decide +kernel
theorem dJ2_charAt_3b067_2 : decode cJ2_charAt_3b067 2 = .ok (.invokestatic 67, 3) := by decide +kernel
theorem dJ2_charAt_3b067_5 : decode cJ2_charAt_3b067 5 = .ok (.aload_n 0, 1) := by decide +kernel
theorem dJ2_charAt_3b067_6 : decode cJ2_charAt_3b067 6 = .ok (.iload_n 1, 1) := by decide +kernel
theorem dJ2_charAt_3b067_7 : decode cJ2_charAt_3b067 7 = .ok (.invokestatic 71, 3) := by decide +kernel
theorem dJ2_charAt_3b067_10 : decode cJ2_charAt_3b067 10 = .ok (.ireturn, 1) := by decide +kernel
set_option maxRecDepth 20000 in
theorem ggJ2_checkIndex_2214a_J2_length_9d52b : GoodIn wsJ2_checkIndex_2214a wsJ2_length_9d52b := goodIn_r _ [4] (by decide +kernel) (by decide +kernel)
set_option maxRecDepth 20000 in
theorem gJ2_checkIndex_2214a_J2_length_9d52b : GoodIn wsJ2_checkIndex_2214a (va_wsS RJ2 48 yJ2_length_9d52b wsJ2_length_9d52b) := goodIn_app (goodIn_of _ (by decide +kernel)) ggJ2_checkIndex_2214a_J2_length_9d52b
set_option maxRecDepth 20000 in
theorem ggJ2_checkIndex_2214a_J0_checkIndex_df160 : GoodIn wsJ2_checkIndex_2214a wsJ0_checkIndex_df160 := goodIn_r _ [8, 9, 10, 11, 12, 13] (by decide +kernel) (by decide +kernel)
set_option maxRecDepth 20000 in
theorem gJ2_checkIndex_2214a_J0_checkIndex_df160 : GoodIn wsJ2_checkIndex_2214a (va_wsS RJ2 414 yJ0_checkIndex_df160 wsJ0_checkIndex_df160) := goodIn_app (goodIn_of _ (by decide +kernel)) ggJ2_checkIndex_2214a_J0_checkIndex_df160
theorem dJ2_checkIndex_2214a_0 : decode cJ2_checkIndex_2214a 0 = .ok (.iload_n 0, 1) := by decide +kernel
theorem dJ2_checkIndex_2214a_1 : decode cJ2_checkIndex_2214a 1 = .ok (.aload_n 1, 1) := by decide +kernel
theorem dJ2_checkIndex_2214a_2 : decode cJ2_checkIndex_2214a 2 = .ok (.invokestatic 48, 3) := by decide +kernel
theorem dJ2_checkIndex_2214a_5 : decode cJ2_checkIndex_2214a 5 = .ok (.invokestatic 414, 3) := by decide +kernel
theorem dJ2_checkIndex_2214a_8 : decode cJ2_checkIndex_2214a 8 = .ok (.return_, 1) := by decide +kernel
theorem dJ3_checkIndex_8e157_0 : decode cJ3_checkIndex_8e157 0 = .ok (.iload_n 0, 1) := by decide +kernel
theorem dJ3_checkIndex_8e157_1 : decode cJ3_checkIndex_8e157 1 = .ok (.ifCond .lt 8, 3) := by decide +kernel
theorem dJ3_checkIndex_8e157_4 : decode cJ3_checkIndex_8e157 4 = .ok (.iload_n 0, 1) := by decide +kernel
theorem dJ3_checkIndex_8e157_5 : decode cJ3_checkIndex_8e157 5 = .ok (.iload_n 1, 1) := by decide +kernel
theorem dJ3_checkIndex_8e157_6 : decode cJ3_checkIndex_8e157 6 = .ok (.if_icmp .lt 10, 3) := by decide +kernel
theorem dJ3_checkIndex_8e157_9 : decode cJ3_checkIndex_8e157 9 = .ok (.aload_n 2, 1) := by decide +kernel
theorem dJ3_checkIndex_8e157_10 : decode cJ3_checkIndex_8e157 10 = .ok (.iload_n 0, 1) := by decide +kernel
theorem dJ3_checkIndex_8e157_11 : decode cJ3_checkIndex_8e157 11 = .ok (.iload_n 1, 1) := by decide +kernel
theorem dJ3_checkIndex_8e157_12 : decode cJ3_checkIndex_8e157 12 = .ok (.invokestatic 95, 3) := by decide +kernel
theorem dJ3_checkIndex_8e157_15 : decode cJ3_checkIndex_8e157 15 = .ok (.athrow, 1) := by decide +kernel
theorem dJ3_checkIndex_8e157_16 : decode cJ3_checkIndex_8e157 16 = .ok (.iload_n 0, 1) := by decide +kernel
theorem dJ3_checkIndex_8e157_17 : decode cJ3_checkIndex_8e157 17 = .ok (.ireturn, 1) := by decide +kernel
abbrev vwCl : List vw_C := [(RX0, TX0, 3), (RX1, TX1, 6), (RX2, TX2, 0), (RX3, TX3, 0), (RX4, TX4, 11), (RX5, TX5, 0), (RX6, TX6, 0), (RX7, TX7, 12), (RX8, TX8, 0), (RX9, TX9, 0), (RX10, TX10, 12), (RX11, TX11, 18)]
