theorem dX10_forget_31 : decode cX10_forget 31 = .ok (.getfield 250, 3) := by decide +kernel
theorem dX10_forget_34 : decode cX10_forget 34 = .ok (.istore_n 2, 1) := by decide +kernel
theorem dX10_forget_35 : decode cX10_forget 35 = .ok (.iload_n 1, 1) := by decide +kernel
theorem dX10_forget_36 : decode cX10_forget 36 = .ok (.ifCond .ne 14, 3) := by decide +kernel
theorem dX10_forget_39 : decode cX10_forget 39 = .ok (.aload_n 0, 1) := by decide +kernel
theorem dX10_forget_40 : decode cX10_forget 40 = .ok (.getfield 36, 3) := by decide +kernel
theorem dX10_forget_43 : decode cX10_forget 43 = .ok (.iconst 0, 1) := by decide +kernel
theorem dX10_forget_44 : decode cX10_forget 44 = .ok (.putfield 240, 3) := by decide +kernel
theorem dX10_forget_47 : decode cX10_forget 47 = .ok (.goto 11, 3) := by decide +kernel
theorem dX10_forget_50 : decode cX10_forget 50 = .ok (.aload_n 0, 1) := by decide +kernel
theorem dX10_forget_51 : decode cX10_forget 51 = .ok (.getfield 36, 3) := by decide +kernel
theorem dX10_forget_54 : decode cX10_forget 54 = .ok (.iconst 0, 1) := by decide +kernel
theorem dX10_forget_55 : decode cX10_forget 55 = .ok (.putfield 250, 3) := by decide +kernel
theorem dX10_forget_58 : decode cX10_forget 58 = .ok (.iload_n 2, 1) := by decide +kernel
theorem dX10_forget_59 : decode cX10_forget 59 = .ok (.ireturn, 1) := by decide +kernel
set_option maxRecDepth 20000 in
theorem ggX10_is_X4_hasField : GoodIn wsX10_is wsX4_hasField := goodIn_r _ [6, 7, 8, 9, 10, 87, 88, 89, 90, 91, 92, 93, 94, 95, 96, 97] rfl gw_wsX4_hasField
set_option maxRecDepth 20000 in
theorem gX10_is_X4_hasField : GoodIn wsX10_is (wsV RX10 112 RX4 yX4_hasField wsX4_hasField) := goodIn_app (goodIn_r _ [2, 3, 4, 5] (by exact rfl) (by decide +kernel)) ggX10_is_X4_hasField
set_option maxRecDepth 20000 in
theorem ggX10_is_X10_refuseBad : GoodIn wsX10_is wsX10_refuseBad := goodIn_r _ [14, 15, 75, 76, 77, 78, 79, 80, 81, 82, 83, 84, 85, 86] rfl gw_wsX10_refuseBad
set_option maxRecDepth 20000 in
theorem gX10_is_X10_refuseBad : GoodIn wsX10_is (wsV RX10 90 RX10 yX10_refuseBad wsX10_refuseBad) := goodIn_app (goodIn_r _ [11, 12, 13, 9] (by exact rfl) (by decide +kernel)) ggX10_is_X10_refuseBad
set_option maxRecDepth 20000 in
theorem gw_wsX4_kindsThatFit : wsX4_kindsThatFit.all goodWord = true := by decide +kernel
set_option maxRecDepth 20000 in
theorem ggX10_is_X4_kindsThatFit : GoodIn wsX10_is wsX4_kindsThatFit := goodIn_r _ [19, 20, 21, 22, 23, 5, 24, 25, 26, 27, 28, 29, 30, 31, 32, 33, 34, 35, 36, 37, 38, 39, 40, 41, 42, 43, 44, 45, 46, 47, 48, 49, 50, 51, 52, 53, 54, 55, 56, 57, 58, 59, 60, 61, 62, 63, 64, 65, 66, 67, 68, 69, 70, 71, 72, 73, 74, 87, 88, 89, 90, 91, 92, 93, 94, 95, 96, 97] rfl gw_wsX4_kindsThatFit
set_option maxRecDepth 20000 in
theorem gX10_is_X4_kindsThatFit : GoodIn wsX10_is (wsV RX10 257 RX4 yX4_kindsThatFit wsX4_kindsThatFit) := goodIn_app (goodIn_r _ [16, 17, 18, 5] (by exact rfl) (by decide +kernel)) ggX10_is_X4_kindsThatFit
theorem dX10_is_0 : decode cX10_is 0 = .ok (.aload_n 0, 1) := by decide +kernel
theorem dX10_is_1 : decode cX10_is 1 = .ok (.getfield 36, 3) := by decide +kernel
theorem dX10_is_4 : decode cX10_is 4 = .ok (.iload_n 1, 1) := by decide +kernel
theorem dX10_is_5 : decode cX10_is 5 = .ok (.invokevirtual 112, 3) := by decide +kernel
theorem dX10_is_8 : decode cX10_is 8 = .ok (.ifCond .ne 8, 3) := by decide +kernel
theorem dX10_is_11 : decode cX10_is 11 = .ok (.aload_n 0, 1) := by decide +kernel
theorem dX10_is_12 : decode cX10_is 12 = .ok (.invokevirtual 90, 3) := by decide +kernel
theorem dX10_is_15 : decode cX10_is 15 = .ok (.ireturn, 1) := by decide +kernel
theorem dX10_is_16 : decode cX10_is 16 = .ok (.aload_n 0, 1) := by decide +kernel
theorem dX10_is_17 : decode cX10_is 17 = .ok (.getfield 36, 3) := by decide +kernel
theorem dX10_is_20 : decode cX10_is 20 = .ok (.iload_n 1, 1) := by decide +kernel
theorem dX10_is_21 : decode cX10_is 21 = .ok (.invokevirtual 257, 3) := by decide +kernel
theorem dX10_is_24 : decode cX10_is 24 = .ok (.ireturn, 1) := by decide +kernel
set_option maxRecDepth 20000 in
theorem ggX10_look_X4_hasField : GoodIn wsX10_look wsX4_hasField := goodIn_r _ [8, 9, 10, 11, 12, 97, 98, 99, 100, 101, 102, 103, 104, 105, 106, 107] rfl gw_wsX4_hasField
set_option maxRecDepth 20000 in
theorem gX10_look_X4_hasField : GoodIn wsX10_look (wsV RX10 112 RX4 yX4_hasField wsX4_hasField) := goodIn_app (goodIn_r _ [4, 5, 6, 7] (by exact rfl) (by decide +kernel)) ggX10_look_X4_hasField
set_option maxRecDepth 20000 in
theorem ggX10_look_X10_refuseBad : GoodIn wsX10_look wsX10_refuseBad := goodIn_r _ [16, 17, 85, 86, 87, 88, 89, 90, 91, 92, 93, 94, 95, 96] rfl gw_wsX10_refuseBad
set_option maxRecDepth 20000 in
theorem gX10_look_X10_refuseBad : GoodIn wsX10_look (wsV RX10 90 RX10 yX10_refuseBad wsX10_refuseBad) := goodIn_app (goodIn_r _ [13, 14, 15, 11] (by exact rfl) (by decide +kernel)) ggX10_look_X10_refuseBad
set_option maxRecDepth 20000 in
theorem ggX10_look_X4_kindsThatFit : GoodIn wsX10_look wsX4_kindsThatFit := goodIn_r _ [21, 22, 23, 24, 25, 7, 26, 27, 28, 29, 30, 31, 32, 33, 34, 35, 36, 37, 38, 39, 40, 41, 42, 43, 44, 45, 46, 47, 48, 49, 50, 51, 52, 53, 54, 55, 56, 57, 58, 59, 60, 61, 62, 63, 64, 65, 66, 67, 68, 69, 70, 71, 72, 73, 74, 75, 76, 97, 98, 99, 100, 101, 102, 103, 104, 105, 106, 107] rfl gw_wsX4_kindsThatFit
set_option maxRecDepth 20000 in
theorem gX10_look_X4_kindsThatFit : GoodIn wsX10_look (wsV RX10 257 RX4 yX4_kindsThatFit wsX4_kindsThatFit) := goodIn_app (goodIn_r _ [18, 19, 20, 7] (by exact rfl) (by decide +kernel)) ggX10_look_X4_kindsThatFit
set_option maxRecDepth 20000 in
theorem gw_wsX10_mostAlike : wsX10_mostAlike.all goodWord = true := by decide +kernel
set_option maxRecDepth 20000 in
theorem ggX10_look_X10_mostAlike : GoodIn wsX10_look wsX10_mostAlike := goodIn_r _ [80, 81, 82, 37, 38, 39, 83, 30, 31, 32, 33, 34, 35, 36, 40, 41, 42, 43, 44, 45, 46, 47, 48, 49, 50, 51, 52, 53, 54, 55, 56, 57, 58, 59, 60, 61, 62, 63, 84, 65, 66, 67, 68, 69, 70, 71, 72, 73, 74, 75, 76, 85, 86, 87, 88, 89, 90, 91, 92, 93, 94, 95, 96] rfl gw_wsX10_mostAlike
set_option maxRecDepth 20000 in
theorem gX10_look_X10_mostAlike : GoodIn wsX10_look (wsV RX10 260 RX10 yX10_mostAlike wsX10_mostAlike) := goodIn_app (goodIn_r _ [77, 78, 79, 11] (by exact rfl) (by decide +kernel)) ggX10_look_X10_mostAlike
theorem dX10_look_0 : decode cX10_look 0 = .ok (.aload_n 0, 1) := by decide +kernel
theorem dX10_look_1 : decode cX10_look 1 = .ok (.getfield 36, 3) := by decide +kernel
theorem dX10_look_4 : decode cX10_look 4 = .ok (.iload_n 1, 1) := by decide +kernel
theorem dX10_look_5 : decode cX10_look 5 = .ok (.invokevirtual 112, 3) := by decide +kernel
theorem dX10_look_8 : decode cX10_look 8 = .ok (.ifCond .ne 8, 3) := by decide +kernel
theorem dX10_look_11 : decode cX10_look 11 = .ok (.aload_n 0, 1) := by decide +kernel
theorem dX10_look_12 : decode cX10_look 12 = .ok (.invokevirtual 90, 3) := by decide +kernel
theorem dX10_look_15 : decode cX10_look 15 = .ok (.ireturn, 1) := by decide +kernel
theorem dX10_look_16 : decode cX10_look 16 = .ok (.aload_n 0, 1) := by decide +kernel
theorem dX10_look_17 : decode cX10_look 17 = .ok (.getfield 36, 3) := by decide +kernel
theorem dX10_look_20 : decode cX10_look 20 = .ok (.iload_n 1, 1) := by decide +kernel
theorem dX10_look_21 : decode cX10_look 21 = .ok (.invokevirtual 257, 3) := by decide +kernel
theorem dX10_look_24 : decode cX10_look 24 = .ok (.istore_n 2, 1) := by decide +kernel
theorem dX10_look_25 : decode cX10_look 25 = .ok (.iload_n 2, 1) := by decide +kernel
theorem dX10_look_26 : decode cX10_look 26 = .ok (.ifCond .ne 5, 3) := by decide +kernel
theorem dX10_look_29 : decode cX10_look 29 = .ok (.iconst (-1), 1) := by decide +kernel
theorem dX10_look_30 : decode cX10_look 30 = .ok (.ireturn, 1) := by decide +kernel
theorem dX10_look_31 : decode cX10_look 31 = .ok (.iconst (-1), 1) := by decide +kernel
theorem dX10_look_32 : decode cX10_look 32 = .ok (.istore_n 3, 1) := by decide +kernel
theorem dX10_look_33 : decode cX10_look 33 = .ok (.bipush 7, 2) := by decide +kernel
theorem dX10_look_35 : decode cX10_look 35 = .ok (.istore 4, 2) := by decide +kernel
theorem dX10_look_37 : decode cX10_look 37 = .ok (.iconst 0, 1) := by decide +kernel
theorem dX10_look_38 : decode cX10_look 38 = .ok (.istore 5, 2) := by decide +kernel
theorem dX10_look_40 : decode cX10_look 40 = .ok (.iload 5, 2) := by decide +kernel
theorem dX10_look_42 : decode cX10_look 42 = .ok (.bipush 12, 2) := by decide +kernel
theorem dX10_look_44 : decode cX10_look 44 = .ok (.if_icmp .ge 68, 3) := by decide +kernel
theorem dX10_look_47 : decode cX10_look 47 = .ok (.iconst 0, 1) := by decide +kernel
theorem dX10_look_48 : decode cX10_look 48 = .ok (.istore 6, 2) := by decide +kernel
theorem dX10_look_50 : decode cX10_look 50 = .ok (.iload 6, 2) := by decide +kernel
theorem dX10_look_52 : decode cX10_look 52 = .ok (.bipush 10, 2) := by decide +kernel
theorem dX10_look_54 : decode cX10_look 54 = .ok (.if_icmp .ge 52, 3) := by decide +kernel
theorem dX10_look_57 : decode cX10_look 57 = .ok (.aload_n 0, 1) := by decide +kernel
theorem dX10_look_58 : decode cX10_look 58 = .ok (.iload_n 2, 1) := by decide +kernel
theorem dX10_look_59 : decode cX10_look 59 = .ok (.iload 5, 2) := by decide +kernel
theorem dX10_look_61 : decode cX10_look 61 = .ok (.aload_n 0, 1) := by decide +kernel
theorem dX10_look_62 : decode cX10_look 62 = .ok (.getfield 36, 3) := by decide +kernel
theorem dX10_look_65 : decode cX10_look 65 = .ok (.getfield 140, 3) := by decide +kernel
theorem dX10_look_68 : decode cX10_look 68 = .ok (.getfield 185, 3) := by decide +kernel
theorem dX10_look_71 : decode cX10_look 71 = .ok (.iload_n 1, 1) := by decide +kernel
theorem dX10_look_72 : decode cX10_look 72 = .ok (.iaload, 1) := by decide +kernel
theorem dX10_look_73 : decode cX10_look 73 = .ok (.iload 6, 2) := by decide +kernel
theorem dX10_look_75 : decode cX10_look 75 = .ok (.invokevirtual 260, 3) := by decide +kernel
theorem dX10_look_78 : decode cX10_look 78 = .ok (.istore 7, 2) := by decide +kernel
theorem dX10_look_80 : decode cX10_look 80 = .ok (.iload 7, 2) := by decide +kernel
theorem dX10_look_82 : decode cX10_look 82 = .ok (.iload 4, 2) := by decide +kernel
theorem dX10_look_84 : decode cX10_look 84 = .ok (.if_icmp .ge 16, 3) := by decide +kernel
theorem dX10_look_87 : decode cX10_look 87 = .ok (.iload 7, 2) := by decide +kernel
theorem dX10_look_89 : decode cX10_look 89 = .ok (.istore 4, 2) := by decide +kernel
theorem dX10_look_91 : decode cX10_look 91 = .ok (.bipush 100, 2) := by decide +kernel
theorem dX10_look_93 : decode cX10_look 93 = .ok (.iload 5, 2) := by decide +kernel
theorem dX10_look_95 : decode cX10_look 95 = .ok (.imul, 1) := by decide +kernel
theorem dX10_look_96 : decode cX10_look 96 = .ok (.iload 6, 2) := by decide +kernel
theorem dX10_look_98 : decode cX10_look 98 = .ok (.iadd, 1) := by decide +kernel
theorem dX10_look_99 : decode cX10_look 99 = .ok (.istore_n 3, 1) := by decide +kernel
theorem dX10_look_100 : decode cX10_look 100 = .ok (.iinc 6 1, 3) := by decide +kernel
theorem dX10_look_103 : decode cX10_look 103 = .ok (.goto (-53), 3) := by decide +kernel
theorem dX10_look_106 : decode cX10_look 106 = .ok (.iinc 5 1, 3) := by decide +kernel
theorem dX10_look_109 : decode cX10_look 109 = .ok (.goto (-69), 3) := by decide +kernel
theorem dX10_look_112 : decode cX10_look 112 = .ok (.iload_n 3, 1) := by decide +kernel
theorem dX10_look_113 : decode cX10_look 113 = .ok (.ireturn, 1) := by decide +kernel
set_option maxRecDepth 20000 in
theorem ggX10_two_X4_hasGleaner : GoodIn wsX10_two wsX4_hasGleaner := goodIn_r _ [10, 11, 12, 13, 14, 104, 105, 106, 107, 108, 109, 110, 111, 112, 113, 114] rfl gw_wsX4_hasGleaner
set_option maxRecDepth 20000 in
theorem gX10_two_X4_hasGleaner : GoodIn wsX10_two (wsV RX10 167 RX4 yX4_hasGleaner wsX4_hasGleaner) := goodIn_app (goodIn_r _ [6, 7, 8, 9] (by exact rfl) (by decide +kernel)) ggX10_two_X4_hasGleaner
set_option maxRecDepth 20000 in
theorem ggX10_two_X10_refuseTen : GoodIn wsX10_two wsX10_refuseTen := goodIn_r _ [18, 19, 92, 93, 94, 95, 96, 97, 98, 99, 100, 101, 102, 103] rfl gw_wsX10_refuseTen
set_option maxRecDepth 20000 in
theorem gX10_two_X10_refuseTen : GoodIn wsX10_two (wsV RX10 209 RX10 yX10_refuseTen wsX10_refuseTen) := goodIn_app (goodIn_r _ [15, 16, 17, 13] (by exact rfl) (by decide +kernel)) ggX10_two_X10_refuseTen
set_option maxRecDepth 20000 in
theorem ggX10_two_X10_showAll : GoodIn wsX10_two wsX10_showAll := goodIn_r _ [23, 1, 4, 24, 2, 25, 26, 27, 9, 28, 29, 30, 31, 32, 33, 34, 35, 36, 37, 38, 39, 40, 41, 42, 43, 44, 45, 46, 47, 48, 49, 50, 51, 52, 53, 54, 55, 56, 57, 58, 59, 60, 61, 62, 63, 64, 65, 66, 67, 68, 69, 70, 71, 72, 73, 74, 75, 76, 77, 78, 79, 80, 92, 93, 94, 95, 96, 97, 98, 99, 100, 101, 102, 103, 104, 105, 106, 107, 108, 109, 110, 111, 112, 113, 114, 115, 116, 117, 118, 119, 120] rfl gw_wsX10_showAll
set_option maxRecDepth 20000 in
theorem gX10_two_X10_showAll : GoodIn wsX10_two (wsV RX10 222 RX10 yX10_showAll wsX10_showAll) := goodIn_app (goodIn_r _ [20, 21, 22, 13] (by exact rfl) (by decide +kernel)) ggX10_two_X10_showAll
set_option maxRecDepth 20000 in
theorem gw_wsX10_staysPut : wsX10_staysPut.all goodWord = true := by decide +kernel
set_option maxRecDepth 20000 in
theorem ggX10_two_X10_staysPut : GoodIn wsX10_two wsX10_staysPut := goodIn_r _ [84, 1, 4, 85, 86, 87, 13, 88, 24, 89, 90, 42, 91, 92, 93, 94, 95, 96, 97, 98, 99, 100, 101, 102, 103, 104, 105, 106, 107, 108, 109, 110, 111, 112, 113, 114] rfl gw_wsX10_staysPut
set_option maxRecDepth 20000 in
theorem gX10_two_X10_staysPut : GoodIn wsX10_two (wsV RX10 263 RX10 yX10_staysPut wsX10_staysPut) := goodIn_app (goodIn_r _ [81, 82, 83, 13] (by exact rfl) (by decide +kernel)) ggX10_two_X10_staysPut
theorem dX10_two_0 : decode cX10_two 0 = .ok (.aload_n 0, 1) := by decide +kernel
theorem dX10_two_1 : decode cX10_two 1 = .ok (.getfield 36, 3) := by decide +kernel
theorem dX10_two_4 : decode cX10_two 4 = .ok (.iload_n 1, 1) := by decide +kernel
theorem dX10_two_5 : decode cX10_two 5 = .ok (.invokevirtual 167, 3) := by decide +kernel
theorem dX10_two_8 : decode cX10_two 8 = .ok (.ifCond .eq 24, 3) := by decide +kernel
theorem dX10_two_11 : decode cX10_two 11 = .ok (.aload_n 0, 1) := by decide +kernel
theorem dX10_two_12 : decode cX10_two 12 = .ok (.getfield 36, 3) := by decide +kernel
theorem dX10_two_15 : decode cX10_two 15 = .ok (.iload_n 2, 1) := by decide +kernel
theorem dX10_two_16 : decode cX10_two 16 = .ok (.invokevirtual 167, 3) := by decide +kernel
theorem dX10_two_19 : decode cX10_two 19 = .ok (.ifCond .eq 13, 3) := by decide +kernel
theorem dX10_two_22 : decode cX10_two 22 = .ok (.iload_n 1, 1) := by decide +kernel
theorem dX10_two_23 : decode cX10_two 23 = .ok (.iload_n 2, 1) := by decide +kernel
theorem dX10_two_24 : decode cX10_two 24 = .ok (.if_icmp .eq 8, 3) := by decide +kernel
theorem dX10_two_27 : decode cX10_two 27 = .ok (.iload_n 3, 1) := by decide +kernel
theorem dX10_two_28 : decode cX10_two 28 = .ok (.iconst (-1), 1) := by decide +kernel
theorem dX10_two_29 : decode cX10_two 29 = .ok (.if_icmp .ge 8, 3) := by decide +kernel
theorem dX10_two_32 : decode cX10_two 32 = .ok (.aload_n 0, 1) := by decide +kernel
theorem dX10_two_33 : decode cX10_two 33 = .ok (.invokevirtual 209, 3) := by decide +kernel
theorem dX10_two_36 : decode cX10_two 36 = .ok (.ireturn, 1) := by decide +kernel
theorem dX10_two_37 : decode cX10_two 37 = .ok (.aload_n 0, 1) := by decide +kernel
theorem dX10_two_38 : decode cX10_two 38 = .ok (.aload_n 0, 1) := by decide +kernel
theorem dX10_two_39 : decode cX10_two 39 = .ok (.getfield 36, 3) := by decide +kernel
theorem dX10_two_42 : decode cX10_two 42 = .ok (.getfield 140, 3) := by decide +kernel
theorem dX10_two_45 : decode cX10_two 45 = .ok (.getfield 151, 3) := by decide +kernel
theorem dX10_two_48 : decode cX10_two 48 = .ok (.invokevirtual 222, 3) := by decide +kernel
theorem dX10_two_51 : decode cX10_two 51 = .ok (.iconst 0, 1) := by decide +kernel
theorem dX10_two_52 : decode cX10_two 52 = .ok (.istore 4, 2) := by decide +kernel
theorem dX10_two_54 : decode cX10_two 54 = .ok (.iconst 0, 1) := by decide +kernel
theorem dX10_two_55 : decode cX10_two 55 = .ok (.istore 5, 2) := by decide +kernel
theorem dX10_two_57 : decode cX10_two 57 = .ok (.iload 5, 2) := by decide +kernel
theorem dX10_two_59 : decode cX10_two 59 = .ok (.aload_n 0, 1) := by decide +kernel
theorem dX10_two_60 : decode cX10_two 60 = .ok (.getfield 36, 3) := by decide +kernel
theorem dX10_two_63 : decode cX10_two 63 = .ok (.getfield 94, 3) := by decide +kernel
theorem dX10_two_66 : decode cX10_two 66 = .ok (.if_icmp .ge 97, 3) := by decide +kernel
theorem dX10_two_69 : decode cX10_two 69 = .ok (.iconst 0, 1) := by decide +kernel
theorem dX10_two_70 : decode cX10_two 70 = .ok (.istore 6, 2) := by decide +kernel
theorem dX10_two_72 : decode cX10_two 72 = .ok (.iload 6, 2) := by decide +kernel
theorem dX10_two_74 : decode cX10_two 74 = .ok (.aload_n 0, 1) := by decide +kernel
theorem dX10_two_75 : decode cX10_two 75 = .ok (.getfield 36, 3) := by decide +kernel
theorem dX10_two_78 : decode cX10_two 78 = .ok (.getfield 94, 3) := by decide +kernel
theorem dX10_two_81 : decode cX10_two 81 = .ok (.if_icmp .ge 76, 3) := by decide +kernel
theorem dX10_two_84 : decode cX10_two 84 = .ok (.aload_n 0, 1) := by decide +kernel
theorem dX10_two_85 : decode cX10_two 85 = .ok (.aload_n 0, 1) := by decide +kernel
theorem dX10_two_86 : decode cX10_two 86 = .ok (.getfield 36, 3) := by decide +kernel
theorem dX10_two_89 : decode cX10_two 89 = .ok (.getfield 140, 3) := by decide +kernel
theorem dX10_two_92 : decode cX10_two 92 = .ok (.getfield 170, 3) := by decide +kernel
theorem dX10_two_95 : decode cX10_two 95 = .ok (.iload_n 1, 1) := by decide +kernel
theorem dX10_two_96 : decode cX10_two 96 = .ok (.iaload, 1) := by decide +kernel
theorem dX10_two_97 : decode cX10_two 97 = .ok (.iload 5, 2) := by decide +kernel
theorem dX10_two_99 : decode cX10_two 99 = .ok (.iload 6, 2) := by decide +kernel
theorem dX10_two_101 : decode cX10_two 101 = .ok (.invokevirtual 263, 3) := by decide +kernel
theorem dX10_two_104 : decode cX10_two 104 = .ok (.ifCond .eq 47, 3) := by decide +kernel
theorem dX10_two_107 : decode cX10_two 107 = .ok (.aload_n 0, 1) := by decide +kernel
theorem dX10_two_108 : decode cX10_two 108 = .ok (.aload_n 0, 1) := by decide +kernel
theorem dX10_two_109 : decode cX10_two 109 = .ok (.getfield 36, 3) := by decide +kernel
theorem dX10_two_112 : decode cX10_two 112 = .ok (.getfield 140, 3) := by decide +kernel
theorem dX10_two_115 : decode cX10_two 115 = .ok (.getfield 170, 3) := by decide +kernel
theorem dX10_two_118 : decode cX10_two 118 = .ok (.iload_n 2, 1) := by decide +kernel
theorem dX10_two_119 : decode cX10_two 119 = .ok (.iaload, 1) := by decide +kernel
theorem dX10_two_120 : decode cX10_two 120 = .ok (.iload 6, 2) := by decide +kernel
theorem dX10_two_122 : decode cX10_two 122 = .ok (.iload 5, 2) := by decide +kernel
theorem dX10_two_124 : decode cX10_two 124 = .ok (.invokevirtual 263, 3) := by decide +kernel
theorem dX10_two_127 : decode cX10_two 127 = .ok (.ifCond .ne 6, 3) := by decide +kernel
theorem dX10_two_130 : decode cX10_two 130 = .ok (.goto 21, 3) := by decide +kernel
theorem dX10_two_133 : decode cX10_two 133 = .ok (.iload 4, 2) := by decide +kernel
theorem dX10_two_135 : decode cX10_two 135 = .ok (.iload_n 3, 1) := by decide +kernel
theorem dX10_two_136 : decode cX10_two 136 = .ok (.if_icmp .ne 12, 3) := by decide +kernel
theorem dX10_two_139 : decode cX10_two 139 = .ok (.bipush 6, 2) := by decide +kernel
theorem dX10_two_141 : decode cX10_two 141 = .ok (.iload 5, 2) := by decide +kernel
theorem dX10_two_143 : decode cX10_two 143 = .ok (.imul, 1) := by decide +kernel
theorem dX10_two_144 : decode cX10_two 144 = .ok (.iload 6, 2) := by decide +kernel
theorem dX10_two_146 : decode cX10_two 146 = .ok (.iadd, 1) := by decide +kernel
theorem dX10_two_147 : decode cX10_two 147 = .ok (.ireturn, 1) := by decide +kernel
theorem dX10_two_148 : decode cX10_two 148 = .ok (.iinc 4 1, 3) := by decide +kernel
theorem dX10_two_151 : decode cX10_two 151 = .ok (.iinc 6 1, 3) := by decide +kernel
theorem dX10_two_154 : decode cX10_two 154 = .ok (.goto (-82), 3) := by decide +kernel
theorem dX10_two_157 : decode cX10_two 157 = .ok (.iinc 5 1, 3) := by decide +kernel
theorem dX10_two_160 : decode cX10_two 160 = .ok (.goto (-103), 3) := by decide +kernel
theorem dX10_two_163 : decode cX10_two 163 = .ok (.iload_n 3, 1) := by decide +kernel
theorem dX10_two_164 : decode cX10_two 164 = .ok (.iconst (-1), 1) := by decide +kernel
theorem dX10_two_165 : decode cX10_two 165 = .ok (.if_icmp .ne 8, 3) := by decide +kernel
theorem dX10_two_168 : decode cX10_two 168 = .ok (.iload 4, 2) := by decide +kernel
theorem dX10_two_170 : decode cX10_two 170 = .ok (.goto 5, 3) := by decide +kernel
theorem dX10_two_173 : decode cX10_two 173 = .ok (.bipush (-5), 2) := by decide +kernel
theorem dX10_two_175 : decode cX10_two 175 = .ok (.ireturn, 1) := by decide +kernel
set_option maxRecDepth 20000 in
theorem ggX10_rains_X4_hasField : GoodIn wsX10_rains wsX4_hasField := goodIn_r _ [16, 17, 18, 19, 20, 112, 113, 114, 115, 116, 117, 118, 119, 120, 121, 122] rfl gw_wsX4_hasField
set_option maxRecDepth 20000 in
theorem gX10_rains_X4_hasField : GoodIn wsX10_rains (wsV RX10 112 RX4 yX4_hasField wsX4_hasField) := goodIn_app (goodIn_r _ [12, 13, 14, 15] (by exact rfl) (by decide +kernel)) ggX10_rains_X4_hasField
set_option maxRecDepth 20000 in
theorem ggX10_rains_X10_isIn : GoodIn wsX10_rains wsX10_isIn := goodIn_r _ [23] rfl gw_wsX10_isIn
set_option maxRecDepth 20000 in
theorem gX10_rains_X10_isIn : GoodIn wsX10_rains (va_wsS RX10 147 yX10_isIn wsX10_isIn) := goodIn_app (goodIn_r _ [21, 22, 19] (by exact rfl) (by decide +kernel)) ggX10_rains_X10_isIn
set_option maxRecDepth 20000 in
theorem ggX10_rains_X10_refuseBad : GoodIn wsX10_rains wsX10_refuseBad := goodIn_r _ [27, 28, 100, 101, 102, 103, 104, 105, 106, 107, 108, 109, 110, 111] rfl gw_wsX10_refuseBad
set_option maxRecDepth 20000 in
theorem gX10_rains_X10_refuseBad : GoodIn wsX10_rains (wsV RX10 90 RX10 yX10_refuseBad wsX10_refuseBad) := goodIn_app (goodIn_r _ [24, 25, 26, 19] (by exact rfl) (by decide +kernel)) ggX10_rains_X10_refuseBad
set_option maxRecDepth 20000 in
theorem ggX10_rains_X4_shows : GoodIn wsX10_rains wsX4_shows := goodIn_r _ [32, 33, 34, 35, 36, 37, 38, 39, 40, 41, 42, 43, 44, 45, 8, 46, 47, 48, 49, 50, 51, 52, 53, 54, 55, 56, 57, 58, 59, 60, 61, 62, 63, 64, 65, 66, 67, 68, 69, 70, 71, 72, 73, 74, 75, 76, 77, 7, 9, 78, 79, 80, 81, 112, 113, 114, 115, 116, 117, 118, 119, 120, 121, 122, 123, 124, 125, 126, 127, 128] rfl gw_wsX4_shows
set_option maxRecDepth 20000 in
theorem gX10_rains_X4_shows : GoodIn wsX10_rains (wsV RX10 197 RX4 yX4_shows wsX4_shows) := goodIn_app (goodIn_r _ [29, 30, 31, 15] (by exact rfl) (by decide +kernel)) ggX10_rains_X4_shows
set_option maxRecDepth 20000 in
theorem ggX10_rains_X1_become : GoodIn wsX10_rains wsX1_become := goodIn_r _ [86, 87, 88, 89, 90, 91, 92, 93, 94, 95, 96, 123, 124, 125, 126, 127, 128] rfl gw_wsX1_become
set_option maxRecDepth 20000 in
theorem gX10_rains_X1_become : GoodIn wsX10_rains (wsV RX10 201 RX1 yX1_become wsX1_become) := goodIn_app (goodIn_r _ [82, 83, 84, 85] (by exact rfl) (by decide +kernel)) ggX10_rains_X1_become
set_option maxRecDepth 20000 in
theorem gw_wsX10_commonDivisor : wsX10_commonDivisor.all goodWord = true := by decide +kernel
set_option maxRecDepth 20000 in
theorem ggX10_rains_X10_commonDivisor : GoodIn wsX10_rains wsX10_commonDivisor := goodIn_r _ [99] rfl gw_wsX10_commonDivisor
set_option maxRecDepth 20000 in
theorem gX10_rains_X10_commonDivisor : GoodIn wsX10_rains (va_wsS RX10 266 yX10_commonDivisor wsX10_commonDivisor) := goodIn_app (goodIn_r _ [97, 98, 19] (by exact rfl) (by decide +kernel)) ggX10_rains_X10_commonDivisor
theorem dX10_rains_0 : decode cX10_rains 0 = .ok (.aload_n 0, 1) := by decide +kernel
theorem dX10_rains_1 : decode cX10_rains 1 = .ok (.getfield 36, 3) := by decide +kernel
theorem dX10_rains_4 : decode cX10_rains 4 = .ok (.iload_n 1, 1) := by decide +kernel
theorem dX10_rains_5 : decode cX10_rains 5 = .ok (.invokevirtual 112, 3) := by decide +kernel
theorem dX10_rains_8 : decode cX10_rains 8 = .ok (.ifCond .eq 13, 3) := by decide +kernel
theorem dX10_rains_11 : decode cX10_rains 11 = .ok (.iload_n 2, 1) := by decide +kernel
theorem dX10_rains_12 : decode cX10_rains 12 = .ok (.iconst 0, 1) := by decide +kernel
theorem dX10_rains_13 : decode cX10_rains 13 = .ok (.bipush 10, 2) := by decide +kernel
theorem dX10_rains_15 : decode cX10_rains 15 = .ok (.invokestatic 147, 3) := by decide +kernel
theorem dX10_rains_18 : decode cX10_rains 18 = .ok (.ifCond .ne 8, 3) := by decide +kernel
theorem dX10_rains_21 : decode cX10_rains 21 = .ok (.aload_n 0, 1) := by decide +kernel
theorem dX10_rains_22 : decode cX10_rains 22 = .ok (.invokevirtual 90, 3) := by decide +kernel
theorem dX10_rains_25 : decode cX10_rains 25 = .ok (.ireturn, 1) := by decide +kernel
theorem dX10_rains_26 : decode cX10_rains 26 = .ok (.aload_n 0, 1) := by decide +kernel
theorem dX10_rains_27 : decode cX10_rains 27 = .ok (.getfield 36, 3) := by decide +kernel
theorem dX10_rains_30 : decode cX10_rains 30 = .ok (.aload_n 0, 1) := by decide +kernel
theorem dX10_rains_31 : decode cX10_rains 31 = .ok (.getfield 36, 3) := by decide +kernel
theorem dX10_rains_34 : decode cX10_rains 34 = .ok (.getfield 140, 3) := by decide +kernel
theorem dX10_rains_37 : decode cX10_rains 37 = .ok (.iload_n 1, 1) := by decide +kernel
theorem dX10_rains_38 : decode cX10_rains 38 = .ok (.aload_n 0, 1) := by decide +kernel
theorem dX10_rains_39 : decode cX10_rains 39 = .ok (.getfield 36, 3) := by decide +kernel
theorem dX10_rains_42 : decode cX10_rains 42 = .ok (.getfield 140, 3) := by decide +kernel
theorem dX10_rains_45 : decode cX10_rains 45 = .ok (.getfield 151, 3) := by decide +kernel
theorem dX10_rains_48 : decode cX10_rains 48 = .ok (.invokevirtual 197, 3) := by decide +kernel
theorem dX10_rains_51 : decode cX10_rains 51 = .ok (.istore_n 3, 1) := by decide +kernel
theorem dX10_rains_52 : decode cX10_rains 52 = .ok (.aload_n 0, 1) := by decide +kernel
theorem dX10_rains_53 : decode cX10_rains 53 = .ok (.getfield 58, 3) := by decide +kernel
theorem dX10_rains_56 : decode cX10_rains 56 = .ok (.aload_n 0, 1) := by decide +kernel
theorem dX10_rains_57 : decode cX10_rains 57 = .ok (.getfield 36, 3) := by decide +kernel
theorem dX10_rains_60 : decode cX10_rains 60 = .ok (.getfield 140, 3) := by decide +kernel
theorem dX10_rains_63 : decode cX10_rains 63 = .ok (.invokevirtual 201, 3) := by decide +kernel
theorem dX10_rains_66 : decode cX10_rains 66 = .ok (.aload_n 0, 1) := by decide +kernel
theorem dX10_rains_67 : decode cX10_rains 67 = .ok (.getfield 58, 3) := by decide +kernel
theorem dX10_rains_70 : decode cX10_rains 70 = .ok (.bipush 9, 2) := by decide +kernel
theorem dX10_rains_72 : decode cX10_rains 72 = .ok (.aload_n 0, 1) := by decide +kernel
theorem dX10_rains_73 : decode cX10_rains 73 = .ok (.getfield 58, 3) := by decide +kernel
theorem dX10_rains_76 : decode cX10_rains 76 = .ok (.getfield 173, 3) := by decide +kernel
theorem dX10_rains_79 : decode cX10_rains 79 = .ok (.iconst 5, 1) := by decide +kernel
theorem dX10_rains_80 : decode cX10_rains 80 = .ok (.iadd, 1) := by decide +kernel
theorem dX10_rains_81 : decode cX10_rains 81 = .ok (.invokestatic 204, 3) := by decide +kernel
theorem dX10_rains_84 : decode cX10_rains 84 = .ok (.putfield 173, 3) := by decide +kernel
theorem dX10_rains_87 : decode cX10_rains 87 = .ok (.aload_n 0, 1) := by decide +kernel
theorem dX10_rains_88 : decode cX10_rains 88 = .ok (.getfield 36, 3) := by decide +kernel
theorem dX10_rains_91 : decode cX10_rains 91 = .ok (.aload_n 0, 1) := by decide +kernel
theorem dX10_rains_92 : decode cX10_rains 92 = .ok (.getfield 58, 3) := by decide +kernel
theorem dX10_rains_95 : decode cX10_rains 95 = .ok (.iload_n 1, 1) := by decide +kernel
theorem dX10_rains_96 : decode cX10_rains 96 = .ok (.aload_n 0, 1) := by decide +kernel
theorem dX10_rains_97 : decode cX10_rains 97 = .ok (.getfield 58, 3) := by decide +kernel
theorem dX10_rains_100 : decode cX10_rains 100 = .ok (.getfield 151, 3) := by decide +kernel
theorem dX10_rains_103 : decode cX10_rains 103 = .ok (.invokevirtual 197, 3) := by decide +kernel
theorem dX10_rains_106 : decode cX10_rains 106 = .ok (.istore 4, 2) := by decide +kernel
theorem dX10_rains_108 : decode cX10_rains 108 = .ok (.iload_n 2, 1) := by decide +kernel
theorem dX10_rains_109 : decode cX10_rains 109 = .ok (.iload 4, 2) := by decide +kernel
theorem dX10_rains_111 : decode cX10_rains 111 = .ok (.imul, 1) := by decide +kernel
theorem dX10_rains_112 : decode cX10_rains 112 = .ok (.bipush 10, 2) := by decide +kernel
theorem dX10_rains_114 : decode cX10_rains 114 = .ok (.iload_n 2, 1) := by decide +kernel
theorem dX10_rains_115 : decode cX10_rains 115 = .ok (.isub, 1) := by decide +kernel
theorem dX10_rains_116 : decode cX10_rains 116 = .ok (.iload_n 3, 1) := by decide +kernel
theorem dX10_rains_117 : decode cX10_rains 117 = .ok (.imul, 1) := by decide +kernel
theorem dX10_rains_118 : decode cX10_rains 118 = .ok (.iadd, 1) := by decide +kernel
theorem dX10_rains_119 : decode cX10_rains 119 = .ok (.istore 5, 2) := by decide +kernel
theorem dX10_rains_121 : decode cX10_rains 121 = .ok (.iload 5, 2) := by decide +kernel
theorem dX10_rains_123 : decode cX10_rains 123 = .ok (.bipush 10, 2) := by decide +kernel
theorem dX10_rains_125 : decode cX10_rains 125 = .ok (.invokestatic 266, 3) := by decide +kernel
theorem dX10_rains_128 : decode cX10_rains 128 = .ok (.istore 6, 2) := by decide +kernel
theorem dX10_rains_130 : decode cX10_rains 130 = .ok (.aload_n 0, 1) := by decide +kernel
theorem dX10_rains_131 : decode cX10_rains 131 = .ok (.iload 5, 2) := by decide +kernel
theorem dX10_rains_133 : decode cX10_rains 133 = .ok (.iload 6, 2) := by decide +kernel
theorem dX10_rains_135 : decode cX10_rains 135 = .ok (.idiv, 1) := by decide +kernel
theorem dX10_rains_136 : decode cX10_rains 136 = .ok (.putfield 79, 3) := by decide +kernel
theorem dX10_rains_139 : decode cX10_rains 139 = .ok (.aload_n 0, 1) := by decide +kernel
theorem dX10_rains_140 : decode cX10_rains 140 = .ok (.bipush 10, 2) := by decide +kernel
theorem dX10_rains_142 : decode cX10_rains 142 = .ok (.iload 6, 2) := by decide +kernel
theorem dX10_rains_144 : decode cX10_rains 144 = .ok (.idiv, 1) := by decide +kernel
theorem dX10_rains_145 : decode cX10_rains 145 = .ok (.putfield 83, 3) := by decide +kernel
theorem dX10_rains_148 : decode cX10_rains 148 = .ok (.iconst 1, 1) := by decide +kernel
theorem dX10_rains_149 : decode cX10_rains 149 = .ok (.ireturn, 1) := by decide +kernel
set_option maxRecDepth 20000 in
theorem ggX10_summers_X10_isBelow : GoodIn wsX10_summers wsX10_isBelow := goodIn_r _ [15] rfl gw_wsX10_isBelow
set_option maxRecDepth 20000 in
theorem gX10_summers_X10_isBelow : GoodIn wsX10_summers (va_wsS RX10 86 yX10_isBelow wsX10_isBelow) := goodIn_app (goodIn_r _ [12, 13, 14] (by exact rfl) (by decide +kernel)) ggX10_summers_X10_isBelow
set_option maxRecDepth 20000 in
theorem ggX10_summers_X10_isIn : GoodIn wsX10_summers wsX10_isIn := goodIn_r _ [18] rfl gw_wsX10_isIn
set_option maxRecDepth 20000 in
theorem gX10_summers_X10_isIn : GoodIn wsX10_summers (va_wsS RX10 147 yX10_isIn wsX10_isIn) := goodIn_app (goodIn_r _ [16, 17, 14] (by exact rfl) (by decide +kernel)) ggX10_summers_X10_isIn
set_option maxRecDepth 20000 in
theorem ggX10_summers_X10_refuseBad : GoodIn wsX10_summers wsX10_refuseBad := goodIn_r _ [22, 23, 126, 127, 128, 129, 130, 131, 132, 133, 134, 135, 136, 137] rfl gw_wsX10_refuseBad
set_option maxRecDepth 20000 in
theorem gX10_summers_X10_refuseBad : GoodIn wsX10_summers (wsV RX10 90 RX10 yX10_refuseBad wsX10_refuseBad) := goodIn_app (goodIn_r _ [19, 20, 21, 14] (by exact rfl) (by decide +kernel)) ggX10_summers_X10_refuseBad
set_option maxRecDepth 20000 in
theorem ggX10_summers_X1_become : GoodIn wsX10_summers wsX1_become := goodIn_r _ [28, 29, 30, 31, 32, 33, 34, 35, 36, 37, 38, 149, 150, 151, 152, 153, 154] rfl gw_wsX1_become
set_option maxRecDepth 20000 in
theorem gX10_summers_X1_become : GoodIn wsX10_summers (wsV RX10 201 RX1 yX1_become wsX1_become) := goodIn_app (goodIn_r _ [24, 25, 26, 27] (by exact rfl) (by decide +kernel)) ggX10_summers_X1_become
set_option maxRecDepth 20000 in
theorem ggX10_summers_X4_fade : GoodIn wsX10_summers wsX4_fade := goodIn_r _ [43, 44, 45, 46, 47, 48, 49, 50, 51, 52, 53, 54, 14, 55, 138, 139, 140, 141, 142, 143, 144, 145, 146, 147, 148, 149, 150, 151, 152, 153, 154] rfl gw_wsX4_fade
set_option maxRecDepth 20000 in
theorem gX10_summers_X4_fade : GoodIn wsX10_summers (wsV RX10 160 RX4 yX4_fade wsX4_fade) := goodIn_app (goodIn_r _ [39, 40, 41, 42] (by exact rfl) (by decide +kernel)) ggX10_summers_X4_fade
set_option maxRecDepth 20000 in
theorem ggX10_summers_X4_gather : GoodIn wsX10_summers wsX4_gather := goodIn_r _ [59, 46, 53, 60, 61, 62, 42, 63, 64, 65, 66, 67, 44, 68, 69, 70, 71, 72, 73, 74, 47, 75, 76, 77, 78, 79, 80, 81, 82, 83, 84, 50, 85, 86, 87, 88, 89, 90, 91, 92, 93, 94, 95, 96, 97, 98, 99, 100, 101, 102, 103, 104, 105, 106, 107, 108, 109, 110, 111, 112, 113, 114, 115, 116, 49, 51, 117, 118, 119, 120, 121, 122, 123, 124, 45, 48, 125, 138, 139, 140, 141, 142, 143, 144, 145, 146, 147, 148, 149, 150, 151, 152, 153, 154] rfl gw_wsX4_gather
set_option maxRecDepth 20000 in
theorem gX10_summers_X4_gather : GoodIn wsX10_summers (wsV RX10 143 RX4 yX4_gather wsX4_gather) := goodIn_app (goodIn_r _ [56, 57, 58, 42] (by exact rfl) (by decide +kernel)) ggX10_summers_X4_gather
theorem dX10_summers_0 : decode cX10_summers 0 = .ok (.iload_n 1, 1) := by decide +kernel
theorem dX10_summers_1 : decode cX10_summers 1 = .ok (.ldc_w 269, 3) := by decide +kernel
theorem dX10_summers_4 : decode cX10_summers 4 = .ok (.invokestatic 86, 3) := by decide +kernel
theorem dX10_summers_7 : decode cX10_summers 7 = .ok (.ifCond .eq 13, 3) := by decide +kernel
theorem dX10_summers_10 : decode cX10_summers 10 = .ok (.iload_n 2, 1) := by decide +kernel
theorem dX10_summers_11 : decode cX10_summers 11 = .ok (.iconst 0, 1) := by decide +kernel
theorem dX10_summers_12 : decode cX10_summers 12 = .ok (.bipush 60, 2) := by decide +kernel
theorem dX10_summers_14 : decode cX10_summers 14 = .ok (.invokestatic 147, 3) := by decide +kernel
theorem dX10_summers_17 : decode cX10_summers 17 = .ok (.ifCond .ne 8, 3) := by decide +kernel
theorem dX10_summers_20 : decode cX10_summers 20 = .ok (.aload_n 0, 1) := by decide +kernel
theorem dX10_summers_21 : decode cX10_summers 21 = .ok (.invokevirtual 90, 3) := by decide +kernel
theorem dX10_summers_24 : decode cX10_summers 24 = .ok (.ireturn, 1) := by decide +kernel
theorem dX10_summers_25 : decode cX10_summers 25 = .ok (.aload_n 0, 1) := by decide +kernel
theorem dX10_summers_26 : decode cX10_summers 26 = .ok (.getfield 58, 3) := by decide +kernel
theorem dX10_summers_29 : decode cX10_summers 29 = .ok (.aload_n 0, 1) := by decide +kernel
theorem dX10_summers_30 : decode cX10_summers 30 = .ok (.getfield 36, 3) := by decide +kernel
theorem dX10_summers_33 : decode cX10_summers 33 = .ok (.getfield 140, 3) := by decide +kernel
theorem dX10_summers_36 : decode cX10_summers 36 = .ok (.invokevirtual 201, 3) := by decide +kernel
theorem dX10_summers_39 : decode cX10_summers 39 = .ok (.iload_n 1, 1) := by decide +kernel
theorem dX10_summers_40 : decode cX10_summers 40 = .ok (.i2l, 1) := by decide +kernel
theorem dX10_summers_41 : decode cX10_summers 41 = .ok (.lstore_n 3, 1) := by decide +kernel
theorem dX10_summers_42 : decode cX10_summers 42 = .ok (.iconst 0, 1) := by decide +kernel
theorem dX10_summers_43 : decode cX10_summers 43 = .ok (.istore 5, 2) := by decide +kernel
theorem dX10_summers_45 : decode cX10_summers 45 = .ok (.iconst 0, 1) := by decide +kernel
theorem dX10_summers_46 : decode cX10_summers 46 = .ok (.istore 6, 2) := by decide +kernel
theorem dX10_summers_48 : decode cX10_summers 48 = .ok (.iload 6, 2) := by decide +kernel
theorem dX10_summers_50 : decode cX10_summers 50 = .ok (.iload_n 2, 1) := by decide +kernel
theorem dX10_summers_51 : decode cX10_summers 51 = .ok (.if_icmp .ge 80, 3) := by decide +kernel
theorem dX10_summers_54 : decode cX10_summers 54 = .ok (.lload_n 3, 1) := by decide +kernel
theorem dX10_summers_55 : decode cX10_summers 55 = .ok (.ldc2_w 270, 3) := by decide +kernel
theorem dX10_summers_58 : decode cX10_summers 58 = .ok (.lmul, 1) := by decide +kernel
theorem dX10_summers_59 : decode cX10_summers 59 = .ok (.ldc2_w 272, 3) := by decide +kernel
theorem dX10_summers_62 : decode cX10_summers 62 = .ok (.ladd, 1) := by decide +kernel
theorem dX10_summers_63 : decode cX10_summers 63 = .ok (.ldc2_w 274, 3) := by decide +kernel
theorem dX10_summers_66 : decode cX10_summers 66 = .ok (.lrem, 1) := by decide +kernel
theorem dX10_summers_67 : decode cX10_summers 67 = .ok (.lstore_n 3, 1) := by decide +kernel
theorem dX10_summers_68 : decode cX10_summers 68 = .ok (.aload_n 0, 1) := by decide +kernel
theorem dX10_summers_69 : decode cX10_summers 69 = .ok (.getfield 58, 3) := by decide +kernel
theorem dX10_summers_72 : decode cX10_summers 72 = .ok (.getfield 151, 3) := by decide +kernel
theorem dX10_summers_75 : decode cX10_summers 75 = .ok (.bipush 12, 2) := by decide +kernel
theorem dX10_summers_77 : decode cX10_summers 77 = .ok (.if_icmp .lt 14, 3) := by decide +kernel
theorem dX10_summers_80 : decode cX10_summers 80 = .ok (.aload_n 0, 1) := by decide +kernel
theorem dX10_summers_81 : decode cX10_summers 81 = .ok (.getfield 36, 3) := by decide +kernel
theorem dX10_summers_84 : decode cX10_summers 84 = .ok (.aload_n 0, 1) := by decide +kernel
theorem dX10_summers_85 : decode cX10_summers 85 = .ok (.getfield 58, 3) := by decide +kernel
theorem dX10_summers_88 : decode cX10_summers 88 = .ok (.invokevirtual 160, 3) := by decide +kernel
theorem dX10_summers_91 : decode cX10_summers 91 = .ok (.aload_n 0, 1) := by decide +kernel
theorem dX10_summers_92 : decode cX10_summers 92 = .ok (.getfield 58, 3) := by decide +kernel
theorem dX10_summers_95 : decode cX10_summers 95 = .ok (.lload_n 3, 1) := by decide +kernel
theorem dX10_summers_96 : decode cX10_summers 96 = .ok (.ldc2_w 276, 3) := by decide +kernel
theorem dX10_summers_99 : decode cX10_summers 99 = .ok (.ldiv, 1) := by decide +kernel
theorem dX10_summers_100 : decode cX10_summers 100 = .ok (.ldc2_w 278, 3) := by decide +kernel
theorem dX10_summers_103 : decode cX10_summers 103 = .ok (.lrem, 1) := by decide +kernel
theorem dX10_summers_104 : decode cX10_summers 104 = .ok (.l2i, 1) := by decide +kernel
theorem dX10_summers_105 : decode cX10_summers 105 = .ok (.putfield 173, 3) := by decide +kernel
theorem dX10_summers_108 : decode cX10_summers 108 = .ok (.iload 5, 2) := by decide +kernel
theorem dX10_summers_110 : decode cX10_summers 110 = .ok (.aload_n 0, 1) := by decide +kernel
theorem dX10_summers_111 : decode cX10_summers 111 = .ok (.getfield 36, 3) := by decide +kernel
theorem dX10_summers_114 : decode cX10_summers 114 = .ok (.aload_n 0, 1) := by decide +kernel
theorem dX10_summers_115 : decode cX10_summers 115 = .ok (.getfield 58, 3) := by decide +kernel
theorem dX10_summers_118 : decode cX10_summers 118 = .ok (.iconst 1, 1) := by decide +kernel
theorem dX10_summers_119 : decode cX10_summers 119 = .ok (.invokevirtual 143, 3) := by decide +kernel
theorem dX10_summers_122 : decode cX10_summers 122 = .ok (.iadd, 1) := by decide +kernel
theorem dX10_summers_123 : decode cX10_summers 123 = .ok (.istore 5, 2) := by decide +kernel
theorem dX10_summers_125 : decode cX10_summers 125 = .ok (.iinc 6 1, 3) := by decide +kernel
theorem dX10_summers_128 : decode cX10_summers 128 = .ok (.goto (-80), 3) := by decide +kernel
theorem dX10_summers_131 : decode cX10_summers 131 = .ok (.iload 5, 2) := by decide +kernel
theorem dX10_summers_133 : decode cX10_summers 133 = .ok (.ireturn, 1) := by decide +kernel
set_option maxRecDepth 20000 in
theorem ggX10_part_X10_isBelow : GoodIn wsX10_part wsX10_isBelow := goodIn_r _ [6] rfl gw_wsX10_isBelow
set_option maxRecDepth 20000 in
theorem gX10_part_X10_isBelow : GoodIn wsX10_part (va_wsS RX10 86 yX10_isBelow wsX10_isBelow) := goodIn_app (goodIn_r _ [3, 4, 5] (by exact rfl) (by decide +kernel)) ggX10_part_X10_isBelow
set_option maxRecDepth 20000 in
theorem ggX10_part_X10_refuseBad : GoodIn wsX10_part wsX10_refuseBad := goodIn_r _ [10, 11, 12, 13, 14, 15, 16, 17, 18, 19, 20, 21, 22, 23] rfl gw_wsX10_refuseBad
set_option maxRecDepth 20000 in
theorem gX10_part_X10_refuseBad : GoodIn wsX10_part (wsV RX10 90 RX10 yX10_refuseBad wsX10_refuseBad) := goodIn_app (goodIn_r _ [7, 8, 9, 5] (by exact rfl) (by decide +kernel)) ggX10_part_X10_refuseBad
theorem dX10_part_0 : decode cX10_part 0 = .ok (.iload_n 1, 1) := by decide +kernel
theorem dX10_part_1 : decode cX10_part 1 = .ok (.iconst 2, 1) := by decide +kernel
theorem dX10_part_2 : decode cX10_part 2 = .ok (.invokestatic 86, 3) := by decide +kernel
theorem dX10_part_5 : decode cX10_part 5 = .ok (.ifCond .ne 9, 3) := by decide +kernel
theorem dX10_part_8 : decode cX10_part 8 = .ok (.aload_n 0, 1) := by decide +kernel
theorem dX10_part_9 : decode cX10_part 9 = .ok (.invokevirtual 90, 3) := by decide +kernel
theorem dX10_part_12 : decode cX10_part 12 = .ok (.i2l, 1) := by decide +kernel
theorem dX10_part_13 : decode cX10_part 13 = .ok (.lreturn, 1) := by decide +kernel
theorem dX10_part_14 : decode cX10_part 14 = .ok (.iload_n 1, 1) := by decide +kernel
theorem dX10_part_15 : decode cX10_part 15 = .ok (.ifCond .ne 11, 3) := by decide +kernel
theorem dX10_part_18 : decode cX10_part 18 = .ok (.aload_n 0, 1) := by decide +kernel
theorem dX10_part_19 : decode cX10_part 19 = .ok (.getfield 79, 3) := by decide +kernel
theorem dX10_part_22 : decode cX10_part 22 = .ok (.i2l, 1) := by decide +kernel
theorem dX10_part_23 : decode cX10_part 23 = .ok (.goto 8, 3) := by decide +kernel
theorem dX10_part_26 : decode cX10_part 26 = .ok (.aload_n 0, 1) := by decide +kernel
theorem dX10_part_27 : decode cX10_part 27 = .ok (.getfield 83, 3) := by decide +kernel
theorem dX10_part_30 : decode cX10_part 30 = .ok (.i2l, 1) := by decide +kernel
theorem dX10_part_31 : decode cX10_part 31 = .ok (.lreturn, 1) := by decide +kernel
set_option maxRecDepth 20000 in
theorem ggX10_image_X10_isBelow : GoodIn wsX10_image wsX10_isBelow := goodIn_r _ [7] rfl gw_wsX10_isBelow
set_option maxRecDepth 20000 in
theorem gX10_image_X10_isBelow : GoodIn wsX10_image (va_wsS RX10 86 yX10_isBelow wsX10_isBelow) := goodIn_app (goodIn_r _ [4, 5, 6] (by exact rfl) (by decide +kernel)) ggX10_image_X10_isBelow
set_option maxRecDepth 20000 in
theorem ggX10_image_X10_refuseBad : GoodIn wsX10_image wsX10_refuseBad := goodIn_r _ [11, 12, 44, 45, 46, 47, 48, 49, 50, 51, 52, 53, 54, 55] rfl gw_wsX10_refuseBad
set_option maxRecDepth 20000 in
theorem gX10_image_X10_refuseBad : GoodIn wsX10_image (wsV RX10 90 RX10 yX10_refuseBad wsX10_refuseBad) := goodIn_app (goodIn_r _ [8, 9, 10, 6] (by exact rfl) (by decide +kernel)) ggX10_image_X10_refuseBad
set_option maxRecDepth 20000 in
theorem gw_wsX4_become : wsX4_become.all goodWord = true := by decide +kernel
set_option maxRecDepth 20000 in
theorem ggX10_image_X4_become : GoodIn wsX10_image wsX4_become := goodIn_r _ [17, 18, 19, 20, 21, 22, 23, 24, 25, 26, 27, 28, 29, 30, 31, 32, 33, 34, 35, 36, 37, 38, 39, 40, 41, 42, 43, 56, 57, 58, 59, 60, 61, 62, 63, 64, 65, 66, 67, 68, 69, 70, 71, 72] rfl gw_wsX4_become
set_option maxRecDepth 20000 in
theorem gX10_image_X4_become : GoodIn wsX10_image (wsV RX10 280 RX4 yX4_become wsX4_become) := goodIn_app (goodIn_r _ [13, 14, 15, 16] (by exact rfl) (by decide +kernel)) ggX10_image_X4_become
theorem dX10_image_0 : decode cX10_image 0 = .ok (.iload_n 1, 1) := by decide +kernel
theorem dX10_image_1 : decode cX10_image 1 = .ok (.iconst 2, 1) := by decide +kernel
theorem dX10_image_2 : decode cX10_image 2 = .ok (.invokestatic 86, 3) := by decide +kernel
theorem dX10_image_5 : decode cX10_image 5 = .ok (.ifCond .ne 8, 3) := by decide +kernel
theorem dX10_image_8 : decode cX10_image 8 = .ok (.aload_n 0, 1) := by decide +kernel
theorem dX10_image_9 : decode cX10_image 9 = .ok (.invokevirtual 90, 3) := by decide +kernel
theorem dX10_image_12 : decode cX10_image 12 = .ok (.ireturn, 1) := by decide +kernel
theorem dX10_image_13 : decode cX10_image 13 = .ok (.aload_n 0, 1) := by decide +kernel
theorem dX10_image_14 : decode cX10_image 14 = .ok (.getfield 40, 3) := by decide +kernel
theorem dX10_image_17 : decode cX10_image 17 = .ok (.iload_n 1, 1) := by decide +kernel
theorem dX10_image_18 : decode cX10_image 18 = .ok (.aaload, 1) := by decide +kernel
theorem dX10_image_19 : decode cX10_image 19 = .ok (.aload_n 0, 1) := by decide +kernel
theorem dX10_image_20 : decode cX10_image 20 = .ok (.getfield 36, 3) := by decide +kernel
theorem dX10_image_23 : decode cX10_image 23 = .ok (.invokevirtual 280, 3) := by decide +kernel
theorem dX10_image_26 : decode cX10_image 26 = .ok (.aload_n 0, 1) := by decide +kernel
theorem dX10_image_27 : decode cX10_image 27 = .ok (.getfield 44, 3) := by decide +kernel
theorem dX10_image_30 : decode cX10_image 30 = .ok (.iload_n 1, 1) := by decide +kernel
theorem dX10_image_31 : decode cX10_image 31 = .ok (.iconst 1, 1) := by decide +kernel
theorem dX10_image_32 : decode cX10_image 32 = .ok (.bastore, 1) := by decide +kernel
theorem dX10_image_33 : decode cX10_image 33 = .ok (.iconst 1, 1) := by decide +kernel
theorem dX10_image_34 : decode cX10_image 34 = .ok (.ireturn, 1) := by decide +kernel
set_option maxRecDepth 20000 in
theorem ggX10_from_X10_isBelow : GoodIn wsX10_from wsX10_isBelow := goodIn_r _ [7] rfl gw_wsX10_isBelow
set_option maxRecDepth 20000 in
theorem gX10_from_X10_isBelow : GoodIn wsX10_from (va_wsS RX10 86 yX10_isBelow wsX10_isBelow) := goodIn_app (goodIn_r _ [4, 5, 6] (by exact rfl) (by decide +kernel)) ggX10_from_X10_isBelow
set_option maxRecDepth 20000 in
theorem ggX10_from_X10_refuseBad : GoodIn wsX10_from wsX10_refuseBad := goodIn_r _ [11, 12, 48, 49, 50, 51, 52, 53, 54, 55, 56, 57, 58, 59] rfl gw_wsX10_refuseBad
set_option maxRecDepth 20000 in
theorem gX10_from_X10_refuseBad : GoodIn wsX10_from (wsV RX10 90 RX10 yX10_refuseBad wsX10_refuseBad) := goodIn_app (goodIn_r _ [8, 9, 10, 6] (by exact rfl) (by decide +kernel)) ggX10_from_X10_refuseBad
set_option maxRecDepth 20000 in
theorem ggX10_from_X10_refuseNo : GoodIn wsX10_from wsX10_refuseNo := goodIn_r _ [16, 12, 48, 49, 50, 51, 52, 53, 54, 55, 56, 57, 58, 59] rfl gw_wsX10_refuseNo
set_option maxRecDepth 20000 in
theorem gX10_from_X10_refuseNo : GoodIn wsX10_from (wsV RX10 154 RX10 yX10_refuseNo wsX10_refuseNo) := goodIn_app (goodIn_r _ [13, 14, 15, 6] (by exact rfl) (by decide +kernel)) ggX10_from_X10_refuseNo
set_option maxRecDepth 20000 in
theorem ggX10_from_X4_become : GoodIn wsX10_from wsX4_become := goodIn_r _ [21, 22, 23, 24, 25, 26, 27, 28, 29, 30, 31, 32, 33, 34, 35, 36, 37, 38, 39, 40, 41, 42, 43, 44, 45, 46, 47, 60, 61, 62, 63, 64, 65, 66, 67, 68, 69, 70, 71, 72, 73, 74, 75, 76] rfl gw_wsX4_become
set_option maxRecDepth 20000 in
theorem gX10_from_X4_become : GoodIn wsX10_from (wsV RX10 280 RX4 yX4_become wsX4_become) := goodIn_app (goodIn_r _ [17, 18, 19, 20] (by exact rfl) (by decide +kernel)) ggX10_from_X4_become
theorem dX10_from_0 : decode cX10_from 0 = .ok (.iload_n 1, 1) := by decide +kernel
theorem dX10_from_1 : decode cX10_from 1 = .ok (.iconst 2, 1) := by decide +kernel
theorem dX10_from_2 : decode cX10_from 2 = .ok (.invokestatic 86, 3) := by decide +kernel
theorem dX10_from_5 : decode cX10_from 5 = .ok (.ifCond .ne 8, 3) := by decide +kernel
theorem dX10_from_8 : decode cX10_from 8 = .ok (.aload_n 0, 1) := by decide +kernel
theorem dX10_from_9 : decode cX10_from 9 = .ok (.invokevirtual 90, 3) := by decide +kernel
theorem dX10_from_12 : decode cX10_from 12 = .ok (.ireturn, 1) := by decide +kernel
theorem dX10_from_13 : decode cX10_from 13 = .ok (.aload_n 0, 1) := by decide +kernel
theorem dX10_from_14 : decode cX10_from 14 = .ok (.getfield 44, 3) := by decide +kernel
theorem dX10_from_17 : decode cX10_from 17 = .ok (.iload_n 1, 1) := by decide +kernel
theorem dX10_from_18 : decode cX10_from 18 = .ok (.baload, 1) := by decide +kernel
theorem dX10_from_19 : decode cX10_from 19 = .ok (.ifCond .ne 8, 3) := by decide +kernel
theorem dX10_from_22 : decode cX10_from 22 = .ok (.aload_n 0, 1) := by decide +kernel
theorem dX10_from_23 : decode cX10_from 23 = .ok (.invokevirtual 154, 3) := by decide +kernel
theorem dX10_from_26 : decode cX10_from 26 = .ok (.ireturn, 1) := by decide +kernel
theorem dX10_from_27 : decode cX10_from 27 = .ok (.aload_n 0, 1) := by decide +kernel
theorem dX10_from_28 : decode cX10_from 28 = .ok (.getfield 36, 3) := by decide +kernel
theorem dX10_from_31 : decode cX10_from 31 = .ok (.aload_n 0, 1) := by decide +kernel
theorem dX10_from_32 : decode cX10_from 32 = .ok (.getfield 40, 3) := by decide +kernel
theorem dX10_from_35 : decode cX10_from 35 = .ok (.iload_n 1, 1) := by decide +kernel
theorem dX10_from_36 : decode cX10_from 36 = .ok (.aaload, 1) := by decide +kernel
theorem dX10_from_37 : decode cX10_from 37 = .ok (.invokevirtual 280, 3) := by decide +kernel
theorem dX10_from_40 : decode cX10_from 40 = .ok (.iconst 1, 1) := by decide +kernel
theorem dX10_from_41 : decode cX10_from 41 = .ok (.ireturn, 1) := by decide +kernel
set_option maxRecDepth 20000 in
theorem ggX10_status_X10_isBelow : GoodIn wsX10_status wsX10_isBelow := goodIn_r _ [5] rfl gw_wsX10_isBelow
set_option maxRecDepth 20000 in
theorem gX10_status_X10_isBelow : GoodIn wsX10_status (va_wsS RX10 86 yX10_isBelow wsX10_isBelow) := goodIn_app (goodIn_r _ [2, 3, 4] (by exact rfl) (by decide +kernel)) ggX10_status_X10_isBelow
set_option maxRecDepth 20000 in
theorem ggX10_status_X10_refuseBad : GoodIn wsX10_status wsX10_refuseBad := goodIn_r _ [9, 1, 10, 11, 12, 13, 14, 15, 16, 17, 18, 19, 20, 21] rfl gw_wsX10_refuseBad
set_option maxRecDepth 20000 in
theorem gX10_status_X10_refuseBad : GoodIn wsX10_status (wsV RX10 90 RX10 yX10_refuseBad wsX10_refuseBad) := goodIn_app (goodIn_r _ [6, 7, 8, 4] (by exact rfl) (by decide +kernel)) ggX10_status_X10_refuseBad
theorem dX10_status_0 : decode cX10_status 0 = .ok (.iload_n 1, 1) := by decide +kernel
theorem dX10_status_1 : decode cX10_status 1 = .ok (.iconst 3, 1) := by decide +kernel
theorem dX10_status_2 : decode cX10_status 2 = .ok (.invokestatic 86, 3) := by decide +kernel
theorem dX10_status_5 : decode cX10_status 5 = .ok (.ifCond .ne 10, 3) := by decide +kernel
theorem dX10_status_8 : decode cX10_status 8 = .ok (.aload_n 0, 1) := by decide +kernel
theorem dX10_status_9 : decode cX10_status 9 = .ok (.invokevirtual 90, 3) := by decide +kernel
theorem dX10_status_12 : decode cX10_status 12 = .ok (.pop, 1) := by decide +kernel
theorem dX10_status_13 : decode cX10_status 13 = .ok (.iconst (-1), 1) := by decide +kernel
theorem dX10_status_14 : decode cX10_status 14 = .ok (.ireturn, 1) := by decide +kernel
theorem dX10_status_15 : decode cX10_status 15 = .ok (.aload_n 0, 1) := by decide +kernel
theorem dX10_status_16 : decode cX10_status 16 = .ok (.getfield 76, 3) := by decide +kernel
theorem dX10_status_19 : decode cX10_status 19 = .ok (.iload_n 1, 1) := by decide +kernel
theorem dX10_status_20 : decode cX10_status 20 = .ok (.iaload, 1) := by decide +kernel
theorem dX10_status_21 : decode cX10_status 21 = .ok (.ireturn, 1) := by decide +kernel
set_option maxRecDepth 20000 in
theorem ggX10_count_X10_isBelow : GoodIn wsX10_count wsX10_isBelow := goodIn_r _ [4] rfl gw_wsX10_isBelow
set_option maxRecDepth 20000 in
theorem gX10_count_X10_isBelow : GoodIn wsX10_count (va_wsS RX10 86 yX10_isBelow wsX10_isBelow) := goodIn_app (goodIn_r _ [1, 2, 3] (by exact rfl) (by decide +kernel)) ggX10_count_X10_isBelow
set_option maxRecDepth 20000 in
theorem ggX10_count_X10_refuseBad : GoodIn wsX10_count wsX10_refuseBad := goodIn_r _ [8, 9, 26, 27, 28, 29, 30, 31, 32, 33, 34, 35, 36, 37] rfl gw_wsX10_refuseBad
set_option maxRecDepth 20000 in
theorem gX10_count_X10_refuseBad : GoodIn wsX10_count (wsV RX10 90 RX10 yX10_refuseBad wsX10_refuseBad) := goodIn_app (goodIn_r _ [5, 6, 7, 3] (by exact rfl) (by decide +kernel)) ggX10_count_X10_refuseBad
set_option maxRecDepth 20000 in
theorem gw_wsX10_howMany : wsX10_howMany.all goodWord = true := by decide +kernel
set_option maxRecDepth 20000 in
theorem ggX10_count_X10_howMany : GoodIn wsX10_count wsX10_howMany := goodIn_r _ [13, 14, 15, 16, 17, 18, 19, 20, 21, 22, 23, 24, 25, 26, 27, 28, 29, 30, 31, 32, 33, 34, 35, 36, 37, 38, 39, 40, 41, 42, 43, 44, 45, 46, 47, 48, 49, 50, 51, 52, 53, 54, 55, 56, 57, 58, 59, 60, 61, 62, 63, 64, 65, 66] rfl gw_wsX10_howMany
set_option maxRecDepth 20000 in
theorem gX10_count_X10_howMany : GoodIn wsX10_count (wsV RX10 283 RX10 yX10_howMany wsX10_howMany) := goodIn_app (goodIn_r _ [10, 11, 12, 3] (by exact rfl) (by decide +kernel)) ggX10_count_X10_howMany
theorem dX10_count_0 : decode cX10_count 0 = .ok (.iload_n 1, 1) := by decide +kernel
theorem dX10_count_1 : decode cX10_count 1 = .ok (.bipush 9, 2) := by decide +kernel
theorem dX10_count_3 : decode cX10_count 3 = .ok (.invokestatic 86, 3) := by decide +kernel
theorem dX10_count_6 : decode cX10_count 6 = .ok (.ifCond .ne 8, 3) := by decide +kernel
theorem dX10_count_9 : decode cX10_count 9 = .ok (.aload_n 0, 1) := by decide +kernel
theorem dX10_count_10 : decode cX10_count 10 = .ok (.invokevirtual 90, 3) := by decide +kernel
theorem dX10_count_13 : decode cX10_count 13 = .ok (.ireturn, 1) := by decide +kernel
theorem dX10_count_14 : decode cX10_count 14 = .ok (.aload_n 0, 1) := by decide +kernel
theorem dX10_count_15 : decode cX10_count 15 = .ok (.iload_n 1, 1) := by decide +kernel
theorem dX10_count_16 : decode cX10_count 16 = .ok (.invokevirtual 283, 3) := by decide +kernel
theorem dX10_count_19 : decode cX10_count 19 = .ok (.ireturn, 1) := by decide +kernel
set_option maxRecDepth 20000 in
theorem ggX10_digest_X10_howMany : GoodIn wsX10_digest wsX10_howMany := goodIn_r _ [20, 2, 3, 7, 5, 21, 22, 23, 10, 12, 24, 25, 26, 34, 35, 36, 37, 38, 39, 40, 41, 42, 43, 44, 45, 46, 47, 48, 49, 50, 51, 52, 53, 54, 55, 56, 57, 58, 59, 60, 61, 62, 63, 64, 65, 66, 67, 68, 69, 70, 71, 72, 73, 74] rfl gw_wsX10_howMany
set_option maxRecDepth 20000 in
theorem gX10_digest_X10_howMany : GoodIn wsX10_digest (wsV RX10 283 RX10 yX10_howMany wsX10_howMany) := goodIn_app (goodIn_r _ [16, 17, 18, 19] (by exact rfl) (by decide +kernel)) ggX10_digest_X10_howMany
set_option maxRecDepth 20000 in
theorem gw_wsX10_mix : wsX10_mix.all goodWord = true := by decide +kernel
set_option maxRecDepth 20000 in
theorem ggX10_digest_X10_mix : GoodIn wsX10_digest wsX10_mix := goodIn_r _ [29, 30] rfl gw_wsX10_mix
set_option maxRecDepth 20000 in
theorem gX10_digest_X10_mix : GoodIn wsX10_digest (va_wsS RX10 288 yX10_mix wsX10_mix) := goodIn_app (goodIn_r _ [27, 28, 19] (by exact rfl) (by decide +kernel)) ggX10_digest_X10_mix
set_option maxRecDepth 20000 in
theorem gw_wsX10_mixRow : wsX10_mixRow.all goodWord = true := by decide +kernel
set_option maxRecDepth 20000 in
theorem ggX10_digest_X10_mixRow : GoodIn wsX10_digest wsX10_mixRow := goodIn_r _ [33, 27, 28, 19, 29, 30] rfl gw_wsX10_mixRow
set_option maxRecDepth 20000 in
theorem gX10_digest_X10_mixRow : GoodIn wsX10_digest (va_wsS RX10 296 yX10_mixRow wsX10_mixRow) := goodIn_app (goodIn_r _ [31, 32, 19] (by exact rfl) (by decide +kernel)) ggX10_digest_X10_mixRow
theorem dX10_digest_0 : decode cX10_digest 0 = .ok (.ldc2_w 286, 3) := by decide +kernel
theorem dX10_digest_3 : decode cX10_digest 3 = .ok (.lstore_n 1, 1) := by decide +kernel
theorem dX10_digest_4 : decode cX10_digest 4 = .ok (.iconst 0, 1) := by decide +kernel
theorem dX10_digest_5 : decode cX10_digest 5 = .ok (.istore_n 3, 1) := by decide +kernel
theorem dX10_digest_6 : decode cX10_digest 6 = .ok (.iload_n 3, 1) := by decide +kernel
theorem dX10_digest_7 : decode cX10_digest 7 = .ok (.bipush 9, 2) := by decide +kernel
theorem dX10_digest_9 : decode cX10_digest 9 = .ok (.if_icmp .ge 20, 3) := by decide +kernel
theorem dX10_digest_12 : decode cX10_digest 12 = .ok (.lload_n 1, 1) := by decide +kernel
theorem dX10_digest_13 : decode cX10_digest 13 = .ok (.aload_n 0, 1) := by decide +kernel
theorem dX10_digest_14 : decode cX10_digest 14 = .ok (.iload_n 3, 1) := by decide +kernel
theorem dX10_digest_15 : decode cX10_digest 15 = .ok (.invokevirtual 283, 3) := by decide +kernel
theorem dX10_digest_18 : decode cX10_digest 18 = .ok (.i2l, 1) := by decide +kernel
theorem dX10_digest_19 : decode cX10_digest 19 = .ok (.invokestatic 288, 3) := by decide +kernel
theorem dX10_digest_22 : decode cX10_digest 22 = .ok (.lstore_n 1, 1) := by decide +kernel
theorem dX10_digest_23 : decode cX10_digest 23 = .ok (.iinc 3 1, 3) := by decide +kernel
theorem dX10_digest_26 : decode cX10_digest 26 = .ok (.goto (-20), 3) := by decide +kernel
theorem dX10_digest_29 : decode cX10_digest 29 = .ok (.iconst 0, 1) := by decide +kernel
theorem dX10_digest_30 : decode cX10_digest 30 = .ok (.istore_n 3, 1) := by decide +kernel
theorem dX10_digest_31 : decode cX10_digest 31 = .ok (.iload_n 3, 1) := by decide +kernel
theorem dX10_digest_32 : decode cX10_digest 32 = .ok (.aload_n 0, 1) := by decide +kernel
theorem dX10_digest_33 : decode cX10_digest 33 = .ok (.getfield 36, 3) := by decide +kernel
theorem dX10_digest_36 : decode cX10_digest 36 = .ok (.getfield 94, 3) := by decide +kernel
theorem dX10_digest_39 : decode cX10_digest 39 = .ok (.if_icmp .ge 40, 3) := by decide +kernel
theorem dX10_digest_42 : decode cX10_digest 42 = .ok (.lload_n 1, 1) := by decide +kernel
theorem dX10_digest_43 : decode cX10_digest 43 = .ok (.aload_n 0, 1) := by decide +kernel
theorem dX10_digest_44 : decode cX10_digest 44 = .ok (.getfield 36, 3) := by decide +kernel
theorem dX10_digest_47 : decode cX10_digest 47 = .ok (.getfield 182, 3) := by decide +kernel
theorem dX10_digest_50 : decode cX10_digest 50 = .ok (.iload_n 3, 1) := by decide +kernel
theorem dX10_digest_51 : decode cX10_digest 51 = .ok (.iaload, 1) := by decide +kernel
theorem dX10_digest_52 : decode cX10_digest 52 = .ok (.i2l, 1) := by decide +kernel
theorem dX10_digest_53 : decode cX10_digest 53 = .ok (.invokestatic 288, 3) := by decide +kernel
theorem dX10_digest_56 : decode cX10_digest 56 = .ok (.aload_n 0, 1) := by decide +kernel
theorem dX10_digest_57 : decode cX10_digest 57 = .ok (.getfield 36, 3) := by decide +kernel
theorem dX10_digest_60 : decode cX10_digest 60 = .ok (.getfield 140, 3) := by decide +kernel
theorem dX10_digest_63 : decode cX10_digest 63 = .ok (.getfield 185, 3) := by decide +kernel
theorem dX10_digest_66 : decode cX10_digest 66 = .ok (.iload_n 3, 1) := by decide +kernel
theorem dX10_digest_67 : decode cX10_digest 67 = .ok (.iaload, 1) := by decide +kernel
theorem dX10_digest_68 : decode cX10_digest 68 = .ok (.i2l, 1) := by decide +kernel
theorem dX10_digest_69 : decode cX10_digest 69 = .ok (.invokestatic 288, 3) := by decide +kernel
theorem dX10_digest_72 : decode cX10_digest 72 = .ok (.lstore_n 1, 1) := by decide +kernel
theorem dX10_digest_73 : decode cX10_digest 73 = .ok (.iinc 3 1, 3) := by decide +kernel
theorem dX10_digest_76 : decode cX10_digest 76 = .ok (.goto (-45), 3) := by decide +kernel
theorem dX10_digest_79 : decode cX10_digest 79 = .ok (.iconst 0, 1) := by decide +kernel
theorem dX10_digest_80 : decode cX10_digest 80 = .ok (.istore_n 3, 1) := by decide +kernel
theorem dX10_digest_81 : decode cX10_digest 81 = .ok (.iload_n 3, 1) := by decide +kernel
theorem dX10_digest_82 : decode cX10_digest 82 = .ok (.aload_n 0, 1) := by decide +kernel
theorem dX10_digest_83 : decode cX10_digest 83 = .ok (.getfield 36, 3) := by decide +kernel
theorem dX10_digest_86 : decode cX10_digest 86 = .ok (.getfield 115, 3) := by decide +kernel
theorem dX10_digest_89 : decode cX10_digest 89 = .ok (.if_icmp .ge 43, 3) := by decide +kernel
theorem dX10_digest_92 : decode cX10_digest 92 = .ok (.lload_n 1, 1) := by decide +kernel
theorem dX10_digest_93 : decode cX10_digest 93 = .ok (.aload_n 0, 1) := by decide +kernel
theorem dX10_digest_94 : decode cX10_digest 94 = .ok (.getfield 36, 3) := by decide +kernel
theorem dX10_digest_97 : decode cX10_digest 97 = .ok (.getfield 140, 3) := by decide +kernel
theorem dX10_digest_100 : decode cX10_digest 100 = .ok (.getfield 170, 3) := by decide +kernel
theorem dX10_digest_103 : decode cX10_digest 103 = .ok (.iload_n 3, 1) := by decide +kernel
theorem dX10_digest_104 : decode cX10_digest 104 = .ok (.iaload, 1) := by decide +kernel
theorem dX10_digest_105 : decode cX10_digest 105 = .ok (.i2l, 1) := by decide +kernel
theorem dX10_digest_106 : decode cX10_digest 106 = .ok (.invokestatic 288, 3) := by decide +kernel
theorem dX10_digest_109 : decode cX10_digest 109 = .ok (.aload_n 0, 1) := by decide +kernel
theorem dX10_digest_110 : decode cX10_digest 110 = .ok (.getfield 36, 3) := by decide +kernel
theorem dX10_digest_113 : decode cX10_digest 113 = .ok (.getfield 140, 3) := by decide +kernel
theorem dX10_digest_116 : decode cX10_digest 116 = .ok (.getfield 191, 3) := by decide +kernel
theorem dX10_digest_119 : decode cX10_digest 119 = .ok (.iload_n 3, 1) := by decide +kernel
theorem dX10_digest_120 : decode cX10_digest 120 = .ok (.iaload, 1) := by decide +kernel
theorem dX10_digest_121 : decode cX10_digest 121 = .ok (.i2l, 1) := by decide +kernel
theorem dX10_digest_122 : decode cX10_digest 122 = .ok (.invokestatic 288, 3) := by decide +kernel
theorem dX10_digest_125 : decode cX10_digest 125 = .ok (.lstore_n 1, 1) := by decide +kernel
theorem dX10_digest_126 : decode cX10_digest 126 = .ok (.iinc 3 1, 3) := by decide +kernel
theorem dX10_digest_129 : decode cX10_digest 129 = .ok (.goto (-48), 3) := by decide +kernel
theorem dX10_digest_132 : decode cX10_digest 132 = .ok (.iconst 0, 1) := by decide +kernel
theorem dX10_digest_133 : decode cX10_digest 133 = .ok (.istore_n 3, 1) := by decide +kernel
theorem dX10_digest_134 : decode cX10_digest 134 = .ok (.iload_n 3, 1) := by decide +kernel
theorem dX10_digest_135 : decode cX10_digest 135 = .ok (.aload_n 0, 1) := by decide +kernel
theorem dX10_digest_136 : decode cX10_digest 136 = .ok (.getfield 36, 3) := by decide +kernel
theorem dX10_digest_139 : decode cX10_digest 139 = .ok (.getfield 240, 3) := by decide +kernel
theorem dX10_digest_142 : decode cX10_digest 142 = .ok (.if_icmp .ge 23, 3) := by decide +kernel
theorem dX10_digest_145 : decode cX10_digest 145 = .ok (.lload_n 1, 1) := by decide +kernel
theorem dX10_digest_146 : decode cX10_digest 146 = .ok (.aload_n 0, 1) := by decide +kernel
theorem dX10_digest_147 : decode cX10_digest 147 = .ok (.getfield 36, 3) := by decide +kernel
theorem dX10_digest_150 : decode cX10_digest 150 = .ok (.getfield 292, 3) := by decide +kernel
theorem dX10_digest_153 : decode cX10_digest 153 = .ok (.iload_n 3, 1) := by decide +kernel
theorem dX10_digest_154 : decode cX10_digest 154 = .ok (.aaload, 1) := by decide +kernel
theorem dX10_digest_155 : decode cX10_digest 155 = .ok (.invokestatic 296, 3) := by decide +kernel
theorem dX10_digest_158 : decode cX10_digest 158 = .ok (.lstore_n 1, 1) := by decide +kernel
theorem dX10_digest_159 : decode cX10_digest 159 = .ok (.iinc 3 1, 3) := by decide +kernel
theorem dX10_digest_162 : decode cX10_digest 162 = .ok (.goto (-28), 3) := by decide +kernel
theorem dX10_digest_165 : decode cX10_digest 165 = .ok (.iconst 0, 1) := by decide +kernel
theorem dX10_digest_166 : decode cX10_digest 166 = .ok (.istore_n 3, 1) := by decide +kernel
theorem dX10_digest_167 : decode cX10_digest 167 = .ok (.iload_n 3, 1) := by decide +kernel
theorem dX10_digest_168 : decode cX10_digest 168 = .ok (.aload_n 0, 1) := by decide +kernel
theorem dX10_digest_169 : decode cX10_digest 169 = .ok (.getfield 36, 3) := by decide +kernel
theorem dX10_digest_172 : decode cX10_digest 172 = .ok (.getfield 250, 3) := by decide +kernel
theorem dX10_digest_175 : decode cX10_digest 175 = .ok (.if_icmp .ge 23, 3) := by decide +kernel
theorem dX10_digest_178 : decode cX10_digest 178 = .ok (.lload_n 1, 1) := by decide +kernel
theorem dX10_digest_179 : decode cX10_digest 179 = .ok (.aload_n 0, 1) := by decide +kernel
theorem dX10_digest_180 : decode cX10_digest 180 = .ok (.getfield 36, 3) := by decide +kernel
theorem dX10_digest_183 : decode cX10_digest 183 = .ok (.getfield 300, 3) := by decide +kernel
theorem dX10_digest_186 : decode cX10_digest 186 = .ok (.iload_n 3, 1) := by decide +kernel
theorem dX10_digest_187 : decode cX10_digest 187 = .ok (.aaload, 1) := by decide +kernel
theorem dX10_digest_188 : decode cX10_digest 188 = .ok (.invokestatic 296, 3) := by decide +kernel
theorem dX10_digest_191 : decode cX10_digest 191 = .ok (.lstore_n 1, 1) := by decide +kernel
theorem dX10_digest_192 : decode cX10_digest 192 = .ok (.iinc 3 1, 3) := by decide +kernel
theorem dX10_digest_195 : decode cX10_digest 195 = .ok (.goto (-28), 3) := by decide +kernel
theorem dX10_digest_198 : decode cX10_digest 198 = .ok (.lload_n 1, 1) := by decide +kernel
theorem dX10_digest_199 : decode cX10_digest 199 = .ok (.aload_n 0, 1) := by decide +kernel
theorem dX10_digest_200 : decode cX10_digest 200 = .ok (.getfield 79, 3) := by decide +kernel
theorem dX10_digest_203 : decode cX10_digest 203 = .ok (.i2l, 1) := by decide +kernel
theorem dX10_digest_204 : decode cX10_digest 204 = .ok (.invokestatic 288, 3) := by decide +kernel
theorem dX10_digest_207 : decode cX10_digest 207 = .ok (.aload_n 0, 1) := by decide +kernel
theorem dX10_digest_208 : decode cX10_digest 208 = .ok (.getfield 83, 3) := by decide +kernel
theorem dX10_digest_211 : decode cX10_digest 211 = .ok (.i2l, 1) := by decide +kernel
theorem dX10_digest_212 : decode cX10_digest 212 = .ok (.invokestatic 288, 3) := by decide +kernel
theorem dX10_digest_215 : decode cX10_digest 215 = .ok (.lreturn, 1) := by decide +kernel
theorem dX10_refuseBad_0 : decode cX10_refuseBad 0 = .ok (.aload_n 0, 1) := by decide +kernel
theorem dX10_refuseBad_1 : decode cX10_refuseBad 1 = .ok (.getfield 76, 3) := by decide +kernel
theorem dX10_refuseBad_4 : decode cX10_refuseBad 4 = .ok (.iconst 0, 1) := by decide +kernel
theorem dX10_refuseBad_5 : decode cX10_refuseBad 5 = .ok (.dup2, 1) := by decide +kernel
theorem dX10_refuseBad_6 : decode cX10_refuseBad 6 = .ok (.iaload, 1) := by decide +kernel
theorem dX10_refuseBad_7 : decode cX10_refuseBad 7 = .ok (.iconst 1, 1) := by decide +kernel
theorem dX10_refuseBad_8 : decode cX10_refuseBad 8 = .ok (.iadd, 1) := by decide +kernel
theorem dX10_refuseBad_9 : decode cX10_refuseBad 9 = .ok (.iastore, 1) := by decide +kernel
theorem dX10_refuseBad_10 : decode cX10_refuseBad 10 = .ok (.bipush (-2), 2) := by decide +kernel
theorem dX10_refuseBad_12 : decode cX10_refuseBad 12 = .ok (.ireturn, 1) := by decide +kernel
theorem dX10_refuseNo_0 : decode cX10_refuseNo 0 = .ok (.aload_n 0, 1) := by decide +kernel
theorem dX10_refuseNo_1 : decode cX10_refuseNo 1 = .ok (.getfield 76, 3) := by decide +kernel
theorem dX10_refuseNo_4 : decode cX10_refuseNo 4 = .ok (.iconst 1, 1) := by decide +kernel
theorem dX10_refuseNo_5 : decode cX10_refuseNo 5 = .ok (.dup2, 1) := by decide +kernel
theorem dX10_refuseNo_6 : decode cX10_refuseNo 6 = .ok (.iaload, 1) := by decide +kernel
theorem dX10_refuseNo_7 : decode cX10_refuseNo 7 = .ok (.iconst 1, 1) := by decide +kernel
theorem dX10_refuseNo_8 : decode cX10_refuseNo 8 = .ok (.iadd, 1) := by decide +kernel
theorem dX10_refuseNo_9 : decode cX10_refuseNo 9 = .ok (.iastore, 1) := by decide +kernel
theorem dX10_refuseNo_10 : decode cX10_refuseNo 10 = .ok (.bipush (-3), 2) := by decide +kernel
theorem dX10_refuseNo_12 : decode cX10_refuseNo 12 = .ok (.ireturn, 1) := by decide +kernel
theorem dX10_refuseFull_0 : decode cX10_refuseFull 0 = .ok (.aload_n 0, 1) := by decide +kernel
theorem dX10_refuseFull_1 : decode cX10_refuseFull 1 = .ok (.getfield 76, 3) := by decide +kernel
theorem dX10_refuseFull_4 : decode cX10_refuseFull 4 = .ok (.iconst 2, 1) := by decide +kernel
theorem dX10_refuseFull_5 : decode cX10_refuseFull 5 = .ok (.dup2, 1) := by decide +kernel
theorem dX10_refuseFull_6 : decode cX10_refuseFull 6 = .ok (.iaload, 1) := by decide +kernel
theorem dX10_refuseFull_7 : decode cX10_refuseFull 7 = .ok (.iconst 1, 1) := by decide +kernel
theorem dX10_refuseFull_8 : decode cX10_refuseFull 8 = .ok (.iadd, 1) := by decide +kernel
theorem dX10_refuseFull_9 : decode cX10_refuseFull 9 = .ok (.iastore, 1) := by decide +kernel
theorem dX10_refuseFull_10 : decode cX10_refuseFull 10 = .ok (.bipush (-4), 2) := by decide +kernel
theorem dX10_refuseFull_12 : decode cX10_refuseFull 12 = .ok (.ireturn, 1) := by decide +kernel
theorem dX10_refuseTen_0 : decode cX10_refuseTen 0 = .ok (.aload_n 0, 1) := by decide +kernel
theorem dX10_refuseTen_1 : decode cX10_refuseTen 1 = .ok (.getfield 76, 3) := by decide +kernel
theorem dX10_refuseTen_4 : decode cX10_refuseTen 4 = .ok (.iconst 0, 1) := by decide +kernel
theorem dX10_refuseTen_5 : decode cX10_refuseTen 5 = .ok (.dup2, 1) := by decide +kernel
theorem dX10_refuseTen_6 : decode cX10_refuseTen 6 = .ok (.iaload, 1) := by decide +kernel
theorem dX10_refuseTen_7 : decode cX10_refuseTen 7 = .ok (.iconst 1, 1) := by decide +kernel
theorem dX10_refuseTen_8 : decode cX10_refuseTen 8 = .ok (.iadd, 1) := by decide +kernel
theorem dX10_refuseTen_9 : decode cX10_refuseTen 9 = .ok (.iastore, 1) := by decide +kernel
theorem dX10_refuseTen_10 : decode cX10_refuseTen 10 = .ok (.bipush (-10), 2) := by decide +kernel
theorem dX10_refuseTen_12 : decode cX10_refuseTen 12 = .ok (.ireturn, 1) := by decide +kernel
theorem dX10_isIn_0 : decode cX10_isIn 0 = .ok (.iload_n 0, 1) := by decide +kernel
theorem dX10_isIn_1 : decode cX10_isIn 1 = .ok (.iload_n 1, 1) := by decide +kernel
theorem dX10_isIn_2 : decode cX10_isIn 2 = .ok (.if_icmp .lt 12, 3) := by decide +kernel
theorem dX10_isIn_5 : decode cX10_isIn 5 = .ok (.iload_n 0, 1) := by decide +kernel
theorem dX10_isIn_6 : decode cX10_isIn 6 = .ok (.iload_n 2, 1) := by decide +kernel
theorem dX10_isIn_7 : decode cX10_isIn 7 = .ok (.if_icmp .gt 7, 3) := by decide +kernel
theorem dX10_isIn_10 : decode cX10_isIn 10 = .ok (.iconst 1, 1) := by decide +kernel
theorem dX10_isIn_11 : decode cX10_isIn 11 = .ok (.goto 4, 3) := by decide +kernel
theorem dX10_isIn_14 : decode cX10_isIn 14 = .ok (.iconst 0, 1) := by decide +kernel
theorem dX10_isIn_15 : decode cX10_isIn 15 = .ok (.ireturn, 1) := by decide +kernel
theorem dX10_isBelow_0 : decode cX10_isBelow 0 = .ok (.iload_n 0, 1) := by decide +kernel
theorem dX10_isBelow_1 : decode cX10_isBelow 1 = .ok (.ifCond .lt 12, 3) := by decide +kernel
theorem dX10_isBelow_4 : decode cX10_isBelow 4 = .ok (.iload_n 0, 1) := by decide +kernel
theorem dX10_isBelow_5 : decode cX10_isBelow 5 = .ok (.iload_n 1, 1) := by decide +kernel
theorem dX10_isBelow_6 : decode cX10_isBelow 6 = .ok (.if_icmp .ge 7, 3) := by decide +kernel
theorem dX10_isBelow_9 : decode cX10_isBelow 9 = .ok (.iconst 1, 1) := by decide +kernel
theorem dX10_isBelow_10 : decode cX10_isBelow 10 = .ok (.goto 4, 3) := by decide +kernel
theorem dX10_isBelow_13 : decode cX10_isBelow 13 = .ok (.iconst 0, 1) := by decide +kernel
theorem dX10_isBelow_14 : decode cX10_isBelow 14 = .ok (.ireturn, 1) := by decide +kernel
set_option maxRecDepth 20000 in
theorem ggX10_isLight_X10_isIn : GoodIn wsX10_isLight wsX10_isIn := goodIn_r _ [4] rfl gw_wsX10_isIn
set_option maxRecDepth 20000 in
theorem gX10_isLight_X10_isIn : GoodIn wsX10_isLight (va_wsS RX10 147 yX10_isIn wsX10_isIn) := goodIn_app (goodIn_r _ [1, 2, 3] (by exact rfl) (by decide +kernel)) ggX10_isLight_X10_isIn
theorem dX10_isLight_0 : decode cX10_isLight 0 = .ok (.iload_n 0, 1) := by decide +kernel
theorem dX10_isLight_1 : decode cX10_isLight 1 = .ok (.iconst 0, 1) := by decide +kernel
theorem dX10_isLight_2 : decode cX10_isLight 2 = .ok (.bipush 60, 2) := by decide +kernel
theorem dX10_isLight_4 : decode cX10_isLight 4 = .ok (.invokestatic 147, 3) := by decide +kernel
theorem dX10_isLight_7 : decode cX10_isLight 7 = .ok (.ireturn, 1) := by decide +kernel
theorem dX10_howMany_0 : decode cX10_howMany 0 = .ok (.iload_n 1, 1) := by decide +kernel
theorem dX10_howMany_1 : decode cX10_howMany 1 = .ok (.tableswitch 120 0 7 #[47, 55, 63, 74, 85, 96, 104, 112], 47) := by decide +kernel
theorem dX10_howMany_48 : decode cX10_howMany 48 = .ok (.aload_n 0, 1) := by decide +kernel
theorem dX10_howMany_49 : decode cX10_howMany 49 = .ok (.getfield 36, 3) := by decide +kernel
theorem dX10_howMany_52 : decode cX10_howMany 52 = .ok (.getfield 94, 3) := by decide +kernel
theorem dX10_howMany_55 : decode cX10_howMany 55 = .ok (.ireturn, 1) := by decide +kernel
theorem dX10_howMany_56 : decode cX10_howMany 56 = .ok (.aload_n 0, 1) := by decide +kernel
theorem dX10_howMany_57 : decode cX10_howMany 57 = .ok (.getfield 36, 3) := by decide +kernel
theorem dX10_howMany_60 : decode cX10_howMany 60 = .ok (.getfield 115, 3) := by decide +kernel
theorem dX10_howMany_63 : decode cX10_howMany 63 = .ok (.ireturn, 1) := by decide +kernel
theorem dX10_howMany_64 : decode cX10_howMany 64 = .ok (.aload_n 0, 1) := by decide +kernel
theorem dX10_howMany_65 : decode cX10_howMany 65 = .ok (.getfield 36, 3) := by decide +kernel
theorem dX10_howMany_68 : decode cX10_howMany 68 = .ok (.getfield 140, 3) := by decide +kernel
theorem dX10_howMany_71 : decode cX10_howMany 71 = .ok (.getfield 151, 3) := by decide +kernel
theorem dX10_howMany_74 : decode cX10_howMany 74 = .ok (.ireturn, 1) := by decide +kernel
theorem dX10_howMany_75 : decode cX10_howMany 75 = .ok (.aload_n 0, 1) := by decide +kernel
theorem dX10_howMany_76 : decode cX10_howMany 76 = .ok (.getfield 36, 3) := by decide +kernel
theorem dX10_howMany_79 : decode cX10_howMany 79 = .ok (.getfield 140, 3) := by decide +kernel
theorem dX10_howMany_82 : decode cX10_howMany 82 = .ok (.getfield 173, 3) := by decide +kernel
theorem dX10_howMany_85 : decode cX10_howMany 85 = .ok (.ireturn, 1) := by decide +kernel
theorem dX10_howMany_86 : decode cX10_howMany 86 = .ok (.aload_n 0, 1) := by decide +kernel
theorem dX10_howMany_87 : decode cX10_howMany 87 = .ok (.getfield 36, 3) := by decide +kernel
theorem dX10_howMany_90 : decode cX10_howMany 90 = .ok (.getfield 140, 3) := by decide +kernel
theorem dX10_howMany_93 : decode cX10_howMany 93 = .ok (.getfield 164, 3) := by decide +kernel
theorem dX10_howMany_96 : decode cX10_howMany 96 = .ok (.ireturn, 1) := by decide +kernel
theorem dX10_howMany_97 : decode cX10_howMany 97 = .ok (.aload_n 0, 1) := by decide +kernel
theorem dX10_howMany_98 : decode cX10_howMany 98 = .ok (.getfield 36, 3) := by decide +kernel
theorem dX10_howMany_101 : decode cX10_howMany 101 = .ok (.getfield 240, 3) := by decide +kernel
theorem dX10_howMany_104 : decode cX10_howMany 104 = .ok (.ireturn, 1) := by decide +kernel
theorem dX10_howMany_105 : decode cX10_howMany 105 = .ok (.aload_n 0, 1) := by decide +kernel
theorem dX10_howMany_106 : decode cX10_howMany 106 = .ok (.getfield 36, 3) := by decide +kernel
theorem dX10_howMany_109 : decode cX10_howMany 109 = .ok (.getfield 250, 3) := by decide +kernel
theorem dX10_howMany_112 : decode cX10_howMany 112 = .ok (.ireturn, 1) := by decide +kernel
theorem dX10_howMany_113 : decode cX10_howMany 113 = .ok (.aload_n 0, 1) := by decide +kernel
theorem dX10_howMany_114 : decode cX10_howMany 114 = .ok (.getfield 36, 3) := by decide +kernel
theorem dX10_howMany_117 : decode cX10_howMany 117 = .ok (.getfield 176, 3) := by decide +kernel
theorem dX10_howMany_120 : decode cX10_howMany 120 = .ok (.ireturn, 1) := by decide +kernel
theorem dX10_howMany_121 : decode cX10_howMany 121 = .ok (.aload_n 0, 1) := by decide +kernel
theorem dX10_howMany_122 : decode cX10_howMany 122 = .ok (.getfield 51, 3) := by decide +kernel
theorem dX10_howMany_125 : decode cX10_howMany 125 = .ok (.getfield 122, 3) := by decide +kernel
theorem dX10_howMany_128 : decode cX10_howMany 128 = .ok (.ireturn, 1) := by decide +kernel
theorem dX10_mix_0 : decode cX10_mix 0 = .ok (.ldc2_w 303, 3) := by decide +kernel
theorem dX10_mix_3 : decode cX10_mix 3 = .ok (.lload_n 0, 1) := by decide +kernel
theorem dX10_mix_4 : decode cX10_mix 4 = .ok (.lmul, 1) := by decide +kernel
theorem dX10_mix_5 : decode cX10_mix 5 = .ok (.lload_n 2, 1) := by decide +kernel
theorem dX10_mix_6 : decode cX10_mix 6 = .ok (.ladd, 1) := by decide +kernel
theorem dX10_mix_7 : decode cX10_mix 7 = .ok (.lreturn, 1) := by decide +kernel
set_option maxRecDepth 20000 in
theorem ggX10_mixRow_X10_mix : GoodIn wsX10_mixRow wsX10_mix := goodIn_r _ [4, 5] rfl gw_wsX10_mix
set_option maxRecDepth 20000 in
theorem gX10_mixRow_X10_mix : GoodIn wsX10_mixRow (va_wsS RX10 288 yX10_mix wsX10_mix) := goodIn_app (goodIn_r _ [1, 2, 3] (by exact rfl) (by decide +kernel)) ggX10_mixRow_X10_mix
theorem dX10_mixRow_0 : decode cX10_mixRow 0 = .ok (.lload_n 0, 1) := by decide +kernel
theorem dX10_mixRow_1 : decode cX10_mixRow 1 = .ok (.lstore_n 3, 1) := by decide +kernel
theorem dX10_mixRow_2 : decode cX10_mixRow 2 = .ok (.aload_n 2, 1) := by decide +kernel
theorem dX10_mixRow_3 : decode cX10_mixRow 3 = .ok (.astore 5, 2) := by decide +kernel
theorem dX10_mixRow_5 : decode cX10_mixRow 5 = .ok (.aload 5, 2) := by decide +kernel
theorem dX10_mixRow_7 : decode cX10_mixRow 7 = .ok (.arraylength, 1) := by decide +kernel
theorem dX10_mixRow_8 : decode cX10_mixRow 8 = .ok (.istore 6, 2) := by decide +kernel
theorem dX10_mixRow_10 : decode cX10_mixRow 10 = .ok (.iconst 0, 1) := by decide +kernel
theorem dX10_mixRow_11 : decode cX10_mixRow 11 = .ok (.istore 7, 2) := by decide +kernel
theorem dX10_mixRow_13 : decode cX10_mixRow 13 = .ok (.iload 7, 2) := by decide +kernel
theorem dX10_mixRow_15 : decode cX10_mixRow 15 = .ok (.iload 6, 2) := by decide +kernel
theorem dX10_mixRow_17 : decode cX10_mixRow 17 = .ok (.if_icmp .ge 24, 3) := by decide +kernel
theorem dX10_mixRow_20 : decode cX10_mixRow 20 = .ok (.aload 5, 2) := by decide +kernel
theorem dX10_mixRow_22 : decode cX10_mixRow 22 = .ok (.iload 7, 2) := by decide +kernel
theorem dX10_mixRow_24 : decode cX10_mixRow 24 = .ok (.iaload, 1) := by decide +kernel
theorem dX10_mixRow_25 : decode cX10_mixRow 25 = .ok (.istore 8, 2) := by decide +kernel
theorem dX10_mixRow_27 : decode cX10_mixRow 27 = .ok (.lload_n 3, 1) := by decide +kernel
theorem dX10_mixRow_28 : decode cX10_mixRow 28 = .ok (.iload 8, 2) := by decide +kernel
theorem dX10_mixRow_30 : decode cX10_mixRow 30 = .ok (.i2l, 1) := by decide +kernel
theorem dX10_mixRow_31 : decode cX10_mixRow 31 = .ok (.invokestatic 288, 3) := by decide +kernel
theorem dX10_mixRow_34 : decode cX10_mixRow 34 = .ok (.lstore_n 3, 1) := by decide +kernel
theorem dX10_mixRow_35 : decode cX10_mixRow 35 = .ok (.iinc 7 1, 3) := by decide +kernel
theorem dX10_mixRow_38 : decode cX10_mixRow 38 = .ok (.goto (-25), 3) := by decide +kernel
theorem dX10_mixRow_41 : decode cX10_mixRow 41 = .ok (.lload_n 3, 1) := by decide +kernel
theorem dX10_mixRow_42 : decode cX10_mixRow 42 = .ok (.lreturn, 1) := by decide +kernel
theorem dX10_faded_0 : decode cX10_faded 0 = .ok (.iload_n 0, 1) := by decide +kernel
theorem dX10_faded_1 : decode cX10_faded 1 = .ok (.iload_n 0, 1) := by decide +kernel
theorem dX10_faded_2 : decode cX10_faded 2 = .ok (.iconst 3, 1) := by decide +kernel
theorem dX10_faded_3 : decode cX10_faded 3 = .ok (.iadd, 1) := by decide +kernel
theorem dX10_faded_4 : decode cX10_faded 4 = .ok (.iconst 4, 1) := by decide +kernel
theorem dX10_faded_5 : decode cX10_faded 5 = .ok (.idiv, 1) := by decide +kernel
theorem dX10_faded_6 : decode cX10_faded 6 = .ok (.isub, 1) := by decide +kernel
theorem dX10_faded_7 : decode cX10_faded 7 = .ok (.ireturn, 1) := by decide +kernel
theorem dX10_commonDivisor_0 : decode cX10_commonDivisor 0 = .ok (.iload_n 0, 1) := by decide +kernel
theorem dX10_commonDivisor_1 : decode cX10_commonDivisor 1 = .ok (.istore_n 2, 1) := by decide +kernel
theorem dX10_commonDivisor_2 : decode cX10_commonDivisor 2 = .ok (.iload_n 1, 1) := by decide +kernel
theorem dX10_commonDivisor_3 : decode cX10_commonDivisor 3 = .ok (.istore_n 3, 1) := by decide +kernel
theorem dX10_commonDivisor_4 : decode cX10_commonDivisor 4 = .ok (.iconst 0, 1) := by decide +kernel
theorem dX10_commonDivisor_5 : decode cX10_commonDivisor 5 = .ok (.istore 4, 2) := by decide +kernel
theorem dX10_commonDivisor_7 : decode cX10_commonDivisor 7 = .ok (.iload 4, 2) := by decide +kernel
theorem dX10_commonDivisor_9 : decode cX10_commonDivisor 9 = .ok (.bipush 64, 2) := by decide +kernel
theorem dX10_commonDivisor_11 : decode cX10_commonDivisor 11 = .ok (.if_icmp .ge 23, 3) := by decide +kernel
theorem dX10_commonDivisor_14 : decode cX10_commonDivisor 14 = .ok (.iload_n 3, 1) := by decide +kernel
theorem dX10_commonDivisor_15 : decode cX10_commonDivisor 15 = .ok (.ifCond .eq 19, 3) := by decide +kernel
theorem dX10_commonDivisor_18 : decode cX10_commonDivisor 18 = .ok (.iload_n 2, 1) := by decide +kernel
theorem dX10_commonDivisor_19 : decode cX10_commonDivisor 19 = .ok (.iload_n 3, 1) := by decide +kernel
theorem dX10_commonDivisor_20 : decode cX10_commonDivisor 20 = .ok (.irem, 1) := by decide +kernel
theorem dX10_commonDivisor_21 : decode cX10_commonDivisor 21 = .ok (.istore 5, 2) := by decide +kernel
theorem dX10_commonDivisor_23 : decode cX10_commonDivisor 23 = .ok (.iload_n 3, 1) := by decide +kernel
theorem dX10_commonDivisor_24 : decode cX10_commonDivisor 24 = .ok (.istore_n 2, 1) := by decide +kernel
theorem dX10_commonDivisor_25 : decode cX10_commonDivisor 25 = .ok (.iload 5, 2) := by decide +kernel
theorem dX10_commonDivisor_27 : decode cX10_commonDivisor 27 = .ok (.istore_n 3, 1) := by decide +kernel
theorem dX10_commonDivisor_28 : decode cX10_commonDivisor 28 = .ok (.iinc 4 1, 3) := by decide +kernel
theorem dX10_commonDivisor_31 : decode cX10_commonDivisor 31 = .ok (.goto (-24), 3) := by decide +kernel
theorem dX10_commonDivisor_34 : decode cX10_commonDivisor 34 = .ok (.iload_n 2, 1) := by decide +kernel
theorem dX10_commonDivisor_35 : decode cX10_commonDivisor 35 = .ok (.ifCond .ne 7, 3) := by decide +kernel
theorem dX10_commonDivisor_38 : decode cX10_commonDivisor 38 = .ok (.iconst 1, 1) := by decide +kernel
theorem dX10_commonDivisor_39 : decode cX10_commonDivisor 39 = .ok (.goto 4, 3) := by decide +kernel
theorem dX10_commonDivisor_42 : decode cX10_commonDivisor 42 = .ok (.iload_n 2, 1) := by decide +kernel
theorem dX10_commonDivisor_43 : decode cX10_commonDivisor 43 = .ok (.ireturn, 1) := by decide +kernel
set_option maxRecDepth 20000 in
theorem ggX10_showAll_X4_shows : GoodIn wsX10_showAll wsX4_shows := goodIn_r _ [9, 10, 11, 12, 13, 14, 15, 16, 17, 18, 19, 20, 21, 22, 23, 24, 25, 26, 27, 28, 29, 30, 31, 32, 33, 34, 35, 36, 37, 38, 39, 40, 41, 42, 43, 44, 45, 46, 47, 48, 49, 50, 51, 52, 53, 54, 55, 56, 57, 58, 59, 60, 61, 74, 75, 76, 77, 78, 79, 80, 81, 82, 83, 84, 85, 86, 87, 88, 89, 90] rfl gw_wsX4_shows
set_option maxRecDepth 20000 in
theorem gX10_showAll_X4_shows : GoodIn wsX10_showAll (wsV RX10 197 RX4 yX4_shows wsX4_shows) := goodIn_app (goodIn_r _ [5, 6, 7, 8] (by exact rfl) (by decide +kernel)) ggX10_showAll_X4_shows
theorem dX10_showAll_0 : decode cX10_showAll 0 = .ok (.iconst 0, 1) := by decide +kernel
theorem dX10_showAll_1 : decode cX10_showAll 1 = .ok (.istore_n 2, 1) := by decide +kernel
theorem dX10_showAll_2 : decode cX10_showAll 2 = .ok (.iload_n 2, 1) := by decide +kernel
theorem dX10_showAll_3 : decode cX10_showAll 3 = .ok (.aload_n 0, 1) := by decide +kernel
theorem dX10_showAll_4 : decode cX10_showAll 4 = .ok (.getfield 36, 3) := by decide +kernel
theorem dX10_showAll_7 : decode cX10_showAll 7 = .ok (.getfield 94, 3) := by decide +kernel
theorem dX10_showAll_10 : decode cX10_showAll 10 = .ok (.if_icmp .ge 31, 3) := by decide +kernel
theorem dX10_showAll_13 : decode cX10_showAll 13 = .ok (.aload_n 0, 1) := by decide +kernel
theorem dX10_showAll_14 : decode cX10_showAll 14 = .ok (.getfield 69, 3) := by decide +kernel
theorem dX10_showAll_17 : decode cX10_showAll 17 = .ok (.iload_n 2, 1) := by decide +kernel
theorem dX10_showAll_18 : decode cX10_showAll 18 = .ok (.aload_n 0, 1) := by decide +kernel
theorem dX10_showAll_19 : decode cX10_showAll 19 = .ok (.getfield 36, 3) := by decide +kernel
theorem dX10_showAll_22 : decode cX10_showAll 22 = .ok (.aload_n 0, 1) := by decide +kernel
theorem dX10_showAll_23 : decode cX10_showAll 23 = .ok (.getfield 36, 3) := by decide +kernel
theorem dX10_showAll_26 : decode cX10_showAll 26 = .ok (.getfield 140, 3) := by decide +kernel
theorem dX10_showAll_29 : decode cX10_showAll 29 = .ok (.iload_n 2, 1) := by decide +kernel
theorem dX10_showAll_30 : decode cX10_showAll 30 = .ok (.iload_n 1, 1) := by decide +kernel
theorem dX10_showAll_31 : decode cX10_showAll 31 = .ok (.invokevirtual 197, 3) := by decide +kernel
theorem dX10_showAll_34 : decode cX10_showAll 34 = .ok (.iastore, 1) := by decide +kernel
theorem dX10_showAll_35 : decode cX10_showAll 35 = .ok (.iinc 2 1, 3) := by decide +kernel
theorem dX10_showAll_38 : decode cX10_showAll 38 = .ok (.goto (-36), 3) := by decide +kernel
theorem dX10_showAll_41 : decode cX10_showAll 41 = .ok (.return_, 1) := by decide +kernel
set_option maxRecDepth 20000 in
theorem gw_wsX0_offer : wsX0_offer.all goodWord = true := by decide +kernel
set_option maxRecDepth 20000 in
theorem ggX10_roam_X0_offer : GoodIn wsX10_roam wsX0_offer := goodIn_r _ [8, 9, 10, 11, 12, 13, 14, 15, 16, 17, 18, 19, 105, 106, 107] rfl gw_wsX0_offer
set_option maxRecDepth 20000 in
theorem gX10_roam_X0_offer : GoodIn wsX10_roam (wsV RX10 305 RX0 yX0_offer wsX0_offer) := goodIn_app (goodIn_r _ [4, 5, 6, 7] (by exact rfl) (by decide +kernel)) ggX10_roam_X0_offer
set_option maxRecDepth 20000 in
theorem ggX10_roam_X4_hasField : GoodIn wsX10_roam wsX4_hasField := goodIn_r _ [24, 25, 26, 27, 28, 108, 109, 110, 111, 112, 113, 114, 115, 116, 117, 118] rfl gw_wsX4_hasField
set_option maxRecDepth 20000 in
theorem gX10_roam_X4_hasField : GoodIn wsX10_roam (wsV RX10 112 RX4 yX4_hasField wsX4_hasField) := goodIn_app (goodIn_r _ [20, 21, 22, 23] (by exact rfl) (by decide +kernel)) ggX10_roam_X4_hasField
set_option maxRecDepth 20000 in
theorem gw_wsX10_stay : wsX10_stay.all goodWord = true := by decide +kernel
set_option maxRecDepth 20000 in
theorem ggX10_roam_X10_stay : GoodIn wsX10_roam wsX10_stay := goodIn_r _ [35, 36, 37, 2, 38, 39, 40, 14, 41, 42, 43, 44, 23, 45, 46, 47, 48, 49, 50, 51, 52, 53, 54, 55, 56, 57, 58, 59, 60, 61, 62, 63, 64, 65, 66, 67, 68, 69, 70, 71, 72, 73, 74, 75, 76, 77, 78, 79, 80, 81, 82, 83, 84, 85, 86, 87, 88, 13, 15, 89, 90, 91, 92, 32, 33, 34, 27, 0, 1, 3, 4, 5, 6, 7, 8, 9, 10, 11, 12, 16, 17, 18, 19, 20, 21, 22, 24, 25, 26, 28, 29, 30, 31, 93, 94, 95, 96, 97, 98, 99, 100, 101, 102, 103, 104, 105, 106, 107, 108, 109, 110, 111, 112, 113, 114, 115, 116, 117, 118, 119, 120, 121, 122, 123, 124] rfl gw_wsX10_stay
set_option maxRecDepth 20000 in
theorem gX10_roam_X10_stay : GoodIn wsX10_roam (wsV RX10 312 RX10 yX10_stay wsX10_stay) := goodIn_app (goodIn_r _ [29, 30, 31, 27] (by exact rfl) (by decide +kernel)) ggX10_roam_X10_stay
set_option maxRecDepth 20000 in
theorem ggX10_roam_X10_roam : GoodIn wsX10_roam wsX10_roam := goodIn_r _ [0, 1, 2, 3, 4, 5, 6, 7, 8, 9, 10, 11, 12, 13, 14, 15, 16, 17, 18, 19, 20, 21, 22, 23, 24, 25, 26, 27, 28, 29, 30, 31, 32, 33, 34, 35, 36, 37, 38, 39, 40, 41, 42, 43, 44, 45, 46, 47, 48, 49, 50, 51, 52, 53, 54, 55, 56, 57, 58, 59, 60, 61, 62, 63, 64, 65, 66, 67, 68, 69, 70, 71, 72, 73, 74, 75, 76, 77, 78, 79, 80, 81, 82, 83, 84, 85, 86, 87, 88, 89, 90, 91, 92, 93, 94, 95, 96, 97, 98, 99, 100, 101, 102, 103, 104, 105, 106, 107, 108, 109, 110, 111, 112, 113, 114, 115, 116, 117, 118, 119, 120, 121, 122, 123, 124] rfl gw_wsX10_roam
set_option maxRecDepth 20000 in
theorem gX10_roam_X10_roam : GoodIn wsX10_roam (wsV RX10 214 RX10 yX10_roam wsX10_roam) := goodIn_app (goodIn_r _ [32, 33, 34, 27] (by exact rfl) (by decide +kernel)) ggX10_roam_X10_roam
theorem dX10_roam_0 : decode cX10_roam 0 = .ok (.iload_n 2, 1) := by decide +kernel
theorem dX10_roam_1 : decode cX10_roam 1 = .ok (.iload_n 3, 1) := by decide +kernel
theorem dX10_roam_2 : decode cX10_roam 2 = .ok (.if_icmp .lt 14, 3) := by decide +kernel
theorem dX10_roam_5 : decode cX10_roam 5 = .ok (.aload_n 0, 1) := by decide +kernel
theorem dX10_roam_6 : decode cX10_roam 6 = .ok (.getfield 65, 3) := by decide +kernel
theorem dX10_roam_9 : decode cX10_roam 9 = .ok (.iload 4, 2) := by decide +kernel
theorem dX10_roam_11 : decode cX10_roam 11 = .ok (.iload_n 3, 1) := by decide +kernel
theorem dX10_roam_12 : decode cX10_roam 12 = .ok (.invokevirtual 305, 3) := by decide +kernel
theorem dX10_roam_15 : decode cX10_roam 15 = .ok (.return_, 1) := by decide +kernel
theorem dX10_roam_16 : decode cX10_roam 16 = .ok (.iload_n 1, 1) := by decide +kernel
theorem dX10_roam_17 : decode cX10_roam 17 = .ok (.iconst 1, 1) := by decide +kernel
theorem dX10_roam_18 : decode cX10_roam 18 = .ok (.isub, 1) := by decide +kernel
theorem dX10_roam_19 : decode cX10_roam 19 = .ok (.istore 5, 2) := by decide +kernel
theorem dX10_roam_21 : decode cX10_roam 21 = .ok (.iload 5, 2) := by decide +kernel
theorem dX10_roam_23 : decode cX10_roam 23 = .ok (.iload_n 1, 1) := by decide +kernel
theorem dX10_roam_24 : decode cX10_roam 24 = .ok (.iconst 1, 1) := by decide +kernel
theorem dX10_roam_25 : decode cX10_roam 25 = .ok (.iadd, 1) := by decide +kernel
theorem dX10_roam_26 : decode cX10_roam 26 = .ok (.if_icmp .gt 65, 3) := by decide +kernel
theorem dX10_roam_29 : decode cX10_roam 29 = .ok (.aload_n 0, 1) := by decide +kernel
theorem dX10_roam_30 : decode cX10_roam 30 = .ok (.getfield 36, 3) := by decide +kernel
theorem dX10_roam_33 : decode cX10_roam 33 = .ok (.iload 5, 2) := by decide +kernel
theorem dX10_roam_35 : decode cX10_roam 35 = .ok (.invokevirtual 112, 3) := by decide +kernel
theorem dX10_roam_38 : decode cX10_roam 38 = .ok (.ifCond .ne 6, 3) := by decide +kernel
theorem dX10_roam_41 : decode cX10_roam 41 = .ok (.goto 44, 3) := by decide +kernel
theorem dX10_roam_44 : decode cX10_roam 44 = .ok (.aload_n 0, 1) := by decide +kernel
theorem dX10_roam_45 : decode cX10_roam 45 = .ok (.getfield 65, 3) := by decide +kernel
theorem dX10_roam_48 : decode cX10_roam 48 = .ok (.getfield 309, 3) := by decide +kernel
theorem dX10_roam_51 : decode cX10_roam 51 = .ok (.iload_n 2, 1) := by decide +kernel
theorem dX10_roam_52 : decode cX10_roam 52 = .ok (.iload 5, 2) := by decide +kernel
theorem dX10_roam_54 : decode cX10_roam 54 = .ok (.iastore, 1) := by decide +kernel
theorem dX10_roam_55 : decode cX10_roam 55 = .ok (.iload 5, 2) := by decide +kernel
theorem dX10_roam_57 : decode cX10_roam 57 = .ok (.iload_n 1, 1) := by decide +kernel
theorem dX10_roam_58 : decode cX10_roam 58 = .ok (.if_icmp .ne 15, 3) := by decide +kernel
theorem dX10_roam_61 : decode cX10_roam 61 = .ok (.aload_n 0, 1) := by decide +kernel
theorem dX10_roam_62 : decode cX10_roam 62 = .ok (.iload_n 1, 1) := by decide +kernel
theorem dX10_roam_63 : decode cX10_roam 63 = .ok (.iload_n 2, 1) := by decide +kernel
theorem dX10_roam_64 : decode cX10_roam 64 = .ok (.iload_n 3, 1) := by decide +kernel
theorem dX10_roam_65 : decode cX10_roam 65 = .ok (.iload 4, 2) := by decide +kernel
theorem dX10_roam_67 : decode cX10_roam 67 = .ok (.invokevirtual 312, 3) := by decide +kernel
theorem dX10_roam_70 : decode cX10_roam 70 = .ok (.goto 15, 3) := by decide +kernel
theorem dX10_roam_73 : decode cX10_roam 73 = .ok (.aload_n 0, 1) := by decide +kernel
theorem dX10_roam_74 : decode cX10_roam 74 = .ok (.iload 5, 2) := by decide +kernel
theorem dX10_roam_76 : decode cX10_roam 76 = .ok (.iload_n 2, 1) := by decide +kernel
theorem dX10_roam_77 : decode cX10_roam 77 = .ok (.iconst 1, 1) := by decide +kernel
theorem dX10_roam_78 : decode cX10_roam 78 = .ok (.iadd, 1) := by decide +kernel
theorem dX10_roam_79 : decode cX10_roam 79 = .ok (.iload_n 3, 1) := by decide +kernel
theorem dX10_roam_80 : decode cX10_roam 80 = .ok (.iload 4, 2) := by decide +kernel
theorem dX10_roam_82 : decode cX10_roam 82 = .ok (.invokevirtual 214, 3) := by decide +kernel
theorem dX10_roam_85 : decode cX10_roam 85 = .ok (.iinc 5 1, 3) := by decide +kernel
theorem dX10_roam_88 : decode cX10_roam 88 = .ok (.goto (-67), 3) := by decide +kernel
theorem dX10_roam_91 : decode cX10_roam 91 = .ok (.return_, 1) := by decide +kernel
set_option maxRecDepth 20000 in
theorem ggX10_stay_X4_shows : GoodIn wsX10_stay wsX4_shows := goodIn_r _ [13, 14, 15, 16, 17, 18, 19, 20, 21, 22, 23, 24, 25, 6, 7, 8, 26, 27, 28, 29, 30, 31, 32, 33, 34, 35, 36, 37, 38, 39, 40, 41, 42, 43, 44, 45, 46, 47, 48, 49, 50, 51, 52, 53, 54, 55, 56, 57, 58, 59, 60, 61, 62, 108, 109, 110, 111, 112, 113, 114, 115, 116, 117, 118, 119, 120, 121, 122, 123, 124] rfl gw_wsX4_shows
set_option maxRecDepth 20000 in
theorem gX10_stay_X4_shows : GoodIn wsX10_stay (wsV RX10 197 RX4 yX4_shows wsX4_shows) := goodIn_app (goodIn_r _ [9, 10, 11, 12] (by exact rfl) (by decide +kernel)) ggX10_stay_X4_shows
set_option maxRecDepth 20000 in
theorem ggX10_stay_X10_roam : GoodIn wsX10_stay wsX10_roam := goodIn_r _ [67, 68, 3, 69, 70, 71, 72, 73, 74, 75, 76, 77, 78, 57, 7, 58, 79, 80, 81, 82, 83, 84, 85, 12, 86, 87, 88, 66, 89, 90, 91, 92, 63, 64, 65, 0, 1, 2, 4, 5, 6, 8, 9, 10, 11, 13, 14, 15, 16, 17, 18, 19, 20, 21, 22, 23, 24, 25, 26, 27, 28, 29, 30, 31, 32, 33, 34, 35, 36, 37, 38, 39, 40, 41, 42, 43, 44, 45, 46, 47, 48, 49, 50, 51, 52, 53, 54, 55, 56, 59, 60, 61, 62, 93, 94, 95, 96, 97, 98, 99, 100, 101, 102, 103, 104, 105, 106, 107, 108, 109, 110, 111, 112, 113, 114, 115, 116, 117, 118, 119, 120, 121, 122, 123, 124] rfl gw_wsX10_roam
set_option maxRecDepth 20000 in
theorem gX10_stay_X10_roam : GoodIn wsX10_stay (wsV RX10 214 RX10 yX10_roam wsX10_roam) := goodIn_app (goodIn_r _ [63, 64, 65, 66] (by exact rfl) (by decide +kernel)) ggX10_stay_X10_roam
theorem dX10_stay_0 : decode cX10_stay 0 = .ok (.aload_n 0, 1) := by decide +kernel
theorem dX10_stay_1 : decode cX10_stay 1 = .ok (.getfield 58, 3) := by decide +kernel
theorem dX10_stay_4 : decode cX10_stay 4 = .ok (.getfield 185, 3) := by decide +kernel
theorem dX10_stay_7 : decode cX10_stay 7 = .ok (.iload_n 1, 1) := by decide +kernel
theorem dX10_stay_8 : decode cX10_stay 8 = .ok (.iaload, 1) := by decide +kernel
theorem dX10_stay_9 : decode cX10_stay 9 = .ok (.istore 5, 2) := by decide +kernel
theorem dX10_stay_11 : decode cX10_stay 11 = .ok (.aload_n 0, 1) := by decide +kernel
theorem dX10_stay_12 : decode cX10_stay 12 = .ok (.getfield 36, 3) := by decide +kernel
theorem dX10_stay_15 : decode cX10_stay 15 = .ok (.aload_n 0, 1) := by decide +kernel
theorem dX10_stay_16 : decode cX10_stay 16 = .ok (.getfield 58, 3) := by decide +kernel
theorem dX10_stay_19 : decode cX10_stay 19 = .ok (.iload_n 1, 1) := by decide +kernel
theorem dX10_stay_20 : decode cX10_stay 20 = .ok (.aload_n 0, 1) := by decide +kernel
theorem dX10_stay_21 : decode cX10_stay 21 = .ok (.getfield 58, 3) := by decide +kernel
theorem dX10_stay_24 : decode cX10_stay 24 = .ok (.getfield 151, 3) := by decide +kernel
theorem dX10_stay_27 : decode cX10_stay 27 = .ok (.iload_n 2, 1) := by decide +kernel
theorem dX10_stay_28 : decode cX10_stay 28 = .ok (.iadd, 1) := by decide +kernel
theorem dX10_stay_29 : decode cX10_stay 29 = .ok (.invokevirtual 197, 3) := by decide +kernel
theorem dX10_stay_32 : decode cX10_stay 32 = .ok (.istore 6, 2) := by decide +kernel
theorem dX10_stay_34 : decode cX10_stay 34 = .ok (.aload_n 0, 1) := by decide +kernel
theorem dX10_stay_35 : decode cX10_stay 35 = .ok (.getfield 58, 3) := by decide +kernel
theorem dX10_stay_38 : decode cX10_stay 38 = .ok (.getfield 185, 3) := by decide +kernel
theorem dX10_stay_41 : decode cX10_stay 41 = .ok (.iload_n 1, 1) := by decide +kernel
theorem dX10_stay_42 : decode cX10_stay 42 = .ok (.iconst 0, 1) := by decide +kernel
theorem dX10_stay_43 : decode cX10_stay 43 = .ok (.iload 5, 2) := by decide +kernel
theorem dX10_stay_45 : decode cX10_stay 45 = .ok (.iload 6, 2) := by decide +kernel
theorem dX10_stay_47 : decode cX10_stay 47 = .ok (.isub, 1) := by decide +kernel
theorem dX10_stay_48 : decode cX10_stay 48 = .ok (.invokestatic 315, 3) := by decide +kernel
theorem dX10_stay_51 : decode cX10_stay 51 = .ok (.iastore, 1) := by decide +kernel
theorem dX10_stay_52 : decode cX10_stay 52 = .ok (.aload_n 0, 1) := by decide +kernel
theorem dX10_stay_53 : decode cX10_stay 53 = .ok (.iload_n 1, 1) := by decide +kernel
theorem dX10_stay_54 : decode cX10_stay 54 = .ok (.iload_n 2, 1) := by decide +kernel
theorem dX10_stay_55 : decode cX10_stay 55 = .ok (.iconst 1, 1) := by decide +kernel
theorem dX10_stay_56 : decode cX10_stay 56 = .ok (.iadd, 1) := by decide +kernel
theorem dX10_stay_57 : decode cX10_stay 57 = .ok (.iload_n 3, 1) := by decide +kernel
theorem dX10_stay_58 : decode cX10_stay 58 = .ok (.iload 4, 2) := by decide +kernel
theorem dX10_stay_60 : decode cX10_stay 60 = .ok (.iload 6, 2) := by decide +kernel
theorem dX10_stay_62 : decode cX10_stay 62 = .ok (.iadd, 1) := by decide +kernel
theorem dX10_stay_63 : decode cX10_stay 63 = .ok (.invokevirtual 214, 3) := by decide +kernel
theorem dX10_stay_66 : decode cX10_stay 66 = .ok (.aload_n 0, 1) := by decide +kernel
theorem dX10_stay_67 : decode cX10_stay 67 = .ok (.getfield 58, 3) := by decide +kernel
theorem dX10_stay_70 : decode cX10_stay 70 = .ok (.getfield 185, 3) := by decide +kernel
theorem dX10_stay_73 : decode cX10_stay 73 = .ok (.iload_n 1, 1) := by decide +kernel
theorem dX10_stay_74 : decode cX10_stay 74 = .ok (.iload 5, 2) := by decide +kernel
theorem dX10_stay_76 : decode cX10_stay 76 = .ok (.iastore, 1) := by decide +kernel
theorem dX10_stay_77 : decode cX10_stay 77 = .ok (.return_, 1) := by decide +kernel
set_option maxRecDepth 20000 in
theorem gw_wsX10_allGet : wsX10_allGet.all goodWord = true := by decide +kernel
set_option maxRecDepth 20000 in
theorem ggX10_settle_X10_allGet : GoodIn wsX10_settle wsX10_allGet := goodIn_r _ [11, 1, 4, 6, 12, 38, 39, 40, 41, 42, 43, 44, 45, 46, 47, 48, 49, 50, 51, 52, 53, 54, 55, 56, 57, 58, 59, 60] rfl gw_wsX10_allGet
set_option maxRecDepth 20000 in
theorem gX10_settle_X10_allGet : GoodIn wsX10_settle (wsV RX10 318 RX10 yX10_allGet wsX10_allGet) := goodIn_app (goodIn_r _ [7, 8, 9, 10] (by exact rfl) (by decide +kernel)) ggX10_settle_X10_allGet
set_option maxRecDepth 20000 in
theorem gw_wsX10_poorestGets : wsX10_poorestGets.all goodWord = true := by decide +kernel
set_option maxRecDepth 20000 in
theorem ggX10_settle_X10_poorestGets : GoodIn wsX10_settle wsX10_poorestGets := goodIn_r _ [16, 17, 1, 4, 6, 12, 18, 19, 20, 21, 38, 39, 40, 41, 42, 43, 44, 45, 46, 47, 48, 49, 50, 51, 52, 53, 54, 55, 56, 57, 58, 59, 60] rfl gw_wsX10_poorestGets
set_option maxRecDepth 20000 in
theorem gX10_settle_X10_poorestGets : GoodIn wsX10_settle (wsV RX10 321 RX10 yX10_poorestGets wsX10_poorestGets) := goodIn_app (goodIn_r _ [13, 14, 15, 10] (by exact rfl) (by decide +kernel)) ggX10_settle_X10_poorestGets
set_option maxRecDepth 20000 in
theorem ggX10_settle_X0_offer : GoodIn wsX10_settle wsX0_offer := goodIn_r _ [26, 27, 28, 29, 30, 19, 20, 21, 31, 32, 33, 34, 61, 62, 63] rfl gw_wsX0_offer
set_option maxRecDepth 20000 in
theorem gX10_settle_X0_offer : GoodIn wsX10_settle (wsV RX10 305 RX0 yX0_offer wsX0_offer) := goodIn_app (goodIn_r _ [22, 23, 24, 25] (by exact rfl) (by decide +kernel)) ggX10_settle_X0_offer
set_option maxRecDepth 20000 in
theorem ggX10_settle_X10_settle : GoodIn wsX10_settle wsX10_settle := goodIn_r _ [0, 1, 2, 3, 4, 5, 6, 7, 8, 9, 10, 11, 12, 13, 14, 15, 16, 17, 18, 19, 20, 21, 22, 23, 24, 25, 26, 27, 28, 29, 30, 31, 32, 33, 34, 35, 36, 37, 38, 39, 40, 41, 42, 43, 44, 45, 46, 47, 48, 49, 50, 51, 52, 53, 54, 55, 56, 57, 58, 59, 60, 61, 62, 63] rfl gw_wsX10_settle
set_option maxRecDepth 20000 in
theorem gX10_settle_X10_settle : GoodIn wsX10_settle (wsV RX10 225 RX10 yX10_settle wsX10_settle) := goodIn_app (goodIn_r _ [35, 36, 37, 10] (by exact rfl) (by decide +kernel)) ggX10_settle_X10_settle
theorem dX10_settle_0 : decode cX10_settle 0 = .ok (.iload_n 2, 1) := by decide +kernel
theorem dX10_settle_1 : decode cX10_settle 1 = .ok (.aload_n 0, 1) := by decide +kernel
theorem dX10_settle_2 : decode cX10_settle 2 = .ok (.getfield 36, 3) := by decide +kernel
theorem dX10_settle_5 : decode cX10_settle 5 = .ok (.getfield 115, 3) := by decide +kernel
theorem dX10_settle_8 : decode cX10_settle 8 = .ok (.if_icmp .lt 27, 3) := by decide +kernel
theorem dX10_settle_11 : decode cX10_settle 11 = .ok (.aload_n 0, 1) := by decide +kernel
theorem dX10_settle_12 : decode cX10_settle 12 = .ok (.getfield 65, 3) := by decide +kernel
theorem dX10_settle_15 : decode cX10_settle 15 = .ok (.iload_n 1, 1) := by decide +kernel
theorem dX10_settle_16 : decode cX10_settle 16 = .ok (.ifCond .ne 10, 3) := by decide +kernel
theorem dX10_settle_19 : decode cX10_settle 19 = .ok (.aload_n 0, 1) := by decide +kernel
theorem dX10_settle_20 : decode cX10_settle 20 = .ok (.invokevirtual 318, 3) := by decide +kernel
theorem dX10_settle_23 : decode cX10_settle 23 = .ok (.goto 7, 3) := by decide +kernel
theorem dX10_settle_26 : decode cX10_settle 26 = .ok (.aload_n 0, 1) := by decide +kernel
theorem dX10_settle_27 : decode cX10_settle 27 = .ok (.invokevirtual 321, 3) := by decide +kernel
theorem dX10_settle_30 : decode cX10_settle 30 = .ok (.iload_n 2, 1) := by decide +kernel
theorem dX10_settle_31 : decode cX10_settle 31 = .ok (.invokevirtual 305, 3) := by decide +kernel
theorem dX10_settle_34 : decode cX10_settle 34 = .ok (.return_, 1) := by decide +kernel
theorem dX10_settle_35 : decode cX10_settle 35 = .ok (.iload_n 3, 1) := by decide +kernel
theorem dX10_settle_36 : decode cX10_settle 36 = .ok (.istore 4, 2) := by decide +kernel
theorem dX10_settle_38 : decode cX10_settle 38 = .ok (.iload 4, 2) := by decide +kernel
theorem dX10_settle_40 : decode cX10_settle 40 = .ok (.aload_n 0, 1) := by decide +kernel
theorem dX10_settle_41 : decode cX10_settle 41 = .ok (.getfield 36, 3) := by decide +kernel
theorem dX10_settle_44 : decode cX10_settle 44 = .ok (.getfield 94, 3) := by decide +kernel
theorem dX10_settle_47 : decode cX10_settle 47 = .ok (.if_icmp .ge 52, 3) := by decide +kernel
theorem dX10_settle_50 : decode cX10_settle 50 = .ok (.aload_n 0, 1) := by decide +kernel
theorem dX10_settle_51 : decode cX10_settle 51 = .ok (.getfield 65, 3) := by decide +kernel
theorem dX10_settle_54 : decode cX10_settle 54 = .ok (.getfield 309, 3) := by decide +kernel
theorem dX10_settle_57 : decode cX10_settle 57 = .ok (.iload_n 2, 1) := by decide +kernel
theorem dX10_settle_58 : decode cX10_settle 58 = .ok (.iload 4, 2) := by decide +kernel
theorem dX10_settle_60 : decode cX10_settle 60 = .ok (.iastore, 1) := by decide +kernel
theorem dX10_settle_61 : decode cX10_settle 61 = .ok (.aload_n 0, 1) := by decide +kernel
theorem dX10_settle_62 : decode cX10_settle 62 = .ok (.getfield 73, 3) := by decide +kernel
theorem dX10_settle_65 : decode cX10_settle 65 = .ok (.iload 4, 2) := by decide +kernel
theorem dX10_settle_67 : decode cX10_settle 67 = .ok (.dup2, 1) := by decide +kernel
theorem dX10_settle_68 : decode cX10_settle 68 = .ok (.iaload, 1) := by decide +kernel
theorem dX10_settle_69 : decode cX10_settle 69 = .ok (.iconst 1, 1) := by decide +kernel
theorem dX10_settle_70 : decode cX10_settle 70 = .ok (.iadd, 1) := by decide +kernel
theorem dX10_settle_71 : decode cX10_settle 71 = .ok (.iastore, 1) := by decide +kernel
theorem dX10_settle_72 : decode cX10_settle 72 = .ok (.aload_n 0, 1) := by decide +kernel
theorem dX10_settle_73 : decode cX10_settle 73 = .ok (.iload_n 1, 1) := by decide +kernel
theorem dX10_settle_74 : decode cX10_settle 74 = .ok (.iload_n 2, 1) := by decide +kernel
theorem dX10_settle_75 : decode cX10_settle 75 = .ok (.iconst 1, 1) := by decide +kernel
theorem dX10_settle_76 : decode cX10_settle 76 = .ok (.iadd, 1) := by decide +kernel
theorem dX10_settle_77 : decode cX10_settle 77 = .ok (.iload 4, 2) := by decide +kernel
theorem dX10_settle_79 : decode cX10_settle 79 = .ok (.invokevirtual 225, 3) := by decide +kernel
theorem dX10_settle_82 : decode cX10_settle 82 = .ok (.aload_n 0, 1) := by decide +kernel
theorem dX10_settle_83 : decode cX10_settle 83 = .ok (.getfield 73, 3) := by decide +kernel
theorem dX10_settle_86 : decode cX10_settle 86 = .ok (.iload 4, 2) := by decide +kernel
theorem dX10_settle_88 : decode cX10_settle 88 = .ok (.dup2, 1) := by decide +kernel
theorem dX10_settle_89 : decode cX10_settle 89 = .ok (.iaload, 1) := by decide +kernel
theorem dX10_settle_90 : decode cX10_settle 90 = .ok (.iconst 1, 1) := by decide +kernel
theorem dX10_settle_91 : decode cX10_settle 91 = .ok (.isub, 1) := by decide +kernel
theorem dX10_settle_92 : decode cX10_settle 92 = .ok (.iastore, 1) := by decide +kernel
theorem dX10_settle_93 : decode cX10_settle 93 = .ok (.iinc 4 1, 3) := by decide +kernel
theorem dX10_settle_96 : decode cX10_settle 96 = .ok (.goto (-58), 3) := by decide +kernel
theorem dX10_settle_99 : decode cX10_settle 99 = .ok (.return_, 1) := by decide +kernel
theorem dX10_allGet_0 : decode cX10_allGet 0 = .ok (.iconst 0, 1) := by decide +kernel
theorem dX10_allGet_1 : decode cX10_allGet 1 = .ok (.istore_n 1, 1) := by decide +kernel
theorem dX10_allGet_2 : decode cX10_allGet 2 = .ok (.iconst 0, 1) := by decide +kernel
theorem dX10_allGet_3 : decode cX10_allGet 3 = .ok (.istore_n 2, 1) := by decide +kernel
theorem dX10_allGet_4 : decode cX10_allGet 4 = .ok (.iload_n 2, 1) := by decide +kernel
theorem dX10_allGet_5 : decode cX10_allGet 5 = .ok (.aload_n 0, 1) := by decide +kernel
theorem dX10_allGet_6 : decode cX10_allGet 6 = .ok (.getfield 36, 3) := by decide +kernel
theorem dX10_allGet_9 : decode cX10_allGet 9 = .ok (.getfield 94, 3) := by decide +kernel
theorem dX10_allGet_12 : decode cX10_allGet 12 = .ok (.if_icmp .ge 41, 3) := by decide +kernel
theorem dX10_allGet_15 : decode cX10_allGet 15 = .ok (.aload_n 0, 1) := by decide +kernel
theorem dX10_allGet_16 : decode cX10_allGet 16 = .ok (.getfield 73, 3) := by decide +kernel
theorem dX10_allGet_19 : decode cX10_allGet 19 = .ok (.iload_n 2, 1) := by decide +kernel
theorem dX10_allGet_20 : decode cX10_allGet 20 = .ok (.iaload, 1) := by decide +kernel
theorem dX10_allGet_21 : decode cX10_allGet 21 = .ok (.ifCond .le 26, 3) := by decide +kernel
theorem dX10_allGet_24 : decode cX10_allGet 24 = .ok (.iload_n 1, 1) := by decide +kernel
theorem dX10_allGet_25 : decode cX10_allGet 25 = .ok (.aload_n 0, 1) := by decide +kernel
theorem dX10_allGet_26 : decode cX10_allGet 26 = .ok (.getfield 69, 3) := by decide +kernel
theorem dX10_allGet_29 : decode cX10_allGet 29 = .ok (.iload_n 2, 1) := by decide +kernel
theorem dX10_allGet_30 : decode cX10_allGet 30 = .ok (.iaload, 1) := by decide +kernel
theorem dX10_allGet_31 : decode cX10_allGet 31 = .ok (.aload_n 0, 1) := by decide +kernel
theorem dX10_allGet_32 : decode cX10_allGet 32 = .ok (.getfield 73, 3) := by decide +kernel
theorem dX10_allGet_35 : decode cX10_allGet 35 = .ok (.iload_n 2, 1) := by decide +kernel
theorem dX10_allGet_36 : decode cX10_allGet 36 = .ok (.iaload, 1) := by decide +kernel
theorem dX10_allGet_37 : decode cX10_allGet 37 = .ok (.idiv, 1) := by decide +kernel
theorem dX10_allGet_38 : decode cX10_allGet 38 = .ok (.aload_n 0, 1) := by decide +kernel
theorem dX10_allGet_39 : decode cX10_allGet 39 = .ok (.getfield 73, 3) := by decide +kernel
theorem dX10_allGet_42 : decode cX10_allGet 42 = .ok (.iload_n 2, 1) := by decide +kernel
theorem dX10_allGet_43 : decode cX10_allGet 43 = .ok (.iaload, 1) := by decide +kernel
theorem dX10_allGet_44 : decode cX10_allGet 44 = .ok (.imul, 1) := by decide +kernel
theorem dX10_allGet_45 : decode cX10_allGet 45 = .ok (.iadd, 1) := by decide +kernel
theorem dX10_allGet_46 : decode cX10_allGet 46 = .ok (.istore_n 1, 1) := by decide +kernel
theorem dX10_allGet_47 : decode cX10_allGet 47 = .ok (.iinc 2 1, 3) := by decide +kernel
theorem dX10_allGet_50 : decode cX10_allGet 50 = .ok (.goto (-46), 3) := by decide +kernel
theorem dX10_allGet_53 : decode cX10_allGet 53 = .ok (.iload_n 1, 1) := by decide +kernel
theorem dX10_allGet_54 : decode cX10_allGet 54 = .ok (.ireturn, 1) := by decide +kernel
theorem dX10_poorestGets_0 : decode cX10_poorestGets 0 = .ok (.ldc_w 324, 3) := by decide +kernel
theorem dX10_poorestGets_3 : decode cX10_poorestGets 3 = .ok (.istore_n 1, 1) := by decide +kernel
theorem dX10_poorestGets_4 : decode cX10_poorestGets 4 = .ok (.iconst 0, 1) := by decide +kernel
theorem dX10_poorestGets_5 : decode cX10_poorestGets 5 = .ok (.istore_n 2, 1) := by decide +kernel
theorem dX10_poorestGets_6 : decode cX10_poorestGets 6 = .ok (.iload_n 2, 1) := by decide +kernel
theorem dX10_poorestGets_7 : decode cX10_poorestGets 7 = .ok (.aload_n 0, 1) := by decide +kernel
theorem dX10_poorestGets_8 : decode cX10_poorestGets 8 = .ok (.getfield 36, 3) := by decide +kernel
theorem dX10_poorestGets_11 : decode cX10_poorestGets 11 = .ok (.getfield 94, 3) := by decide +kernel
theorem dX10_poorestGets_14 : decode cX10_poorestGets 14 = .ok (.if_icmp .ge 36, 3) := by decide +kernel
theorem dX10_poorestGets_17 : decode cX10_poorestGets 17 = .ok (.aload_n 0, 1) := by decide +kernel
theorem dX10_poorestGets_18 : decode cX10_poorestGets 18 = .ok (.getfield 73, 3) := by decide +kernel
theorem dX10_poorestGets_21 : decode cX10_poorestGets 21 = .ok (.iload_n 2, 1) := by decide +kernel
theorem dX10_poorestGets_22 : decode cX10_poorestGets 22 = .ok (.iaload, 1) := by decide +kernel
theorem dX10_poorestGets_23 : decode cX10_poorestGets 23 = .ok (.ifCond .le 21, 3) := by decide +kernel
theorem dX10_poorestGets_26 : decode cX10_poorestGets 26 = .ok (.iload_n 1, 1) := by decide +kernel
theorem dX10_poorestGets_27 : decode cX10_poorestGets 27 = .ok (.aload_n 0, 1) := by decide +kernel
theorem dX10_poorestGets_28 : decode cX10_poorestGets 28 = .ok (.getfield 69, 3) := by decide +kernel
theorem dX10_poorestGets_31 : decode cX10_poorestGets 31 = .ok (.iload_n 2, 1) := by decide +kernel
theorem dX10_poorestGets_32 : decode cX10_poorestGets 32 = .ok (.iaload, 1) := by decide +kernel
theorem dX10_poorestGets_33 : decode cX10_poorestGets 33 = .ok (.aload_n 0, 1) := by decide +kernel
theorem dX10_poorestGets_34 : decode cX10_poorestGets 34 = .ok (.getfield 73, 3) := by decide +kernel
theorem dX10_poorestGets_37 : decode cX10_poorestGets 37 = .ok (.iload_n 2, 1) := by decide +kernel
theorem dX10_poorestGets_38 : decode cX10_poorestGets 38 = .ok (.iaload, 1) := by decide +kernel
theorem dX10_poorestGets_39 : decode cX10_poorestGets 39 = .ok (.idiv, 1) := by decide +kernel
theorem dX10_poorestGets_40 : decode cX10_poorestGets 40 = .ok (.invokestatic 204, 3) := by decide +kernel
theorem dX10_poorestGets_43 : decode cX10_poorestGets 43 = .ok (.istore_n 1, 1) := by decide +kernel
theorem dX10_poorestGets_44 : decode cX10_poorestGets 44 = .ok (.iinc 2 1, 3) := by decide +kernel
theorem dX10_poorestGets_47 : decode cX10_poorestGets 47 = .ok (.goto (-41), 3) := by decide +kernel
theorem dX10_poorestGets_50 : decode cX10_poorestGets 50 = .ok (.iload_n 1, 1) := by decide +kernel
theorem dX10_poorestGets_51 : decode cX10_poorestGets 51 = .ok (.ireturn, 1) := by decide +kernel
set_option maxRecDepth 20000 in
theorem ggX10_mostAlike_X2_sight : GoodIn wsX10_mostAlike wsX2_sight := goodIn_r _ [12, 13, 3, 4, 5, 14, 15, 16, 17, 18, 19, 20, 7, 21, 22, 23, 24, 25] rfl gw_wsX2_sight
set_option maxRecDepth 20000 in
theorem gX10_mostAlike_X2_sight_u325X2 : GoodIn wsX10_mostAlike (va_wsO RX10 325 RX2 "GleanDusk$Plain" ⟨"GleanDusk$Plain", "sight", "(III)I"⟩ yX2_sight wsX2_sight) := goodIn_app (goodIn_of _ (by decide +kernel)) ggX10_mostAlike_X2_sight
set_option maxRecDepth 20000 in
theorem ggX10_mostAlike_X3_sight : GoodIn wsX10_mostAlike wsX3_sight := goodIn_r _ [29, 30, 31, 32, 33, 34, 35, 36, 7, 37, 22, 23, 24, 25, 3, 4, 5] rfl gw_wsX3_sight
set_option maxRecDepth 20000 in
theorem gX10_mostAlike_X3_sight_u325X3 : GoodIn wsX10_mostAlike (va_wsO RX10 325 RX3 "GleanDusk$Plain" ⟨"GleanDusk$Plain", "sight", "(III)I"⟩ yX3_sight wsX3_sight) := goodIn_app (goodIn_of _ (by decide +kernel)) ggX10_mostAlike_X3_sight
set_option maxRecDepth 20000 in
theorem ggX10_mostAlike_X5_sight : GoodIn wsX10_mostAlike wsX5_sight := goodIn_r _ [24, 25, 3, 4, 5] rfl gw_wsX5_sight
set_option maxRecDepth 20000 in
theorem gX10_mostAlike_X5_sight : GoodIn wsX10_mostAlike (wsV RX10 325 RX5 yX5_sight wsX5_sight) := goodIn_app (goodIn_r _ [38, 22, 39, 23] (by exact rfl) (by decide +kernel)) ggX10_mostAlike_X5_sight
set_option maxRecDepth 20000 in
theorem ggX10_mostAlike_X6_sight : GoodIn wsX10_mostAlike wsX6_sight := goodIn_r _ [43, 44, 45, 4, 46, 47, 7, 48, 22, 23, 24, 25, 3, 5] rfl gw_wsX6_sight
set_option maxRecDepth 20000 in
theorem gX10_mostAlike_X6_sight_u325X6 : GoodIn wsX10_mostAlike (va_wsO RX10 325 RX6 "GleanDusk$Plain" ⟨"GleanDusk$Plain", "sight", "(III)I"⟩ yX6_sight wsX6_sight) := goodIn_app (goodIn_of _ (by decide +kernel)) ggX10_mostAlike_X6_sight
set_option maxRecDepth 20000 in
theorem ggX10_mostAlike_X8_sight : GoodIn wsX10_mostAlike wsX8_sight := goodIn_r _ [19, 20, 7, 21, 22, 23, 24, 25, 3, 4, 5] rfl gw_wsX8_sight
set_option maxRecDepth 20000 in
theorem gX10_mostAlike_X8_sight_u325X8 : GoodIn wsX10_mostAlike (va_wsO RX10 325 RX8 "GleanDusk$Plain" ⟨"GleanDusk$Plain", "sight", "(III)I"⟩ yX8_sight wsX8_sight) := goodIn_app (goodIn_of _ (by decide +kernel)) ggX10_mostAlike_X8_sight
set_option maxRecDepth 20000 in
theorem ggX10_mostAlike_X9_sight : GoodIn wsX10_mostAlike wsX9_sight := goodIn_r _ [35, 36, 7, 37, 22, 23, 24, 25, 3, 4, 5] rfl gw_wsX9_sight
set_option maxRecDepth 20000 in
theorem gX10_mostAlike_X9_sight_u325X9 : GoodIn wsX10_mostAlike (va_wsO RX10 325 RX9 "GleanDusk$Plain" ⟨"GleanDusk$Plain", "sight", "(III)I"⟩ yX9_sight wsX9_sight) := goodIn_app (goodIn_of _ (by decide +kernel)) ggX10_mostAlike_X9_sight
theorem dX10_mostAlike_0 : decode cX10_mostAlike 0 = .ok (.iconst 0, 1) := by decide +kernel
theorem dX10_mostAlike_1 : decode cX10_mostAlike 1 = .ok (.istore 5, 2) := by decide +kernel
theorem dX10_mostAlike_3 : decode cX10_mostAlike 3 = .ok (.iconst 0, 1) := by decide +kernel
theorem dX10_mostAlike_4 : decode cX10_mostAlike 4 = .ok (.istore 6, 2) := by decide +kernel
theorem dX10_mostAlike_6 : decode cX10_mostAlike 6 = .ok (.iload 6, 2) := by decide +kernel
theorem dX10_mostAlike_8 : decode cX10_mostAlike 8 = .ok (.bipush 6, 2) := by decide +kernel
theorem dX10_mostAlike_10 : decode cX10_mostAlike 10 = .ok (.if_icmp .ge 97, 3) := by decide +kernel
theorem dX10_mostAlike_13 : decode cX10_mostAlike 13 = .ok (.iload_n 1, 1) := by decide +kernel
theorem dX10_mostAlike_14 : decode cX10_mostAlike 14 = .ok (.iload 6, 2) := by decide +kernel
theorem dX10_mostAlike_16 : decode cX10_mostAlike 16 = .ok (.ishr, 1) := by decide +kernel
theorem dX10_mostAlike_17 : decode cX10_mostAlike 17 = .ok (.iconst 1, 1) := by decide +kernel
theorem dX10_mostAlike_18 : decode cX10_mostAlike 18 = .ok (.iand, 1) := by decide +kernel
theorem dX10_mostAlike_19 : decode cX10_mostAlike 19 = .ok (.ifCond .ne 6, 3) := by decide +kernel
theorem dX10_mostAlike_22 : decode cX10_mostAlike 22 = .ok (.goto 79, 3) := by decide +kernel
theorem dX10_mostAlike_25 : decode cX10_mostAlike 25 = .ok (.aload_n 0, 1) := by decide +kernel
theorem dX10_mostAlike_26 : decode cX10_mostAlike 26 = .ok (.getfield 25, 3) := by decide +kernel
theorem dX10_mostAlike_29 : decode cX10_mostAlike 29 = .ok (.iload 6, 2) := by decide +kernel
theorem dX10_mostAlike_31 : decode cX10_mostAlike 31 = .ok (.aaload, 1) := by decide +kernel
theorem dX10_mostAlike_32 : decode cX10_mostAlike 32 = .ok (.iload_n 2, 1) := by decide +kernel
theorem dX10_mostAlike_33 : decode cX10_mostAlike 33 = .ok (.iload_n 3, 1) := by decide +kernel
theorem dX10_mostAlike_34 : decode cX10_mostAlike 34 = .ok (.iload 4, 2) := by decide +kernel
theorem dX10_mostAlike_36 : decode cX10_mostAlike 36 = .ok (.invokevirtual 325, 3) := by decide +kernel
theorem dX10_mostAlike_39 : decode cX10_mostAlike 39 = .ok (.istore 7, 2) := by decide +kernel
theorem dX10_mostAlike_41 : decode cX10_mostAlike 41 = .ok (.iconst 0, 1) := by decide +kernel
theorem dX10_mostAlike_42 : decode cX10_mostAlike 42 = .ok (.istore 8, 2) := by decide +kernel
theorem dX10_mostAlike_44 : decode cX10_mostAlike 44 = .ok (.iconst 0, 1) := by decide +kernel
theorem dX10_mostAlike_45 : decode cX10_mostAlike 45 = .ok (.istore 9, 2) := by decide +kernel
theorem dX10_mostAlike_47 : decode cX10_mostAlike 47 = .ok (.iload 9, 2) := by decide +kernel
theorem dX10_mostAlike_49 : decode cX10_mostAlike 49 = .ok (.bipush 6, 2) := by decide +kernel
theorem dX10_mostAlike_51 : decode cX10_mostAlike 51 = .ok (.if_icmp .ge 41, 3) := by decide +kernel
theorem dX10_mostAlike_54 : decode cX10_mostAlike 54 = .ok (.iload_n 1, 1) := by decide +kernel
theorem dX10_mostAlike_55 : decode cX10_mostAlike 55 = .ok (.iload 9, 2) := by decide +kernel
theorem dX10_mostAlike_57 : decode cX10_mostAlike 57 = .ok (.ishr, 1) := by decide +kernel
theorem dX10_mostAlike_58 : decode cX10_mostAlike 58 = .ok (.iconst 1, 1) := by decide +kernel
theorem dX10_mostAlike_59 : decode cX10_mostAlike 59 = .ok (.iand, 1) := by decide +kernel
theorem dX10_mostAlike_60 : decode cX10_mostAlike 60 = .ok (.iconst 1, 1) := by decide +kernel
theorem dX10_mostAlike_61 : decode cX10_mostAlike 61 = .ok (.if_icmp .ne 25, 3) := by decide +kernel
theorem dX10_mostAlike_64 : decode cX10_mostAlike 64 = .ok (.aload_n 0, 1) := by decide +kernel
theorem dX10_mostAlike_65 : decode cX10_mostAlike 65 = .ok (.getfield 25, 3) := by decide +kernel
theorem dX10_mostAlike_68 : decode cX10_mostAlike 68 = .ok (.iload 9, 2) := by decide +kernel
theorem dX10_mostAlike_70 : decode cX10_mostAlike 70 = .ok (.aaload, 1) := by decide +kernel
theorem dX10_mostAlike_71 : decode cX10_mostAlike 71 = .ok (.iload_n 2, 1) := by decide +kernel
theorem dX10_mostAlike_72 : decode cX10_mostAlike 72 = .ok (.iload_n 3, 1) := by decide +kernel
theorem dX10_mostAlike_73 : decode cX10_mostAlike 73 = .ok (.iload 4, 2) := by decide +kernel
theorem dX10_mostAlike_75 : decode cX10_mostAlike 75 = .ok (.invokevirtual 325, 3) := by decide +kernel
theorem dX10_mostAlike_78 : decode cX10_mostAlike 78 = .ok (.iload 7, 2) := by decide +kernel
theorem dX10_mostAlike_80 : decode cX10_mostAlike 80 = .ok (.if_icmp .ne 6, 3) := by decide +kernel
theorem dX10_mostAlike_83 : decode cX10_mostAlike 83 = .ok (.iinc 8 1, 3) := by decide +kernel
theorem dX10_mostAlike_86 : decode cX10_mostAlike 86 = .ok (.iinc 9 1, 3) := by decide +kernel
theorem dX10_mostAlike_89 : decode cX10_mostAlike 89 = .ok (.goto (-42), 3) := by decide +kernel
theorem dX10_mostAlike_92 : decode cX10_mostAlike 92 = .ok (.iload 5, 2) := by decide +kernel
theorem dX10_mostAlike_94 : decode cX10_mostAlike 94 = .ok (.iload 8, 2) := by decide +kernel
theorem dX10_mostAlike_96 : decode cX10_mostAlike 96 = .ok (.invokestatic 315, 3) := by decide +kernel
theorem dX10_mostAlike_99 : decode cX10_mostAlike 99 = .ok (.istore 5, 2) := by decide +kernel
theorem dX10_mostAlike_101 : decode cX10_mostAlike 101 = .ok (.iinc 6 1, 3) := by decide +kernel
theorem dX10_mostAlike_104 : decode cX10_mostAlike 104 = .ok (.goto (-98), 3) := by decide +kernel
theorem dX10_mostAlike_107 : decode cX10_mostAlike 107 = .ok (.iload 5, 2) := by decide +kernel
theorem dX10_mostAlike_109 : decode cX10_mostAlike 109 = .ok (.ireturn, 1) := by decide +kernel
set_option maxRecDepth 20000 in
theorem gw_wsX10_worth : wsX10_worth.all goodWord = true := by decide +kernel
set_option maxRecDepth 20000 in
theorem ggX10_staysPut_X10_worth : GoodIn wsX10_staysPut wsX10_worth := goodIn_r _ [7, 8, 9, 10, 11, 12, 13, 14, 15, 16, 17, 18, 19, 20, 21, 22, 23, 24] rfl gw_wsX10_worth
set_option maxRecDepth 20000 in
theorem gX10_staysPut_X10_worth : GoodIn wsX10_staysPut (wsV RX10 329 RX10 yX10_worth wsX10_worth) := goodIn_app (goodIn_r _ [3, 4, 5, 6] (by exact rfl) (by decide +kernel)) ggX10_staysPut_X10_worth
theorem dX10_staysPut_0 : decode cX10_staysPut 0 = .ok (.aload_n 0, 1) := by decide +kernel
theorem dX10_staysPut_1 : decode cX10_staysPut 1 = .ok (.iload_n 1, 1) := by decide +kernel
theorem dX10_staysPut_2 : decode cX10_staysPut 2 = .ok (.iload_n 2, 1) := by decide +kernel
theorem dX10_staysPut_3 : decode cX10_staysPut 3 = .ok (.iload_n 3, 1) := by decide +kernel
theorem dX10_staysPut_4 : decode cX10_staysPut 4 = .ok (.invokevirtual 329, 3) := by decide +kernel
theorem dX10_staysPut_7 : decode cX10_staysPut 7 = .ok (.istore 4, 2) := by decide +kernel
theorem dX10_staysPut_9 : decode cX10_staysPut 9 = .ok (.iconst 0, 1) := by decide +kernel
theorem dX10_staysPut_10 : decode cX10_staysPut 10 = .ok (.istore 5, 2) := by decide +kernel
theorem dX10_staysPut_12 : decode cX10_staysPut 12 = .ok (.iload 5, 2) := by decide +kernel
theorem dX10_staysPut_14 : decode cX10_staysPut 14 = .ok (.aload_n 0, 1) := by decide +kernel
theorem dX10_staysPut_15 : decode cX10_staysPut 15 = .ok (.getfield 36, 3) := by decide +kernel
theorem dX10_staysPut_18 : decode cX10_staysPut 18 = .ok (.getfield 94, 3) := by decide +kernel
theorem dX10_staysPut_21 : decode cX10_staysPut 21 = .ok (.if_icmp .ge 24, 3) := by decide +kernel
theorem dX10_staysPut_24 : decode cX10_staysPut 24 = .ok (.aload_n 0, 1) := by decide +kernel
theorem dX10_staysPut_25 : decode cX10_staysPut 25 = .ok (.iload_n 1, 1) := by decide +kernel
theorem dX10_staysPut_26 : decode cX10_staysPut 26 = .ok (.iload 5, 2) := by decide +kernel
theorem dX10_staysPut_28 : decode cX10_staysPut 28 = .ok (.iload_n 3, 1) := by decide +kernel
theorem dX10_staysPut_29 : decode cX10_staysPut 29 = .ok (.invokevirtual 329, 3) := by decide +kernel
theorem dX10_staysPut_32 : decode cX10_staysPut 32 = .ok (.iload 4, 2) := by decide +kernel
theorem dX10_staysPut_34 : decode cX10_staysPut 34 = .ok (.if_icmp .le 5, 3) := by decide +kernel
theorem dX10_staysPut_37 : decode cX10_staysPut 37 = .ok (.iconst 0, 1) := by decide +kernel
theorem dX10_staysPut_38 : decode cX10_staysPut 38 = .ok (.ireturn, 1) := by decide +kernel
theorem dX10_staysPut_39 : decode cX10_staysPut 39 = .ok (.iinc 5 1, 3) := by decide +kernel
theorem dX10_staysPut_42 : decode cX10_staysPut 42 = .ok (.goto (-30), 3) := by decide +kernel
theorem dX10_staysPut_45 : decode cX10_staysPut 45 = .ok (.iconst 1, 1) := by decide +kernel
theorem dX10_staysPut_46 : decode cX10_staysPut 46 = .ok (.ireturn, 1) := by decide +kernel
theorem dX10_worth_0 : decode cX10_worth 0 = .ok (.iload_n 2, 1) := by decide +kernel
theorem dX10_worth_1 : decode cX10_worth 1 = .ok (.iload_n 3, 1) := by decide +kernel
theorem dX10_worth_2 : decode cX10_worth 2 = .ok (.if_icmp .ne 14, 3) := by decide +kernel
theorem dX10_worth_5 : decode cX10_worth 5 = .ok (.aload_n 0, 1) := by decide +kernel
theorem dX10_worth_6 : decode cX10_worth 6 = .ok (.getfield 69, 3) := by decide +kernel
theorem dX10_worth_9 : decode cX10_worth 9 = .ok (.iload_n 2, 1) := by decide +kernel
theorem dX10_worth_10 : decode cX10_worth 10 = .ok (.iaload, 1) := by decide +kernel
theorem dX10_worth_11 : decode cX10_worth 11 = .ok (.iconst 2, 1) := by decide +kernel
theorem dX10_worth_12 : decode cX10_worth 12 = .ok (.idiv, 1) := by decide +kernel
theorem dX10_worth_13 : decode cX10_worth 13 = .ok (.goto 9, 3) := by decide +kernel
theorem dX10_worth_16 : decode cX10_worth 16 = .ok (.aload_n 0, 1) := by decide +kernel
theorem dX10_worth_17 : decode cX10_worth 17 = .ok (.getfield 69, 3) := by decide +kernel
theorem dX10_worth_20 : decode cX10_worth 20 = .ok (.iload_n 2, 1) := by decide +kernel
theorem dX10_worth_21 : decode cX10_worth 21 = .ok (.iaload, 1) := by decide +kernel
theorem dX10_worth_22 : decode cX10_worth 22 = .ok (.istore 4, 2) := by decide +kernel
theorem dX10_worth_24 : decode cX10_worth 24 = .ok (.iload 4, 2) := by decide +kernel
theorem dX10_worth_26 : decode cX10_worth 26 = .ok (.iload_n 2, 1) := by decide +kernel
theorem dX10_worth_27 : decode cX10_worth 27 = .ok (.iload_n 1, 1) := by decide +kernel
theorem dX10_worth_28 : decode cX10_worth 28 = .ok (.isub, 1) := by decide +kernel
theorem dX10_worth_29 : decode cX10_worth 29 = .ok (.invokestatic 332, 3) := by decide +kernel
theorem dX10_worth_32 : decode cX10_worth 32 = .ok (.isub, 1) := by decide +kernel
theorem dX10_worth_33 : decode cX10_worth 33 = .ok (.ireturn, 1) := by decide +kernel
set_option maxRecDepth 20000 in
theorem gw_wsX11_begin : wsX11_begin.all goodWord = true := by decide +kernel
set_option maxRecDepth 20000 in
theorem ggX11_init_X11_begin : GoodIn wsX11_init wsX11_begin := goodIn_r _ [21] rfl gw_wsX11_begin
set_option maxRecDepth 20000 in
theorem gX11_init_X11_begin : GoodIn wsX11_init (va_wsS RX11 48 yX11_begin wsX11_begin) := goodIn_app (goodIn_r _ [18, 19, 20] (by exact rfl) (by decide +kernel)) ggX11_init_X11_begin
theorem dX11_init_0 : decode cX11_init 0 = .ok (.aload_n 0, 1) := by decide +kernel
theorem dX11_init_1 : decode cX11_init 1 = .ok (.invokespecial 1, 3) := by decide +kernel
theorem dX11_init_4 : decode cX11_init 4 = .ok (.aload_n 0, 1) := by decide +kernel
theorem dX11_init_5 : decode cX11_init 5 = .ok (.sipush 228, 3) := by decide +kernel
theorem dX11_init_8 : decode cX11_init 8 = .ok (.newarray .int, 2) := by decide +kernel
theorem dX11_init_10 : decode cX11_init 10 = .ok (.putfield 7, 3) := by decide +kernel
theorem dX11_init_13 : decode cX11_init 13 = .ok (.aload_n 0, 1) := by decide +kernel
theorem dX11_init_14 : decode cX11_init 14 = .ok (.sipush 456, 3) := by decide +kernel
theorem dX11_init_17 : decode cX11_init 17 = .ok (.newarray .int, 2) := by decide +kernel
theorem dX11_init_19 : decode cX11_init 19 = .ok (.putfield 13, 3) := by decide +kernel
theorem dX11_init_22 : decode cX11_init 22 = .ok (.aload_n 0, 1) := by decide +kernel
theorem dX11_init_23 : decode cX11_init 23 = .ok (.iconst 2, 1) := by decide +kernel
theorem dX11_init_24 : decode cX11_init 24 = .ok (.newarray .boolean, 2) := by decide +kernel
theorem dX11_init_26 : decode cX11_init 26 = .ok (.putfield 16, 3) := by decide +kernel
theorem dX11_init_29 : decode cX11_init 29 = .ok (.aload_n 0, 1) := by decide +kernel
theorem dX11_init_30 : decode cX11_init 30 = .ok (.iconst 3, 1) := by decide +kernel
theorem dX11_init_31 : decode cX11_init 31 = .ok (.newarray .int, 2) := by decide +kernel
theorem dX11_init_33 : decode cX11_init 33 = .ok (.putfield 20, 3) := by decide +kernel
theorem dX11_init_36 : decode cX11_init 36 = .ok (.aload_n 0, 1) := by decide +kernel
theorem dX11_init_37 : decode cX11_init 37 = .ok (.lconst 1, 1) := by decide +kernel
theorem dX11_init_38 : decode cX11_init 38 = .ok (.putfield 23, 3) := by decide +kernel
theorem dX11_init_41 : decode cX11_init 41 = .ok (.aload_n 0, 1) := by decide +kernel
theorem dX11_init_42 : decode cX11_init 42 = .ok (.bipush 30, 2) := by decide +kernel
theorem dX11_init_44 : decode cX11_init 44 = .ok (.newarray .int, 2) := by decide +kernel
theorem dX11_init_46 : decode cX11_init 46 = .ok (.putfield 27, 3) := by decide +kernel
theorem dX11_init_49 : decode cX11_init 49 = .ok (.aload_n 0, 1) := by decide +kernel
theorem dX11_init_50 : decode cX11_init 50 = .ok (.bipush 6, 2) := by decide +kernel
theorem dX11_init_52 : decode cX11_init 52 = .ok (.newarray .int, 2) := by decide +kernel
theorem dX11_init_54 : decode cX11_init 54 = .ok (.putfield 30, 3) := by decide +kernel
theorem dX11_init_57 : decode cX11_init 57 = .ok (.aload_n 0, 1) := by decide +kernel
theorem dX11_init_58 : decode cX11_init 58 = .ok (.bipush 6, 2) := by decide +kernel
theorem dX11_init_60 : decode cX11_init 60 = .ok (.newarray .int, 2) := by decide +kernel
theorem dX11_init_62 : decode cX11_init 62 = .ok (.putfield 33, 3) := by decide +kernel
theorem dX11_init_65 : decode cX11_init 65 = .ok (.aload_n 0, 1) := by decide +kernel
theorem dX11_init_66 : decode cX11_init 66 = .ok (.iconst 5, 1) := by decide +kernel
theorem dX11_init_67 : decode cX11_init 67 = .ok (.newarray .int, 2) := by decide +kernel
theorem dX11_init_69 : decode cX11_init 69 = .ok (.putfield 36, 3) := by decide +kernel
theorem dX11_init_72 : decode cX11_init 72 = .ok (.aload_n 0, 1) := by decide +kernel
theorem dX11_init_73 : decode cX11_init 73 = .ok (.sipush 150, 3) := by decide +kernel
theorem dX11_init_76 : decode cX11_init 76 = .ok (.newarray .int, 2) := by decide +kernel
theorem dX11_init_78 : decode cX11_init 78 = .ok (.putfield 39, 3) := by decide +kernel
theorem dX11_init_81 : decode cX11_init 81 = .ok (.aload_n 0, 1) := by decide +kernel
theorem dX11_init_82 : decode cX11_init 82 = .ok (.bipush 76, 2) := by decide +kernel
theorem dX11_init_84 : decode cX11_init 84 = .ok (.newarray .int, 2) := by decide +kernel
theorem dX11_init_86 : decode cX11_init 86 = .ok (.putfield 42, 3) := by decide +kernel
theorem dX11_init_89 : decode cX11_init 89 = .ok (.aload_n 0, 1) := by decide +kernel
theorem dX11_init_90 : decode cX11_init 90 = .ok (.iconst 2, 1) := by decide +kernel
theorem dX11_init_91 : decode cX11_init 91 = .ok (.newarray .int, 2) := by decide +kernel
theorem dX11_init_93 : decode cX11_init 93 = .ok (.putfield 45, 3) := by decide +kernel
theorem dX11_init_96 : decode cX11_init 96 = .ok (.aload_n 0, 1) := by decide +kernel
theorem dX11_init_97 : decode cX11_init 97 = .ok (.getfield 7, 3) := by decide +kernel
theorem dX11_init_100 : decode cX11_init 100 = .ok (.iconst 0, 1) := by decide +kernel
theorem dX11_init_101 : decode cX11_init 101 = .ok (.invokestatic 48, 3) := by decide +kernel
theorem dX11_init_104 : decode cX11_init 104 = .ok (.return_, 1) := by decide +kernel
theorem dX11_in_0 : decode cX11_in 0 = .ok (.lload_n 0, 1) := by decide +kernel
theorem dX11_in_1 : decode cX11_in 1 = .ok (.lload_n 2, 1) := by decide +kernel
theorem dX11_in_2 : decode cX11_in 2 = .ok (.lcmp, 1) := by decide +kernel
theorem dX11_in_3 : decode cX11_in 3 = .ok (.ifCond .lt 14, 3) := by decide +kernel
theorem dX11_in_6 : decode cX11_in 6 = .ok (.lload_n 0, 1) := by decide +kernel
theorem dX11_in_7 : decode cX11_in 7 = .ok (.lload 4, 2) := by decide +kernel
theorem dX11_in_9 : decode cX11_in 9 = .ok (.lcmp, 1) := by decide +kernel
theorem dX11_in_10 : decode cX11_in 10 = .ok (.ifCond .gt 7, 3) := by decide +kernel
theorem dX11_in_13 : decode cX11_in 13 = .ok (.iconst 1, 1) := by decide +kernel
theorem dX11_in_14 : decode cX11_in 14 = .ok (.goto 4, 3) := by decide +kernel
theorem dX11_in_17 : decode cX11_in 17 = .ok (.iconst 0, 1) := by decide +kernel
theorem dX11_in_18 : decode cX11_in 18 = .ok (.ireturn, 1) := by decide +kernel
theorem dX11_bad_0 : decode cX11_bad 0 = .ok (.aload_n 0, 1) := by decide +kernel
theorem dX11_bad_1 : decode cX11_bad 1 = .ok (.getfield 20, 3) := by decide +kernel
theorem dX11_bad_4 : decode cX11_bad 4 = .ok (.iconst 0, 1) := by decide +kernel
theorem dX11_bad_5 : decode cX11_bad 5 = .ok (.dup2, 1) := by decide +kernel
theorem dX11_bad_6 : decode cX11_bad 6 = .ok (.iaload, 1) := by decide +kernel
theorem dX11_bad_7 : decode cX11_bad 7 = .ok (.iconst 1, 1) := by decide +kernel
theorem dX11_bad_8 : decode cX11_bad 8 = .ok (.iadd, 1) := by decide +kernel
theorem dX11_bad_9 : decode cX11_bad 9 = .ok (.iastore, 1) := by decide +kernel
theorem dX11_bad_10 : decode cX11_bad 10 = .ok (.iload_n 1, 1) := by decide +kernel
theorem dX11_bad_11 : decode cX11_bad 11 = .ok (.ireturn, 1) := by decide +kernel
theorem dX11_no_0 : decode cX11_no 0 = .ok (.aload_n 0, 1) := by decide +kernel
theorem dX11_no_1 : decode cX11_no 1 = .ok (.getfield 20, 3) := by decide +kernel
theorem dX11_no_4 : decode cX11_no 4 = .ok (.iconst 1, 1) := by decide +kernel
theorem dX11_no_5 : decode cX11_no 5 = .ok (.dup2, 1) := by decide +kernel
theorem dX11_no_6 : decode cX11_no 6 = .ok (.iaload, 1) := by decide +kernel
theorem dX11_no_7 : decode cX11_no 7 = .ok (.iconst 1, 1) := by decide +kernel
theorem dX11_no_8 : decode cX11_no 8 = .ok (.iadd, 1) := by decide +kernel
theorem dX11_no_9 : decode cX11_no 9 = .ok (.iastore, 1) := by decide +kernel
theorem dX11_no_10 : decode cX11_no 10 = .ok (.bipush (-3), 2) := by decide +kernel
theorem dX11_no_12 : decode cX11_no 12 = .ok (.ireturn, 1) := by decide +kernel
theorem dX11_full_0 : decode cX11_full 0 = .ok (.aload_n 0, 1) := by decide +kernel
theorem dX11_full_1 : decode cX11_full 1 = .ok (.getfield 20, 3) := by decide +kernel
theorem dX11_full_4 : decode cX11_full 4 = .ok (.iconst 2, 1) := by decide +kernel
theorem dX11_full_5 : decode cX11_full 5 = .ok (.dup2, 1) := by decide +kernel
theorem dX11_full_6 : decode cX11_full 6 = .ok (.iaload, 1) := by decide +kernel
theorem dX11_full_7 : decode cX11_full 7 = .ok (.iconst 1, 1) := by decide +kernel
theorem dX11_full_8 : decode cX11_full 8 = .ok (.iadd, 1) := by decide +kernel
theorem dX11_full_9 : decode cX11_full 9 = .ok (.iastore, 1) := by decide +kernel
theorem dX11_full_10 : decode cX11_full 10 = .ok (.bipush (-4), 2) := by decide +kernel
theorem dX11_full_12 : decode cX11_full 12 = .ok (.ireturn, 1) := by decide +kernel
theorem dX11_bits_0 : decode cX11_bits 0 = .ok (.iconst 0, 1) := by decide +kernel
theorem dX11_bits_1 : decode cX11_bits 1 = .ok (.istore_n 1, 1) := by decide +kernel
theorem dX11_bits_2 : decode cX11_bits 2 = .ok (.iload_n 0, 1) := by decide +kernel
theorem dX11_bits_3 : decode cX11_bits 3 = .ok (.istore_n 2, 1) := by decide +kernel
theorem dX11_bits_4 : decode cX11_bits 4 = .ok (.iload_n 2, 1) := by decide +kernel
theorem dX11_bits_5 : decode cX11_bits 5 = .ok (.ifCond .le 16, 3) := by decide +kernel
theorem dX11_bits_8 : decode cX11_bits 8 = .ok (.iload_n 1, 1) := by decide +kernel
theorem dX11_bits_9 : decode cX11_bits 9 = .ok (.iload_n 2, 1) := by decide +kernel
theorem dX11_bits_10 : decode cX11_bits 10 = .ok (.iconst 1, 1) := by decide +kernel
theorem dX11_bits_11 : decode cX11_bits 11 = .ok (.iand, 1) := by decide +kernel
theorem dX11_bits_12 : decode cX11_bits 12 = .ok (.iadd, 1) := by decide +kernel
theorem dX11_bits_13 : decode cX11_bits 13 = .ok (.istore_n 1, 1) := by decide +kernel
theorem dX11_bits_14 : decode cX11_bits 14 = .ok (.iload_n 2, 1) := by decide +kernel
theorem dX11_bits_15 : decode cX11_bits 15 = .ok (.iconst 1, 1) := by decide +kernel
theorem dX11_bits_16 : decode cX11_bits 16 = .ok (.ishr, 1) := by decide +kernel
theorem dX11_bits_17 : decode cX11_bits 17 = .ok (.istore_n 2, 1) := by decide +kernel
theorem dX11_bits_18 : decode cX11_bits 18 = .ok (.goto (-14), 3) := by decide +kernel
theorem dX11_bits_21 : decode cX11_bits 21 = .ok (.iload_n 1, 1) := by decide +kernel
theorem dX11_bits_22 : decode cX11_bits 22 = .ok (.ireturn, 1) := by decide +kernel
theorem dX11_has_0 : decode cX11_has 0 = .ok (.iload_n 0, 1) := by decide +kernel
theorem dX11_has_1 : decode cX11_has 1 = .ok (.iload_n 1, 1) := by decide +kernel
theorem dX11_has_2 : decode cX11_has 2 = .ok (.ishr, 1) := by decide +kernel
theorem dX11_has_3 : decode cX11_has 3 = .ok (.iconst 1, 1) := by decide +kernel
theorem dX11_has_4 : decode cX11_has 4 = .ok (.iand, 1) := by decide +kernel
theorem dX11_has_5 : decode cX11_has 5 = .ok (.iconst 1, 1) := by decide +kernel
theorem dX11_has_6 : decode cX11_has 6 = .ok (.if_icmp .ne 7, 3) := by decide +kernel
theorem dX11_has_9 : decode cX11_has 9 = .ok (.iconst 1, 1) := by decide +kernel
theorem dX11_has_10 : decode cX11_has 10 = .ok (.goto 4, 3) := by decide +kernel
theorem dX11_has_13 : decode cX11_has 13 = .ok (.iconst 0, 1) := by decide +kernel
theorem dX11_has_14 : decode cX11_has 14 = .ok (.ireturn, 1) := by decide +kernel
theorem dX11_begin_0 : decode cX11_begin 0 = .ok (.iconst 0, 1) := by decide +kernel
theorem dX11_begin_1 : decode cX11_begin 1 = .ok (.istore_n 2, 1) := by decide +kernel
theorem dX11_begin_2 : decode cX11_begin 2 = .ok (.iload_n 2, 1) := by decide +kernel
theorem dX11_begin_3 : decode cX11_begin 3 = .ok (.bipush 76, 2) := by decide +kernel
theorem dX11_begin_5 : decode cX11_begin 5 = .ok (.if_icmp .ge 13, 3) := by decide +kernel
theorem dX11_begin_8 : decode cX11_begin 8 = .ok (.aload_n 0, 1) := by decide +kernel
theorem dX11_begin_9 : decode cX11_begin 9 = .ok (.iload_n 2, 1) := by decide +kernel
theorem dX11_begin_10 : decode cX11_begin 10 = .ok (.iconst 0, 1) := by decide +kernel
theorem dX11_begin_11 : decode cX11_begin 11 = .ok (.iastore, 1) := by decide +kernel
theorem dX11_begin_12 : decode cX11_begin 12 = .ok (.iinc 2 1, 3) := by decide +kernel
theorem dX11_begin_15 : decode cX11_begin 15 = .ok (.goto (-13), 3) := by decide +kernel
theorem dX11_begin_18 : decode cX11_begin 18 = .ok (.aload_n 0, 1) := by decide +kernel
theorem dX11_begin_19 : decode cX11_begin 19 = .ok (.bipush 22, 2) := by decide +kernel
theorem dX11_begin_21 : decode cX11_begin 21 = .ok (.iload_n 1, 1) := by decide +kernel
theorem dX11_begin_22 : decode cX11_begin 22 = .ok (.iastore, 1) := by decide +kernel
theorem dX11_begin_23 : decode cX11_begin 23 = .ok (.return_, 1) := by decide +kernel
theorem dX11_many_0 : decode cX11_many 0 = .ok (.aload_n 0, 1) := by decide +kernel
theorem dX11_many_1 : decode cX11_many 1 = .ok (.getfield 7, 3) := by decide +kernel
theorem dX11_many_4 : decode cX11_many 4 = .ok (.iconst 0, 1) := by decide +kernel
theorem dX11_many_5 : decode cX11_many 5 = .ok (.iaload, 1) := by decide +kernel
theorem dX11_many_6 : decode cX11_many 6 = .ok (.ireturn, 1) := by decide +kernel
theorem dX11_manyGleaners_0 : decode cX11_manyGleaners 0 = .ok (.aload_n 0, 1) := by decide +kernel
theorem dX11_manyGleaners_1 : decode cX11_manyGleaners 1 = .ok (.getfield 7, 3) := by decide +kernel
theorem dX11_manyGleaners_4 : decode cX11_manyGleaners 4 = .ok (.iconst 1, 1) := by decide +kernel
theorem dX11_manyGleaners_5 : decode cX11_manyGleaners 5 = .ok (.iaload, 1) := by decide +kernel
theorem dX11_manyGleaners_6 : decode cX11_manyGleaners 6 = .ok (.ireturn, 1) := by decide +kernel
set_option maxRecDepth 20000 in
theorem gw_wsX11_many : wsX11_many.all goodWord = true := by decide +kernel
set_option maxRecDepth 20000 in
theorem ggX11_isField_X11_many : GoodIn wsX11_isField wsX11_many := goodIn_r _ [5, 6, 10, 11, 12, 13, 14, 15, 16, 17, 18, 19, 20, 21, 22, 23, 24, 25, 26, 27] rfl gw_wsX11_many
set_option maxRecDepth 20000 in
theorem gX11_isField_X11_many : GoodIn wsX11_isField (wsV RX11 52 RX11 yX11_many wsX11_many) := goodIn_app (goodIn_r _ [1, 2, 3, 4] (by exact rfl) (by decide +kernel)) ggX11_isField_X11_many
set_option maxRecDepth 20000 in
theorem gw_wsX11_in : wsX11_in.all goodWord = true := by decide +kernel
set_option maxRecDepth 20000 in
theorem ggX11_isField_X11_in : GoodIn wsX11_isField wsX11_in := goodIn_r _ [9] rfl gw_wsX11_in
set_option maxRecDepth 20000 in
theorem gX11_isField_X11_in : GoodIn wsX11_isField (va_wsS RX11 56 yX11_in wsX11_in) := goodIn_app (goodIn_r _ [7, 8, 4] (by exact rfl) (by decide +kernel)) ggX11_isField_X11_in
theorem dX11_isField_0 : decode cX11_isField 0 = .ok (.iload_n 1, 1) := by decide +kernel
theorem dX11_isField_1 : decode cX11_isField 1 = .ok (.i2l, 1) := by decide +kernel
theorem dX11_isField_2 : decode cX11_isField 2 = .ok (.lconst 0, 1) := by decide +kernel
theorem dX11_isField_3 : decode cX11_isField 3 = .ok (.aload_n 0, 1) := by decide +kernel
theorem dX11_isField_4 : decode cX11_isField 4 = .ok (.invokevirtual 52, 3) := by decide +kernel
theorem dX11_isField_7 : decode cX11_isField 7 = .ok (.iconst 1, 1) := by decide +kernel
theorem dX11_isField_8 : decode cX11_isField 8 = .ok (.isub, 1) := by decide +kernel
theorem dX11_isField_9 : decode cX11_isField 9 = .ok (.i2l, 1) := by decide +kernel
theorem dX11_isField_10 : decode cX11_isField 10 = .ok (.invokestatic 56, 3) := by decide +kernel
theorem dX11_isField_13 : decode cX11_isField 13 = .ok (.ireturn, 1) := by decide +kernel
set_option maxRecDepth 20000 in
theorem gw_wsX11_manyGleaners : wsX11_manyGleaners.all goodWord = true := by decide +kernel
set_option maxRecDepth 20000 in
theorem ggX11_isGleaner_X11_manyGleaners : GoodIn wsX11_isGleaner wsX11_manyGleaners := goodIn_r _ [5, 6, 10, 11, 12, 13, 14, 15, 16, 17, 18, 19, 20, 21, 22, 23, 24, 25, 26, 27] rfl gw_wsX11_manyGleaners
set_option maxRecDepth 20000 in
theorem gX11_isGleaner_X11_manyGleaners : GoodIn wsX11_isGleaner (wsV RX11 60 RX11 yX11_manyGleaners wsX11_manyGleaners) := goodIn_app (goodIn_r _ [1, 2, 3, 4] (by exact rfl) (by decide +kernel)) ggX11_isGleaner_X11_manyGleaners
set_option maxRecDepth 20000 in
theorem ggX11_isGleaner_X11_in : GoodIn wsX11_isGleaner wsX11_in := goodIn_r _ [9] rfl gw_wsX11_in
set_option maxRecDepth 20000 in
theorem gX11_isGleaner_X11_in : GoodIn wsX11_isGleaner (va_wsS RX11 56 yX11_in wsX11_in) := goodIn_app (goodIn_r _ [7, 8, 4] (by exact rfl) (by decide +kernel)) ggX11_isGleaner_X11_in
theorem dX11_isGleaner_0 : decode cX11_isGleaner 0 = .ok (.iload_n 1, 1) := by decide +kernel
theorem dX11_isGleaner_1 : decode cX11_isGleaner 1 = .ok (.i2l, 1) := by decide +kernel
theorem dX11_isGleaner_2 : decode cX11_isGleaner 2 = .ok (.lconst 0, 1) := by decide +kernel
theorem dX11_isGleaner_3 : decode cX11_isGleaner 3 = .ok (.aload_n 0, 1) := by decide +kernel
theorem dX11_isGleaner_4 : decode cX11_isGleaner 4 = .ok (.invokevirtual 60, 3) := by decide +kernel
theorem dX11_isGleaner_7 : decode cX11_isGleaner 7 = .ok (.iconst 1, 1) := by decide +kernel
theorem dX11_isGleaner_8 : decode cX11_isGleaner 8 = .ok (.isub, 1) := by decide +kernel
theorem dX11_isGleaner_9 : decode cX11_isGleaner 9 = .ok (.i2l, 1) := by decide +kernel
theorem dX11_isGleaner_10 : decode cX11_isGleaner 10 = .ok (.invokestatic 56, 3) := by decide +kernel
theorem dX11_isGleaner_13 : decode cX11_isGleaner 13 = .ok (.ireturn, 1) := by decide +kernel
set_option maxRecDepth 20000 in
theorem ggX11_isStep_X11_in : GoodIn wsX11_isStep wsX11_in := goodIn_r _ [5] rfl gw_wsX11_in
set_option maxRecDepth 20000 in
theorem gX11_isStep_X11_in : GoodIn wsX11_isStep (va_wsS RX11 56 yX11_in wsX11_in) := goodIn_app (goodIn_r _ [2, 3, 4] (by exact rfl) (by decide +kernel)) ggX11_isStep_X11_in
theorem dX11_isStep_0 : decode cX11_isStep 0 = .ok (.iload_n 0, 1) := by decide +kernel
theorem dX11_isStep_1 : decode cX11_isStep 1 = .ok (.i2l, 1) := by decide +kernel
theorem dX11_isStep_2 : decode cX11_isStep 2 = .ok (.lconst 0, 1) := by decide +kernel
theorem dX11_isStep_3 : decode cX11_isStep 3 = .ok (.ldc2_w 63, 3) := by decide +kernel
theorem dX11_isStep_6 : decode cX11_isStep 6 = .ok (.invokestatic 56, 3) := by decide +kernel
theorem dX11_isStep_9 : decode cX11_isStep 9 = .ok (.ireturn, 1) := by decide +kernel
set_option maxRecDepth 20000 in
theorem ggX11_isCloud_X11_in : GoodIn wsX11_isCloud wsX11_in := goodIn_r _ [5] rfl gw_wsX11_in
set_option maxRecDepth 20000 in
theorem gX11_isCloud_X11_in : GoodIn wsX11_isCloud (va_wsS RX11 56 yX11_in wsX11_in) := goodIn_app (goodIn_r _ [2, 3, 4] (by exact rfl) (by decide +kernel)) ggX11_isCloud_X11_in
theorem dX11_isCloud_0 : decode cX11_isCloud 0 = .ok (.iload_n 0, 1) := by decide +kernel
theorem dX11_isCloud_1 : decode cX11_isCloud 1 = .ok (.i2l, 1) := by decide +kernel
theorem dX11_isCloud_2 : decode cX11_isCloud 2 = .ok (.lconst 0, 1) := by decide +kernel
theorem dX11_isCloud_3 : decode cX11_isCloud 3 = .ok (.ldc2_w 65, 3) := by decide +kernel
theorem dX11_isCloud_6 : decode cX11_isCloud 6 = .ok (.invokestatic 56, 3) := by decide +kernel
theorem dX11_isCloud_9 : decode cX11_isCloud 9 = .ok (.ireturn, 1) := by decide +kernel
set_option maxRecDepth 20000 in
theorem ggX11_isLight_X11_in : GoodIn wsX11_isLight wsX11_in := goodIn_r _ [5] rfl gw_wsX11_in
set_option maxRecDepth 20000 in
theorem gX11_isLight_X11_in : GoodIn wsX11_isLight (va_wsS RX11 56 yX11_in wsX11_in) := goodIn_app (goodIn_r _ [2, 3, 4] (by exact rfl) (by decide +kernel)) ggX11_isLight_X11_in
theorem dX11_isLight_0 : decode cX11_isLight 0 = .ok (.iload_n 0, 1) := by decide +kernel
theorem dX11_isLight_1 : decode cX11_isLight 1 = .ok (.i2l, 1) := by decide +kernel
theorem dX11_isLight_2 : decode cX11_isLight 2 = .ok (.lconst 0, 1) := by decide +kernel
theorem dX11_isLight_3 : decode cX11_isLight 3 = .ok (.ldc2_w 67, 3) := by decide +kernel
theorem dX11_isLight_6 : decode cX11_isLight 6 = .ok (.invokestatic 56, 3) := by decide +kernel
theorem dX11_isLight_9 : decode cX11_isLight 9 = .ok (.ireturn, 1) := by decide +kernel
set_option maxRecDepth 20000 in
theorem gw_wsX11_isCloud : wsX11_isCloud.all goodWord = true := by decide +kernel
set_option maxRecDepth 20000 in
theorem ggX11_parish_X11_isCloud : GoodIn wsX11_parish wsX11_isCloud := goodIn_r _ [5, 6, 7, 8, 4, 9] rfl gw_wsX11_isCloud
set_option maxRecDepth 20000 in
theorem gX11_parish_X11_isCloud : GoodIn wsX11_parish (va_wsS RX11 69 yX11_isCloud wsX11_isCloud) := goodIn_app (goodIn_r _ [2, 3, 4] (by exact rfl) (by decide +kernel)) ggX11_parish_X11_isCloud
set_option maxRecDepth 20000 in
theorem gw_wsX11_bad : wsX11_bad.all goodWord = true := by decide +kernel
set_option maxRecDepth 20000 in
theorem ggX11_parish_X11_bad : GoodIn wsX11_parish wsX11_bad := goodIn_r _ [13, 14, 22, 23, 24, 25, 26, 27, 28, 29, 30, 31, 32, 33, 34, 35, 36, 37, 38, 39] rfl gw_wsX11_bad
set_option maxRecDepth 20000 in
theorem gX11_parish_X11_bad : GoodIn wsX11_parish (wsV RX11 73 RX11 yX11_bad wsX11_bad) := goodIn_app (goodIn_r _ [10, 11, 12, 4] (by exact rfl) (by decide +kernel)) ggX11_parish_X11_bad
set_option maxRecDepth 20000 in
theorem ggX11_parish_X11_many : GoodIn wsX11_parish wsX11_many := goodIn_r _ [18, 1, 22, 23, 24, 25, 26, 27, 28, 29, 30, 31, 32, 33, 34, 35, 36, 37, 38, 39] rfl gw_wsX11_many
set_option maxRecDepth 20000 in
theorem gX11_parish_X11_many : GoodIn wsX11_parish (wsV RX11 52 RX11 yX11_many wsX11_many) := goodIn_app (goodIn_r _ [15, 16, 17, 4] (by exact rfl) (by decide +kernel)) ggX11_parish_X11_many
set_option maxRecDepth 20000 in
theorem ggX11_parish_X11_begin : GoodIn wsX11_parish wsX11_begin := goodIn_r _ [21] rfl gw_wsX11_begin
set_option maxRecDepth 20000 in
theorem gX11_parish_X11_begin : GoodIn wsX11_parish (va_wsS RX11 48 yX11_begin wsX11_begin) := goodIn_app (goodIn_r _ [19, 20, 4] (by exact rfl) (by decide +kernel)) ggX11_parish_X11_begin
theorem dX11_parish_0 : decode cX11_parish 0 = .ok (.iload_n 1, 1) := by decide +kernel
theorem dX11_parish_1 : decode cX11_parish 1 = .ok (.invokestatic 69, 3) := by decide +kernel
theorem dX11_parish_4 : decode cX11_parish 4 = .ok (.ifCond .ne 10, 3) := by decide +kernel
theorem dX11_parish_7 : decode cX11_parish 7 = .ok (.aload_n 0, 1) := by decide +kernel
theorem dX11_parish_8 : decode cX11_parish 8 = .ok (.bipush (-2), 2) := by decide +kernel
theorem dX11_parish_10 : decode cX11_parish 10 = .ok (.invokevirtual 73, 3) := by decide +kernel
theorem dX11_parish_13 : decode cX11_parish 13 = .ok (.ireturn, 1) := by decide +kernel
theorem dX11_parish_14 : decode cX11_parish 14 = .ok (.aload_n 0, 1) := by decide +kernel
theorem dX11_parish_15 : decode cX11_parish 15 = .ok (.invokevirtual 52, 3) := by decide +kernel
theorem dX11_parish_18 : decode cX11_parish 18 = .ok (.istore_n 2, 1) := by decide +kernel
theorem dX11_parish_19 : decode cX11_parish 19 = .ok (.aload_n 0, 1) := by decide +kernel
theorem dX11_parish_20 : decode cX11_parish 20 = .ok (.getfield 7, 3) := by decide +kernel
theorem dX11_parish_23 : decode cX11_parish 23 = .ok (.iload_n 1, 1) := by decide +kernel
theorem dX11_parish_24 : decode cX11_parish 24 = .ok (.invokestatic 48, 3) := by decide +kernel
theorem dX11_parish_27 : decode cX11_parish 27 = .ok (.iload_n 2, 1) := by decide +kernel
theorem dX11_parish_28 : decode cX11_parish 28 = .ok (.ireturn, 1) := by decide +kernel
theorem dX11_layField_0 : decode cX11_layField 0 = .ok (.aload_n 0, 1) := by decide +kernel
theorem dX11_layField_1 : decode cX11_layField 1 = .ok (.bipush 24, 2) := by decide +kernel
theorem dX11_layField_3 : decode cX11_layField 3 = .ok (.aload_n 0, 1) := by decide +kernel
theorem dX11_layField_4 : decode cX11_layField 4 = .ok (.iconst 0, 1) := by decide +kernel
theorem dX11_layField_5 : decode cX11_layField 5 = .ok (.iaload, 1) := by decide +kernel
theorem dX11_layField_6 : decode cX11_layField 6 = .ok (.iadd, 1) := by decide +kernel
theorem dX11_layField_7 : decode cX11_layField 7 = .ok (.iload_n 1, 1) := by decide +kernel
theorem dX11_layField_8 : decode cX11_layField 8 = .ok (.iastore, 1) := by decide +kernel
theorem dX11_layField_9 : decode cX11_layField 9 = .ok (.aload_n 0, 1) := by decide +kernel
theorem dX11_layField_10 : decode cX11_layField 10 = .ok (.iconst 5, 1) := by decide +kernel
theorem dX11_layField_11 : decode cX11_layField 11 = .ok (.aload_n 0, 1) := by decide +kernel
theorem dX11_layField_12 : decode cX11_layField 12 = .ok (.iconst 0, 1) := by decide +kernel
theorem dX11_layField_13 : decode cX11_layField 13 = .ok (.iaload, 1) := by decide +kernel
theorem dX11_layField_14 : decode cX11_layField 14 = .ok (.iadd, 1) := by decide +kernel
theorem dX11_layField_15 : decode cX11_layField 15 = .ok (.iload_n 2, 1) := by decide +kernel
theorem dX11_layField_16 : decode cX11_layField 16 = .ok (.iastore, 1) := by decide +kernel
theorem dX11_layField_17 : decode cX11_layField 17 = .ok (.aload_n 0, 1) := by decide +kernel
theorem dX11_layField_18 : decode cX11_layField 18 = .ok (.iconst 0, 1) := by decide +kernel
theorem dX11_layField_19 : decode cX11_layField 19 = .ok (.dup2, 1) := by decide +kernel
theorem dX11_layField_20 : decode cX11_layField 20 = .ok (.iaload, 1) := by decide +kernel
theorem dX11_layField_21 : decode cX11_layField 21 = .ok (.iconst 1, 1) := by decide +kernel
theorem dX11_layField_22 : decode cX11_layField 22 = .ok (.iadd, 1) := by decide +kernel
theorem dX11_layField_23 : decode cX11_layField 23 = .ok (.iastore, 1) := by decide +kernel
theorem dX11_layField_24 : decode cX11_layField 24 = .ok (.return_, 1) := by decide +kernel
set_option maxRecDepth 20000 in
theorem ggX11_field_X11_in : GoodIn wsX11_field wsX11_in := goodIn_r _ [6] rfl gw_wsX11_in
set_option maxRecDepth 20000 in
theorem gX11_field_X11_in : GoodIn wsX11_field (va_wsS RX11 56 yX11_in wsX11_in) := goodIn_app (goodIn_r _ [3, 4, 5] (by exact rfl) (by decide +kernel)) ggX11_field_X11_in
set_option maxRecDepth 20000 in
theorem gw_wsX11_isLight : wsX11_isLight.all goodWord = true := by decide +kernel
set_option maxRecDepth 20000 in
theorem ggX11_field_X11_isLight : GoodIn wsX11_field wsX11_isLight := goodIn_r _ [9, 10, 3, 4, 5, 6] rfl gw_wsX11_isLight
set_option maxRecDepth 20000 in
theorem gX11_field_X11_isLight : GoodIn wsX11_field (va_wsS RX11 79 yX11_isLight wsX11_isLight) := goodIn_app (goodIn_r _ [7, 8, 5] (by exact rfl) (by decide +kernel)) ggX11_field_X11_isLight
set_option maxRecDepth 20000 in
theorem ggX11_field_X11_bad : GoodIn wsX11_field wsX11_bad := goodIn_r _ [14, 15, 27, 28, 29, 30, 31, 32, 33, 34, 35, 36, 37, 38, 39, 40, 41, 42, 43, 44] rfl gw_wsX11_bad
set_option maxRecDepth 20000 in
theorem gX11_field_X11_bad : GoodIn wsX11_field (wsV RX11 73 RX11 yX11_bad wsX11_bad) := goodIn_app (goodIn_r _ [11, 12, 13, 5] (by exact rfl) (by decide +kernel)) ggX11_field_X11_bad
set_option maxRecDepth 20000 in
theorem ggX11_field_X11_many : GoodIn wsX11_field wsX11_many := goodIn_r _ [19, 2, 27, 28, 29, 30, 31, 32, 33, 34, 35, 36, 37, 38, 39, 40, 41, 42, 43, 44] rfl gw_wsX11_many
set_option maxRecDepth 20000 in
theorem gX11_field_X11_many : GoodIn wsX11_field (wsV RX11 52 RX11 yX11_many wsX11_many) := goodIn_app (goodIn_r _ [16, 17, 18, 5] (by exact rfl) (by decide +kernel)) ggX11_field_X11_many
set_option maxRecDepth 20000 in
theorem gw_wsX11_full : wsX11_full.all goodWord = true := by decide +kernel
set_option maxRecDepth 20000 in
theorem ggX11_field_X11_full : GoodIn wsX11_field wsX11_full := goodIn_r _ [23, 15, 27, 28, 29, 30, 31, 32, 33, 34, 35, 36, 37, 38, 39, 40, 41, 42, 43, 44] rfl gw_wsX11_full
set_option maxRecDepth 20000 in
theorem gX11_field_X11_full : GoodIn wsX11_field (wsV RX11 82 RX11 yX11_full wsX11_full) := goodIn_app (goodIn_r _ [20, 21, 22, 5] (by exact rfl) (by decide +kernel)) ggX11_field_X11_full
