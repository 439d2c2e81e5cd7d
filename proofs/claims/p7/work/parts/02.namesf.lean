set_option maxRecDepth 20000 in
theorem gw_wsX11_layField : wsX11_layField.all goodWord = true := by decide +kernel
set_option maxRecDepth 20000 in
theorem ggX11_field_X11_layField : GoodIn wsX11_field wsX11_layField := goodIn_r _ [26] rfl gw_wsX11_layField
set_option maxRecDepth 20000 in
theorem gX11_field_X11_layField : GoodIn wsX11_field (va_wsS RX11 85 yX11_layField wsX11_layField) := goodIn_app (goodIn_r _ [24, 25, 5] (by exact rfl) (by decide +kernel)) ggX11_field_X11_layField
theorem dX11_field_0 : decode cX11_field 0 = .ok (.iload_n 1, 1) := by decide +kernel
theorem dX11_field_1 : decode cX11_field 1 = .ok (.i2l, 1) := by decide +kernel
theorem dX11_field_2 : decode cX11_field 2 = .ok (.lconst 0, 1) := by decide +kernel
theorem dX11_field_3 : decode cX11_field 3 = .ok (.ldc2_w 77, 3) := by decide +kernel
theorem dX11_field_6 : decode cX11_field 6 = .ok (.invokestatic 56, 3) := by decide +kernel
theorem dX11_field_9 : decode cX11_field 9 = .ok (.ifCond .eq 10, 3) := by decide +kernel
theorem dX11_field_12 : decode cX11_field 12 = .ok (.iload_n 2, 1) := by decide +kernel
theorem dX11_field_13 : decode cX11_field 13 = .ok (.invokestatic 79, 3) := by decide +kernel
theorem dX11_field_16 : decode cX11_field 16 = .ok (.ifCond .ne 10, 3) := by decide +kernel
theorem dX11_field_19 : decode cX11_field 19 = .ok (.aload_n 0, 1) := by decide +kernel
theorem dX11_field_20 : decode cX11_field 20 = .ok (.bipush (-2), 2) := by decide +kernel
theorem dX11_field_22 : decode cX11_field 22 = .ok (.invokevirtual 73, 3) := by decide +kernel
theorem dX11_field_25 : decode cX11_field 25 = .ok (.ireturn, 1) := by decide +kernel
theorem dX11_field_26 : decode cX11_field 26 = .ok (.aload_n 0, 1) := by decide +kernel
theorem dX11_field_27 : decode cX11_field 27 = .ok (.invokevirtual 52, 3) := by decide +kernel
theorem dX11_field_30 : decode cX11_field 30 = .ok (.bipush 6, 2) := by decide +kernel
theorem dX11_field_32 : decode cX11_field 32 = .ok (.if_icmp .ne 8, 3) := by decide +kernel
theorem dX11_field_35 : decode cX11_field 35 = .ok (.aload_n 0, 1) := by decide +kernel
theorem dX11_field_36 : decode cX11_field 36 = .ok (.invokevirtual 82, 3) := by decide +kernel
theorem dX11_field_39 : decode cX11_field 39 = .ok (.ireturn, 1) := by decide +kernel
theorem dX11_field_40 : decode cX11_field 40 = .ok (.aload_n 0, 1) := by decide +kernel
theorem dX11_field_41 : decode cX11_field 41 = .ok (.getfield 7, 3) := by decide +kernel
theorem dX11_field_44 : decode cX11_field 44 = .ok (.iload_n 1, 1) := by decide +kernel
theorem dX11_field_45 : decode cX11_field 45 = .ok (.iload_n 2, 1) := by decide +kernel
theorem dX11_field_46 : decode cX11_field 46 = .ok (.invokestatic 85, 3) := by decide +kernel
theorem dX11_field_49 : decode cX11_field 49 = .ok (.aload_n 0, 1) := by decide +kernel
theorem dX11_field_50 : decode cX11_field 50 = .ok (.getfield 7, 3) := by decide +kernel
theorem dX11_field_53 : decode cX11_field 53 = .ok (.iconst 4, 1) := by decide +kernel
theorem dX11_field_54 : decode cX11_field 54 = .ok (.iconst 0, 1) := by decide +kernel
theorem dX11_field_55 : decode cX11_field 55 = .ok (.iastore, 1) := by decide +kernel
theorem dX11_field_56 : decode cX11_field 56 = .ok (.aload_n 0, 1) := by decide +kernel
theorem dX11_field_57 : decode cX11_field 57 = .ok (.invokevirtual 52, 3) := by decide +kernel
theorem dX11_field_60 : decode cX11_field 60 = .ok (.iconst 1, 1) := by decide +kernel
theorem dX11_field_61 : decode cX11_field 61 = .ok (.isub, 1) := by decide +kernel
theorem dX11_field_62 : decode cX11_field 62 = .ok (.ireturn, 1) := by decide +kernel
theorem dX11_layGleaner_0 : decode cX11_layGleaner 0 = .ok (.aload_n 0, 1) := by decide +kernel
theorem dX11_layGleaner_1 : decode cX11_layGleaner 1 = .ok (.bipush 11, 2) := by decide +kernel
theorem dX11_layGleaner_3 : decode cX11_layGleaner 3 = .ok (.aload_n 0, 1) := by decide +kernel
theorem dX11_layGleaner_4 : decode cX11_layGleaner 4 = .ok (.iconst 1, 1) := by decide +kernel
theorem dX11_layGleaner_5 : decode cX11_layGleaner 5 = .ok (.iaload, 1) := by decide +kernel
theorem dX11_layGleaner_6 : decode cX11_layGleaner 6 = .ok (.iadd, 1) := by decide +kernel
theorem dX11_layGleaner_7 : decode cX11_layGleaner 7 = .ok (.iload_n 1, 1) := by decide +kernel
theorem dX11_layGleaner_8 : decode cX11_layGleaner 8 = .ok (.iastore, 1) := by decide +kernel
theorem dX11_layGleaner_9 : decode cX11_layGleaner 9 = .ok (.aload_n 0, 1) := by decide +kernel
theorem dX11_layGleaner_10 : decode cX11_layGleaner 10 = .ok (.bipush 16, 2) := by decide +kernel
theorem dX11_layGleaner_12 : decode cX11_layGleaner 12 = .ok (.aload_n 0, 1) := by decide +kernel
theorem dX11_layGleaner_13 : decode cX11_layGleaner 13 = .ok (.iconst 1, 1) := by decide +kernel
theorem dX11_layGleaner_14 : decode cX11_layGleaner 14 = .ok (.iaload, 1) := by decide +kernel
theorem dX11_layGleaner_15 : decode cX11_layGleaner 15 = .ok (.iadd, 1) := by decide +kernel
theorem dX11_layGleaner_16 : decode cX11_layGleaner 16 = .ok (.iconst 0, 1) := by decide +kernel
theorem dX11_layGleaner_17 : decode cX11_layGleaner 17 = .ok (.iastore, 1) := by decide +kernel
theorem dX11_layGleaner_18 : decode cX11_layGleaner 18 = .ok (.aload_n 0, 1) := by decide +kernel
theorem dX11_layGleaner_19 : decode cX11_layGleaner 19 = .ok (.iconst 1, 1) := by decide +kernel
theorem dX11_layGleaner_20 : decode cX11_layGleaner 20 = .ok (.dup2, 1) := by decide +kernel
theorem dX11_layGleaner_21 : decode cX11_layGleaner 21 = .ok (.iaload, 1) := by decide +kernel
theorem dX11_layGleaner_22 : decode cX11_layGleaner 22 = .ok (.iconst 1, 1) := by decide +kernel
theorem dX11_layGleaner_23 : decode cX11_layGleaner 23 = .ok (.iadd, 1) := by decide +kernel
theorem dX11_layGleaner_24 : decode cX11_layGleaner 24 = .ok (.iastore, 1) := by decide +kernel
theorem dX11_layGleaner_25 : decode cX11_layGleaner 25 = .ok (.return_, 1) := by decide +kernel
set_option maxRecDepth 20000 in
theorem gw_wsX11_isField : wsX11_isField.all goodWord = true := by decide +kernel
set_option maxRecDepth 20000 in
theorem ggX11_gleaner_X11_isField : GoodIn wsX11_gleaner wsX11_isField := goodIn_r _ [6, 7, 8, 9, 5, 10, 1, 11, 12, 13, 30, 31, 32, 33, 34, 35, 36, 37, 38, 39, 40, 41, 42, 43, 44, 45, 46, 47] rfl gw_wsX11_isField
set_option maxRecDepth 20000 in
theorem gX11_gleaner_X11_isField : GoodIn wsX11_gleaner (wsV RX11 89 RX11 yX11_isField wsX11_isField) := goodIn_app (goodIn_r _ [2, 3, 4, 5] (by exact rfl) (by decide +kernel)) ggX11_gleaner_X11_isField
set_option maxRecDepth 20000 in
theorem ggX11_gleaner_X11_bad : GoodIn wsX11_gleaner wsX11_bad := goodIn_r _ [17, 18, 30, 31, 32, 33, 34, 35, 36, 37, 38, 39, 40, 41, 42, 43, 44, 45, 46, 47] rfl gw_wsX11_bad
set_option maxRecDepth 20000 in
theorem gX11_gleaner_X11_bad : GoodIn wsX11_gleaner (wsV RX11 73 RX11 yX11_bad wsX11_bad) := goodIn_app (goodIn_r _ [14, 15, 16, 5] (by exact rfl) (by decide +kernel)) ggX11_gleaner_X11_bad
set_option maxRecDepth 20000 in
theorem ggX11_gleaner_X11_manyGleaners : GoodIn wsX11_gleaner wsX11_manyGleaners := goodIn_r _ [22, 1, 30, 31, 32, 33, 34, 35, 36, 37, 38, 39, 40, 41, 42, 43, 44, 45, 46, 47] rfl gw_wsX11_manyGleaners
set_option maxRecDepth 20000 in
theorem gX11_gleaner_X11_manyGleaners : GoodIn wsX11_gleaner (wsV RX11 60 RX11 yX11_manyGleaners wsX11_manyGleaners) := goodIn_app (goodIn_r _ [19, 20, 21, 5] (by exact rfl) (by decide +kernel)) ggX11_gleaner_X11_manyGleaners
set_option maxRecDepth 20000 in
theorem ggX11_gleaner_X11_full : GoodIn wsX11_gleaner wsX11_full := goodIn_r _ [26, 18, 30, 31, 32, 33, 34, 35, 36, 37, 38, 39, 40, 41, 42, 43, 44, 45, 46, 47] rfl gw_wsX11_full
set_option maxRecDepth 20000 in
theorem gX11_gleaner_X11_full : GoodIn wsX11_gleaner (wsV RX11 82 RX11 yX11_full wsX11_full) := goodIn_app (goodIn_r _ [23, 24, 25, 5] (by exact rfl) (by decide +kernel)) ggX11_gleaner_X11_full
set_option maxRecDepth 20000 in
theorem gw_wsX11_layGleaner : wsX11_layGleaner.all goodWord = true := by decide +kernel
set_option maxRecDepth 20000 in
theorem ggX11_gleaner_X11_layGleaner : GoodIn wsX11_gleaner wsX11_layGleaner := goodIn_r _ [29] rfl gw_wsX11_layGleaner
set_option maxRecDepth 20000 in
theorem gX11_gleaner_X11_layGleaner : GoodIn wsX11_gleaner (va_wsS RX11 92 yX11_layGleaner wsX11_layGleaner) := goodIn_app (goodIn_r _ [27, 28, 5] (by exact rfl) (by decide +kernel)) ggX11_gleaner_X11_layGleaner
theorem dX11_gleaner_0 : decode cX11_gleaner 0 = .ok (.aload_n 0, 1) := by decide +kernel
theorem dX11_gleaner_1 : decode cX11_gleaner 1 = .ok (.iload_n 1, 1) := by decide +kernel
theorem dX11_gleaner_2 : decode cX11_gleaner 2 = .ok (.invokevirtual 89, 3) := by decide +kernel
theorem dX11_gleaner_5 : decode cX11_gleaner 5 = .ok (.ifCond .ne 10, 3) := by decide +kernel
theorem dX11_gleaner_8 : decode cX11_gleaner 8 = .ok (.aload_n 0, 1) := by decide +kernel
theorem dX11_gleaner_9 : decode cX11_gleaner 9 = .ok (.bipush (-2), 2) := by decide +kernel
theorem dX11_gleaner_11 : decode cX11_gleaner 11 = .ok (.invokevirtual 73, 3) := by decide +kernel
theorem dX11_gleaner_14 : decode cX11_gleaner 14 = .ok (.ireturn, 1) := by decide +kernel
theorem dX11_gleaner_15 : decode cX11_gleaner 15 = .ok (.aload_n 0, 1) := by decide +kernel
theorem dX11_gleaner_16 : decode cX11_gleaner 16 = .ok (.invokevirtual 60, 3) := by decide +kernel
theorem dX11_gleaner_19 : decode cX11_gleaner 19 = .ok (.iconst 5, 1) := by decide +kernel
theorem dX11_gleaner_20 : decode cX11_gleaner 20 = .ok (.if_icmp .ne 8, 3) := by decide +kernel
theorem dX11_gleaner_23 : decode cX11_gleaner 23 = .ok (.aload_n 0, 1) := by decide +kernel
theorem dX11_gleaner_24 : decode cX11_gleaner 24 = .ok (.invokevirtual 82, 3) := by decide +kernel
theorem dX11_gleaner_27 : decode cX11_gleaner 27 = .ok (.ireturn, 1) := by decide +kernel
theorem dX11_gleaner_28 : decode cX11_gleaner 28 = .ok (.aload_n 0, 1) := by decide +kernel
theorem dX11_gleaner_29 : decode cX11_gleaner 29 = .ok (.getfield 7, 3) := by decide +kernel
theorem dX11_gleaner_32 : decode cX11_gleaner 32 = .ok (.iload_n 1, 1) := by decide +kernel
theorem dX11_gleaner_33 : decode cX11_gleaner 33 = .ok (.invokestatic 92, 3) := by decide +kernel
theorem dX11_gleaner_36 : decode cX11_gleaner 36 = .ok (.aload_n 0, 1) := by decide +kernel
theorem dX11_gleaner_37 : decode cX11_gleaner 37 = .ok (.getfield 7, 3) := by decide +kernel
theorem dX11_gleaner_40 : decode cX11_gleaner 40 = .ok (.iconst 4, 1) := by decide +kernel
theorem dX11_gleaner_41 : decode cX11_gleaner 41 = .ok (.iconst 0, 1) := by decide +kernel
theorem dX11_gleaner_42 : decode cX11_gleaner 42 = .ok (.iastore, 1) := by decide +kernel
theorem dX11_gleaner_43 : decode cX11_gleaner 43 = .ok (.aload_n 0, 1) := by decide +kernel
theorem dX11_gleaner_44 : decode cX11_gleaner 44 = .ok (.invokevirtual 60, 3) := by decide +kernel
theorem dX11_gleaner_47 : decode cX11_gleaner 47 = .ok (.iconst 1, 1) := by decide +kernel
theorem dX11_gleaner_48 : decode cX11_gleaner 48 = .ok (.isub, 1) := by decide +kernel
theorem dX11_gleaner_49 : decode cX11_gleaner 49 = .ok (.ireturn, 1) := by decide +kernel
theorem dX11_plainly_0 : decode cX11_plainly 0 = .ok (.iload_n 0, 1) := by decide +kernel
theorem dX11_plainly_1 : decode cX11_plainly 1 = .ok (.iconst 2, 1) := by decide +kernel
theorem dX11_plainly_2 : decode cX11_plainly 2 = .ok (.iload_n 1, 1) := by decide +kernel
theorem dX11_plainly_3 : decode cX11_plainly 3 = .ok (.imul, 1) := by decide +kernel
theorem dX11_plainly_4 : decode cX11_plainly 4 = .ok (.isub, 1) := by decide +kernel
theorem dX11_plainly_5 : decode cX11_plainly 5 = .ok (.iload_n 2, 1) := by decide +kernel
theorem dX11_plainly_6 : decode cX11_plainly 6 = .ok (.isub, 1) := by decide +kernel
theorem dX11_plainly_7 : decode cX11_plainly 7 = .ok (.istore_n 3, 1) := by decide +kernel
theorem dX11_plainly_8 : decode cX11_plainly 8 = .ok (.iload_n 3, 1) := by decide +kernel
theorem dX11_plainly_9 : decode cX11_plainly 9 = .ok (.ifCond .ge 7, 3) := by decide +kernel
theorem dX11_plainly_12 : decode cX11_plainly 12 = .ok (.iconst 0, 1) := by decide +kernel
theorem dX11_plainly_13 : decode cX11_plainly 13 = .ok (.goto 4, 3) := by decide +kernel
theorem dX11_plainly_16 : decode cX11_plainly 16 = .ok (.iload_n 3, 1) := by decide +kernel
theorem dX11_plainly_17 : decode cX11_plainly 17 = .ok (.ireturn, 1) := by decide +kernel
set_option maxRecDepth 20000 in
theorem gw_wsX11_plainly : wsX11_plainly.all goodWord = true := by decide +kernel
set_option maxRecDepth 20000 in
theorem ggX11_westerly_X11_plainly : GoodIn wsX11_westerly wsX11_plainly := goodIn_r _ [4] rfl gw_wsX11_plainly
set_option maxRecDepth 20000 in
theorem gX11_westerly_X11_plainly : GoodIn wsX11_westerly (va_wsS RX11 95 yX11_plainly wsX11_plainly) := goodIn_app (goodIn_r _ [1, 2, 3] (by exact rfl) (by decide +kernel)) ggX11_westerly_X11_plainly
theorem dX11_westerly_0 : decode cX11_westerly 0 = .ok (.iload_n 0, 1) := by decide +kernel
theorem dX11_westerly_1 : decode cX11_westerly 1 = .ok (.iload_n 1, 1) := by decide +kernel
theorem dX11_westerly_2 : decode cX11_westerly 2 = .ok (.iload_n 2, 1) := by decide +kernel
theorem dX11_westerly_3 : decode cX11_westerly 3 = .ok (.invokestatic 95, 3) := by decide +kernel
theorem dX11_westerly_6 : decode cX11_westerly 6 = .ok (.iload_n 1, 1) := by decide +kernel
theorem dX11_westerly_7 : decode cX11_westerly 7 = .ok (.bipush 6, 2) := by decide +kernel
theorem dX11_westerly_9 : decode cX11_westerly 9 = .ok (.if_icmp .lt 12, 3) := by decide +kernel
theorem dX11_westerly_12 : decode cX11_westerly 12 = .ok (.iload_n 0, 1) := by decide +kernel
theorem dX11_westerly_13 : decode cX11_westerly 13 = .ok (.iconst 1, 1) := by decide +kernel
theorem dX11_westerly_14 : decode cX11_westerly 14 = .ok (.if_icmp .lt 7, 3) := by decide +kernel
theorem dX11_westerly_17 : decode cX11_westerly 17 = .ok (.iload_n 1, 1) := by decide +kernel
theorem dX11_westerly_18 : decode cX11_westerly 18 = .ok (.goto 4, 3) := by decide +kernel
theorem dX11_westerly_21 : decode cX11_westerly 21 = .ok (.iconst 0, 1) := by decide +kernel
theorem dX11_westerly_22 : decode cX11_westerly 22 = .ok (.iadd, 1) := by decide +kernel
theorem dX11_westerly_23 : decode cX11_westerly 23 = .ok (.ireturn, 1) := by decide +kernel
set_option maxRecDepth 20000 in
theorem ggX11_seenAs_X11_plainly : GoodIn wsX11_seenAs wsX11_plainly := goodIn_r _ [4] rfl gw_wsX11_plainly
set_option maxRecDepth 20000 in
theorem gX11_seenAs_X11_plainly : GoodIn wsX11_seenAs (va_wsS RX11 95 yX11_plainly wsX11_plainly) := goodIn_app (goodIn_r _ [1, 2, 3] (by exact rfl) (by decide +kernel)) ggX11_seenAs_X11_plainly
set_option maxRecDepth 20000 in
theorem gw_wsX11_westerly : wsX11_westerly.all goodWord = true := by decide +kernel
set_option maxRecDepth 20000 in
theorem ggX11_seenAs_X11_westerly : GoodIn wsX11_seenAs wsX11_westerly := goodIn_r _ [7, 1, 2, 3, 4] rfl gw_wsX11_westerly
set_option maxRecDepth 20000 in
theorem gX11_seenAs_X11_westerly : GoodIn wsX11_seenAs (va_wsS RX11 99 yX11_westerly wsX11_westerly) := goodIn_app (goodIn_r _ [5, 6, 3] (by exact rfl) (by decide +kernel)) ggX11_seenAs_X11_westerly
theorem dX11_seenAs_0 : decode cX11_seenAs 0 = .ok (.iload_n 1, 1) := by decide +kernel
theorem dX11_seenAs_1 : decode cX11_seenAs 1 = .ok (.iload_n 2, 1) := by decide +kernel
theorem dX11_seenAs_2 : decode cX11_seenAs 2 = .ok (.iload_n 3, 1) := by decide +kernel
theorem dX11_seenAs_3 : decode cX11_seenAs 3 = .ok (.invokestatic 95, 3) := by decide +kernel
theorem dX11_seenAs_6 : decode cX11_seenAs 6 = .ok (.istore 4, 2) := by decide +kernel
theorem dX11_seenAs_8 : decode cX11_seenAs 8 = .ok (.iload_n 0, 1) := by decide +kernel
theorem dX11_seenAs_9 : decode cX11_seenAs 9 = .ok (.tableswitch 97 1 5 #[35, 42, 47, 64, 82], 35) := by decide +kernel
theorem dX11_seenAs_44 : decode cX11_seenAs 44 = .ok (.iload_n 1, 1) := by decide +kernel
theorem dX11_seenAs_45 : decode cX11_seenAs 45 = .ok (.iload_n 2, 1) := by decide +kernel
theorem dX11_seenAs_46 : decode cX11_seenAs 46 = .ok (.iload_n 3, 1) := by decide +kernel
theorem dX11_seenAs_47 : decode cX11_seenAs 47 = .ok (.invokestatic 99, 3) := by decide +kernel
theorem dX11_seenAs_50 : decode cX11_seenAs 50 = .ok (.ireturn, 1) := by decide +kernel
theorem dX11_seenAs_51 : decode cX11_seenAs 51 = .ok (.iload 4, 2) := by decide +kernel
theorem dX11_seenAs_53 : decode cX11_seenAs 53 = .ok (.iconst 2, 1) := by decide +kernel
theorem dX11_seenAs_54 : decode cX11_seenAs 54 = .ok (.idiv, 1) := by decide +kernel
theorem dX11_seenAs_55 : decode cX11_seenAs 55 = .ok (.ireturn, 1) := by decide +kernel
theorem dX11_seenAs_56 : decode cX11_seenAs 56 = .ok (.iload 4, 2) := by decide +kernel
theorem dX11_seenAs_58 : decode cX11_seenAs 58 = .ok (.iload_n 3, 1) := by decide +kernel
theorem dX11_seenAs_59 : decode cX11_seenAs 59 = .ok (.iadd, 1) := by decide +kernel
theorem dX11_seenAs_60 : decode cX11_seenAs 60 = .ok (.iload_n 1, 1) := by decide +kernel
theorem dX11_seenAs_61 : decode cX11_seenAs 61 = .ok (.if_icmp .ge 10, 3) := by decide +kernel
theorem dX11_seenAs_64 : decode cX11_seenAs 64 = .ok (.iload 4, 2) := by decide +kernel
theorem dX11_seenAs_66 : decode cX11_seenAs 66 = .ok (.iload_n 3, 1) := by decide +kernel
theorem dX11_seenAs_67 : decode cX11_seenAs 67 = .ok (.iadd, 1) := by decide +kernel
theorem dX11_seenAs_68 : decode cX11_seenAs 68 = .ok (.goto 4, 3) := by decide +kernel
theorem dX11_seenAs_71 : decode cX11_seenAs 71 = .ok (.iload_n 1, 1) := by decide +kernel
theorem dX11_seenAs_72 : decode cX11_seenAs 72 = .ok (.ireturn, 1) := by decide +kernel
theorem dX11_seenAs_73 : decode cX11_seenAs 73 = .ok (.iload_n 1, 1) := by decide +kernel
theorem dX11_seenAs_74 : decode cX11_seenAs 74 = .ok (.iload_n 2, 1) := by decide +kernel
theorem dX11_seenAs_75 : decode cX11_seenAs 75 = .ok (.iload_n 3, 1) := by decide +kernel
theorem dX11_seenAs_76 : decode cX11_seenAs 76 = .ok (.iconst 3, 1) := by decide +kernel
theorem dX11_seenAs_77 : decode cX11_seenAs 77 = .ok (.if_icmp .ge 7, 3) := by decide +kernel
theorem dX11_seenAs_80 : decode cX11_seenAs 80 = .ok (.iconst 0, 1) := by decide +kernel
theorem dX11_seenAs_81 : decode cX11_seenAs 81 = .ok (.goto 6, 3) := by decide +kernel
theorem dX11_seenAs_84 : decode cX11_seenAs 84 = .ok (.iload_n 3, 1) := by decide +kernel
theorem dX11_seenAs_85 : decode cX11_seenAs 85 = .ok (.iconst 3, 1) := by decide +kernel
theorem dX11_seenAs_86 : decode cX11_seenAs 86 = .ok (.isub, 1) := by decide +kernel
theorem dX11_seenAs_87 : decode cX11_seenAs 87 = .ok (.invokestatic 99, 3) := by decide +kernel
theorem dX11_seenAs_90 : decode cX11_seenAs 90 = .ok (.ireturn, 1) := by decide +kernel
theorem dX11_seenAs_91 : decode cX11_seenAs 91 = .ok (.iload_n 2, 1) := by decide +kernel
theorem dX11_seenAs_92 : decode cX11_seenAs 92 = .ok (.bipush 8, 2) := by decide +kernel
theorem dX11_seenAs_94 : decode cX11_seenAs 94 = .ok (.if_icmp .lt 7, 3) := by decide +kernel
theorem dX11_seenAs_97 : decode cX11_seenAs 97 = .ok (.iconst 0, 1) := by decide +kernel
theorem dX11_seenAs_98 : decode cX11_seenAs 98 = .ok (.goto 7, 3) := by decide +kernel
theorem dX11_seenAs_101 : decode cX11_seenAs 101 = .ok (.iload 4, 2) := by decide +kernel
theorem dX11_seenAs_103 : decode cX11_seenAs 103 = .ok (.iconst 2, 1) := by decide +kernel
theorem dX11_seenAs_104 : decode cX11_seenAs 104 = .ok (.idiv, 1) := by decide +kernel
theorem dX11_seenAs_105 : decode cX11_seenAs 105 = .ok (.ireturn, 1) := by decide +kernel
theorem dX11_seenAs_106 : decode cX11_seenAs 106 = .ok (.iload 4, 2) := by decide +kernel
theorem dX11_seenAs_108 : decode cX11_seenAs 108 = .ok (.ireturn, 1) := by decide +kernel
theorem dX11_layHand_0 : decode cX11_layHand 0 = .ok (.iconst 0, 1) := by decide +kernel
theorem dX11_layHand_1 : decode cX11_layHand 1 = .ok (.istore_n 1, 1) := by decide +kernel
theorem dX11_layHand_2 : decode cX11_layHand 2 = .ok (.iload_n 1, 1) := by decide +kernel
theorem dX11_layHand_3 : decode cX11_layHand 3 = .ok (.bipush 30, 2) := by decide +kernel
theorem dX11_layHand_5 : decode cX11_layHand 5 = .ok (.if_icmp .ge 21, 3) := by decide +kernel
theorem dX11_layHand_8 : decode cX11_layHand 8 = .ok (.aload_n 0, 1) := by decide +kernel
theorem dX11_layHand_9 : decode cX11_layHand 9 = .ok (.getfield 27, 3) := by decide +kernel
theorem dX11_layHand_12 : decode cX11_layHand 12 = .ok (.iload_n 1, 1) := by decide +kernel
theorem dX11_layHand_13 : decode cX11_layHand 13 = .ok (.aload_n 0, 1) := by decide +kernel
theorem dX11_layHand_14 : decode cX11_layHand 14 = .ok (.getfield 7, 3) := by decide +kernel
theorem dX11_layHand_17 : decode cX11_layHand 17 = .ok (.iload_n 1, 1) := by decide +kernel
theorem dX11_layHand_18 : decode cX11_layHand 18 = .ok (.iaload, 1) := by decide +kernel
theorem dX11_layHand_19 : decode cX11_layHand 19 = .ok (.iastore, 1) := by decide +kernel
theorem dX11_layHand_20 : decode cX11_layHand 20 = .ok (.iinc 1 1, 3) := by decide +kernel
theorem dX11_layHand_23 : decode cX11_layHand 23 = .ok (.goto (-21), 3) := by decide +kernel
theorem dX11_layHand_26 : decode cX11_layHand 26 = .ok (.return_, 1) := by decide +kernel
set_option maxRecDepth 20000 in
theorem gw_wsX11_seenAs : wsX11_seenAs.all goodWord = true := by decide +kernel
set_option maxRecDepth 20000 in
theorem ggX11_seenOn_X11_seenAs : GoodIn wsX11_seenOn wsX11_seenAs := goodIn_r _ [4, 5, 6, 3, 7, 8, 9, 10] rfl gw_wsX11_seenAs
set_option maxRecDepth 20000 in
theorem gX11_seenOn_X11_seenAs : GoodIn wsX11_seenOn (va_wsS RX11 102 yX11_seenAs wsX11_seenAs) := goodIn_app (goodIn_r _ [1, 2, 3] (by exact rfl) (by decide +kernel)) ggX11_seenOn_X11_seenAs
theorem dX11_seenOn_0 : decode cX11_seenOn 0 = .ok (.iload_n 2, 1) := by decide +kernel
theorem dX11_seenOn_1 : decode cX11_seenOn 1 = .ok (.bipush 12, 2) := by decide +kernel
theorem dX11_seenOn_3 : decode cX11_seenOn 3 = .ok (.if_icmp .lt 7, 3) := by decide +kernel
theorem dX11_seenOn_6 : decode cX11_seenOn 6 = .ok (.iconst 0, 1) := by decide +kernel
theorem dX11_seenOn_7 : decode cX11_seenOn 7 = .ok (.goto 22, 3) := by decide +kernel
theorem dX11_seenOn_10 : decode cX11_seenOn 10 = .ok (.aload_n 0, 1) := by decide +kernel
theorem dX11_seenOn_11 : decode cX11_seenOn 11 = .ok (.bipush 24, 2) := by decide +kernel
theorem dX11_seenOn_13 : decode cX11_seenOn 13 = .ok (.iload_n 1, 1) := by decide +kernel
theorem dX11_seenOn_14 : decode cX11_seenOn 14 = .ok (.iadd, 1) := by decide +kernel
theorem dX11_seenOn_15 : decode cX11_seenOn 15 = .ok (.iaload, 1) := by decide +kernel
theorem dX11_seenOn_16 : decode cX11_seenOn 16 = .ok (.aload_n 0, 1) := by decide +kernel
theorem dX11_seenOn_17 : decode cX11_seenOn 17 = .ok (.iconst 5, 1) := by decide +kernel
theorem dX11_seenOn_18 : decode cX11_seenOn 18 = .ok (.iload_n 1, 1) := by decide +kernel
theorem dX11_seenOn_19 : decode cX11_seenOn 19 = .ok (.iadd, 1) := by decide +kernel
theorem dX11_seenOn_20 : decode cX11_seenOn 20 = .ok (.iaload, 1) := by decide +kernel
theorem dX11_seenOn_21 : decode cX11_seenOn 21 = .ok (.iload_n 2, 1) := by decide +kernel
theorem dX11_seenOn_22 : decode cX11_seenOn 22 = .ok (.aload_n 0, 1) := by decide +kernel
theorem dX11_seenOn_23 : decode cX11_seenOn 23 = .ok (.bipush 22, 2) := by decide +kernel
theorem dX11_seenOn_25 : decode cX11_seenOn 25 = .ok (.iaload, 1) := by decide +kernel
theorem dX11_seenOn_26 : decode cX11_seenOn 26 = .ok (.invokestatic 102, 3) := by decide +kernel
theorem dX11_seenOn_29 : decode cX11_seenOn 29 = .ok (.ireturn, 1) := by decide +kernel
theorem dX11_manyOn_0 : decode cX11_manyOn 0 = .ok (.iconst 0, 1) := by decide +kernel
theorem dX11_manyOn_1 : decode cX11_manyOn 1 = .ok (.istore_n 2, 1) := by decide +kernel
theorem dX11_manyOn_2 : decode cX11_manyOn 2 = .ok (.iconst 0, 1) := by decide +kernel
theorem dX11_manyOn_3 : decode cX11_manyOn 3 = .ok (.istore_n 3, 1) := by decide +kernel
theorem dX11_manyOn_4 : decode cX11_manyOn 4 = .ok (.iload_n 3, 1) := by decide +kernel
theorem dX11_manyOn_5 : decode cX11_manyOn 5 = .ok (.aload_n 0, 1) := by decide +kernel
theorem dX11_manyOn_6 : decode cX11_manyOn 6 = .ok (.iconst 1, 1) := by decide +kernel
theorem dX11_manyOn_7 : decode cX11_manyOn 7 = .ok (.iaload, 1) := by decide +kernel
theorem dX11_manyOn_8 : decode cX11_manyOn 8 = .ok (.if_icmp .ge 27, 3) := by decide +kernel
theorem dX11_manyOn_11 : decode cX11_manyOn 11 = .ok (.iload_n 2, 1) := by decide +kernel
theorem dX11_manyOn_12 : decode cX11_manyOn 12 = .ok (.aload_n 0, 1) := by decide +kernel
theorem dX11_manyOn_13 : decode cX11_manyOn 13 = .ok (.bipush 11, 2) := by decide +kernel
theorem dX11_manyOn_15 : decode cX11_manyOn 15 = .ok (.iload_n 3, 1) := by decide +kernel
theorem dX11_manyOn_16 : decode cX11_manyOn 16 = .ok (.iadd, 1) := by decide +kernel
theorem dX11_manyOn_17 : decode cX11_manyOn 17 = .ok (.iaload, 1) := by decide +kernel
theorem dX11_manyOn_18 : decode cX11_manyOn 18 = .ok (.iload_n 1, 1) := by decide +kernel
theorem dX11_manyOn_19 : decode cX11_manyOn 19 = .ok (.if_icmp .ne 7, 3) := by decide +kernel
theorem dX11_manyOn_22 : decode cX11_manyOn 22 = .ok (.iconst 1, 1) := by decide +kernel
theorem dX11_manyOn_23 : decode cX11_manyOn 23 = .ok (.goto 4, 3) := by decide +kernel
theorem dX11_manyOn_26 : decode cX11_manyOn 26 = .ok (.iconst 0, 1) := by decide +kernel
theorem dX11_manyOn_27 : decode cX11_manyOn 27 = .ok (.iadd, 1) := by decide +kernel
theorem dX11_manyOn_28 : decode cX11_manyOn 28 = .ok (.istore_n 2, 1) := by decide +kernel
theorem dX11_manyOn_29 : decode cX11_manyOn 29 = .ok (.iinc 3 1, 3) := by decide +kernel
theorem dX11_manyOn_32 : decode cX11_manyOn 32 = .ok (.goto (-28), 3) := by decide +kernel
theorem dX11_manyOn_35 : decode cX11_manyOn 35 = .ok (.iload_n 2, 1) := by decide +kernel
theorem dX11_manyOn_36 : decode cX11_manyOn 36 = .ok (.ireturn, 1) := by decide +kernel
set_option maxRecDepth 20000 in
theorem gw_wsX11_seenOn : wsX11_seenOn.all goodWord = true := by decide +kernel
set_option maxRecDepth 20000 in
theorem ggX11_getsOne_X11_seenOn : GoodIn wsX11_getsOne wsX11_seenOn := goodIn_r _ [4, 5, 6, 3, 7, 8, 9, 10, 11, 12, 13] rfl gw_wsX11_seenOn
set_option maxRecDepth 20000 in
theorem gX11_getsOne_X11_seenOn : GoodIn wsX11_getsOne (va_wsS RX11 106 yX11_seenOn wsX11_seenOn) := goodIn_app (goodIn_r _ [1, 2, 3] (by exact rfl) (by decide +kernel)) ggX11_getsOne_X11_seenOn
set_option maxRecDepth 20000 in
theorem gw_wsX11_manyOn : wsX11_manyOn.all goodWord = true := by decide +kernel
set_option maxRecDepth 20000 in
theorem ggX11_getsOne_X11_manyOn : GoodIn wsX11_getsOne wsX11_manyOn := goodIn_r _ [16] rfl gw_wsX11_manyOn
set_option maxRecDepth 20000 in
theorem gX11_getsOne_X11_manyOn : GoodIn wsX11_getsOne (va_wsS RX11 110 yX11_manyOn wsX11_manyOn) := goodIn_app (goodIn_r _ [14, 15, 3] (by exact rfl) (by decide +kernel)) ggX11_getsOne_X11_manyOn
theorem dX11_getsOne_0 : decode cX11_getsOne 0 = .ok (.aload_n 0, 1) := by decide +kernel
theorem dX11_getsOne_1 : decode cX11_getsOne 1 = .ok (.aload_n 0, 1) := by decide +kernel
theorem dX11_getsOne_2 : decode cX11_getsOne 2 = .ok (.bipush 11, 2) := by decide +kernel
theorem dX11_getsOne_4 : decode cX11_getsOne 4 = .ok (.iload_n 1, 1) := by decide +kernel
theorem dX11_getsOne_5 : decode cX11_getsOne 5 = .ok (.iadd, 1) := by decide +kernel
theorem dX11_getsOne_6 : decode cX11_getsOne 6 = .ok (.iaload, 1) := by decide +kernel
theorem dX11_getsOne_7 : decode cX11_getsOne 7 = .ok (.aload_n 0, 1) := by decide +kernel
theorem dX11_getsOne_8 : decode cX11_getsOne 8 = .ok (.bipush 21, 2) := by decide +kernel
theorem dX11_getsOne_10 : decode cX11_getsOne 10 = .ok (.iaload, 1) := by decide +kernel
theorem dX11_getsOne_11 : decode cX11_getsOne 11 = .ok (.invokestatic 106, 3) := by decide +kernel
theorem dX11_getsOne_14 : decode cX11_getsOne 14 = .ok (.aload_n 0, 1) := by decide +kernel
theorem dX11_getsOne_15 : decode cX11_getsOne 15 = .ok (.aload_n 0, 1) := by decide +kernel
theorem dX11_getsOne_16 : decode cX11_getsOne 16 = .ok (.bipush 11, 2) := by decide +kernel
theorem dX11_getsOne_18 : decode cX11_getsOne 18 = .ok (.iload_n 1, 1) := by decide +kernel
theorem dX11_getsOne_19 : decode cX11_getsOne 19 = .ok (.iadd, 1) := by decide +kernel
theorem dX11_getsOne_20 : decode cX11_getsOne 20 = .ok (.iaload, 1) := by decide +kernel
theorem dX11_getsOne_21 : decode cX11_getsOne 21 = .ok (.invokestatic 110, 3) := by decide +kernel
theorem dX11_getsOne_24 : decode cX11_getsOne 24 = .ok (.idiv, 1) := by decide +kernel
theorem dX11_getsOne_25 : decode cX11_getsOne 25 = .ok (.ireturn, 1) := by decide +kernel
set_option maxRecDepth 20000 in
theorem ggX11_goStep_X11_manyOn : GoodIn wsX11_goStep wsX11_manyOn := goodIn_r _ [4] rfl gw_wsX11_manyOn
set_option maxRecDepth 20000 in
theorem gX11_goStep_X11_manyOn : GoodIn wsX11_goStep (va_wsS RX11 110 yX11_manyOn wsX11_manyOn) := goodIn_app (goodIn_r _ [1, 2, 3] (by exact rfl) (by decide +kernel)) ggX11_goStep_X11_manyOn
set_option maxRecDepth 20000 in
theorem ggX11_goStep_X11_seenOn : GoodIn wsX11_goStep wsX11_seenOn := goodIn_r _ [7, 8, 9, 3, 10, 11, 12, 13, 14, 15, 16] rfl gw_wsX11_seenOn
set_option maxRecDepth 20000 in
theorem gX11_goStep_X11_seenOn : GoodIn wsX11_goStep (va_wsS RX11 106 yX11_seenOn wsX11_seenOn) := goodIn_app (goodIn_r _ [5, 6, 3] (by exact rfl) (by decide +kernel)) ggX11_goStep_X11_seenOn
theorem dX11_goStep_0 : decode cX11_goStep 0 = .ok (.iconst 0, 1) := by decide +kernel
theorem dX11_goStep_1 : decode cX11_goStep 1 = .ok (.istore_n 1, 1) := by decide +kernel
theorem dX11_goStep_2 : decode cX11_goStep 2 = .ok (.iconst 0, 1) := by decide +kernel
theorem dX11_goStep_3 : decode cX11_goStep 3 = .ok (.istore_n 2, 1) := by decide +kernel
theorem dX11_goStep_4 : decode cX11_goStep 4 = .ok (.iload_n 2, 1) := by decide +kernel
theorem dX11_goStep_5 : decode cX11_goStep 5 = .ok (.aload_n 0, 1) := by decide +kernel
theorem dX11_goStep_6 : decode cX11_goStep 6 = .ok (.iconst 0, 1) := by decide +kernel
theorem dX11_goStep_7 : decode cX11_goStep 7 = .ok (.iaload, 1) := by decide +kernel
theorem dX11_goStep_8 : decode cX11_goStep 8 = .ok (.if_icmp .ge 144, 3) := by decide +kernel
theorem dX11_goStep_11 : decode cX11_goStep 11 = .ok (.aload_n 0, 1) := by decide +kernel
theorem dX11_goStep_12 : decode cX11_goStep 12 = .ok (.iload_n 2, 1) := by decide +kernel
theorem dX11_goStep_13 : decode cX11_goStep 13 = .ok (.invokestatic 110, 3) := by decide +kernel
theorem dX11_goStep_16 : decode cX11_goStep 16 = .ok (.istore_n 3, 1) := by decide +kernel
theorem dX11_goStep_17 : decode cX11_goStep 17 = .ok (.iload_n 3, 1) := by decide +kernel
theorem dX11_goStep_18 : decode cX11_goStep 18 = .ok (.ifCond .ne 7, 3) := by decide +kernel
theorem dX11_goStep_21 : decode cX11_goStep 21 = .ok (.iconst 0, 1) := by decide +kernel
theorem dX11_goStep_22 : decode cX11_goStep 22 = .ok (.goto 14, 3) := by decide +kernel
theorem dX11_goStep_25 : decode cX11_goStep 25 = .ok (.aload_n 0, 1) := by decide +kernel
theorem dX11_goStep_26 : decode cX11_goStep 26 = .ok (.iload_n 2, 1) := by decide +kernel
theorem dX11_goStep_27 : decode cX11_goStep 27 = .ok (.aload_n 0, 1) := by decide +kernel
theorem dX11_goStep_28 : decode cX11_goStep 28 = .ok (.bipush 21, 2) := by decide +kernel
theorem dX11_goStep_30 : decode cX11_goStep 30 = .ok (.iaload, 1) := by decide +kernel
theorem dX11_goStep_31 : decode cX11_goStep 31 = .ok (.invokestatic 106, 3) := by decide +kernel
theorem dX11_goStep_34 : decode cX11_goStep 34 = .ok (.iload_n 3, 1) := by decide +kernel
theorem dX11_goStep_35 : decode cX11_goStep 35 = .ok (.idiv, 1) := by decide +kernel
theorem dX11_goStep_36 : decode cX11_goStep 36 = .ok (.istore 4, 2) := by decide +kernel
theorem dX11_goStep_38 : decode cX11_goStep 38 = .ok (.iconst 0, 1) := by decide +kernel
theorem dX11_goStep_39 : decode cX11_goStep 39 = .ok (.istore 5, 2) := by decide +kernel
theorem dX11_goStep_41 : decode cX11_goStep 41 = .ok (.iload 5, 2) := by decide +kernel
theorem dX11_goStep_43 : decode cX11_goStep 43 = .ok (.aload_n 0, 1) := by decide +kernel
theorem dX11_goStep_44 : decode cX11_goStep 44 = .ok (.iconst 1, 1) := by decide +kernel
theorem dX11_goStep_45 : decode cX11_goStep 45 = .ok (.iaload, 1) := by decide +kernel
theorem dX11_goStep_46 : decode cX11_goStep 46 = .ok (.if_icmp .ge 65, 3) := by decide +kernel
theorem dX11_goStep_49 : decode cX11_goStep 49 = .ok (.aload_n 0, 1) := by decide +kernel
theorem dX11_goStep_50 : decode cX11_goStep 50 = .ok (.bipush 11, 2) := by decide +kernel
theorem dX11_goStep_52 : decode cX11_goStep 52 = .ok (.iload 5, 2) := by decide +kernel
theorem dX11_goStep_54 : decode cX11_goStep 54 = .ok (.iadd, 1) := by decide +kernel
theorem dX11_goStep_55 : decode cX11_goStep 55 = .ok (.iaload, 1) := by decide +kernel
theorem dX11_goStep_56 : decode cX11_goStep 56 = .ok (.iload_n 2, 1) := by decide +kernel
theorem dX11_goStep_57 : decode cX11_goStep 57 = .ok (.if_icmp .ne 16, 3) := by decide +kernel
theorem dX11_goStep_60 : decode cX11_goStep 60 = .ok (.aload_n 0, 1) := by decide +kernel
theorem dX11_goStep_61 : decode cX11_goStep 61 = .ok (.bipush 16, 2) := by decide +kernel
theorem dX11_goStep_63 : decode cX11_goStep 63 = .ok (.iload 5, 2) := by decide +kernel
theorem dX11_goStep_65 : decode cX11_goStep 65 = .ok (.iadd, 1) := by decide +kernel
theorem dX11_goStep_66 : decode cX11_goStep 66 = .ok (.iaload, 1) := by decide +kernel
theorem dX11_goStep_67 : decode cX11_goStep 67 = .ok (.iload 4, 2) := by decide +kernel
theorem dX11_goStep_69 : decode cX11_goStep 69 = .ok (.iadd, 1) := by decide +kernel
theorem dX11_goStep_70 : decode cX11_goStep 70 = .ok (.goto 10, 3) := by decide +kernel
theorem dX11_goStep_73 : decode cX11_goStep 73 = .ok (.aload_n 0, 1) := by decide +kernel
theorem dX11_goStep_74 : decode cX11_goStep 74 = .ok (.bipush 16, 2) := by decide +kernel
theorem dX11_goStep_76 : decode cX11_goStep 76 = .ok (.iload 5, 2) := by decide +kernel
theorem dX11_goStep_78 : decode cX11_goStep 78 = .ok (.iadd, 1) := by decide +kernel
theorem dX11_goStep_79 : decode cX11_goStep 79 = .ok (.iaload, 1) := by decide +kernel
theorem dX11_goStep_80 : decode cX11_goStep 80 = .ok (.istore 6, 2) := by decide +kernel
theorem dX11_goStep_82 : decode cX11_goStep 82 = .ok (.aload_n 0, 1) := by decide +kernel
theorem dX11_goStep_83 : decode cX11_goStep 83 = .ok (.bipush 16, 2) := by decide +kernel
theorem dX11_goStep_85 : decode cX11_goStep 85 = .ok (.iload 5, 2) := by decide +kernel
theorem dX11_goStep_87 : decode cX11_goStep 87 = .ok (.iadd, 1) := by decide +kernel
theorem dX11_goStep_88 : decode cX11_goStep 88 = .ok (.iload 6, 2) := by decide +kernel
theorem dX11_goStep_90 : decode cX11_goStep 90 = .ok (.sipush 999, 3) := by decide +kernel
theorem dX11_goStep_93 : decode cX11_goStep 93 = .ok (.if_icmp .le 9, 3) := by decide +kernel
theorem dX11_goStep_96 : decode cX11_goStep 96 = .ok (.sipush 999, 3) := by decide +kernel
theorem dX11_goStep_99 : decode cX11_goStep 99 = .ok (.goto 5, 3) := by decide +kernel
theorem dX11_goStep_102 : decode cX11_goStep 102 = .ok (.iload 6, 2) := by decide +kernel
theorem dX11_goStep_104 : decode cX11_goStep 104 = .ok (.iastore, 1) := by decide +kernel
theorem dX11_goStep_105 : decode cX11_goStep 105 = .ok (.iinc 5 1, 3) := by decide +kernel
theorem dX11_goStep_108 : decode cX11_goStep 108 = .ok (.goto (-67), 3) := by decide +kernel
theorem dX11_goStep_111 : decode cX11_goStep 111 = .ok (.aload_n 0, 1) := by decide +kernel
theorem dX11_goStep_112 : decode cX11_goStep 112 = .ok (.iconst 5, 1) := by decide +kernel
theorem dX11_goStep_113 : decode cX11_goStep 113 = .ok (.iload_n 2, 1) := by decide +kernel
theorem dX11_goStep_114 : decode cX11_goStep 114 = .ok (.iadd, 1) := by decide +kernel
theorem dX11_goStep_115 : decode cX11_goStep 115 = .ok (.iaload, 1) := by decide +kernel
theorem dX11_goStep_116 : decode cX11_goStep 116 = .ok (.iload 4, 2) := by decide +kernel
theorem dX11_goStep_118 : decode cX11_goStep 118 = .ok (.iload_n 3, 1) := by decide +kernel
theorem dX11_goStep_119 : decode cX11_goStep 119 = .ok (.imul, 1) := by decide +kernel
theorem dX11_goStep_120 : decode cX11_goStep 120 = .ok (.isub, 1) := by decide +kernel
theorem dX11_goStep_121 : decode cX11_goStep 121 = .ok (.istore 5, 2) := by decide +kernel
theorem dX11_goStep_123 : decode cX11_goStep 123 = .ok (.aload_n 0, 1) := by decide +kernel
theorem dX11_goStep_124 : decode cX11_goStep 124 = .ok (.iconst 5, 1) := by decide +kernel
theorem dX11_goStep_125 : decode cX11_goStep 125 = .ok (.iload_n 2, 1) := by decide +kernel
theorem dX11_goStep_126 : decode cX11_goStep 126 = .ok (.iadd, 1) := by decide +kernel
theorem dX11_goStep_127 : decode cX11_goStep 127 = .ok (.iload 5, 2) := by decide +kernel
theorem dX11_goStep_129 : decode cX11_goStep 129 = .ok (.ifCond .ge 7, 3) := by decide +kernel
theorem dX11_goStep_132 : decode cX11_goStep 132 = .ok (.iconst 0, 1) := by decide +kernel
theorem dX11_goStep_133 : decode cX11_goStep 133 = .ok (.goto 5, 3) := by decide +kernel
theorem dX11_goStep_136 : decode cX11_goStep 136 = .ok (.iload 5, 2) := by decide +kernel
theorem dX11_goStep_138 : decode cX11_goStep 138 = .ok (.iastore, 1) := by decide +kernel
theorem dX11_goStep_139 : decode cX11_goStep 139 = .ok (.iload_n 1, 1) := by decide +kernel
theorem dX11_goStep_140 : decode cX11_goStep 140 = .ok (.iload 4, 2) := by decide +kernel
theorem dX11_goStep_142 : decode cX11_goStep 142 = .ok (.iload_n 3, 1) := by decide +kernel
theorem dX11_goStep_143 : decode cX11_goStep 143 = .ok (.imul, 1) := by decide +kernel
theorem dX11_goStep_144 : decode cX11_goStep 144 = .ok (.iadd, 1) := by decide +kernel
theorem dX11_goStep_145 : decode cX11_goStep 145 = .ok (.istore_n 1, 1) := by decide +kernel
theorem dX11_goStep_146 : decode cX11_goStep 146 = .ok (.iinc 2 1, 3) := by decide +kernel
theorem dX11_goStep_149 : decode cX11_goStep 149 = .ok (.goto (-145), 3) := by decide +kernel
theorem dX11_goStep_152 : decode cX11_goStep 152 = .ok (.aload_n 0, 1) := by decide +kernel
theorem dX11_goStep_153 : decode cX11_goStep 153 = .ok (.bipush 21, 2) := by decide +kernel
theorem dX11_goStep_155 : decode cX11_goStep 155 = .ok (.dup2, 1) := by decide +kernel
theorem dX11_goStep_156 : decode cX11_goStep 156 = .ok (.iaload, 1) := by decide +kernel
theorem dX11_goStep_157 : decode cX11_goStep 157 = .ok (.iconst 1, 1) := by decide +kernel
theorem dX11_goStep_158 : decode cX11_goStep 158 = .ok (.iadd, 1) := by decide +kernel
theorem dX11_goStep_159 : decode cX11_goStep 159 = .ok (.iastore, 1) := by decide +kernel
theorem dX11_goStep_160 : decode cX11_goStep 160 = .ok (.iload_n 1, 1) := by decide +kernel
theorem dX11_goStep_161 : decode cX11_goStep 161 = .ok (.ireturn, 1) := by decide +kernel
theorem dX11_fadedBy_0 : decode cX11_fadedBy 0 = .ok (.iload_n 0, 1) := by decide +kernel
theorem dX11_fadedBy_1 : decode cX11_fadedBy 1 = .ok (.iload_n 0, 1) := by decide +kernel
theorem dX11_fadedBy_2 : decode cX11_fadedBy 2 = .ok (.iconst 3, 1) := by decide +kernel
theorem dX11_fadedBy_3 : decode cX11_fadedBy 3 = .ok (.iadd, 1) := by decide +kernel
theorem dX11_fadedBy_4 : decode cX11_fadedBy 4 = .ok (.iconst 4, 1) := by decide +kernel
theorem dX11_fadedBy_5 : decode cX11_fadedBy 5 = .ok (.idiv, 1) := by decide +kernel
theorem dX11_fadedBy_6 : decode cX11_fadedBy 6 = .ok (.isub, 1) := by decide +kernel
theorem dX11_fadedBy_7 : decode cX11_fadedBy 7 = .ok (.ireturn, 1) := by decide +kernel
set_option maxRecDepth 20000 in
theorem gw_wsX11_fadedBy : wsX11_fadedBy.all goodWord = true := by decide +kernel
set_option maxRecDepth 20000 in
theorem ggX11_goNight_X11_fadedBy : GoodIn wsX11_goNight wsX11_fadedBy := goodIn_r _ [4] rfl gw_wsX11_fadedBy
set_option maxRecDepth 20000 in
theorem gX11_goNight_X11_fadedBy : GoodIn wsX11_goNight (va_wsS RX11 114 yX11_fadedBy wsX11_fadedBy) := goodIn_app (goodIn_r _ [1, 2, 3] (by exact rfl) (by decide +kernel)) ggX11_goNight_X11_fadedBy
theorem dX11_goNight_0 : decode cX11_goNight 0 = .ok (.iconst 0, 1) := by decide +kernel
theorem dX11_goNight_1 : decode cX11_goNight 1 = .ok (.istore_n 1, 1) := by decide +kernel
theorem dX11_goNight_2 : decode cX11_goNight 2 = .ok (.iload_n 1, 1) := by decide +kernel
theorem dX11_goNight_3 : decode cX11_goNight 3 = .ok (.aload_n 0, 1) := by decide +kernel
theorem dX11_goNight_4 : decode cX11_goNight 4 = .ok (.iconst 1, 1) := by decide +kernel
theorem dX11_goNight_5 : decode cX11_goNight 5 = .ok (.iaload, 1) := by decide +kernel
theorem dX11_goNight_6 : decode cX11_goNight 6 = .ok (.if_icmp .ge 24, 3) := by decide +kernel
theorem dX11_goNight_9 : decode cX11_goNight 9 = .ok (.aload_n 0, 1) := by decide +kernel
theorem dX11_goNight_10 : decode cX11_goNight 10 = .ok (.bipush 16, 2) := by decide +kernel
theorem dX11_goNight_12 : decode cX11_goNight 12 = .ok (.iload_n 1, 1) := by decide +kernel
theorem dX11_goNight_13 : decode cX11_goNight 13 = .ok (.iadd, 1) := by decide +kernel
theorem dX11_goNight_14 : decode cX11_goNight 14 = .ok (.aload_n 0, 1) := by decide +kernel
theorem dX11_goNight_15 : decode cX11_goNight 15 = .ok (.bipush 16, 2) := by decide +kernel
theorem dX11_goNight_17 : decode cX11_goNight 17 = .ok (.iload_n 1, 1) := by decide +kernel
theorem dX11_goNight_18 : decode cX11_goNight 18 = .ok (.iadd, 1) := by decide +kernel
theorem dX11_goNight_19 : decode cX11_goNight 19 = .ok (.iaload, 1) := by decide +kernel
theorem dX11_goNight_20 : decode cX11_goNight 20 = .ok (.invokestatic 114, 3) := by decide +kernel
theorem dX11_goNight_23 : decode cX11_goNight 23 = .ok (.iastore, 1) := by decide +kernel
theorem dX11_goNight_24 : decode cX11_goNight 24 = .ok (.iinc 1 1, 3) := by decide +kernel
theorem dX11_goNight_27 : decode cX11_goNight 27 = .ok (.goto (-25), 3) := by decide +kernel
theorem dX11_goNight_30 : decode cX11_goNight 30 = .ok (.iconst 0, 1) := by decide +kernel
theorem dX11_goNight_31 : decode cX11_goNight 31 = .ok (.istore_n 1, 1) := by decide +kernel
theorem dX11_goNight_32 : decode cX11_goNight 32 = .ok (.iload_n 1, 1) := by decide +kernel
theorem dX11_goNight_33 : decode cX11_goNight 33 = .ok (.aload_n 0, 1) := by decide +kernel
theorem dX11_goNight_34 : decode cX11_goNight 34 = .ok (.iconst 0, 1) := by decide +kernel
theorem dX11_goNight_35 : decode cX11_goNight 35 = .ok (.iaload, 1) := by decide +kernel
theorem dX11_goNight_36 : decode cX11_goNight 36 = .ok (.if_icmp .ge 35, 3) := by decide +kernel
theorem dX11_goNight_39 : decode cX11_goNight 39 = .ok (.aload_n 0, 1) := by decide +kernel
theorem dX11_goNight_40 : decode cX11_goNight 40 = .ok (.iconst 5, 1) := by decide +kernel
theorem dX11_goNight_41 : decode cX11_goNight 41 = .ok (.iload_n 1, 1) := by decide +kernel
theorem dX11_goNight_42 : decode cX11_goNight 42 = .ok (.iadd, 1) := by decide +kernel
theorem dX11_goNight_43 : decode cX11_goNight 43 = .ok (.iaload, 1) := by decide +kernel
theorem dX11_goNight_44 : decode cX11_goNight 44 = .ok (.bipush 20, 2) := by decide +kernel
theorem dX11_goNight_46 : decode cX11_goNight 46 = .ok (.iadd, 1) := by decide +kernel
theorem dX11_goNight_47 : decode cX11_goNight 47 = .ok (.istore_n 2, 1) := by decide +kernel
theorem dX11_goNight_48 : decode cX11_goNight 48 = .ok (.aload_n 0, 1) := by decide +kernel
theorem dX11_goNight_49 : decode cX11_goNight 49 = .ok (.iconst 5, 1) := by decide +kernel
theorem dX11_goNight_50 : decode cX11_goNight 50 = .ok (.iload_n 1, 1) := by decide +kernel
theorem dX11_goNight_51 : decode cX11_goNight 51 = .ok (.iadd, 1) := by decide +kernel
theorem dX11_goNight_52 : decode cX11_goNight 52 = .ok (.iload_n 2, 1) := by decide +kernel
theorem dX11_goNight_53 : decode cX11_goNight 53 = .ok (.bipush 60, 2) := by decide +kernel
theorem dX11_goNight_55 : decode cX11_goNight 55 = .ok (.if_icmp .le 8, 3) := by decide +kernel
theorem dX11_goNight_58 : decode cX11_goNight 58 = .ok (.bipush 60, 2) := by decide +kernel
theorem dX11_goNight_60 : decode cX11_goNight 60 = .ok (.goto 4, 3) := by decide +kernel
theorem dX11_goNight_63 : decode cX11_goNight 63 = .ok (.iload_n 2, 1) := by decide +kernel
theorem dX11_goNight_64 : decode cX11_goNight 64 = .ok (.iastore, 1) := by decide +kernel
theorem dX11_goNight_65 : decode cX11_goNight 65 = .ok (.iinc 1 1, 3) := by decide +kernel
theorem dX11_goNight_68 : decode cX11_goNight 68 = .ok (.goto (-36), 3) := by decide +kernel
theorem dX11_goNight_71 : decode cX11_goNight 71 = .ok (.aload_n 0, 1) := by decide +kernel
theorem dX11_goNight_72 : decode cX11_goNight 72 = .ok (.bipush 23, 2) := by decide +kernel
theorem dX11_goNight_74 : decode cX11_goNight 74 = .ok (.dup2, 1) := by decide +kernel
theorem dX11_goNight_75 : decode cX11_goNight 75 = .ok (.iaload, 1) := by decide +kernel
theorem dX11_goNight_76 : decode cX11_goNight 76 = .ok (.aload_n 0, 1) := by decide +kernel
theorem dX11_goNight_77 : decode cX11_goNight 77 = .ok (.bipush 23, 2) := by decide +kernel
theorem dX11_goNight_79 : decode cX11_goNight 79 = .ok (.iaload, 1) := by decide +kernel
theorem dX11_goNight_80 : decode cX11_goNight 80 = .ok (.sipush 999, 3) := by decide +kernel
theorem dX11_goNight_83 : decode cX11_goNight 83 = .ok (.if_icmp .ge 7, 3) := by decide +kernel
theorem dX11_goNight_86 : decode cX11_goNight 86 = .ok (.iconst 1, 1) := by decide +kernel
theorem dX11_goNight_87 : decode cX11_goNight 87 = .ok (.goto 4, 3) := by decide +kernel
theorem dX11_goNight_90 : decode cX11_goNight 90 = .ok (.iconst 0, 1) := by decide +kernel
theorem dX11_goNight_91 : decode cX11_goNight 91 = .ok (.iadd, 1) := by decide +kernel
theorem dX11_goNight_92 : decode cX11_goNight 92 = .ok (.iastore, 1) := by decide +kernel
theorem dX11_goNight_93 : decode cX11_goNight 93 = .ok (.aload_n 0, 1) := by decide +kernel
theorem dX11_goNight_94 : decode cX11_goNight 94 = .ok (.bipush 21, 2) := by decide +kernel
theorem dX11_goNight_96 : decode cX11_goNight 96 = .ok (.iconst 0, 1) := by decide +kernel
theorem dX11_goNight_97 : decode cX11_goNight 97 = .ok (.iastore, 1) := by decide +kernel
theorem dX11_goNight_98 : decode cX11_goNight 98 = .ok (.return_, 1) := by decide +kernel
theorem dX11_keep_0 : decode cX11_keep 0 = .ok (.aload_n 0, 1) := by decide +kernel
theorem dX11_keep_1 : decode cX11_keep 1 = .ok (.getfield 7, 3) := by decide +kernel
theorem dX11_keep_4 : decode cX11_keep 4 = .ok (.iconst 4, 1) := by decide +kernel
theorem dX11_keep_5 : decode cX11_keep 5 = .ok (.iaload, 1) := by decide +kernel
theorem dX11_keep_6 : decode cX11_keep 6 = .ok (.bipush 8, 2) := by decide +kernel
theorem dX11_keep_8 : decode cX11_keep 8 = .ok (.if_icmp .ne 44, 3) := by decide +kernel
theorem dX11_keep_11 : decode cX11_keep 11 = .ok (.iconst 0, 1) := by decide +kernel
theorem dX11_keep_12 : decode cX11_keep 12 = .ok (.istore_n 1, 1) := by decide +kernel
theorem dX11_keep_13 : decode cX11_keep 13 = .ok (.iload_n 1, 1) := by decide +kernel
theorem dX11_keep_14 : decode cX11_keep 14 = .ok (.sipush 133, 3) := by decide +kernel
theorem dX11_keep_17 : decode cX11_keep 17 = .ok (.if_icmp .ge 27, 3) := by decide +kernel
theorem dX11_keep_20 : decode cX11_keep 20 = .ok (.aload_n 0, 1) := by decide +kernel
theorem dX11_keep_21 : decode cX11_keep 21 = .ok (.getfield 7, 3) := by decide +kernel
theorem dX11_keep_24 : decode cX11_keep 24 = .ok (.bipush 76, 2) := by decide +kernel
theorem dX11_keep_26 : decode cX11_keep 26 = .ok (.iload_n 1, 1) := by decide +kernel
theorem dX11_keep_27 : decode cX11_keep 27 = .ok (.iadd, 1) := by decide +kernel
theorem dX11_keep_28 : decode cX11_keep 28 = .ok (.aload_n 0, 1) := by decide +kernel
theorem dX11_keep_29 : decode cX11_keep 29 = .ok (.getfield 7, 3) := by decide +kernel
theorem dX11_keep_32 : decode cX11_keep 32 = .ok (.bipush 95, 2) := by decide +kernel
theorem dX11_keep_34 : decode cX11_keep 34 = .ok (.iload_n 1, 1) := by decide +kernel
theorem dX11_keep_35 : decode cX11_keep 35 = .ok (.iadd, 1) := by decide +kernel
theorem dX11_keep_36 : decode cX11_keep 36 = .ok (.iaload, 1) := by decide +kernel
theorem dX11_keep_37 : decode cX11_keep 37 = .ok (.iastore, 1) := by decide +kernel
theorem dX11_keep_38 : decode cX11_keep 38 = .ok (.iinc 1 1, 3) := by decide +kernel
theorem dX11_keep_41 : decode cX11_keep 41 = .ok (.goto (-28), 3) := by decide +kernel
theorem dX11_keep_44 : decode cX11_keep 44 = .ok (.aload_n 0, 1) := by decide +kernel
theorem dX11_keep_45 : decode cX11_keep 45 = .ok (.getfield 7, 3) := by decide +kernel
theorem dX11_keep_48 : decode cX11_keep 48 = .ok (.iconst 4, 1) := by decide +kernel
theorem dX11_keep_49 : decode cX11_keep 49 = .ok (.bipush 7, 2) := by decide +kernel
theorem dX11_keep_51 : decode cX11_keep 51 = .ok (.iastore, 1) := by decide +kernel
theorem dX11_keep_52 : decode cX11_keep 52 = .ok (.iconst 0, 1) := by decide +kernel
theorem dX11_keep_53 : decode cX11_keep 53 = .ok (.istore_n 1, 1) := by decide +kernel
theorem dX11_keep_54 : decode cX11_keep 54 = .ok (.iload_n 1, 1) := by decide +kernel
theorem dX11_keep_55 : decode cX11_keep 55 = .ok (.bipush 19, 2) := by decide +kernel
theorem dX11_keep_57 : decode cX11_keep 57 = .ok (.if_icmp .ge 36, 3) := by decide +kernel
theorem dX11_keep_60 : decode cX11_keep 60 = .ok (.aload_n 0, 1) := by decide +kernel
theorem dX11_keep_61 : decode cX11_keep 61 = .ok (.getfield 7, 3) := by decide +kernel
theorem dX11_keep_64 : decode cX11_keep 64 = .ok (.bipush 76, 2) := by decide +kernel
theorem dX11_keep_66 : decode cX11_keep 66 = .ok (.bipush 19, 2) := by decide +kernel
theorem dX11_keep_68 : decode cX11_keep 68 = .ok (.aload_n 0, 1) := by decide +kernel
theorem dX11_keep_69 : decode cX11_keep 69 = .ok (.getfield 7, 3) := by decide +kernel
theorem dX11_keep_72 : decode cX11_keep 72 = .ok (.iconst 4, 1) := by decide +kernel
theorem dX11_keep_73 : decode cX11_keep 73 = .ok (.iaload, 1) := by decide +kernel
theorem dX11_keep_74 : decode cX11_keep 74 = .ok (.imul, 1) := by decide +kernel
theorem dX11_keep_75 : decode cX11_keep 75 = .ok (.iadd, 1) := by decide +kernel
theorem dX11_keep_76 : decode cX11_keep 76 = .ok (.iload_n 1, 1) := by decide +kernel
theorem dX11_keep_77 : decode cX11_keep 77 = .ok (.iadd, 1) := by decide +kernel
theorem dX11_keep_78 : decode cX11_keep 78 = .ok (.aload_n 0, 1) := by decide +kernel
theorem dX11_keep_79 : decode cX11_keep 79 = .ok (.getfield 7, 3) := by decide +kernel
theorem dX11_keep_82 : decode cX11_keep 82 = .ok (.iconst 5, 1) := by decide +kernel
theorem dX11_keep_83 : decode cX11_keep 83 = .ok (.iload_n 1, 1) := by decide +kernel
theorem dX11_keep_84 : decode cX11_keep 84 = .ok (.iadd, 1) := by decide +kernel
theorem dX11_keep_85 : decode cX11_keep 85 = .ok (.iaload, 1) := by decide +kernel
theorem dX11_keep_86 : decode cX11_keep 86 = .ok (.iastore, 1) := by decide +kernel
theorem dX11_keep_87 : decode cX11_keep 87 = .ok (.iinc 1 1, 3) := by decide +kernel
theorem dX11_keep_90 : decode cX11_keep 90 = .ok (.goto (-36), 3) := by decide +kernel
theorem dX11_keep_93 : decode cX11_keep 93 = .ok (.aload_n 0, 1) := by decide +kernel
theorem dX11_keep_94 : decode cX11_keep 94 = .ok (.getfield 7, 3) := by decide +kernel
theorem dX11_keep_97 : decode cX11_keep 97 = .ok (.iconst 4, 1) := by decide +kernel
theorem dX11_keep_98 : decode cX11_keep 98 = .ok (.dup2, 1) := by decide +kernel
theorem dX11_keep_99 : decode cX11_keep 99 = .ok (.iaload, 1) := by decide +kernel
theorem dX11_keep_100 : decode cX11_keep 100 = .ok (.iconst 1, 1) := by decide +kernel
theorem dX11_keep_101 : decode cX11_keep 101 = .ok (.iadd, 1) := by decide +kernel
theorem dX11_keep_102 : decode cX11_keep 102 = .ok (.iastore, 1) := by decide +kernel
theorem dX11_keep_103 : decode cX11_keep 103 = .ok (.return_, 1) := by decide +kernel
set_option maxRecDepth 20000 in
theorem ggX11_glean_X11_in : GoodIn wsX11_glean wsX11_in := goodIn_r _ [6] rfl gw_wsX11_in
set_option maxRecDepth 20000 in
theorem gX11_glean_X11_in : GoodIn wsX11_glean (va_wsS RX11 56 yX11_in wsX11_in) := goodIn_app (goodIn_r _ [3, 4, 5] (by exact rfl) (by decide +kernel)) ggX11_glean_X11_in
set_option maxRecDepth 20000 in
theorem ggX11_glean_X11_bad : GoodIn wsX11_glean wsX11_bad := goodIn_r _ [10, 11, 38, 39, 40, 41, 42, 43, 44, 45, 46, 47, 48, 49, 50, 51, 52, 53, 54, 55] rfl gw_wsX11_bad
set_option maxRecDepth 20000 in
theorem gX11_glean_X11_bad : GoodIn wsX11_glean (wsV RX11 73 RX11 yX11_bad wsX11_bad) := goodIn_app (goodIn_r _ [7, 8, 9, 5] (by exact rfl) (by decide +kernel)) ggX11_glean_X11_bad
set_option maxRecDepth 20000 in
theorem gw_wsX11_no : wsX11_no.all goodWord = true := by decide +kernel
set_option maxRecDepth 20000 in
theorem ggX11_glean_X11_no : GoodIn wsX11_glean wsX11_no := goodIn_r _ [15, 11, 38, 39, 40, 41, 42, 43, 44, 45, 46, 47, 48, 49, 50, 51, 52, 53, 54, 55] rfl gw_wsX11_no
set_option maxRecDepth 20000 in
theorem gX11_glean_X11_no : GoodIn wsX11_glean (wsV RX11 119 RX11 yX11_no wsX11_no) := goodIn_app (goodIn_r _ [12, 13, 14, 5] (by exact rfl) (by decide +kernel)) ggX11_glean_X11_no
set_option maxRecDepth 20000 in
theorem gw_wsX11_keep : wsX11_keep.all goodWord = true := by decide +kernel
set_option maxRecDepth 20000 in
theorem ggX11_glean_X11_keep : GoodIn wsX11_glean wsX11_keep := goodIn_r _ [19, 2, 38, 39, 40, 41, 42, 43, 44, 45, 46, 47, 48, 49, 50, 51, 52, 53, 54, 55] rfl gw_wsX11_keep
set_option maxRecDepth 20000 in
theorem gX11_glean_X11_keep : GoodIn wsX11_glean (wsV RX11 122 RX11 yX11_keep wsX11_keep) := goodIn_app (goodIn_r _ [16, 17, 18, 5] (by exact rfl) (by decide +kernel)) ggX11_glean_X11_keep
set_option maxRecDepth 20000 in
theorem gw_wsX11_goStep : wsX11_goStep.all goodWord = true := by decide +kernel
set_option maxRecDepth 20000 in
theorem ggX11_glean_X11_goStep : GoodIn wsX11_glean wsX11_goStep := goodIn_r _ [22, 23, 24, 5, 25, 26, 27, 28, 29, 30, 31, 32, 33, 34, 35, 36, 37] rfl gw_wsX11_goStep
set_option maxRecDepth 20000 in
theorem gX11_glean_X11_goStep : GoodIn wsX11_glean (va_wsS RX11 125 yX11_goStep wsX11_goStep) := goodIn_app (goodIn_r _ [20, 21, 5] (by exact rfl) (by decide +kernel)) ggX11_glean_X11_goStep
theorem dX11_glean_0 : decode cX11_glean 0 = .ok (.iload_n 1, 1) := by decide +kernel
theorem dX11_glean_1 : decode cX11_glean 1 = .ok (.i2l, 1) := by decide +kernel
theorem dX11_glean_2 : decode cX11_glean 2 = .ok (.lconst 1, 1) := by decide +kernel
theorem dX11_glean_3 : decode cX11_glean 3 = .ok (.ldc2_w 117, 3) := by decide +kernel
theorem dX11_glean_6 : decode cX11_glean 6 = .ok (.invokestatic 56, 3) := by decide +kernel
theorem dX11_glean_9 : decode cX11_glean 9 = .ok (.ifCond .ne 10, 3) := by decide +kernel
theorem dX11_glean_12 : decode cX11_glean 12 = .ok (.aload_n 0, 1) := by decide +kernel
theorem dX11_glean_13 : decode cX11_glean 13 = .ok (.bipush (-2), 2) := by decide +kernel
theorem dX11_glean_15 : decode cX11_glean 15 = .ok (.invokevirtual 73, 3) := by decide +kernel
theorem dX11_glean_18 : decode cX11_glean 18 = .ok (.ireturn, 1) := by decide +kernel
theorem dX11_glean_19 : decode cX11_glean 19 = .ok (.aload_n 0, 1) := by decide +kernel
theorem dX11_glean_20 : decode cX11_glean 20 = .ok (.getfield 7, 3) := by decide +kernel
theorem dX11_glean_23 : decode cX11_glean 23 = .ok (.bipush 21, 2) := by decide +kernel
theorem dX11_glean_25 : decode cX11_glean 25 = .ok (.iaload, 1) := by decide +kernel
theorem dX11_glean_26 : decode cX11_glean 26 = .ok (.iload_n 1, 1) := by decide +kernel
theorem dX11_glean_27 : decode cX11_glean 27 = .ok (.iadd, 1) := by decide +kernel
theorem dX11_glean_28 : decode cX11_glean 28 = .ok (.bipush 12, 2) := by decide +kernel
theorem dX11_glean_30 : decode cX11_glean 30 = .ok (.if_icmp .le 8, 3) := by decide +kernel
theorem dX11_glean_33 : decode cX11_glean 33 = .ok (.aload_n 0, 1) := by decide +kernel
theorem dX11_glean_34 : decode cX11_glean 34 = .ok (.invokevirtual 119, 3) := by decide +kernel
theorem dX11_glean_37 : decode cX11_glean 37 = .ok (.ireturn, 1) := by decide +kernel
theorem dX11_glean_38 : decode cX11_glean 38 = .ok (.iconst 0, 1) := by decide +kernel
theorem dX11_glean_39 : decode cX11_glean 39 = .ok (.istore_n 2, 1) := by decide +kernel
theorem dX11_glean_40 : decode cX11_glean 40 = .ok (.aload_n 0, 1) := by decide +kernel
theorem dX11_glean_41 : decode cX11_glean 41 = .ok (.invokevirtual 122, 3) := by decide +kernel
theorem dX11_glean_44 : decode cX11_glean 44 = .ok (.iconst 0, 1) := by decide +kernel
theorem dX11_glean_45 : decode cX11_glean 45 = .ok (.istore_n 3, 1) := by decide +kernel
theorem dX11_glean_46 : decode cX11_glean 46 = .ok (.iload_n 3, 1) := by decide +kernel
theorem dX11_glean_47 : decode cX11_glean 47 = .ok (.iload_n 1, 1) := by decide +kernel
theorem dX11_glean_48 : decode cX11_glean 48 = .ok (.if_icmp .ge 19, 3) := by decide +kernel
theorem dX11_glean_51 : decode cX11_glean 51 = .ok (.iload_n 2, 1) := by decide +kernel
theorem dX11_glean_52 : decode cX11_glean 52 = .ok (.aload_n 0, 1) := by decide +kernel
theorem dX11_glean_53 : decode cX11_glean 53 = .ok (.getfield 7, 3) := by decide +kernel
theorem dX11_glean_56 : decode cX11_glean 56 = .ok (.invokestatic 125, 3) := by decide +kernel
theorem dX11_glean_59 : decode cX11_glean 59 = .ok (.iadd, 1) := by decide +kernel
theorem dX11_glean_60 : decode cX11_glean 60 = .ok (.istore_n 2, 1) := by decide +kernel
theorem dX11_glean_61 : decode cX11_glean 61 = .ok (.iinc 3 1, 3) := by decide +kernel
theorem dX11_glean_64 : decode cX11_glean 64 = .ok (.goto (-18), 3) := by decide +kernel
theorem dX11_glean_67 : decode cX11_glean 67 = .ok (.iload_n 2, 1) := by decide +kernel
theorem dX11_glean_68 : decode cX11_glean 68 = .ok (.ireturn, 1) := by decide +kernel
set_option maxRecDepth 20000 in
theorem ggX11_night_X11_keep : GoodIn wsX11_night wsX11_keep := goodIn_r _ [6, 1, 13, 14, 15, 16, 17, 18, 19, 20, 21, 22, 23, 24, 25, 26, 27, 28, 29, 30] rfl gw_wsX11_keep
set_option maxRecDepth 20000 in
theorem gX11_night_X11_keep : GoodIn wsX11_night (wsV RX11 122 RX11 yX11_keep wsX11_keep) := goodIn_app (goodIn_r _ [2, 3, 4, 5] (by exact rfl) (by decide +kernel)) ggX11_night_X11_keep
set_option maxRecDepth 20000 in
theorem gw_wsX11_goNight : wsX11_goNight.all goodWord = true := by decide +kernel
set_option maxRecDepth 20000 in
theorem ggX11_night_X11_goNight : GoodIn wsX11_night wsX11_goNight := goodIn_r _ [9, 10, 11, 5, 12] rfl gw_wsX11_goNight
set_option maxRecDepth 20000 in
theorem gX11_night_X11_goNight : GoodIn wsX11_night (va_wsS RX11 129 yX11_goNight wsX11_goNight) := goodIn_app (goodIn_r _ [7, 8, 5] (by exact rfl) (by decide +kernel)) ggX11_night_X11_goNight
theorem dX11_night_0 : decode cX11_night 0 = .ok (.aload_n 0, 1) := by decide +kernel
theorem dX11_night_1 : decode cX11_night 1 = .ok (.invokevirtual 122, 3) := by decide +kernel
theorem dX11_night_4 : decode cX11_night 4 = .ok (.aload_n 0, 1) := by decide +kernel
theorem dX11_night_5 : decode cX11_night 5 = .ok (.getfield 7, 3) := by decide +kernel
theorem dX11_night_8 : decode cX11_night 8 = .ok (.invokestatic 129, 3) := by decide +kernel
theorem dX11_night_11 : decode cX11_night 11 = .ok (.aload_n 0, 1) := by decide +kernel
theorem dX11_night_12 : decode cX11_night 12 = .ok (.getfield 7, 3) := by decide +kernel
theorem dX11_night_15 : decode cX11_night 15 = .ok (.bipush 23, 2) := by decide +kernel
theorem dX11_night_17 : decode cX11_night 17 = .ok (.iaload, 1) := by decide +kernel
theorem dX11_night_18 : decode cX11_night 18 = .ok (.ireturn, 1) := by decide +kernel
set_option maxRecDepth 20000 in
theorem gw_wsX11_isGleaner : wsX11_isGleaner.all goodWord = true := by decide +kernel
set_option maxRecDepth 20000 in
theorem ggX11_goes_X11_isGleaner : GoodIn wsX11_goes wsX11_isGleaner := goodIn_r _ [6, 7, 8, 9, 5, 10, 1, 11, 12, 13, 31, 32, 33, 34, 35, 36, 37, 38, 39, 40, 41, 42, 43, 44, 45, 46, 47, 48] rfl gw_wsX11_isGleaner
set_option maxRecDepth 20000 in
theorem gX11_goes_X11_isGleaner : GoodIn wsX11_goes (wsV RX11 133 RX11 yX11_isGleaner wsX11_isGleaner) := goodIn_app (goodIn_r _ [2, 3, 4, 5] (by exact rfl) (by decide +kernel)) ggX11_goes_X11_isGleaner
set_option maxRecDepth 20000 in
theorem ggX11_goes_X11_isField : GoodIn wsX11_goes wsX11_isField := goodIn_r _ [17, 18, 19, 20, 5, 21, 1, 11, 12, 13, 31, 32, 33, 34, 35, 36, 37, 38, 39, 40, 41, 42, 43, 44, 45, 46, 47, 48] rfl gw_wsX11_isField
set_option maxRecDepth 20000 in
theorem gX11_goes_X11_isField : GoodIn wsX11_goes (wsV RX11 89 RX11 yX11_isField wsX11_isField) := goodIn_app (goodIn_r _ [14, 15, 16, 5] (by exact rfl) (by decide +kernel)) ggX11_goes_X11_isField
set_option maxRecDepth 20000 in
theorem ggX11_goes_X11_bad : GoodIn wsX11_goes wsX11_bad := goodIn_r _ [25, 26, 31, 32, 33, 34, 35, 36, 37, 38, 39, 40, 41, 42, 43, 44, 45, 46, 47, 48] rfl gw_wsX11_bad
set_option maxRecDepth 20000 in
theorem gX11_goes_X11_bad : GoodIn wsX11_goes (wsV RX11 73 RX11 yX11_bad wsX11_bad) := goodIn_app (goodIn_r _ [22, 23, 24, 5] (by exact rfl) (by decide +kernel)) ggX11_goes_X11_bad
set_option maxRecDepth 20000 in
theorem ggX11_goes_X11_keep : GoodIn wsX11_goes wsX11_keep := goodIn_r _ [30, 1, 31, 32, 33, 34, 35, 36, 37, 38, 39, 40, 41, 42, 43, 44, 45, 46, 47, 48] rfl gw_wsX11_keep
set_option maxRecDepth 20000 in
theorem gX11_goes_X11_keep : GoodIn wsX11_goes (wsV RX11 122 RX11 yX11_keep wsX11_keep) := goodIn_app (goodIn_r _ [27, 28, 29, 5] (by exact rfl) (by decide +kernel)) ggX11_goes_X11_keep
theorem dX11_goes_0 : decode cX11_goes 0 = .ok (.aload_n 0, 1) := by decide +kernel
theorem dX11_goes_1 : decode cX11_goes 1 = .ok (.iload_n 1, 1) := by decide +kernel
theorem dX11_goes_2 : decode cX11_goes 2 = .ok (.invokevirtual 133, 3) := by decide +kernel
theorem dX11_goes_5 : decode cX11_goes 5 = .ok (.ifCond .eq 11, 3) := by decide +kernel
theorem dX11_goes_8 : decode cX11_goes 8 = .ok (.aload_n 0, 1) := by decide +kernel
theorem dX11_goes_9 : decode cX11_goes 9 = .ok (.iload_n 2, 1) := by decide +kernel
theorem dX11_goes_10 : decode cX11_goes 10 = .ok (.invokevirtual 89, 3) := by decide +kernel
theorem dX11_goes_13 : decode cX11_goes 13 = .ok (.ifCond .ne 10, 3) := by decide +kernel
theorem dX11_goes_16 : decode cX11_goes 16 = .ok (.aload_n 0, 1) := by decide +kernel
theorem dX11_goes_17 : decode cX11_goes 17 = .ok (.bipush (-2), 2) := by decide +kernel
theorem dX11_goes_19 : decode cX11_goes 19 = .ok (.invokevirtual 73, 3) := by decide +kernel
theorem dX11_goes_22 : decode cX11_goes 22 = .ok (.ireturn, 1) := by decide +kernel
theorem dX11_goes_23 : decode cX11_goes 23 = .ok (.aload_n 0, 1) := by decide +kernel
theorem dX11_goes_24 : decode cX11_goes 24 = .ok (.getfield 7, 3) := by decide +kernel
theorem dX11_goes_27 : decode cX11_goes 27 = .ok (.bipush 11, 2) := by decide +kernel
theorem dX11_goes_29 : decode cX11_goes 29 = .ok (.iload_n 1, 1) := by decide +kernel
theorem dX11_goes_30 : decode cX11_goes 30 = .ok (.iadd, 1) := by decide +kernel
theorem dX11_goes_31 : decode cX11_goes 31 = .ok (.iaload, 1) := by decide +kernel
theorem dX11_goes_32 : decode cX11_goes 32 = .ok (.istore_n 3, 1) := by decide +kernel
theorem dX11_goes_33 : decode cX11_goes 33 = .ok (.aload_n 0, 1) := by decide +kernel
theorem dX11_goes_34 : decode cX11_goes 34 = .ok (.invokevirtual 122, 3) := by decide +kernel
theorem dX11_goes_37 : decode cX11_goes 37 = .ok (.aload_n 0, 1) := by decide +kernel
theorem dX11_goes_38 : decode cX11_goes 38 = .ok (.getfield 7, 3) := by decide +kernel
theorem dX11_goes_41 : decode cX11_goes 41 = .ok (.bipush 11, 2) := by decide +kernel
theorem dX11_goes_43 : decode cX11_goes 43 = .ok (.iload_n 1, 1) := by decide +kernel
theorem dX11_goes_44 : decode cX11_goes 44 = .ok (.iadd, 1) := by decide +kernel
theorem dX11_goes_45 : decode cX11_goes 45 = .ok (.iload_n 2, 1) := by decide +kernel
theorem dX11_goes_46 : decode cX11_goes 46 = .ok (.iastore, 1) := by decide +kernel
theorem dX11_goes_47 : decode cX11_goes 47 = .ok (.iload_n 3, 1) := by decide +kernel
theorem dX11_goes_48 : decode cX11_goes 48 = .ok (.ireturn, 1) := by decide +kernel
set_option maxRecDepth 20000 in
theorem ggX11_cloud_X11_isCloud : GoodIn wsX11_cloud wsX11_isCloud := goodIn_r _ [5, 6, 7, 8, 4, 9] rfl gw_wsX11_isCloud
set_option maxRecDepth 20000 in
theorem gX11_cloud_X11_isCloud : GoodIn wsX11_cloud (va_wsS RX11 69 yX11_isCloud wsX11_isCloud) := goodIn_app (goodIn_r _ [2, 3, 4] (by exact rfl) (by decide +kernel)) ggX11_cloud_X11_isCloud
set_option maxRecDepth 20000 in
theorem ggX11_cloud_X11_bad : GoodIn wsX11_cloud wsX11_bad := goodIn_r _ [13, 14, 19, 20, 21, 22, 23, 24, 25, 26, 27, 28, 29, 30, 31, 32, 33, 34, 35, 36] rfl gw_wsX11_bad
set_option maxRecDepth 20000 in
theorem gX11_cloud_X11_bad : GoodIn wsX11_cloud (wsV RX11 73 RX11 yX11_bad wsX11_bad) := goodIn_app (goodIn_r _ [10, 11, 12, 4] (by exact rfl) (by decide +kernel)) ggX11_cloud_X11_bad
set_option maxRecDepth 20000 in
theorem ggX11_cloud_X11_keep : GoodIn wsX11_cloud wsX11_keep := goodIn_r _ [18, 1, 19, 20, 21, 22, 23, 24, 25, 26, 27, 28, 29, 30, 31, 32, 33, 34, 35, 36] rfl gw_wsX11_keep
set_option maxRecDepth 20000 in
theorem gX11_cloud_X11_keep : GoodIn wsX11_cloud (wsV RX11 122 RX11 yX11_keep wsX11_keep) := goodIn_app (goodIn_r _ [15, 16, 17, 4] (by exact rfl) (by decide +kernel)) ggX11_cloud_X11_keep
theorem dX11_cloud_0 : decode cX11_cloud 0 = .ok (.iload_n 1, 1) := by decide +kernel
theorem dX11_cloud_1 : decode cX11_cloud 1 = .ok (.invokestatic 69, 3) := by decide +kernel
theorem dX11_cloud_4 : decode cX11_cloud 4 = .ok (.ifCond .ne 10, 3) := by decide +kernel
theorem dX11_cloud_7 : decode cX11_cloud 7 = .ok (.aload_n 0, 1) := by decide +kernel
theorem dX11_cloud_8 : decode cX11_cloud 8 = .ok (.bipush (-2), 2) := by decide +kernel
theorem dX11_cloud_10 : decode cX11_cloud 10 = .ok (.invokevirtual 73, 3) := by decide +kernel
theorem dX11_cloud_13 : decode cX11_cloud 13 = .ok (.ireturn, 1) := by decide +kernel
theorem dX11_cloud_14 : decode cX11_cloud 14 = .ok (.aload_n 0, 1) := by decide +kernel
theorem dX11_cloud_15 : decode cX11_cloud 15 = .ok (.getfield 7, 3) := by decide +kernel
theorem dX11_cloud_18 : decode cX11_cloud 18 = .ok (.bipush 22, 2) := by decide +kernel
theorem dX11_cloud_20 : decode cX11_cloud 20 = .ok (.iaload, 1) := by decide +kernel
theorem dX11_cloud_21 : decode cX11_cloud 21 = .ok (.istore_n 2, 1) := by decide +kernel
theorem dX11_cloud_22 : decode cX11_cloud 22 = .ok (.aload_n 0, 1) := by decide +kernel
theorem dX11_cloud_23 : decode cX11_cloud 23 = .ok (.invokevirtual 122, 3) := by decide +kernel
theorem dX11_cloud_26 : decode cX11_cloud 26 = .ok (.aload_n 0, 1) := by decide +kernel
theorem dX11_cloud_27 : decode cX11_cloud 27 = .ok (.getfield 7, 3) := by decide +kernel
theorem dX11_cloud_30 : decode cX11_cloud 30 = .ok (.bipush 22, 2) := by decide +kernel
theorem dX11_cloud_32 : decode cX11_cloud 32 = .ok (.iload_n 1, 1) := by decide +kernel
theorem dX11_cloud_33 : decode cX11_cloud 33 = .ok (.iastore, 1) := by decide +kernel
theorem dX11_cloud_34 : decode cX11_cloud 34 = .ok (.iload_n 2, 1) := by decide +kernel
theorem dX11_cloud_35 : decode cX11_cloud 35 = .ok (.ireturn, 1) := by decide +kernel
set_option maxRecDepth 20000 in
theorem ggX11_undo_X11_no : GoodIn wsX11_undo wsX11_no := goodIn_r _ [6, 7, 8, 9, 10, 11, 12, 13, 14, 15, 16, 17, 18, 19, 20, 21, 22, 23, 24, 25] rfl gw_wsX11_no
set_option maxRecDepth 20000 in
theorem gX11_undo_X11_no : GoodIn wsX11_undo (wsV RX11 119 RX11 yX11_no wsX11_no) := goodIn_app (goodIn_r _ [2, 3, 4, 5] (by exact rfl) (by decide +kernel)) ggX11_undo_X11_no
theorem dX11_undo_0 : decode cX11_undo 0 = .ok (.aload_n 0, 1) := by decide +kernel
theorem dX11_undo_1 : decode cX11_undo 1 = .ok (.getfield 7, 3) := by decide +kernel
theorem dX11_undo_4 : decode cX11_undo 4 = .ok (.iconst 4, 1) := by decide +kernel
theorem dX11_undo_5 : decode cX11_undo 5 = .ok (.iaload, 1) := by decide +kernel
theorem dX11_undo_6 : decode cX11_undo 6 = .ok (.ifCond .ne 8, 3) := by decide +kernel
theorem dX11_undo_9 : decode cX11_undo 9 = .ok (.aload_n 0, 1) := by decide +kernel
theorem dX11_undo_10 : decode cX11_undo 10 = .ok (.invokevirtual 119, 3) := by decide +kernel
theorem dX11_undo_13 : decode cX11_undo 13 = .ok (.ireturn, 1) := by decide +kernel
theorem dX11_undo_14 : decode cX11_undo 14 = .ok (.aload_n 0, 1) := by decide +kernel
theorem dX11_undo_15 : decode cX11_undo 15 = .ok (.getfield 7, 3) := by decide +kernel
theorem dX11_undo_18 : decode cX11_undo 18 = .ok (.iconst 4, 1) := by decide +kernel
theorem dX11_undo_19 : decode cX11_undo 19 = .ok (.dup2, 1) := by decide +kernel
theorem dX11_undo_20 : decode cX11_undo 20 = .ok (.iaload, 1) := by decide +kernel
theorem dX11_undo_21 : decode cX11_undo 21 = .ok (.iconst 1, 1) := by decide +kernel
theorem dX11_undo_22 : decode cX11_undo 22 = .ok (.isub, 1) := by decide +kernel
theorem dX11_undo_23 : decode cX11_undo 23 = .ok (.iastore, 1) := by decide +kernel
theorem dX11_undo_24 : decode cX11_undo 24 = .ok (.iconst 0, 1) := by decide +kernel
theorem dX11_undo_25 : decode cX11_undo 25 = .ok (.istore_n 1, 1) := by decide +kernel
theorem dX11_undo_26 : decode cX11_undo 26 = .ok (.iload_n 1, 1) := by decide +kernel
theorem dX11_undo_27 : decode cX11_undo 27 = .ok (.bipush 19, 2) := by decide +kernel
theorem dX11_undo_29 : decode cX11_undo 29 = .ok (.if_icmp .ge 36, 3) := by decide +kernel
theorem dX11_undo_32 : decode cX11_undo 32 = .ok (.aload_n 0, 1) := by decide +kernel
theorem dX11_undo_33 : decode cX11_undo 33 = .ok (.getfield 7, 3) := by decide +kernel
theorem dX11_undo_36 : decode cX11_undo 36 = .ok (.iconst 5, 1) := by decide +kernel
theorem dX11_undo_37 : decode cX11_undo 37 = .ok (.iload_n 1, 1) := by decide +kernel
theorem dX11_undo_38 : decode cX11_undo 38 = .ok (.iadd, 1) := by decide +kernel
theorem dX11_undo_39 : decode cX11_undo 39 = .ok (.aload_n 0, 1) := by decide +kernel
theorem dX11_undo_40 : decode cX11_undo 40 = .ok (.getfield 7, 3) := by decide +kernel
theorem dX11_undo_43 : decode cX11_undo 43 = .ok (.bipush 76, 2) := by decide +kernel
theorem dX11_undo_45 : decode cX11_undo 45 = .ok (.bipush 19, 2) := by decide +kernel
theorem dX11_undo_47 : decode cX11_undo 47 = .ok (.aload_n 0, 1) := by decide +kernel
theorem dX11_undo_48 : decode cX11_undo 48 = .ok (.getfield 7, 3) := by decide +kernel
theorem dX11_undo_51 : decode cX11_undo 51 = .ok (.iconst 4, 1) := by decide +kernel
theorem dX11_undo_52 : decode cX11_undo 52 = .ok (.iaload, 1) := by decide +kernel
theorem dX11_undo_53 : decode cX11_undo 53 = .ok (.imul, 1) := by decide +kernel
theorem dX11_undo_54 : decode cX11_undo 54 = .ok (.iadd, 1) := by decide +kernel
theorem dX11_undo_55 : decode cX11_undo 55 = .ok (.iload_n 1, 1) := by decide +kernel
theorem dX11_undo_56 : decode cX11_undo 56 = .ok (.iadd, 1) := by decide +kernel
theorem dX11_undo_57 : decode cX11_undo 57 = .ok (.iaload, 1) := by decide +kernel
theorem dX11_undo_58 : decode cX11_undo 58 = .ok (.iastore, 1) := by decide +kernel
theorem dX11_undo_59 : decode cX11_undo 59 = .ok (.iinc 1 1, 3) := by decide +kernel
theorem dX11_undo_62 : decode cX11_undo 62 = .ok (.goto (-36), 3) := by decide +kernel
theorem dX11_undo_65 : decode cX11_undo 65 = .ok (.aload_n 0, 1) := by decide +kernel
theorem dX11_undo_66 : decode cX11_undo 66 = .ok (.getfield 7, 3) := by decide +kernel
theorem dX11_undo_69 : decode cX11_undo 69 = .ok (.bipush 21, 2) := by decide +kernel
theorem dX11_undo_71 : decode cX11_undo 71 = .ok (.iaload, 1) := by decide +kernel
theorem dX11_undo_72 : decode cX11_undo 72 = .ok (.ireturn, 1) := by decide +kernel
set_option maxRecDepth 20000 in
theorem ggX11_whoIsOn_X11_manyGleaners : GoodIn wsX11_whoIsOn wsX11_manyGleaners := goodIn_r _ [6, 1, 7, 8, 9, 10, 11, 12, 13, 14, 15, 16, 17, 18, 19, 20, 21, 22, 23, 24] rfl gw_wsX11_manyGleaners
set_option maxRecDepth 20000 in
theorem gX11_whoIsOn_X11_manyGleaners : GoodIn wsX11_whoIsOn (wsV RX11 60 RX11 yX11_manyGleaners wsX11_manyGleaners) := goodIn_app (goodIn_r _ [2, 3, 4, 5] (by exact rfl) (by decide +kernel)) ggX11_whoIsOn_X11_manyGleaners
theorem dX11_whoIsOn_0 : decode cX11_whoIsOn 0 = .ok (.iconst 0, 1) := by decide +kernel
theorem dX11_whoIsOn_1 : decode cX11_whoIsOn 1 = .ok (.istore_n 2, 1) := by decide +kernel
theorem dX11_whoIsOn_2 : decode cX11_whoIsOn 2 = .ok (.iconst 0, 1) := by decide +kernel
theorem dX11_whoIsOn_3 : decode cX11_whoIsOn 3 = .ok (.istore_n 3, 1) := by decide +kernel
theorem dX11_whoIsOn_4 : decode cX11_whoIsOn 4 = .ok (.iload_n 3, 1) := by decide +kernel
theorem dX11_whoIsOn_5 : decode cX11_whoIsOn 5 = .ok (.aload_n 0, 1) := by decide +kernel
theorem dX11_whoIsOn_6 : decode cX11_whoIsOn 6 = .ok (.invokevirtual 60, 3) := by decide +kernel
theorem dX11_whoIsOn_9 : decode cX11_whoIsOn 9 = .ok (.if_icmp .ge 32, 3) := by decide +kernel
theorem dX11_whoIsOn_12 : decode cX11_whoIsOn 12 = .ok (.iload_n 2, 1) := by decide +kernel
theorem dX11_whoIsOn_13 : decode cX11_whoIsOn 13 = .ok (.aload_n 0, 1) := by decide +kernel
theorem dX11_whoIsOn_14 : decode cX11_whoIsOn 14 = .ok (.getfield 7, 3) := by decide +kernel
theorem dX11_whoIsOn_17 : decode cX11_whoIsOn 17 = .ok (.bipush 11, 2) := by decide +kernel
theorem dX11_whoIsOn_19 : decode cX11_whoIsOn 19 = .ok (.iload_n 3, 1) := by decide +kernel
theorem dX11_whoIsOn_20 : decode cX11_whoIsOn 20 = .ok (.iadd, 1) := by decide +kernel
theorem dX11_whoIsOn_21 : decode cX11_whoIsOn 21 = .ok (.iaload, 1) := by decide +kernel
theorem dX11_whoIsOn_22 : decode cX11_whoIsOn 22 = .ok (.iload_n 1, 1) := by decide +kernel
theorem dX11_whoIsOn_23 : decode cX11_whoIsOn 23 = .ok (.if_icmp .ne 9, 3) := by decide +kernel
theorem dX11_whoIsOn_26 : decode cX11_whoIsOn 26 = .ok (.iconst 1, 1) := by decide +kernel
theorem dX11_whoIsOn_27 : decode cX11_whoIsOn 27 = .ok (.iload_n 3, 1) := by decide +kernel
theorem dX11_whoIsOn_28 : decode cX11_whoIsOn 28 = .ok (.ishl, 1) := by decide +kernel
theorem dX11_whoIsOn_29 : decode cX11_whoIsOn 29 = .ok (.goto 4, 3) := by decide +kernel
theorem dX11_whoIsOn_32 : decode cX11_whoIsOn 32 = .ok (.iconst 0, 1) := by decide +kernel
theorem dX11_whoIsOn_33 : decode cX11_whoIsOn 33 = .ok (.ior, 1) := by decide +kernel
theorem dX11_whoIsOn_34 : decode cX11_whoIsOn 34 = .ok (.istore_n 2, 1) := by decide +kernel
theorem dX11_whoIsOn_35 : decode cX11_whoIsOn 35 = .ok (.iinc 3 1, 3) := by decide +kernel
theorem dX11_whoIsOn_38 : decode cX11_whoIsOn 38 = .ok (.goto (-34), 3) := by decide +kernel
theorem dX11_whoIsOn_41 : decode cX11_whoIsOn 41 = .ok (.iload_n 2, 1) := by decide +kernel
theorem dX11_whoIsOn_42 : decode cX11_whoIsOn 42 = .ok (.ireturn, 1) := by decide +kernel
set_option maxRecDepth 20000 in
theorem ggX11_of_X11_isField : GoodIn wsX11_of wsX11_isField := goodIn_r _ [7, 8, 9, 10, 6, 11, 2, 12, 13, 14, 28, 29, 30, 31, 32, 33, 34, 35, 36, 37, 38, 39, 40, 41, 42, 43, 44, 45] rfl gw_wsX11_isField
set_option maxRecDepth 20000 in
theorem gX11_of_X11_isField : GoodIn wsX11_of (wsV RX11 89 RX11 yX11_isField wsX11_isField) := goodIn_app (goodIn_r _ [3, 4, 5, 6] (by exact rfl) (by decide +kernel)) ggX11_of_X11_isField
set_option maxRecDepth 20000 in
theorem ggX11_of_X11_in : GoodIn wsX11_of wsX11_in := goodIn_r _ [14] rfl gw_wsX11_in
set_option maxRecDepth 20000 in
theorem gX11_of_X11_in : GoodIn wsX11_of (va_wsS RX11 56 yX11_in wsX11_in) := goodIn_app (goodIn_r _ [12, 13, 6] (by exact rfl) (by decide +kernel)) ggX11_of_X11_in
set_option maxRecDepth 20000 in
theorem ggX11_of_X11_bad : GoodIn wsX11_of wsX11_bad := goodIn_r _ [18, 19, 28, 29, 30, 31, 32, 33, 34, 35, 36, 37, 38, 39, 40, 41, 42, 43, 44, 45] rfl gw_wsX11_bad
set_option maxRecDepth 20000 in
theorem gX11_of_X11_bad : GoodIn wsX11_of (wsV RX11 73 RX11 yX11_bad wsX11_bad) := goodIn_app (goodIn_r _ [15, 16, 17, 6] (by exact rfl) (by decide +kernel)) ggX11_of_X11_bad
set_option maxRecDepth 20000 in
theorem gw_wsX11_whoIsOn : wsX11_whoIsOn.all goodWord = true := by decide +kernel
set_option maxRecDepth 20000 in
theorem ggX11_of_X11_whoIsOn : GoodIn wsX11_of wsX11_whoIsOn := goodIn_r _ [23, 2, 24, 25, 26, 6, 27, 28, 29, 30, 31, 32, 33, 34, 35, 36, 37, 38, 39, 40, 41, 42, 43, 44, 45] rfl gw_wsX11_whoIsOn
set_option maxRecDepth 20000 in
theorem gX11_of_X11_whoIsOn : GoodIn wsX11_of (wsV RX11 138 RX11 yX11_whoIsOn wsX11_whoIsOn) := goodIn_app (goodIn_r _ [20, 21, 22, 6] (by exact rfl) (by decide +kernel)) ggX11_of_X11_whoIsOn
theorem dX11_of_0 : decode cX11_of 0 = .ok (.aload_n 0, 1) := by decide +kernel
theorem dX11_of_1 : decode cX11_of 1 = .ok (.iload_n 1, 1) := by decide +kernel
theorem dX11_of_2 : decode cX11_of 2 = .ok (.invokevirtual 89, 3) := by decide +kernel
theorem dX11_of_5 : decode cX11_of 5 = .ok (.ifCond .eq 15, 3) := by decide +kernel
theorem dX11_of_8 : decode cX11_of 8 = .ok (.iload_n 2, 1) := by decide +kernel
theorem dX11_of_9 : decode cX11_of 9 = .ok (.i2l, 1) := by decide +kernel
theorem dX11_of_10 : decode cX11_of 10 = .ok (.lconst 0, 1) := by decide +kernel
theorem dX11_of_11 : decode cX11_of 11 = .ok (.ldc2_w 136, 3) := by decide +kernel
theorem dX11_of_14 : decode cX11_of 14 = .ok (.invokestatic 56, 3) := by decide +kernel
theorem dX11_of_17 : decode cX11_of 17 = .ok (.ifCond .ne 10, 3) := by decide +kernel
theorem dX11_of_20 : decode cX11_of 20 = .ok (.aload_n 0, 1) := by decide +kernel
theorem dX11_of_21 : decode cX11_of 21 = .ok (.bipush (-2), 2) := by decide +kernel
theorem dX11_of_23 : decode cX11_of 23 = .ok (.invokevirtual 73, 3) := by decide +kernel
theorem dX11_of_26 : decode cX11_of 26 = .ok (.ireturn, 1) := by decide +kernel
theorem dX11_of_27 : decode cX11_of 27 = .ok (.iload_n 2, 1) := by decide +kernel
theorem dX11_of_28 : decode cX11_of 28 = .ok (.ifCond .ne 15, 3) := by decide +kernel
theorem dX11_of_31 : decode cX11_of 31 = .ok (.aload_n 0, 1) := by decide +kernel
theorem dX11_of_32 : decode cX11_of 32 = .ok (.getfield 7, 3) := by decide +kernel
theorem dX11_of_35 : decode cX11_of 35 = .ok (.bipush 24, 2) := by decide +kernel
theorem dX11_of_37 : decode cX11_of 37 = .ok (.iload_n 1, 1) := by decide +kernel
theorem dX11_of_38 : decode cX11_of 38 = .ok (.iadd, 1) := by decide +kernel
theorem dX11_of_39 : decode cX11_of 39 = .ok (.iaload, 1) := by decide +kernel
theorem dX11_of_40 : decode cX11_of 40 = .ok (.goto 24, 3) := by decide +kernel
theorem dX11_of_43 : decode cX11_of 43 = .ok (.iload_n 2, 1) := by decide +kernel
theorem dX11_of_44 : decode cX11_of 44 = .ok (.iconst 1, 1) := by decide +kernel
theorem dX11_of_45 : decode cX11_of 45 = .ok (.if_icmp .ne 14, 3) := by decide +kernel
theorem dX11_of_48 : decode cX11_of 48 = .ok (.aload_n 0, 1) := by decide +kernel
theorem dX11_of_49 : decode cX11_of 49 = .ok (.getfield 7, 3) := by decide +kernel
theorem dX11_of_52 : decode cX11_of 52 = .ok (.iconst 5, 1) := by decide +kernel
theorem dX11_of_53 : decode cX11_of 53 = .ok (.iload_n 1, 1) := by decide +kernel
theorem dX11_of_54 : decode cX11_of 54 = .ok (.iadd, 1) := by decide +kernel
theorem dX11_of_55 : decode cX11_of 55 = .ok (.iaload, 1) := by decide +kernel
theorem dX11_of_56 : decode cX11_of 56 = .ok (.goto 8, 3) := by decide +kernel
theorem dX11_of_59 : decode cX11_of 59 = .ok (.aload_n 0, 1) := by decide +kernel
theorem dX11_of_60 : decode cX11_of 60 = .ok (.iload_n 1, 1) := by decide +kernel
theorem dX11_of_61 : decode cX11_of 61 = .ok (.invokevirtual 138, 3) := by decide +kernel
theorem dX11_of_64 : decode cX11_of 64 = .ok (.ireturn, 1) := by decide +kernel
set_option maxRecDepth 20000 in
theorem ggX11_about_X11_isGleaner : GoodIn wsX11_about wsX11_isGleaner := goodIn_r _ [7, 8, 9, 10, 6, 11, 2, 12, 13, 14, 38, 39, 40, 41, 42, 43, 44, 45, 46, 47, 48, 49, 50, 51, 52, 53, 54, 55] rfl gw_wsX11_isGleaner
set_option maxRecDepth 20000 in
theorem gX11_about_X11_isGleaner : GoodIn wsX11_about (wsV RX11 133 RX11 yX11_isGleaner wsX11_isGleaner) := goodIn_app (goodIn_r _ [3, 4, 5, 6] (by exact rfl) (by decide +kernel)) ggX11_about_X11_isGleaner
set_option maxRecDepth 20000 in
theorem ggX11_about_X11_in : GoodIn wsX11_about wsX11_in := goodIn_r _ [14] rfl gw_wsX11_in
set_option maxRecDepth 20000 in
theorem gX11_about_X11_in : GoodIn wsX11_about (va_wsS RX11 56 yX11_in wsX11_in) := goodIn_app (goodIn_r _ [12, 13, 6] (by exact rfl) (by decide +kernel)) ggX11_about_X11_in
set_option maxRecDepth 20000 in
theorem ggX11_about_X11_bad : GoodIn wsX11_about wsX11_bad := goodIn_r _ [18, 19, 38, 39, 40, 41, 42, 43, 44, 45, 46, 47, 48, 49, 50, 51, 52, 53, 54, 55] rfl gw_wsX11_bad
set_option maxRecDepth 20000 in
theorem gX11_about_X11_bad : GoodIn wsX11_about (wsV RX11 73 RX11 yX11_bad wsX11_bad) := goodIn_app (goodIn_r _ [15, 16, 17, 6] (by exact rfl) (by decide +kernel)) ggX11_about_X11_bad
set_option maxRecDepth 20000 in
theorem gw_wsX11_getsOne : wsX11_getsOne.all goodWord = true := by decide +kernel
set_option maxRecDepth 20000 in
theorem ggX11_about_X11_getsOne : GoodIn wsX11_about wsX11_getsOne := goodIn_r _ [22, 23, 24, 6, 25, 26, 27, 28, 29, 30, 31, 32, 33, 34, 35, 36, 37] rfl gw_wsX11_getsOne
set_option maxRecDepth 20000 in
theorem gX11_about_X11_getsOne : GoodIn wsX11_about (va_wsS RX11 141 yX11_getsOne wsX11_getsOne) := goodIn_app (goodIn_r _ [20, 21, 6] (by exact rfl) (by decide +kernel)) ggX11_about_X11_getsOne
theorem dX11_about_0 : decode cX11_about 0 = .ok (.aload_n 0, 1) := by decide +kernel
theorem dX11_about_1 : decode cX11_about 1 = .ok (.iload_n 1, 1) := by decide +kernel
theorem dX11_about_2 : decode cX11_about 2 = .ok (.invokevirtual 133, 3) := by decide +kernel
theorem dX11_about_5 : decode cX11_about 5 = .ok (.ifCond .eq 15, 3) := by decide +kernel
theorem dX11_about_8 : decode cX11_about 8 = .ok (.iload_n 2, 1) := by decide +kernel
theorem dX11_about_9 : decode cX11_about 9 = .ok (.i2l, 1) := by decide +kernel
theorem dX11_about_10 : decode cX11_about 10 = .ok (.lconst 0, 1) := by decide +kernel
theorem dX11_about_11 : decode cX11_about 11 = .ok (.ldc2_w 136, 3) := by decide +kernel
theorem dX11_about_14 : decode cX11_about 14 = .ok (.invokestatic 56, 3) := by decide +kernel
theorem dX11_about_17 : decode cX11_about 17 = .ok (.ifCond .ne 10, 3) := by decide +kernel
theorem dX11_about_20 : decode cX11_about 20 = .ok (.aload_n 0, 1) := by decide +kernel
theorem dX11_about_21 : decode cX11_about 21 = .ok (.bipush (-2), 2) := by decide +kernel
theorem dX11_about_23 : decode cX11_about 23 = .ok (.invokevirtual 73, 3) := by decide +kernel
theorem dX11_about_26 : decode cX11_about 26 = .ok (.ireturn, 1) := by decide +kernel
theorem dX11_about_27 : decode cX11_about 27 = .ok (.iload_n 2, 1) := by decide +kernel
theorem dX11_about_28 : decode cX11_about 28 = .ok (.ifCond .ne 15, 3) := by decide +kernel
theorem dX11_about_31 : decode cX11_about 31 = .ok (.aload_n 0, 1) := by decide +kernel
theorem dX11_about_32 : decode cX11_about 32 = .ok (.getfield 7, 3) := by decide +kernel
theorem dX11_about_35 : decode cX11_about 35 = .ok (.bipush 11, 2) := by decide +kernel
theorem dX11_about_37 : decode cX11_about 37 = .ok (.iload_n 1, 1) := by decide +kernel
theorem dX11_about_38 : decode cX11_about 38 = .ok (.iadd, 1) := by decide +kernel
theorem dX11_about_39 : decode cX11_about 39 = .ok (.iaload, 1) := by decide +kernel
theorem dX11_about_40 : decode cX11_about 40 = .ok (.goto 28, 3) := by decide +kernel
theorem dX11_about_43 : decode cX11_about 43 = .ok (.iload_n 2, 1) := by decide +kernel
theorem dX11_about_44 : decode cX11_about 44 = .ok (.iconst 1, 1) := by decide +kernel
theorem dX11_about_45 : decode cX11_about 45 = .ok (.if_icmp .ne 15, 3) := by decide +kernel
theorem dX11_about_48 : decode cX11_about 48 = .ok (.aload_n 0, 1) := by decide +kernel
theorem dX11_about_49 : decode cX11_about 49 = .ok (.getfield 7, 3) := by decide +kernel
theorem dX11_about_52 : decode cX11_about 52 = .ok (.bipush 16, 2) := by decide +kernel
theorem dX11_about_54 : decode cX11_about 54 = .ok (.iload_n 1, 1) := by decide +kernel
theorem dX11_about_55 : decode cX11_about 55 = .ok (.iadd, 1) := by decide +kernel
theorem dX11_about_56 : decode cX11_about 56 = .ok (.iaload, 1) := by decide +kernel
theorem dX11_about_57 : decode cX11_about 57 = .ok (.goto 11, 3) := by decide +kernel
theorem dX11_about_60 : decode cX11_about 60 = .ok (.aload_n 0, 1) := by decide +kernel
theorem dX11_about_61 : decode cX11_about 61 = .ok (.getfield 7, 3) := by decide +kernel
theorem dX11_about_64 : decode cX11_about 64 = .ok (.iload_n 1, 1) := by decide +kernel
theorem dX11_about_65 : decode cX11_about 65 = .ok (.invokestatic 141, 3) := by decide +kernel
theorem dX11_about_68 : decode cX11_about 68 = .ok (.ireturn, 1) := by decide +kernel
set_option maxRecDepth 20000 in
theorem ggX11_seen_X11_isField : GoodIn wsX11_seen wsX11_isField := goodIn_r _ [6, 7, 8, 9, 5, 10, 1, 11, 12, 13, 35, 36, 37, 38, 39, 40, 41, 42, 43, 44, 45, 46, 47, 48, 49, 50, 51, 52] rfl gw_wsX11_isField
set_option maxRecDepth 20000 in
theorem gX11_seen_X11_isField : GoodIn wsX11_seen (wsV RX11 89 RX11 yX11_isField wsX11_isField) := goodIn_app (goodIn_r _ [2, 3, 4, 5] (by exact rfl) (by decide +kernel)) ggX11_seen_X11_isField
set_option maxRecDepth 20000 in
theorem gw_wsX11_isStep : wsX11_isStep.all goodWord = true := by decide +kernel
set_option maxRecDepth 20000 in
theorem ggX11_seen_X11_isStep : GoodIn wsX11_seen wsX11_isStep := goodIn_r _ [16, 17, 11, 12, 5, 13] rfl gw_wsX11_isStep
set_option maxRecDepth 20000 in
theorem gX11_seen_X11_isStep : GoodIn wsX11_seen (va_wsS RX11 144 yX11_isStep wsX11_isStep) := goodIn_app (goodIn_r _ [14, 15, 5] (by exact rfl) (by decide +kernel)) ggX11_seen_X11_isStep
set_option maxRecDepth 20000 in
theorem ggX11_seen_X11_seenOn : GoodIn wsX11_seen wsX11_seenOn := goodIn_r _ [20, 21, 22, 5, 23, 24, 25, 26, 27, 28, 29] rfl gw_wsX11_seenOn
set_option maxRecDepth 20000 in
theorem gX11_seen_X11_seenOn : GoodIn wsX11_seen (va_wsS RX11 106 yX11_seenOn wsX11_seenOn) := goodIn_app (goodIn_r _ [18, 19, 5] (by exact rfl) (by decide +kernel)) ggX11_seen_X11_seenOn
set_option maxRecDepth 20000 in
theorem ggX11_seen_X11_bad : GoodIn wsX11_seen wsX11_bad := goodIn_r _ [33, 34, 35, 36, 37, 38, 39, 40, 41, 42, 43, 44, 45, 46, 47, 48, 49, 50, 51, 52] rfl gw_wsX11_bad
set_option maxRecDepth 20000 in
theorem gX11_seen_X11_bad : GoodIn wsX11_seen (wsV RX11 73 RX11 yX11_bad wsX11_bad) := goodIn_app (goodIn_r _ [30, 31, 32, 5] (by exact rfl) (by decide +kernel)) ggX11_seen_X11_bad
theorem dX11_seen_0 : decode cX11_seen 0 = .ok (.aload_n 0, 1) := by decide +kernel
theorem dX11_seen_1 : decode cX11_seen 1 = .ok (.iload_n 1, 1) := by decide +kernel
theorem dX11_seen_2 : decode cX11_seen 2 = .ok (.invokevirtual 89, 3) := by decide +kernel
theorem dX11_seen_5 : decode cX11_seen 5 = .ok (.ifCond .eq 22, 3) := by decide +kernel
theorem dX11_seen_8 : decode cX11_seen 8 = .ok (.iload_n 2, 1) := by decide +kernel
theorem dX11_seen_9 : decode cX11_seen 9 = .ok (.invokestatic 144, 3) := by decide +kernel
theorem dX11_seen_12 : decode cX11_seen 12 = .ok (.ifCond .eq 15, 3) := by decide +kernel
theorem dX11_seen_15 : decode cX11_seen 15 = .ok (.aload_n 0, 1) := by decide +kernel
theorem dX11_seen_16 : decode cX11_seen 16 = .ok (.getfield 7, 3) := by decide +kernel
theorem dX11_seen_19 : decode cX11_seen 19 = .ok (.iload_n 1, 1) := by decide +kernel
theorem dX11_seen_20 : decode cX11_seen 20 = .ok (.iload_n 2, 1) := by decide +kernel
theorem dX11_seen_21 : decode cX11_seen 21 = .ok (.invokestatic 106, 3) := by decide +kernel
theorem dX11_seen_24 : decode cX11_seen 24 = .ok (.goto 9, 3) := by decide +kernel
theorem dX11_seen_27 : decode cX11_seen 27 = .ok (.aload_n 0, 1) := by decide +kernel
theorem dX11_seen_28 : decode cX11_seen 28 = .ok (.bipush (-2), 2) := by decide +kernel
theorem dX11_seen_30 : decode cX11_seen 30 = .ok (.invokevirtual 73, 3) := by decide +kernel
theorem dX11_seen_33 : decode cX11_seen 33 = .ok (.ireturn, 1) := by decide +kernel
set_option maxRecDepth 20000 in
theorem ggX11_then_X11_isGleaner : GoodIn wsX11_then wsX11_isGleaner := goodIn_r _ [7, 8, 9, 10, 6, 11, 12, 13, 14, 15, 43, 44, 45, 46, 47, 48, 49, 50, 51, 52, 53, 54, 55, 56, 57, 58, 59, 60] rfl gw_wsX11_isGleaner
set_option maxRecDepth 20000 in
theorem gX11_then_X11_isGleaner : GoodIn wsX11_then (wsV RX11 133 RX11 yX11_isGleaner wsX11_isGleaner) := goodIn_app (goodIn_r _ [3, 4, 5, 6] (by exact rfl) (by decide +kernel)) ggX11_then_X11_isGleaner
set_option maxRecDepth 20000 in
theorem ggX11_then_X11_in : GoodIn wsX11_then wsX11_in := goodIn_r _ [15] rfl gw_wsX11_in
set_option maxRecDepth 20000 in
theorem gX11_then_X11_in : GoodIn wsX11_then (va_wsS RX11 56 yX11_in wsX11_in) := goodIn_app (goodIn_r _ [13, 14, 6] (by exact rfl) (by decide +kernel)) ggX11_then_X11_in
set_option maxRecDepth 20000 in
theorem ggX11_then_X11_bad : GoodIn wsX11_then wsX11_bad := goodIn_r _ [19, 20, 43, 44, 45, 46, 47, 48, 49, 50, 51, 52, 53, 54, 55, 56, 57, 58, 59, 60] rfl gw_wsX11_bad
set_option maxRecDepth 20000 in
theorem gX11_then_X11_bad : GoodIn wsX11_then (wsV RX11 73 RX11 yX11_bad wsX11_bad) := goodIn_app (goodIn_r _ [16, 17, 18, 6] (by exact rfl) (by decide +kernel)) ggX11_then_X11_bad
set_option maxRecDepth 20000 in
theorem gw_wsX11_layHand : wsX11_layHand.all goodWord = true := by decide +kernel
set_option maxRecDepth 20000 in
theorem ggX11_then_X11_layHand : GoodIn wsX11_then wsX11_layHand := goodIn_r _ [24, 2, 12, 43, 44, 45, 46, 47, 48, 49, 50, 51, 52, 53, 54, 55, 56, 57, 58, 59, 60] rfl gw_wsX11_layHand
set_option maxRecDepth 20000 in
theorem gX11_then_X11_layHand : GoodIn wsX11_then (wsV RX11 147 RX11 yX11_layHand wsX11_layHand) := goodIn_app (goodIn_r _ [21, 22, 23, 6] (by exact rfl) (by decide +kernel)) ggX11_then_X11_layHand
set_option maxRecDepth 20000 in
theorem ggX11_then_X11_goStep : GoodIn wsX11_then wsX11_goStep := goodIn_r _ [27, 28, 29, 6, 30, 31, 32, 33, 34, 35, 36, 37, 38, 39, 40, 41, 42] rfl gw_wsX11_goStep
set_option maxRecDepth 20000 in
theorem gX11_then_X11_goStep : GoodIn wsX11_then (va_wsS RX11 125 yX11_goStep wsX11_goStep) := goodIn_app (goodIn_r _ [25, 26, 6] (by exact rfl) (by decide +kernel)) ggX11_then_X11_goStep
theorem dX11_then_0 : decode cX11_then 0 = .ok (.aload_n 0, 1) := by decide +kernel
theorem dX11_then_1 : decode cX11_then 1 = .ok (.iload_n 1, 1) := by decide +kernel
theorem dX11_then_2 : decode cX11_then 2 = .ok (.invokevirtual 133, 3) := by decide +kernel
theorem dX11_then_5 : decode cX11_then 5 = .ok (.ifCond .eq 15, 3) := by decide +kernel
theorem dX11_then_8 : decode cX11_then 8 = .ok (.iload_n 2, 1) := by decide +kernel
theorem dX11_then_9 : decode cX11_then 9 = .ok (.i2l, 1) := by decide +kernel
theorem dX11_then_10 : decode cX11_then 10 = .ok (.lconst 0, 1) := by decide +kernel
theorem dX11_then_11 : decode cX11_then 11 = .ok (.ldc2_w 117, 3) := by decide +kernel
theorem dX11_then_14 : decode cX11_then 14 = .ok (.invokestatic 56, 3) := by decide +kernel
theorem dX11_then_17 : decode cX11_then 17 = .ok (.ifCond .ne 10, 3) := by decide +kernel
theorem dX11_then_20 : decode cX11_then 20 = .ok (.aload_n 0, 1) := by decide +kernel
theorem dX11_then_21 : decode cX11_then 21 = .ok (.bipush (-2), 2) := by decide +kernel
theorem dX11_then_23 : decode cX11_then 23 = .ok (.invokevirtual 73, 3) := by decide +kernel
theorem dX11_then_26 : decode cX11_then 26 = .ok (.ireturn, 1) := by decide +kernel
theorem dX11_then_27 : decode cX11_then 27 = .ok (.aload_n 0, 1) := by decide +kernel
theorem dX11_then_28 : decode cX11_then 28 = .ok (.invokevirtual 147, 3) := by decide +kernel
theorem dX11_then_31 : decode cX11_then 31 = .ok (.iconst 0, 1) := by decide +kernel
theorem dX11_then_32 : decode cX11_then 32 = .ok (.istore_n 3, 1) := by decide +kernel
theorem dX11_then_33 : decode cX11_then 33 = .ok (.iload_n 3, 1) := by decide +kernel
theorem dX11_then_34 : decode cX11_then 34 = .ok (.iload_n 2, 1) := by decide +kernel
theorem dX11_then_35 : decode cX11_then 35 = .ok (.if_icmp .ge 30, 3) := by decide +kernel
theorem dX11_then_38 : decode cX11_then 38 = .ok (.aload_n 0, 1) := by decide +kernel
theorem dX11_then_39 : decode cX11_then 39 = .ok (.getfield 27, 3) := by decide +kernel
theorem dX11_then_42 : decode cX11_then 42 = .ok (.bipush 21, 2) := by decide +kernel
theorem dX11_then_44 : decode cX11_then 44 = .ok (.iaload, 1) := by decide +kernel
theorem dX11_then_45 : decode cX11_then 45 = .ok (.bipush 12, 2) := by decide +kernel
theorem dX11_then_47 : decode cX11_then 47 = .ok (.if_icmp .ge 18, 3) := by decide +kernel
theorem dX11_then_50 : decode cX11_then 50 = .ok (.aload_n 0, 1) := by decide +kernel
theorem dX11_then_51 : decode cX11_then 51 = .ok (.getfield 27, 3) := by decide +kernel
theorem dX11_then_54 : decode cX11_then 54 = .ok (.invokestatic 125, 3) := by decide +kernel
theorem dX11_then_57 : decode cX11_then 57 = .ok (.istore 4, 2) := by decide +kernel
theorem dX11_then_59 : decode cX11_then 59 = .ok (.iinc 3 1, 3) := by decide +kernel
theorem dX11_then_62 : decode cX11_then 62 = .ok (.goto (-29), 3) := by decide +kernel
theorem dX11_then_65 : decode cX11_then 65 = .ok (.aload_n 0, 1) := by decide +kernel
theorem dX11_then_66 : decode cX11_then 66 = .ok (.getfield 27, 3) := by decide +kernel
theorem dX11_then_69 : decode cX11_then 69 = .ok (.bipush 16, 2) := by decide +kernel
theorem dX11_then_71 : decode cX11_then 71 = .ok (.iload_n 1, 1) := by decide +kernel
theorem dX11_then_72 : decode cX11_then 72 = .ok (.iadd, 1) := by decide +kernel
theorem dX11_then_73 : decode cX11_then 73 = .ok (.iaload, 1) := by decide +kernel
theorem dX11_then_74 : decode cX11_then 74 = .ok (.ireturn, 1) := by decide +kernel
theorem dX11_powerOfThree_0 : decode cX11_powerOfThree 0 = .ok (.iconst 1, 1) := by decide +kernel
theorem dX11_powerOfThree_1 : decode cX11_powerOfThree 1 = .ok (.istore_n 1, 1) := by decide +kernel
theorem dX11_powerOfThree_2 : decode cX11_powerOfThree 2 = .ok (.iconst 0, 1) := by decide +kernel
theorem dX11_powerOfThree_3 : decode cX11_powerOfThree 3 = .ok (.istore_n 2, 1) := by decide +kernel
theorem dX11_powerOfThree_4 : decode cX11_powerOfThree 4 = .ok (.iload_n 2, 1) := by decide +kernel
theorem dX11_powerOfThree_5 : decode cX11_powerOfThree 5 = .ok (.iload_n 0, 1) := by decide +kernel
theorem dX11_powerOfThree_6 : decode cX11_powerOfThree 6 = .ok (.if_icmp .ge 13, 3) := by decide +kernel
theorem dX11_powerOfThree_9 : decode cX11_powerOfThree 9 = .ok (.iload_n 1, 1) := by decide +kernel
theorem dX11_powerOfThree_10 : decode cX11_powerOfThree 10 = .ok (.iconst 3, 1) := by decide +kernel
theorem dX11_powerOfThree_11 : decode cX11_powerOfThree 11 = .ok (.imul, 1) := by decide +kernel
theorem dX11_powerOfThree_12 : decode cX11_powerOfThree 12 = .ok (.istore_n 1, 1) := by decide +kernel
theorem dX11_powerOfThree_13 : decode cX11_powerOfThree 13 = .ok (.iinc 2 1, 3) := by decide +kernel
theorem dX11_powerOfThree_16 : decode cX11_powerOfThree 16 = .ok (.goto (-12), 3) := by decide +kernel
theorem dX11_powerOfThree_19 : decode cX11_powerOfThree 19 = .ok (.iload_n 1, 1) := by decide +kernel
theorem dX11_powerOfThree_20 : decode cX11_powerOfThree 20 = .ok (.ireturn, 1) := by decide +kernel
set_option maxRecDepth 20000 in
theorem ggX11_roundBy_X11_layHand : GoodIn wsX11_roundBy wsX11_layHand := goodIn_r _ [8, 2, 1, 35, 36, 37, 38, 39, 40, 41, 42, 43, 44, 45, 46, 47, 48, 49, 50, 51, 52] rfl gw_wsX11_layHand
set_option maxRecDepth 20000 in
theorem gX11_roundBy_X11_layHand : GoodIn wsX11_roundBy (wsV RX11 147 RX11 yX11_layHand wsX11_layHand) := goodIn_app (goodIn_r _ [4, 5, 6, 7] (by exact rfl) (by decide +kernel)) ggX11_roundBy_X11_layHand
set_option maxRecDepth 20000 in
theorem gw_wsX11_powerOfThree : wsX11_powerOfThree.all goodWord = true := by decide +kernel
set_option maxRecDepth 20000 in
theorem ggX11_roundBy_X11_powerOfThree : GoodIn wsX11_roundBy wsX11_powerOfThree := goodIn_r _ [11] rfl gw_wsX11_powerOfThree
set_option maxRecDepth 20000 in
theorem gX11_roundBy_X11_powerOfThree : GoodIn wsX11_roundBy (va_wsS RX11 150 yX11_powerOfThree wsX11_powerOfThree) := goodIn_app (goodIn_r _ [9, 10, 7] (by exact rfl) (by decide +kernel)) ggX11_roundBy_X11_powerOfThree
set_option maxRecDepth 20000 in
theorem ggX11_roundBy_X11_seenOn : GoodIn wsX11_roundBy wsX11_seenOn := goodIn_r _ [14, 15, 16, 7, 17, 18, 19, 20, 21, 22, 23] rfl gw_wsX11_seenOn
set_option maxRecDepth 20000 in
theorem gX11_roundBy_X11_seenOn : GoodIn wsX11_roundBy (va_wsS RX11 106 yX11_seenOn wsX11_seenOn) := goodIn_app (goodIn_r _ [12, 13, 7] (by exact rfl) (by decide +kernel)) ggX11_roundBy_X11_seenOn
set_option maxRecDepth 20000 in
theorem ggX11_roundBy_X11_isField : GoodIn wsX11_roundBy wsX11_isField := goodIn_r _ [27, 28, 29, 30, 7, 31, 1, 32, 33, 34, 35, 36, 37, 38, 39, 40, 41, 42, 43, 44, 45, 46, 47, 48, 49, 50, 51, 52] rfl gw_wsX11_isField
set_option maxRecDepth 20000 in
theorem gX11_roundBy_X11_isField : GoodIn wsX11_roundBy (wsV RX11 89 RX11 yX11_isField wsX11_isField) := goodIn_app (goodIn_r _ [24, 25, 26, 7] (by exact rfl) (by decide +kernel)) ggX11_roundBy_X11_isField
theorem dX11_roundBy_0 : decode cX11_roundBy 0 = .ok (.aload_n 0, 1) := by decide +kernel
theorem dX11_roundBy_1 : decode cX11_roundBy 1 = .ok (.getfield 7, 3) := by decide +kernel
theorem dX11_roundBy_4 : decode cX11_roundBy 4 = .ok (.bipush 11, 2) := by decide +kernel
theorem dX11_roundBy_6 : decode cX11_roundBy 6 = .ok (.iload_n 1, 1) := by decide +kernel
theorem dX11_roundBy_7 : decode cX11_roundBy 7 = .ok (.iadd, 1) := by decide +kernel
theorem dX11_roundBy_8 : decode cX11_roundBy 8 = .ok (.iaload, 1) := by decide +kernel
theorem dX11_roundBy_9 : decode cX11_roundBy 9 = .ok (.istore 4, 2) := by decide +kernel
theorem dX11_roundBy_11 : decode cX11_roundBy 11 = .ok (.iconst 0, 1) := by decide +kernel
theorem dX11_roundBy_12 : decode cX11_roundBy 12 = .ok (.istore 5, 2) := by decide +kernel
theorem dX11_roundBy_14 : decode cX11_roundBy 14 = .ok (.aload_n 0, 1) := by decide +kernel
theorem dX11_roundBy_15 : decode cX11_roundBy 15 = .ok (.invokevirtual 147, 3) := by decide +kernel
theorem dX11_roundBy_18 : decode cX11_roundBy 18 = .ok (.iconst 0, 1) := by decide +kernel
theorem dX11_roundBy_19 : decode cX11_roundBy 19 = .ok (.istore 6, 2) := by decide +kernel
theorem dX11_roundBy_21 : decode cX11_roundBy 21 = .ok (.iload 6, 2) := by decide +kernel
theorem dX11_roundBy_23 : decode cX11_roundBy 23 = .ok (.iload_n 2, 1) := by decide +kernel
theorem dX11_roundBy_24 : decode cX11_roundBy 24 = .ok (.if_icmp .ge 124, 3) := by decide +kernel
theorem dX11_roundBy_27 : decode cX11_roundBy 27 = .ok (.iload_n 3, 1) := by decide +kernel
theorem dX11_roundBy_28 : decode cX11_roundBy 28 = .ok (.iload_n 2, 1) := by decide +kernel
theorem dX11_roundBy_29 : decode cX11_roundBy 29 = .ok (.iconst 1, 1) := by decide +kernel
theorem dX11_roundBy_30 : decode cX11_roundBy 30 = .ok (.isub, 1) := by decide +kernel
theorem dX11_roundBy_31 : decode cX11_roundBy 31 = .ok (.iload 6, 2) := by decide +kernel
theorem dX11_roundBy_33 : decode cX11_roundBy 33 = .ok (.isub, 1) := by decide +kernel
theorem dX11_roundBy_34 : decode cX11_roundBy 34 = .ok (.invokestatic 150, 3) := by decide +kernel
theorem dX11_roundBy_37 : decode cX11_roundBy 37 = .ok (.idiv, 1) := by decide +kernel
theorem dX11_roundBy_38 : decode cX11_roundBy 38 = .ok (.iconst 3, 1) := by decide +kernel
theorem dX11_roundBy_39 : decode cX11_roundBy 39 = .ok (.irem, 1) := by decide +kernel
theorem dX11_roundBy_40 : decode cX11_roundBy 40 = .ok (.iconst 1, 1) := by decide +kernel
theorem dX11_roundBy_41 : decode cX11_roundBy 41 = .ok (.isub, 1) := by decide +kernel
theorem dX11_roundBy_42 : decode cX11_roundBy 42 = .ok (.istore 7, 2) := by decide +kernel
theorem dX11_roundBy_44 : decode cX11_roundBy 44 = .ok (.iload 7, 2) := by decide +kernel
theorem dX11_roundBy_46 : decode cX11_roundBy 46 = .ok (.ifCond .ne 25, 3) := by decide +kernel
theorem dX11_roundBy_49 : decode cX11_roundBy 49 = .ok (.aload_n 0, 1) := by decide +kernel
theorem dX11_roundBy_50 : decode cX11_roundBy 50 = .ok (.getfield 27, 3) := by decide +kernel
theorem dX11_roundBy_53 : decode cX11_roundBy 53 = .ok (.iload 4, 2) := by decide +kernel
theorem dX11_roundBy_55 : decode cX11_roundBy 55 = .ok (.aload_n 0, 1) := by decide +kernel
theorem dX11_roundBy_56 : decode cX11_roundBy 56 = .ok (.getfield 27, 3) := by decide +kernel
theorem dX11_roundBy_59 : decode cX11_roundBy 59 = .ok (.bipush 21, 2) := by decide +kernel
theorem dX11_roundBy_61 : decode cX11_roundBy 61 = .ok (.iaload, 1) := by decide +kernel
theorem dX11_roundBy_62 : decode cX11_roundBy 62 = .ok (.iload 6, 2) := by decide +kernel
theorem dX11_roundBy_64 : decode cX11_roundBy 64 = .ok (.iadd, 1) := by decide +kernel
theorem dX11_roundBy_65 : decode cX11_roundBy 65 = .ok (.invokestatic 106, 3) := by decide +kernel
theorem dX11_roundBy_68 : decode cX11_roundBy 68 = .ok (.goto 4, 3) := by decide +kernel
theorem dX11_roundBy_71 : decode cX11_roundBy 71 = .ok (.iconst 0, 1) := by decide +kernel
theorem dX11_roundBy_72 : decode cX11_roundBy 72 = .ok (.istore 8, 2) := by decide +kernel
theorem dX11_roundBy_74 : decode cX11_roundBy 74 = .ok (.iload 4, 2) := by decide +kernel
theorem dX11_roundBy_76 : decode cX11_roundBy 76 = .ok (.iload 7, 2) := by decide +kernel
theorem dX11_roundBy_78 : decode cX11_roundBy 78 = .ok (.iadd, 1) := by decide +kernel
theorem dX11_roundBy_79 : decode cX11_roundBy 79 = .ok (.istore 4, 2) := by decide +kernel
theorem dX11_roundBy_81 : decode cX11_roundBy 81 = .ok (.aload_n 0, 1) := by decide +kernel
theorem dX11_roundBy_82 : decode cX11_roundBy 82 = .ok (.iload 4, 2) := by decide +kernel
theorem dX11_roundBy_84 : decode cX11_roundBy 84 = .ok (.invokevirtual 89, 3) := by decide +kernel
theorem dX11_roundBy_87 : decode cX11_roundBy 87 = .ok (.ifCond .ne 5, 3) := by decide +kernel
theorem dX11_roundBy_90 : decode cX11_roundBy 90 = .ok (.iconst (-1), 1) := by decide +kernel
theorem dX11_roundBy_91 : decode cX11_roundBy 91 = .ok (.ireturn, 1) := by decide +kernel
theorem dX11_roundBy_92 : decode cX11_roundBy 92 = .ok (.aload_n 0, 1) := by decide +kernel
theorem dX11_roundBy_93 : decode cX11_roundBy 93 = .ok (.getfield 27, 3) := by decide +kernel
theorem dX11_roundBy_96 : decode cX11_roundBy 96 = .ok (.iconst 5, 1) := by decide +kernel
theorem dX11_roundBy_97 : decode cX11_roundBy 97 = .ok (.iload 4, 2) := by decide +kernel
theorem dX11_roundBy_99 : decode cX11_roundBy 99 = .ok (.iadd, 1) := by decide +kernel
theorem dX11_roundBy_100 : decode cX11_roundBy 100 = .ok (.iaload, 1) := by decide +kernel
theorem dX11_roundBy_101 : decode cX11_roundBy 101 = .ok (.iload 8, 2) := by decide +kernel
theorem dX11_roundBy_103 : decode cX11_roundBy 103 = .ok (.isub, 1) := by decide +kernel
theorem dX11_roundBy_104 : decode cX11_roundBy 104 = .ok (.istore 9, 2) := by decide +kernel
theorem dX11_roundBy_106 : decode cX11_roundBy 106 = .ok (.aload_n 0, 1) := by decide +kernel
theorem dX11_roundBy_107 : decode cX11_roundBy 107 = .ok (.getfield 27, 3) := by decide +kernel
theorem dX11_roundBy_110 : decode cX11_roundBy 110 = .ok (.iconst 5, 1) := by decide +kernel
theorem dX11_roundBy_111 : decode cX11_roundBy 111 = .ok (.iload 4, 2) := by decide +kernel
theorem dX11_roundBy_113 : decode cX11_roundBy 113 = .ok (.iadd, 1) := by decide +kernel
theorem dX11_roundBy_114 : decode cX11_roundBy 114 = .ok (.iload 9, 2) := by decide +kernel
theorem dX11_roundBy_116 : decode cX11_roundBy 116 = .ok (.ifCond .ge 7, 3) := by decide +kernel
theorem dX11_roundBy_119 : decode cX11_roundBy 119 = .ok (.iconst 0, 1) := by decide +kernel
theorem dX11_roundBy_120 : decode cX11_roundBy 120 = .ok (.goto 5, 3) := by decide +kernel
theorem dX11_roundBy_123 : decode cX11_roundBy 123 = .ok (.iload 9, 2) := by decide +kernel
theorem dX11_roundBy_125 : decode cX11_roundBy 125 = .ok (.iastore, 1) := by decide +kernel
theorem dX11_roundBy_126 : decode cX11_roundBy 126 = .ok (.iload 5, 2) := by decide +kernel
theorem dX11_roundBy_128 : decode cX11_roundBy 128 = .ok (.iload 8, 2) := by decide +kernel
theorem dX11_roundBy_130 : decode cX11_roundBy 130 = .ok (.iadd, 1) := by decide +kernel
theorem dX11_roundBy_131 : decode cX11_roundBy 131 = .ok (.istore 5, 2) := by decide +kernel
theorem dX11_roundBy_133 : decode cX11_roundBy 133 = .ok (.aload_n 0, 1) := by decide +kernel
theorem dX11_roundBy_134 : decode cX11_roundBy 134 = .ok (.getfield 30, 3) := by decide +kernel
theorem dX11_roundBy_137 : decode cX11_roundBy 137 = .ok (.iload 6, 2) := by decide +kernel
theorem dX11_roundBy_139 : decode cX11_roundBy 139 = .ok (.iload 4, 2) := by decide +kernel
theorem dX11_roundBy_141 : decode cX11_roundBy 141 = .ok (.iastore, 1) := by decide +kernel
theorem dX11_roundBy_142 : decode cX11_roundBy 142 = .ok (.iinc 6 1, 3) := by decide +kernel
theorem dX11_roundBy_145 : decode cX11_roundBy 145 = .ok (.goto (-124), 3) := by decide +kernel
theorem dX11_roundBy_148 : decode cX11_roundBy 148 = .ok (.iload 5, 2) := by decide +kernel
theorem dX11_roundBy_150 : decode cX11_roundBy 150 = .ok (.ireturn, 1) := by decide +kernel
set_option maxRecDepth 20000 in
theorem ggX11_round_X11_isGleaner : GoodIn wsX11_round wsX11_isGleaner := goodIn_r _ [8, 9, 10, 11, 7, 12, 13, 14, 15, 16, 54, 55, 56, 57, 58, 59, 60, 61, 62, 63, 64, 65, 66, 67, 68, 69, 70, 71] rfl gw_wsX11_isGleaner
set_option maxRecDepth 20000 in
theorem gX11_round_X11_isGleaner : GoodIn wsX11_round (wsV RX11 133 RX11 yX11_isGleaner wsX11_isGleaner) := goodIn_app (goodIn_r _ [4, 5, 6, 7] (by exact rfl) (by decide +kernel)) ggX11_round_X11_isGleaner
set_option maxRecDepth 20000 in
theorem ggX11_round_X11_in : GoodIn wsX11_round wsX11_in := goodIn_r _ [16] rfl gw_wsX11_in
set_option maxRecDepth 20000 in
theorem gX11_round_X11_in : GoodIn wsX11_round (va_wsS RX11 56 yX11_in wsX11_in) := goodIn_app (goodIn_r _ [14, 15, 7] (by exact rfl) (by decide +kernel)) ggX11_round_X11_in
set_option maxRecDepth 20000 in
theorem ggX11_round_X11_bad : GoodIn wsX11_round wsX11_bad := goodIn_r _ [20, 21, 54, 55, 56, 57, 58, 59, 60, 61, 62, 63, 64, 65, 66, 67, 68, 69, 70, 71] rfl gw_wsX11_bad
set_option maxRecDepth 20000 in
theorem gX11_round_X11_bad : GoodIn wsX11_round (wsV RX11 73 RX11 yX11_bad wsX11_bad) := goodIn_app (goodIn_r _ [17, 18, 19, 7] (by exact rfl) (by decide +kernel)) ggX11_round_X11_bad
set_option maxRecDepth 20000 in
theorem ggX11_round_X11_powerOfThree : GoodIn wsX11_round wsX11_powerOfThree := goodIn_r _ [24] rfl gw_wsX11_powerOfThree
set_option maxRecDepth 20000 in
theorem gX11_round_X11_powerOfThree : GoodIn wsX11_round (va_wsS RX11 150 yX11_powerOfThree wsX11_powerOfThree) := goodIn_app (goodIn_r _ [22, 23, 7] (by exact rfl) (by decide +kernel)) ggX11_round_X11_powerOfThree
set_option maxRecDepth 20000 in
theorem gw_wsX11_roundBy : wsX11_roundBy.all goodWord = true := by decide +kernel
set_option maxRecDepth 20000 in
theorem ggX11_round_X11_roundBy : GoodIn wsX11_round wsX11_roundBy := goodIn_r _ [28, 13, 29, 3, 30, 31, 32, 7, 33, 22, 23, 24, 34, 35, 36, 37, 38, 39, 40, 41, 42, 43, 44, 45, 46, 47, 48, 49, 50, 51, 52, 53, 14, 15, 16, 54, 55, 56, 57, 58, 59, 60, 61, 62, 63, 64, 65, 66, 67, 68, 69, 70, 71] rfl gw_wsX11_roundBy
set_option maxRecDepth 20000 in
theorem gX11_round_X11_roundBy : GoodIn wsX11_round (wsV RX11 155 RX11 yX11_roundBy wsX11_roundBy) := goodIn_app (goodIn_r _ [25, 26, 27, 7] (by exact rfl) (by decide +kernel)) ggX11_round_X11_roundBy
theorem dX11_round_0 : decode cX11_round 0 = .ok (.aload_n 0, 1) := by decide +kernel
theorem dX11_round_1 : decode cX11_round 1 = .ok (.iload_n 1, 1) := by decide +kernel
theorem dX11_round_2 : decode cX11_round 2 = .ok (.invokevirtual 133, 3) := by decide +kernel
theorem dX11_round_5 : decode cX11_round 5 = .ok (.ifCond .eq 20, 3) := by decide +kernel
theorem dX11_round_8 : decode cX11_round 8 = .ok (.iload_n 2, 1) := by decide +kernel
theorem dX11_round_9 : decode cX11_round 9 = .ok (.i2l, 1) := by decide +kernel
theorem dX11_round_10 : decode cX11_round 10 = .ok (.lconst 1, 1) := by decide +kernel
theorem dX11_round_11 : decode cX11_round 11 = .ok (.ldc2_w 153, 3) := by decide +kernel
theorem dX11_round_14 : decode cX11_round 14 = .ok (.invokestatic 56, 3) := by decide +kernel
theorem dX11_round_17 : decode cX11_round 17 = .ok (.ifCond .eq 8, 3) := by decide +kernel
theorem dX11_round_20 : decode cX11_round 20 = .ok (.iload_n 3, 1) := by decide +kernel
theorem dX11_round_21 : decode cX11_round 21 = .ok (.iconst (-1), 1) := by decide +kernel
theorem dX11_round_22 : decode cX11_round 22 = .ok (.if_icmp .ge 10, 3) := by decide +kernel
theorem dX11_round_25 : decode cX11_round 25 = .ok (.aload_n 0, 1) := by decide +kernel
theorem dX11_round_26 : decode cX11_round 26 = .ok (.bipush (-10), 2) := by decide +kernel
theorem dX11_round_28 : decode cX11_round 28 = .ok (.invokevirtual 73, 3) := by decide +kernel
theorem dX11_round_31 : decode cX11_round 31 = .ok (.ireturn, 1) := by decide +kernel
theorem dX11_round_32 : decode cX11_round 32 = .ok (.iconst (-1), 1) := by decide +kernel
theorem dX11_round_33 : decode cX11_round 33 = .ok (.istore 4, 2) := by decide +kernel
theorem dX11_round_35 : decode cX11_round 35 = .ok (.iconst 0, 1) := by decide +kernel
theorem dX11_round_36 : decode cX11_round 36 = .ok (.istore 5, 2) := by decide +kernel
theorem dX11_round_38 : decode cX11_round 38 = .ok (.iload 5, 2) := by decide +kernel
theorem dX11_round_40 : decode cX11_round 40 = .ok (.iload_n 2, 1) := by decide +kernel
theorem dX11_round_41 : decode cX11_round 41 = .ok (.invokestatic 150, 3) := by decide +kernel
theorem dX11_round_44 : decode cX11_round 44 = .ok (.if_icmp .ge 71, 3) := by decide +kernel
theorem dX11_round_47 : decode cX11_round 47 = .ok (.aload_n 0, 1) := by decide +kernel
theorem dX11_round_48 : decode cX11_round 48 = .ok (.iload_n 1, 1) := by decide +kernel
theorem dX11_round_49 : decode cX11_round 49 = .ok (.iload_n 2, 1) := by decide +kernel
theorem dX11_round_50 : decode cX11_round 50 = .ok (.iload 5, 2) := by decide +kernel
theorem dX11_round_52 : decode cX11_round 52 = .ok (.invokevirtual 155, 3) := by decide +kernel
theorem dX11_round_55 : decode cX11_round 55 = .ok (.istore 6, 2) := by decide +kernel
theorem dX11_round_57 : decode cX11_round 57 = .ok (.iconst 0, 1) := by decide +kernel
theorem dX11_round_58 : decode cX11_round 58 = .ok (.istore 7, 2) := by decide +kernel
theorem dX11_round_60 : decode cX11_round 60 = .ok (.iload 7, 2) := by decide +kernel
theorem dX11_round_62 : decode cX11_round 62 = .ok (.iload_n 2, 1) := by decide +kernel
theorem dX11_round_63 : decode cX11_round 63 = .ok (.if_icmp .ge 30, 3) := by decide +kernel
theorem dX11_round_66 : decode cX11_round 66 = .ok (.iload 6, 2) := by decide +kernel
theorem dX11_round_68 : decode cX11_round 68 = .ok (.iload 4, 2) := by decide +kernel
theorem dX11_round_70 : decode cX11_round 70 = .ok (.if_icmp .le 23, 3) := by decide +kernel
theorem dX11_round_73 : decode cX11_round 73 = .ok (.aload_n 0, 1) := by decide +kernel
theorem dX11_round_74 : decode cX11_round 74 = .ok (.getfield 33, 3) := by decide +kernel
theorem dX11_round_77 : decode cX11_round 77 = .ok (.iload 7, 2) := by decide +kernel
theorem dX11_round_79 : decode cX11_round 79 = .ok (.aload_n 0, 1) := by decide +kernel
theorem dX11_round_80 : decode cX11_round 80 = .ok (.getfield 30, 3) := by decide +kernel
theorem dX11_round_83 : decode cX11_round 83 = .ok (.iload 7, 2) := by decide +kernel
theorem dX11_round_85 : decode cX11_round 85 = .ok (.iaload, 1) := by decide +kernel
theorem dX11_round_86 : decode cX11_round 86 = .ok (.iastore, 1) := by decide +kernel
theorem dX11_round_87 : decode cX11_round 87 = .ok (.iinc 7 1, 3) := by decide +kernel
theorem dX11_round_90 : decode cX11_round 90 = .ok (.goto (-30), 3) := by decide +kernel
theorem dX11_round_93 : decode cX11_round 93 = .ok (.iload 6, 2) := by decide +kernel
theorem dX11_round_95 : decode cX11_round 95 = .ok (.iload 4, 2) := by decide +kernel
theorem dX11_round_97 : decode cX11_round 97 = .ok (.if_icmp .le 8, 3) := by decide +kernel
theorem dX11_round_100 : decode cX11_round 100 = .ok (.iload 6, 2) := by decide +kernel
theorem dX11_round_102 : decode cX11_round 102 = .ok (.goto 5, 3) := by decide +kernel
theorem dX11_round_105 : decode cX11_round 105 = .ok (.iload 4, 2) := by decide +kernel
theorem dX11_round_107 : decode cX11_round 107 = .ok (.istore 4, 2) := by decide +kernel
theorem dX11_round_109 : decode cX11_round 109 = .ok (.iinc 5 1, 3) := by decide +kernel
theorem dX11_round_112 : decode cX11_round 112 = .ok (.goto (-74), 3) := by decide +kernel
theorem dX11_round_115 : decode cX11_round 115 = .ok (.iload_n 3, 1) := by decide +kernel
theorem dX11_round_116 : decode cX11_round 116 = .ok (.iconst (-1), 1) := by decide +kernel
theorem dX11_round_117 : decode cX11_round 117 = .ok (.if_icmp .ne 8, 3) := by decide +kernel
theorem dX11_round_120 : decode cX11_round 120 = .ok (.iload 4, 2) := by decide +kernel
theorem dX11_round_122 : decode cX11_round 122 = .ok (.goto 19, 3) := by decide +kernel
theorem dX11_round_125 : decode cX11_round 125 = .ok (.iload_n 3, 1) := by decide +kernel
theorem dX11_round_126 : decode cX11_round 126 = .ok (.iload_n 2, 1) := by decide +kernel
theorem dX11_round_127 : decode cX11_round 127 = .ok (.if_icmp .ge 12, 3) := by decide +kernel
theorem dX11_round_130 : decode cX11_round 130 = .ok (.aload_n 0, 1) := by decide +kernel
theorem dX11_round_131 : decode cX11_round 131 = .ok (.getfield 33, 3) := by decide +kernel
theorem dX11_round_134 : decode cX11_round 134 = .ok (.iload_n 3, 1) := by decide +kernel
theorem dX11_round_135 : decode cX11_round 135 = .ok (.iaload, 1) := by decide +kernel
theorem dX11_round_136 : decode cX11_round 136 = .ok (.goto 5, 3) := by decide +kernel
theorem dX11_round_139 : decode cX11_round 139 = .ok (.bipush (-5), 2) := by decide +kernel
theorem dX11_round_141 : decode cX11_round 141 = .ok (.ireturn, 1) := by decide +kernel
set_option maxRecDepth 20000 in
theorem ggX11_placesBy_X11_manyGleaners : GoodIn wsX11_placesBy wsX11_manyGleaners := goodIn_r _ [7, 8, 31, 32, 33, 34, 35, 36, 37, 38, 39, 40, 41, 42, 43, 44, 45, 46, 47, 48] rfl gw_wsX11_manyGleaners
set_option maxRecDepth 20000 in
theorem gX11_placesBy_X11_manyGleaners : GoodIn wsX11_placesBy (wsV RX11 60 RX11 yX11_manyGleaners wsX11_manyGleaners) := goodIn_app (goodIn_r _ [3, 4, 5, 6] (by exact rfl) (by decide +kernel)) ggX11_placesBy_X11_manyGleaners
set_option maxRecDepth 20000 in
theorem ggX11_placesBy_X11_many : GoodIn wsX11_placesBy wsX11_many := goodIn_r _ [12, 8, 31, 32, 33, 34, 35, 36, 37, 38, 39, 40, 41, 42, 43, 44, 45, 46, 47, 48] rfl gw_wsX11_many
set_option maxRecDepth 20000 in
theorem gX11_placesBy_X11_many : GoodIn wsX11_placesBy (wsV RX11 52 RX11 yX11_many wsX11_many) := goodIn_app (goodIn_r _ [9, 10, 11, 6] (by exact rfl) (by decide +kernel)) ggX11_placesBy_X11_many
set_option maxRecDepth 20000 in
theorem ggX11_placesBy_X11_getsOne : GoodIn wsX11_placesBy wsX11_getsOne := goodIn_r _ [15, 16, 17, 6, 18, 19, 20, 21, 22, 23, 24, 25, 26, 27, 28, 29, 30] rfl gw_wsX11_getsOne
set_option maxRecDepth 20000 in
theorem gX11_placesBy_X11_getsOne : GoodIn wsX11_placesBy (va_wsS RX11 141 yX11_getsOne wsX11_getsOne) := goodIn_app (goodIn_r _ [13, 14, 6] (by exact rfl) (by decide +kernel)) ggX11_placesBy_X11_getsOne
theorem dX11_placesBy_0 : decode cX11_placesBy 0 = .ok (.iload_n 1, 1) := by decide +kernel
theorem dX11_placesBy_1 : decode cX11_placesBy 1 = .ok (.istore_n 3, 1) := by decide +kernel
theorem dX11_placesBy_2 : decode cX11_placesBy 2 = .ok (.iconst 0, 1) := by decide +kernel
theorem dX11_placesBy_3 : decode cX11_placesBy 3 = .ok (.istore 4, 2) := by decide +kernel
theorem dX11_placesBy_5 : decode cX11_placesBy 5 = .ok (.ldc 158, 2) := by decide +kernel
theorem dX11_placesBy_7 : decode cX11_placesBy 7 = .ok (.istore 5, 2) := by decide +kernel
theorem dX11_placesBy_9 : decode cX11_placesBy 9 = .ok (.aload_n 0, 1) := by decide +kernel
theorem dX11_placesBy_10 : decode cX11_placesBy 10 = .ok (.invokevirtual 60, 3) := by decide +kernel
theorem dX11_placesBy_13 : decode cX11_placesBy 13 = .ok (.iconst 1, 1) := by decide +kernel
theorem dX11_placesBy_14 : decode cX11_placesBy 14 = .ok (.isub, 1) := by decide +kernel
theorem dX11_placesBy_15 : decode cX11_placesBy 15 = .ok (.istore 6, 2) := by decide +kernel
theorem dX11_placesBy_17 : decode cX11_placesBy 17 = .ok (.iload 6, 2) := by decide +kernel
theorem dX11_placesBy_19 : decode cX11_placesBy 19 = .ok (.ifCond .lt 32, 3) := by decide +kernel
theorem dX11_placesBy_22 : decode cX11_placesBy 22 = .ok (.aload_n 0, 1) := by decide +kernel
theorem dX11_placesBy_23 : decode cX11_placesBy 23 = .ok (.getfield 27, 3) := by decide +kernel
theorem dX11_placesBy_26 : decode cX11_placesBy 26 = .ok (.bipush 11, 2) := by decide +kernel
theorem dX11_placesBy_28 : decode cX11_placesBy 28 = .ok (.iload 6, 2) := by decide +kernel
theorem dX11_placesBy_30 : decode cX11_placesBy 30 = .ok (.iadd, 1) := by decide +kernel
theorem dX11_placesBy_31 : decode cX11_placesBy 31 = .ok (.iload_n 3, 1) := by decide +kernel
theorem dX11_placesBy_32 : decode cX11_placesBy 32 = .ok (.aload_n 0, 1) := by decide +kernel
theorem dX11_placesBy_33 : decode cX11_placesBy 33 = .ok (.invokevirtual 52, 3) := by decide +kernel
theorem dX11_placesBy_36 : decode cX11_placesBy 36 = .ok (.irem, 1) := by decide +kernel
theorem dX11_placesBy_37 : decode cX11_placesBy 37 = .ok (.iastore, 1) := by decide +kernel
theorem dX11_placesBy_38 : decode cX11_placesBy 38 = .ok (.iload_n 3, 1) := by decide +kernel
theorem dX11_placesBy_39 : decode cX11_placesBy 39 = .ok (.aload_n 0, 1) := by decide +kernel
theorem dX11_placesBy_40 : decode cX11_placesBy 40 = .ok (.invokevirtual 52, 3) := by decide +kernel
theorem dX11_placesBy_43 : decode cX11_placesBy 43 = .ok (.idiv, 1) := by decide +kernel
theorem dX11_placesBy_44 : decode cX11_placesBy 44 = .ok (.istore_n 3, 1) := by decide +kernel
theorem dX11_placesBy_45 : decode cX11_placesBy 45 = .ok (.iinc 6 (-1), 3) := by decide +kernel
theorem dX11_placesBy_48 : decode cX11_placesBy 48 = .ok (.goto (-31), 3) := by decide +kernel
theorem dX11_placesBy_51 : decode cX11_placesBy 51 = .ok (.iconst 0, 1) := by decide +kernel
theorem dX11_placesBy_52 : decode cX11_placesBy 52 = .ok (.istore 6, 2) := by decide +kernel
theorem dX11_placesBy_54 : decode cX11_placesBy 54 = .ok (.iload 6, 2) := by decide +kernel
theorem dX11_placesBy_56 : decode cX11_placesBy 56 = .ok (.aload_n 0, 1) := by decide +kernel
theorem dX11_placesBy_57 : decode cX11_placesBy 57 = .ok (.invokevirtual 60, 3) := by decide +kernel
theorem dX11_placesBy_60 : decode cX11_placesBy 60 = .ok (.if_icmp .ge 43, 3) := by decide +kernel
theorem dX11_placesBy_63 : decode cX11_placesBy 63 = .ok (.aload_n 0, 1) := by decide +kernel
theorem dX11_placesBy_64 : decode cX11_placesBy 64 = .ok (.getfield 27, 3) := by decide +kernel
theorem dX11_placesBy_67 : decode cX11_placesBy 67 = .ok (.iload 6, 2) := by decide +kernel
theorem dX11_placesBy_69 : decode cX11_placesBy 69 = .ok (.invokestatic 141, 3) := by decide +kernel
theorem dX11_placesBy_72 : decode cX11_placesBy 72 = .ok (.istore 7, 2) := by decide +kernel
theorem dX11_placesBy_74 : decode cX11_placesBy 74 = .ok (.iload 4, 2) := by decide +kernel
theorem dX11_placesBy_76 : decode cX11_placesBy 76 = .ok (.iload 7, 2) := by decide +kernel
theorem dX11_placesBy_78 : decode cX11_placesBy 78 = .ok (.iadd, 1) := by decide +kernel
theorem dX11_placesBy_79 : decode cX11_placesBy 79 = .ok (.istore 4, 2) := by decide +kernel
theorem dX11_placesBy_81 : decode cX11_placesBy 81 = .ok (.iload 7, 2) := by decide +kernel
theorem dX11_placesBy_83 : decode cX11_placesBy 83 = .ok (.iload 5, 2) := by decide +kernel
theorem dX11_placesBy_85 : decode cX11_placesBy 85 = .ok (.if_icmp .ge 8, 3) := by decide +kernel
theorem dX11_placesBy_88 : decode cX11_placesBy 88 = .ok (.iload 7, 2) := by decide +kernel
theorem dX11_placesBy_90 : decode cX11_placesBy 90 = .ok (.goto 5, 3) := by decide +kernel
theorem dX11_placesBy_93 : decode cX11_placesBy 93 = .ok (.iload 5, 2) := by decide +kernel
theorem dX11_placesBy_95 : decode cX11_placesBy 95 = .ok (.istore 5, 2) := by decide +kernel
theorem dX11_placesBy_97 : decode cX11_placesBy 97 = .ok (.iinc 6 1, 3) := by decide +kernel
theorem dX11_placesBy_100 : decode cX11_placesBy 100 = .ok (.goto (-46), 3) := by decide +kernel
theorem dX11_placesBy_103 : decode cX11_placesBy 103 = .ok (.iload_n 2, 1) := by decide +kernel
theorem dX11_placesBy_104 : decode cX11_placesBy 104 = .ok (.ifCond .ne 8, 3) := by decide +kernel
theorem dX11_placesBy_107 : decode cX11_placesBy 107 = .ok (.iload 4, 2) := by decide +kernel
theorem dX11_placesBy_109 : decode cX11_placesBy 109 = .ok (.goto 5, 3) := by decide +kernel
theorem dX11_placesBy_112 : decode cX11_placesBy 112 = .ok (.iload 5, 2) := by decide +kernel
theorem dX11_placesBy_114 : decode cX11_placesBy 114 = .ok (.ireturn, 1) := by decide +kernel
set_option maxRecDepth 20000 in
theorem ggX11_places_X11_in : GoodIn wsX11_places wsX11_in := goodIn_r _ [7] rfl gw_wsX11_in
set_option maxRecDepth 20000 in
theorem gX11_places_X11_in : GoodIn wsX11_places (va_wsS RX11 56 yX11_in wsX11_in) := goodIn_app (goodIn_r _ [4, 5, 6] (by exact rfl) (by decide +kernel)) ggX11_places_X11_in
set_option maxRecDepth 20000 in
theorem ggX11_places_X11_manyGleaners : GoodIn wsX11_places wsX11_manyGleaners := goodIn_r _ [11, 12, 49, 50, 51, 52, 53, 54, 55, 56, 57, 58, 59, 60, 61, 62, 63, 64, 65, 66] rfl gw_wsX11_manyGleaners
set_option maxRecDepth 20000 in
theorem gX11_places_X11_manyGleaners : GoodIn wsX11_places (wsV RX11 60 RX11 yX11_manyGleaners wsX11_manyGleaners) := goodIn_app (goodIn_r _ [8, 9, 10, 6] (by exact rfl) (by decide +kernel)) ggX11_places_X11_manyGleaners
set_option maxRecDepth 20000 in
theorem ggX11_places_X11_bad : GoodIn wsX11_places wsX11_bad := goodIn_r _ [16, 17, 49, 50, 51, 52, 53, 54, 55, 56, 57, 58, 59, 60, 61, 62, 63, 64, 65, 66] rfl gw_wsX11_bad
set_option maxRecDepth 20000 in
theorem gX11_places_X11_bad : GoodIn wsX11_places (wsV RX11 73 RX11 yX11_bad wsX11_bad) := goodIn_app (goodIn_r _ [13, 14, 15, 6] (by exact rfl) (by decide +kernel)) ggX11_places_X11_bad
set_option maxRecDepth 20000 in
theorem ggX11_places_X11_layHand : GoodIn wsX11_places wsX11_layHand := goodIn_r _ [21, 3, 12, 49, 50, 51, 52, 53, 54, 55, 56, 57, 58, 59, 60, 61, 62, 63, 64, 65, 66] rfl gw_wsX11_layHand
set_option maxRecDepth 20000 in
theorem gX11_places_X11_layHand : GoodIn wsX11_places (wsV RX11 147 RX11 yX11_layHand wsX11_layHand) := goodIn_app (goodIn_r _ [18, 19, 20, 6] (by exact rfl) (by decide +kernel)) ggX11_places_X11_layHand
set_option maxRecDepth 20000 in
theorem ggX11_places_X11_many : GoodIn wsX11_places wsX11_many := goodIn_r _ [25, 12, 49, 50, 51, 52, 53, 54, 55, 56, 57, 58, 59, 60, 61, 62, 63, 64, 65, 66] rfl gw_wsX11_many
set_option maxRecDepth 20000 in
theorem gX11_places_X11_many : GoodIn wsX11_places (wsV RX11 52 RX11 yX11_many wsX11_many) := goodIn_app (goodIn_r _ [22, 23, 24, 6] (by exact rfl) (by decide +kernel)) ggX11_places_X11_many
set_option maxRecDepth 20000 in
theorem gw_wsX11_placesBy : wsX11_placesBy.all goodWord = true := by decide +kernel
set_option maxRecDepth 20000 in
theorem ggX11_places_X11_placesBy : GoodIn wsX11_places wsX11_placesBy := goodIn_r _ [29, 30, 3, 8, 9, 10, 6, 11, 12, 22, 23, 24, 25, 31, 32, 33, 34, 35, 36, 37, 38, 39, 40, 41, 42, 43, 44, 45, 46, 47, 48, 49, 50, 51, 52, 53, 54, 55, 56, 57, 58, 59, 60, 61, 62, 63, 64, 65, 66] rfl gw_wsX11_placesBy
set_option maxRecDepth 20000 in
theorem gX11_places_X11_placesBy : GoodIn wsX11_places (wsV RX11 161 RX11 yX11_placesBy wsX11_placesBy) := goodIn_app (goodIn_r _ [26, 27, 28, 6] (by exact rfl) (by decide +kernel)) ggX11_places_X11_placesBy
theorem dX11_places_0 : decode cX11_places 0 = .ok (.iload_n 1, 1) := by decide +kernel
theorem dX11_places_1 : decode cX11_places 1 = .ok (.i2l, 1) := by decide +kernel
theorem dX11_places_2 : decode cX11_places 2 = .ok (.lconst 0, 1) := by decide +kernel
theorem dX11_places_3 : decode cX11_places 3 = .ok (.lconst 1, 1) := by decide +kernel
theorem dX11_places_4 : decode cX11_places 4 = .ok (.invokestatic 56, 3) := by decide +kernel
theorem dX11_places_7 : decode cX11_places 7 = .ok (.ifCond .eq 21, 3) := by decide +kernel
theorem dX11_places_10 : decode cX11_places 10 = .ok (.iload_n 2, 1) := by decide +kernel
theorem dX11_places_11 : decode cX11_places 11 = .ok (.i2l, 1) := by decide +kernel
theorem dX11_places_12 : decode cX11_places 12 = .ok (.ldc2_w 159, 3) := by decide +kernel
theorem dX11_places_15 : decode cX11_places 15 = .ok (.aload_n 0, 1) := by decide +kernel
theorem dX11_places_16 : decode cX11_places 16 = .ok (.invokevirtual 60, 3) := by decide +kernel
theorem dX11_places_19 : decode cX11_places 19 = .ok (.iconst 1, 1) := by decide +kernel
theorem dX11_places_20 : decode cX11_places 20 = .ok (.isub, 1) := by decide +kernel
theorem dX11_places_21 : decode cX11_places 21 = .ok (.i2l, 1) := by decide +kernel
theorem dX11_places_22 : decode cX11_places 22 = .ok (.invokestatic 56, 3) := by decide +kernel
theorem dX11_places_25 : decode cX11_places 25 = .ok (.ifCond .ne 10, 3) := by decide +kernel
theorem dX11_places_28 : decode cX11_places 28 = .ok (.aload_n 0, 1) := by decide +kernel
theorem dX11_places_29 : decode cX11_places 29 = .ok (.bipush (-10), 2) := by decide +kernel
theorem dX11_places_31 : decode cX11_places 31 = .ok (.invokevirtual 73, 3) := by decide +kernel
theorem dX11_places_34 : decode cX11_places 34 = .ok (.ireturn, 1) := by decide +kernel
theorem dX11_places_35 : decode cX11_places 35 = .ok (.iconst 1, 1) := by decide +kernel
theorem dX11_places_36 : decode cX11_places 36 = .ok (.istore_n 3, 1) := by decide +kernel
theorem dX11_places_37 : decode cX11_places 37 = .ok (.aload_n 0, 1) := by decide +kernel
theorem dX11_places_38 : decode cX11_places 38 = .ok (.invokevirtual 60, 3) := by decide +kernel
theorem dX11_places_41 : decode cX11_places 41 = .ok (.ifCond .ne 7, 3) := by decide +kernel
theorem dX11_places_44 : decode cX11_places 44 = .ok (.iconst 0, 1) := by decide +kernel
theorem dX11_places_45 : decode cX11_places 45 = .ok (.goto 4, 3) := by decide +kernel
theorem dX11_places_48 : decode cX11_places 48 = .ok (.iconst (-1), 1) := by decide +kernel
theorem dX11_places_49 : decode cX11_places 49 = .ok (.istore 4, 2) := by decide +kernel
theorem dX11_places_51 : decode cX11_places 51 = .ok (.aload_n 0, 1) := by decide +kernel
theorem dX11_places_52 : decode cX11_places 52 = .ok (.invokevirtual 147, 3) := by decide +kernel
theorem dX11_places_55 : decode cX11_places 55 = .ok (.iconst 0, 1) := by decide +kernel
theorem dX11_places_56 : decode cX11_places 56 = .ok (.istore 5, 2) := by decide +kernel
theorem dX11_places_58 : decode cX11_places 58 = .ok (.iload 5, 2) := by decide +kernel
theorem dX11_places_60 : decode cX11_places 60 = .ok (.aload_n 0, 1) := by decide +kernel
theorem dX11_places_61 : decode cX11_places 61 = .ok (.invokevirtual 60, 3) := by decide +kernel
theorem dX11_places_64 : decode cX11_places 64 = .ok (.if_icmp .ge 16, 3) := by decide +kernel
theorem dX11_places_67 : decode cX11_places 67 = .ok (.iload_n 3, 1) := by decide +kernel
theorem dX11_places_68 : decode cX11_places 68 = .ok (.aload_n 0, 1) := by decide +kernel
theorem dX11_places_69 : decode cX11_places 69 = .ok (.invokevirtual 52, 3) := by decide +kernel
theorem dX11_places_72 : decode cX11_places 72 = .ok (.imul, 1) := by decide +kernel
theorem dX11_places_73 : decode cX11_places 73 = .ok (.istore_n 3, 1) := by decide +kernel
theorem dX11_places_74 : decode cX11_places 74 = .ok (.iinc 5 1, 3) := by decide +kernel
theorem dX11_places_77 : decode cX11_places 77 = .ok (.goto (-19), 3) := by decide +kernel
theorem dX11_places_80 : decode cX11_places 80 = .ok (.iconst 0, 1) := by decide +kernel
theorem dX11_places_81 : decode cX11_places 81 = .ok (.istore 5, 2) := by decide +kernel
theorem dX11_places_83 : decode cX11_places 83 = .ok (.iload 5, 2) := by decide +kernel
theorem dX11_places_85 : decode cX11_places 85 = .ok (.iload_n 3, 1) := by decide +kernel
theorem dX11_places_86 : decode cX11_places 86 = .ok (.if_icmp .ge 83, 3) := by decide +kernel
theorem dX11_places_89 : decode cX11_places 89 = .ok (.aload_n 0, 1) := by decide +kernel
theorem dX11_places_90 : decode cX11_places 90 = .ok (.invokevirtual 60, 3) := by decide +kernel
theorem dX11_places_93 : decode cX11_places 93 = .ok (.ifCond .le 76, 3) := by decide +kernel
theorem dX11_places_96 : decode cX11_places 96 = .ok (.aload_n 0, 1) := by decide +kernel
theorem dX11_places_97 : decode cX11_places 97 = .ok (.iload 5, 2) := by decide +kernel
theorem dX11_places_99 : decode cX11_places 99 = .ok (.iload_n 1, 1) := by decide +kernel
theorem dX11_places_100 : decode cX11_places 100 = .ok (.invokevirtual 161, 3) := by decide +kernel
theorem dX11_places_103 : decode cX11_places 103 = .ok (.istore 6, 2) := by decide +kernel
theorem dX11_places_105 : decode cX11_places 105 = .ok (.iconst 0, 1) := by decide +kernel
theorem dX11_places_106 : decode cX11_places 106 = .ok (.istore 7, 2) := by decide +kernel
theorem dX11_places_108 : decode cX11_places 108 = .ok (.iload 7, 2) := by decide +kernel
theorem dX11_places_110 : decode cX11_places 110 = .ok (.aload_n 0, 1) := by decide +kernel
theorem dX11_places_111 : decode cX11_places 111 = .ok (.invokevirtual 60, 3) := by decide +kernel
theorem dX11_places_114 : decode cX11_places 114 = .ok (.if_icmp .ge 33, 3) := by decide +kernel
theorem dX11_places_117 : decode cX11_places 117 = .ok (.iload 6, 2) := by decide +kernel
theorem dX11_places_119 : decode cX11_places 119 = .ok (.iload 4, 2) := by decide +kernel
theorem dX11_places_121 : decode cX11_places 121 = .ok (.if_icmp .le 26, 3) := by decide +kernel
theorem dX11_places_124 : decode cX11_places 124 = .ok (.aload_n 0, 1) := by decide +kernel
theorem dX11_places_125 : decode cX11_places 125 = .ok (.getfield 36, 3) := by decide +kernel
theorem dX11_places_128 : decode cX11_places 128 = .ok (.iload 7, 2) := by decide +kernel
theorem dX11_places_130 : decode cX11_places 130 = .ok (.aload_n 0, 1) := by decide +kernel
theorem dX11_places_131 : decode cX11_places 131 = .ok (.getfield 27, 3) := by decide +kernel
theorem dX11_places_134 : decode cX11_places 134 = .ok (.bipush 11, 2) := by decide +kernel
theorem dX11_places_136 : decode cX11_places 136 = .ok (.iload 7, 2) := by decide +kernel
theorem dX11_places_138 : decode cX11_places 138 = .ok (.iadd, 1) := by decide +kernel
theorem dX11_places_139 : decode cX11_places 139 = .ok (.iaload, 1) := by decide +kernel
theorem dX11_places_140 : decode cX11_places 140 = .ok (.iastore, 1) := by decide +kernel
theorem dX11_places_141 : decode cX11_places 141 = .ok (.iinc 7 1, 3) := by decide +kernel
theorem dX11_places_144 : decode cX11_places 144 = .ok (.goto (-36), 3) := by decide +kernel
theorem dX11_places_147 : decode cX11_places 147 = .ok (.iload 6, 2) := by decide +kernel
theorem dX11_places_149 : decode cX11_places 149 = .ok (.iload 4, 2) := by decide +kernel
theorem dX11_places_151 : decode cX11_places 151 = .ok (.if_icmp .le 8, 3) := by decide +kernel
theorem dX11_places_154 : decode cX11_places 154 = .ok (.iload 6, 2) := by decide +kernel
theorem dX11_places_156 : decode cX11_places 156 = .ok (.goto 5, 3) := by decide +kernel
theorem dX11_places_159 : decode cX11_places 159 = .ok (.iload 4, 2) := by decide +kernel
theorem dX11_places_161 : decode cX11_places 161 = .ok (.istore 4, 2) := by decide +kernel
theorem dX11_places_163 : decode cX11_places 163 = .ok (.iinc 5 1, 3) := by decide +kernel
theorem dX11_places_166 : decode cX11_places 166 = .ok (.goto (-83), 3) := by decide +kernel
theorem dX11_places_169 : decode cX11_places 169 = .ok (.iload_n 2, 1) := by decide +kernel
theorem dX11_places_170 : decode cX11_places 170 = .ok (.iconst (-1), 1) := by decide +kernel
theorem dX11_places_171 : decode cX11_places 171 = .ok (.if_icmp .ne 8, 3) := by decide +kernel
theorem dX11_places_174 : decode cX11_places 174 = .ok (.iload 4, 2) := by decide +kernel
theorem dX11_places_176 : decode cX11_places 176 = .ok (.goto 9, 3) := by decide +kernel
theorem dX11_places_179 : decode cX11_places 179 = .ok (.aload_n 0, 1) := by decide +kernel
theorem dX11_places_180 : decode cX11_places 180 = .ok (.getfield 36, 3) := by decide +kernel
theorem dX11_places_183 : decode cX11_places 183 = .ok (.iload_n 2, 1) := by decide +kernel
theorem dX11_places_184 : decode cX11_places 184 = .ok (.iaload, 1) := by decide +kernel
theorem dX11_places_185 : decode cX11_places 185 = .ok (.ireturn, 1) := by decide +kernel
set_option maxRecDepth 20000 in
theorem ggX11_which_X11_isStep : GoodIn wsX11_which wsX11_isStep := goodIn_r _ [5, 6, 7, 8, 4, 9] rfl gw_wsX11_isStep
set_option maxRecDepth 20000 in
theorem gX11_which_X11_isStep : GoodIn wsX11_which (va_wsS RX11 144 yX11_isStep wsX11_isStep) := goodIn_app (goodIn_r _ [2, 3, 4] (by exact rfl) (by decide +kernel)) ggX11_which_X11_isStep
set_option maxRecDepth 20000 in
theorem ggX11_which_X11_bad : GoodIn wsX11_which wsX11_bad := goodIn_r _ [13, 14, 31, 32, 33, 34, 35, 36, 37, 38, 39, 40, 41, 42, 43, 44, 45, 46, 47, 48] rfl gw_wsX11_bad
set_option maxRecDepth 20000 in
theorem gX11_which_X11_bad : GoodIn wsX11_which (wsV RX11 73 RX11 yX11_bad wsX11_bad) := goodIn_app (goodIn_r _ [10, 11, 12, 4] (by exact rfl) (by decide +kernel)) ggX11_which_X11_bad
set_option maxRecDepth 20000 in
theorem ggX11_which_X11_many : GoodIn wsX11_which wsX11_many := goodIn_r _ [18, 1, 31, 32, 33, 34, 35, 36, 37, 38, 39, 40, 41, 42, 43, 44, 45, 46, 47, 48] rfl gw_wsX11_many
set_option maxRecDepth 20000 in
theorem gX11_which_X11_many : GoodIn wsX11_which (wsV RX11 52 RX11 yX11_many wsX11_many) := goodIn_app (goodIn_r _ [15, 16, 17, 4] (by exact rfl) (by decide +kernel)) ggX11_which_X11_many
set_option maxRecDepth 20000 in
theorem ggX11_which_X11_seenOn : GoodIn wsX11_which wsX11_seenOn := goodIn_r _ [21, 22, 23, 4, 24, 25, 26, 27, 28, 29, 30] rfl gw_wsX11_seenOn
set_option maxRecDepth 20000 in
theorem gX11_which_X11_seenOn : GoodIn wsX11_which (va_wsS RX11 106 yX11_seenOn wsX11_seenOn) := goodIn_app (goodIn_r _ [19, 20, 4] (by exact rfl) (by decide +kernel)) ggX11_which_X11_seenOn
theorem dX11_which_0 : decode cX11_which 0 = .ok (.iload_n 1, 1) := by decide +kernel
theorem dX11_which_1 : decode cX11_which 1 = .ok (.invokestatic 144, 3) := by decide +kernel
theorem dX11_which_4 : decode cX11_which 4 = .ok (.ifCond .ne 10, 3) := by decide +kernel
theorem dX11_which_7 : decode cX11_which 7 = .ok (.aload_n 0, 1) := by decide +kernel
theorem dX11_which_8 : decode cX11_which 8 = .ok (.bipush (-2), 2) := by decide +kernel
theorem dX11_which_10 : decode cX11_which 10 = .ok (.invokevirtual 73, 3) := by decide +kernel
theorem dX11_which_13 : decode cX11_which 13 = .ok (.ireturn, 1) := by decide +kernel
theorem dX11_which_14 : decode cX11_which 14 = .ok (.iconst (-1), 1) := by decide +kernel
theorem dX11_which_15 : decode cX11_which 15 = .ok (.istore_n 2, 1) := by decide +kernel
theorem dX11_which_16 : decode cX11_which 16 = .ok (.iconst 0, 1) := by decide +kernel
theorem dX11_which_17 : decode cX11_which 17 = .ok (.istore_n 3, 1) := by decide +kernel
theorem dX11_which_18 : decode cX11_which 18 = .ok (.iload_n 3, 1) := by decide +kernel
theorem dX11_which_19 : decode cX11_which 19 = .ok (.aload_n 0, 1) := by decide +kernel
theorem dX11_which_20 : decode cX11_which 20 = .ok (.invokevirtual 52, 3) := by decide +kernel
theorem dX11_which_23 : decode cX11_which 23 = .ok (.if_icmp .ge 41, 3) := by decide +kernel
theorem dX11_which_26 : decode cX11_which 26 = .ok (.iload_n 2, 1) := by decide +kernel
theorem dX11_which_27 : decode cX11_which 27 = .ok (.iconst (-1), 1) := by decide +kernel
theorem dX11_which_28 : decode cX11_which 28 = .ok (.if_icmp .eq 24, 3) := by decide +kernel
theorem dX11_which_31 : decode cX11_which 31 = .ok (.aload_n 0, 1) := by decide +kernel
theorem dX11_which_32 : decode cX11_which 32 = .ok (.getfield 7, 3) := by decide +kernel
theorem dX11_which_35 : decode cX11_which 35 = .ok (.iload_n 3, 1) := by decide +kernel
theorem dX11_which_36 : decode cX11_which 36 = .ok (.iload_n 1, 1) := by decide +kernel
theorem dX11_which_37 : decode cX11_which 37 = .ok (.invokestatic 106, 3) := by decide +kernel
theorem dX11_which_40 : decode cX11_which 40 = .ok (.aload_n 0, 1) := by decide +kernel
theorem dX11_which_41 : decode cX11_which 41 = .ok (.getfield 7, 3) := by decide +kernel
theorem dX11_which_44 : decode cX11_which 44 = .ok (.iload_n 2, 1) := by decide +kernel
theorem dX11_which_45 : decode cX11_which 45 = .ok (.iload_n 1, 1) := by decide +kernel
theorem dX11_which_46 : decode cX11_which 46 = .ok (.invokestatic 106, 3) := by decide +kernel
theorem dX11_which_49 : decode cX11_which 49 = .ok (.if_icmp .le 7, 3) := by decide +kernel
theorem dX11_which_52 : decode cX11_which 52 = .ok (.iload_n 3, 1) := by decide +kernel
theorem dX11_which_53 : decode cX11_which 53 = .ok (.goto 4, 3) := by decide +kernel
theorem dX11_which_56 : decode cX11_which 56 = .ok (.iload_n 2, 1) := by decide +kernel
theorem dX11_which_57 : decode cX11_which 57 = .ok (.istore_n 2, 1) := by decide +kernel
theorem dX11_which_58 : decode cX11_which 58 = .ok (.iinc 3 1, 3) := by decide +kernel
theorem dX11_which_61 : decode cX11_which 61 = .ok (.goto (-43), 3) := by decide +kernel
theorem dX11_which_64 : decode cX11_which 64 = .ok (.iload_n 2, 1) := by decide +kernel
theorem dX11_which_65 : decode cX11_which 65 = .ok (.ireturn, 1) := by decide +kernel
set_option maxRecDepth 20000 in
theorem ggX11_lasts_X11_isGleaner : GoodIn wsX11_lasts wsX11_isGleaner := goodIn_r _ [7, 8, 9, 10, 6, 11, 2, 12, 13, 14, 23, 24, 25, 26, 27, 28, 29, 30, 31, 32, 33, 34, 35, 36, 37, 38, 39, 40] rfl gw_wsX11_isGleaner
set_option maxRecDepth 20000 in
theorem gX11_lasts_X11_isGleaner : GoodIn wsX11_lasts (wsV RX11 133 RX11 yX11_isGleaner wsX11_isGleaner) := goodIn_app (goodIn_r _ [3, 4, 5, 6] (by exact rfl) (by decide +kernel)) ggX11_lasts_X11_isGleaner
set_option maxRecDepth 20000 in
theorem ggX11_lasts_X11_in : GoodIn wsX11_lasts wsX11_in := goodIn_r _ [14] rfl gw_wsX11_in
set_option maxRecDepth 20000 in
theorem gX11_lasts_X11_in : GoodIn wsX11_lasts (va_wsS RX11 56 yX11_in wsX11_in) := goodIn_app (goodIn_r _ [12, 13, 6] (by exact rfl) (by decide +kernel)) ggX11_lasts_X11_in
set_option maxRecDepth 20000 in
theorem ggX11_lasts_X11_bad : GoodIn wsX11_lasts wsX11_bad := goodIn_r _ [18, 19, 23, 24, 25, 26, 27, 28, 29, 30, 31, 32, 33, 34, 35, 36, 37, 38, 39, 40] rfl gw_wsX11_bad
set_option maxRecDepth 20000 in
theorem gX11_lasts_X11_bad : GoodIn wsX11_lasts (wsV RX11 73 RX11 yX11_bad wsX11_bad) := goodIn_app (goodIn_r _ [15, 16, 17, 6] (by exact rfl) (by decide +kernel)) ggX11_lasts_X11_bad
set_option maxRecDepth 20000 in
theorem ggX11_lasts_X11_fadedBy : GoodIn wsX11_lasts wsX11_fadedBy := goodIn_r _ [22] rfl gw_wsX11_fadedBy
set_option maxRecDepth 20000 in
theorem gX11_lasts_X11_fadedBy : GoodIn wsX11_lasts (va_wsS RX11 114 yX11_fadedBy wsX11_fadedBy) := goodIn_app (goodIn_r _ [20, 21, 6] (by exact rfl) (by decide +kernel)) ggX11_lasts_X11_fadedBy
theorem dX11_lasts_0 : decode cX11_lasts 0 = .ok (.aload_n 0, 1) := by decide +kernel
theorem dX11_lasts_1 : decode cX11_lasts 1 = .ok (.iload_n 1, 1) := by decide +kernel
theorem dX11_lasts_2 : decode cX11_lasts 2 = .ok (.invokevirtual 133, 3) := by decide +kernel
theorem dX11_lasts_5 : decode cX11_lasts 5 = .ok (.ifCond .eq 15, 3) := by decide +kernel
theorem dX11_lasts_8 : decode cX11_lasts 8 = .ok (.iload_n 2, 1) := by decide +kernel
theorem dX11_lasts_9 : decode cX11_lasts 9 = .ok (.i2l, 1) := by decide +kernel
theorem dX11_lasts_10 : decode cX11_lasts 10 = .ok (.lconst 1, 1) := by decide +kernel
theorem dX11_lasts_11 : decode cX11_lasts 11 = .ok (.ldc2_w 165, 3) := by decide +kernel
theorem dX11_lasts_14 : decode cX11_lasts 14 = .ok (.invokestatic 56, 3) := by decide +kernel
theorem dX11_lasts_17 : decode cX11_lasts 17 = .ok (.ifCond .ne 10, 3) := by decide +kernel
theorem dX11_lasts_20 : decode cX11_lasts 20 = .ok (.aload_n 0, 1) := by decide +kernel
theorem dX11_lasts_21 : decode cX11_lasts 21 = .ok (.bipush (-2), 2) := by decide +kernel
theorem dX11_lasts_23 : decode cX11_lasts 23 = .ok (.invokevirtual 73, 3) := by decide +kernel
theorem dX11_lasts_26 : decode cX11_lasts 26 = .ok (.ireturn, 1) := by decide +kernel
theorem dX11_lasts_27 : decode cX11_lasts 27 = .ok (.iconst 0, 1) := by decide +kernel
theorem dX11_lasts_28 : decode cX11_lasts 28 = .ok (.istore_n 3, 1) := by decide +kernel
theorem dX11_lasts_29 : decode cX11_lasts 29 = .ok (.aload_n 0, 1) := by decide +kernel
theorem dX11_lasts_30 : decode cX11_lasts 30 = .ok (.getfield 7, 3) := by decide +kernel
theorem dX11_lasts_33 : decode cX11_lasts 33 = .ok (.bipush 16, 2) := by decide +kernel
theorem dX11_lasts_35 : decode cX11_lasts 35 = .ok (.iload_n 1, 1) := by decide +kernel
theorem dX11_lasts_36 : decode cX11_lasts 36 = .ok (.iadd, 1) := by decide +kernel
theorem dX11_lasts_37 : decode cX11_lasts 37 = .ok (.iaload, 1) := by decide +kernel
theorem dX11_lasts_38 : decode cX11_lasts 38 = .ok (.istore 4, 2) := by decide +kernel
theorem dX11_lasts_40 : decode cX11_lasts 40 = .ok (.iload 4, 2) := by decide +kernel
theorem dX11_lasts_42 : decode cX11_lasts 42 = .ok (.iload_n 2, 1) := by decide +kernel
theorem dX11_lasts_43 : decode cX11_lasts 43 = .ok (.if_icmp .lt 16, 3) := by decide +kernel
theorem dX11_lasts_46 : decode cX11_lasts 46 = .ok (.iinc 3 1, 3) := by decide +kernel
theorem dX11_lasts_49 : decode cX11_lasts 49 = .ok (.iload 4, 2) := by decide +kernel
theorem dX11_lasts_51 : decode cX11_lasts 51 = .ok (.invokestatic 114, 3) := by decide +kernel
theorem dX11_lasts_54 : decode cX11_lasts 54 = .ok (.istore 4, 2) := by decide +kernel
theorem dX11_lasts_56 : decode cX11_lasts 56 = .ok (.goto (-16), 3) := by decide +kernel
theorem dX11_lasts_59 : decode cX11_lasts 59 = .ok (.iload_n 3, 1) := by decide +kernel
theorem dX11_lasts_60 : decode cX11_lasts 60 = .ok (.ireturn, 1) := by decide +kernel
set_option maxRecDepth 20000 in
theorem ggX11_enough_X11_in : GoodIn wsX11_enough wsX11_in := goodIn_r _ [6] rfl gw_wsX11_in
set_option maxRecDepth 20000 in
theorem gX11_enough_X11_in : GoodIn wsX11_enough (va_wsS RX11 56 yX11_in wsX11_in) := goodIn_app (goodIn_r _ [3, 4, 5] (by exact rfl) (by decide +kernel)) ggX11_enough_X11_in
set_option maxRecDepth 20000 in
theorem ggX11_enough_X11_bad : GoodIn wsX11_enough wsX11_bad := goodIn_r _ [10, 11, 22, 23, 24, 25, 26, 27, 28, 29, 30, 31, 32, 33, 34, 35, 36, 37, 38, 39] rfl gw_wsX11_bad
set_option maxRecDepth 20000 in
theorem gX11_enough_X11_bad : GoodIn wsX11_enough (wsV RX11 73 RX11 yX11_bad wsX11_bad) := goodIn_app (goodIn_r _ [7, 8, 9, 5] (by exact rfl) (by decide +kernel)) ggX11_enough_X11_bad
set_option maxRecDepth 20000 in
theorem ggX11_enough_X11_manyGleaners : GoodIn wsX11_enough wsX11_manyGleaners := goodIn_r _ [15, 2, 22, 23, 24, 25, 26, 27, 28, 29, 30, 31, 32, 33, 34, 35, 36, 37, 38, 39] rfl gw_wsX11_manyGleaners
set_option maxRecDepth 20000 in
theorem gX11_enough_X11_manyGleaners : GoodIn wsX11_enough (wsV RX11 60 RX11 yX11_manyGleaners wsX11_manyGleaners) := goodIn_app (goodIn_r _ [12, 13, 14, 5] (by exact rfl) (by decide +kernel)) ggX11_enough_X11_manyGleaners
set_option maxRecDepth 20000 in
theorem gw_wsX11_has : wsX11_has.all goodWord = true := by decide +kernel
set_option maxRecDepth 20000 in
theorem ggX11_enough_X11_has : GoodIn wsX11_enough wsX11_has := goodIn_r _ [18] rfl gw_wsX11_has
set_option maxRecDepth 20000 in
theorem gX11_enough_X11_has : GoodIn wsX11_enough (va_wsS RX11 167 yX11_has wsX11_has) := goodIn_app (goodIn_r _ [16, 17, 5] (by exact rfl) (by decide +kernel)) ggX11_enough_X11_has
set_option maxRecDepth 20000 in
theorem gw_wsX11_bits : wsX11_bits.all goodWord = true := by decide +kernel
set_option maxRecDepth 20000 in
theorem ggX11_enough_X11_bits : GoodIn wsX11_enough wsX11_bits := goodIn_r _ [21] rfl gw_wsX11_bits
set_option maxRecDepth 20000 in
theorem gX11_enough_X11_bits : GoodIn wsX11_enough (va_wsS RX11 171 yX11_bits wsX11_bits) := goodIn_app (goodIn_r _ [19, 20, 5] (by exact rfl) (by decide +kernel)) ggX11_enough_X11_bits
theorem dX11_enough_0 : decode cX11_enough 0 = .ok (.iload_n 1, 1) := by decide +kernel
theorem dX11_enough_1 : decode cX11_enough 1 = .ok (.i2l, 1) := by decide +kernel
theorem dX11_enough_2 : decode cX11_enough 2 = .ok (.lconst 0, 1) := by decide +kernel
theorem dX11_enough_3 : decode cX11_enough 3 = .ok (.ldc2_w 165, 3) := by decide +kernel
theorem dX11_enough_6 : decode cX11_enough 6 = .ok (.invokestatic 56, 3) := by decide +kernel
theorem dX11_enough_9 : decode cX11_enough 9 = .ok (.ifCond .ne 10, 3) := by decide +kernel
theorem dX11_enough_12 : decode cX11_enough 12 = .ok (.aload_n 0, 1) := by decide +kernel
theorem dX11_enough_13 : decode cX11_enough 13 = .ok (.bipush (-2), 2) := by decide +kernel
theorem dX11_enough_15 : decode cX11_enough 15 = .ok (.invokevirtual 73, 3) := by decide +kernel
theorem dX11_enough_18 : decode cX11_enough 18 = .ok (.ireturn, 1) := by decide +kernel
theorem dX11_enough_19 : decode cX11_enough 19 = .ok (.iconst (-1), 1) := by decide +kernel
theorem dX11_enough_20 : decode cX11_enough 20 = .ok (.istore_n 2, 1) := by decide +kernel
theorem dX11_enough_21 : decode cX11_enough 21 = .ok (.iconst 0, 1) := by decide +kernel
theorem dX11_enough_22 : decode cX11_enough 22 = .ok (.istore_n 3, 1) := by decide +kernel
theorem dX11_enough_23 : decode cX11_enough 23 = .ok (.iload_n 3, 1) := by decide +kernel
theorem dX11_enough_24 : decode cX11_enough 24 = .ok (.iconst 1, 1) := by decide +kernel
theorem dX11_enough_25 : decode cX11_enough 25 = .ok (.aload_n 0, 1) := by decide +kernel
theorem dX11_enough_26 : decode cX11_enough 26 = .ok (.invokevirtual 60, 3) := by decide +kernel
theorem dX11_enough_29 : decode cX11_enough 29 = .ok (.ishl, 1) := by decide +kernel
theorem dX11_enough_30 : decode cX11_enough 30 = .ok (.if_icmp .ge 86, 3) := by decide +kernel
theorem dX11_enough_33 : decode cX11_enough 33 = .ok (.iconst 0, 1) := by decide +kernel
theorem dX11_enough_34 : decode cX11_enough 34 = .ok (.istore 4, 2) := by decide +kernel
theorem dX11_enough_36 : decode cX11_enough 36 = .ok (.iconst 0, 1) := by decide +kernel
theorem dX11_enough_37 : decode cX11_enough 37 = .ok (.istore 5, 2) := by decide +kernel
theorem dX11_enough_39 : decode cX11_enough 39 = .ok (.iload 5, 2) := by decide +kernel
theorem dX11_enough_41 : decode cX11_enough 41 = .ok (.aload_n 0, 1) := by decide +kernel
theorem dX11_enough_42 : decode cX11_enough 42 = .ok (.invokevirtual 60, 3) := by decide +kernel
theorem dX11_enough_45 : decode cX11_enough 45 = .ok (.if_icmp .ge 37, 3) := by decide +kernel
theorem dX11_enough_48 : decode cX11_enough 48 = .ok (.iload 4, 2) := by decide +kernel
theorem dX11_enough_50 : decode cX11_enough 50 = .ok (.iload_n 3, 1) := by decide +kernel
theorem dX11_enough_51 : decode cX11_enough 51 = .ok (.iload 5, 2) := by decide +kernel
theorem dX11_enough_53 : decode cX11_enough 53 = .ok (.invokestatic 167, 3) := by decide +kernel
theorem dX11_enough_56 : decode cX11_enough 56 = .ok (.ifCond .eq 16, 3) := by decide +kernel
theorem dX11_enough_59 : decode cX11_enough 59 = .ok (.aload_n 0, 1) := by decide +kernel
theorem dX11_enough_60 : decode cX11_enough 60 = .ok (.getfield 7, 3) := by decide +kernel
theorem dX11_enough_63 : decode cX11_enough 63 = .ok (.bipush 16, 2) := by decide +kernel
theorem dX11_enough_65 : decode cX11_enough 65 = .ok (.iload 5, 2) := by decide +kernel
theorem dX11_enough_67 : decode cX11_enough 67 = .ok (.iadd, 1) := by decide +kernel
theorem dX11_enough_68 : decode cX11_enough 68 = .ok (.iaload, 1) := by decide +kernel
theorem dX11_enough_69 : decode cX11_enough 69 = .ok (.goto 4, 3) := by decide +kernel
theorem dX11_enough_72 : decode cX11_enough 72 = .ok (.iconst 0, 1) := by decide +kernel
theorem dX11_enough_73 : decode cX11_enough 73 = .ok (.iadd, 1) := by decide +kernel
theorem dX11_enough_74 : decode cX11_enough 74 = .ok (.istore 4, 2) := by decide +kernel
theorem dX11_enough_76 : decode cX11_enough 76 = .ok (.iinc 5 1, 3) := by decide +kernel
theorem dX11_enough_79 : decode cX11_enough 79 = .ok (.goto (-40), 3) := by decide +kernel
theorem dX11_enough_82 : decode cX11_enough 82 = .ok (.iload 4, 2) := by decide +kernel
theorem dX11_enough_84 : decode cX11_enough 84 = .ok (.iload_n 1, 1) := by decide +kernel
theorem dX11_enough_85 : decode cX11_enough 85 = .ok (.if_icmp .lt 23, 3) := by decide +kernel
theorem dX11_enough_88 : decode cX11_enough 88 = .ok (.iload_n 2, 1) := by decide +kernel
theorem dX11_enough_89 : decode cX11_enough 89 = .ok (.iconst (-1), 1) := by decide +kernel
theorem dX11_enough_90 : decode cX11_enough 90 = .ok (.if_icmp .eq 14, 3) := by decide +kernel
theorem dX11_enough_93 : decode cX11_enough 93 = .ok (.iload_n 3, 1) := by decide +kernel
theorem dX11_enough_94 : decode cX11_enough 94 = .ok (.invokestatic 171, 3) := by decide +kernel
theorem dX11_enough_97 : decode cX11_enough 97 = .ok (.iload_n 2, 1) := by decide +kernel
theorem dX11_enough_98 : decode cX11_enough 98 = .ok (.invokestatic 171, 3) := by decide +kernel
theorem dX11_enough_101 : decode cX11_enough 101 = .ok (.if_icmp .ge 7, 3) := by decide +kernel
theorem dX11_enough_104 : decode cX11_enough 104 = .ok (.iload_n 3, 1) := by decide +kernel
theorem dX11_enough_105 : decode cX11_enough 105 = .ok (.goto 4, 3) := by decide +kernel
theorem dX11_enough_108 : decode cX11_enough 108 = .ok (.iload_n 2, 1) := by decide +kernel
theorem dX11_enough_109 : decode cX11_enough 109 = .ok (.istore_n 2, 1) := by decide +kernel
theorem dX11_enough_110 : decode cX11_enough 110 = .ok (.iinc 3 1, 3) := by decide +kernel
theorem dX11_enough_113 : decode cX11_enough 113 = .ok (.goto (-90), 3) := by decide +kernel
theorem dX11_enough_116 : decode cX11_enough 116 = .ok (.iload_n 2, 1) := by decide +kernel
theorem dX11_enough_117 : decode cX11_enough 117 = .ok (.ireturn, 1) := by decide +kernel
set_option maxRecDepth 20000 in
theorem ggX11_missed_X11_isField : GoodIn wsX11_missed wsX11_isField := goodIn_r _ [6, 7, 8, 9, 5, 10, 1, 11, 12, 13, 31, 32, 33, 34, 35, 36, 37, 38, 39, 40, 41, 42, 43, 44, 45, 46, 47, 48] rfl gw_wsX11_isField
set_option maxRecDepth 20000 in
theorem gX11_missed_X11_isField : GoodIn wsX11_missed (wsV RX11 89 RX11 yX11_isField wsX11_isField) := goodIn_app (goodIn_r _ [2, 3, 4, 5] (by exact rfl) (by decide +kernel)) ggX11_missed_X11_isField
set_option maxRecDepth 20000 in
theorem ggX11_missed_X11_isStep : GoodIn wsX11_missed wsX11_isStep := goodIn_r _ [16, 17, 11, 12, 5, 13] rfl gw_wsX11_isStep
set_option maxRecDepth 20000 in
theorem gX11_missed_X11_isStep : GoodIn wsX11_missed (va_wsS RX11 144 yX11_isStep wsX11_isStep) := goodIn_app (goodIn_r _ [14, 15, 5] (by exact rfl) (by decide +kernel)) ggX11_missed_X11_isStep
set_option maxRecDepth 20000 in
theorem ggX11_missed_X11_isLight : GoodIn wsX11_missed wsX11_isLight := goodIn_r _ [20, 21, 11, 12, 5, 13] rfl gw_wsX11_isLight
set_option maxRecDepth 20000 in
theorem gX11_missed_X11_isLight : GoodIn wsX11_missed (va_wsS RX11 79 yX11_isLight wsX11_isLight) := goodIn_app (goodIn_r _ [18, 19, 5] (by exact rfl) (by decide +kernel)) ggX11_missed_X11_isLight
set_option maxRecDepth 20000 in
theorem ggX11_missed_X11_bad : GoodIn wsX11_missed wsX11_bad := goodIn_r _ [25, 26, 31, 32, 33, 34, 35, 36, 37, 38, 39, 40, 41, 42, 43, 44, 45, 46, 47, 48] rfl gw_wsX11_bad
set_option maxRecDepth 20000 in
theorem gX11_missed_X11_bad : GoodIn wsX11_missed (wsV RX11 73 RX11 yX11_bad wsX11_bad) := goodIn_app (goodIn_r _ [22, 23, 24, 5] (by exact rfl) (by decide +kernel)) ggX11_missed_X11_bad
set_option maxRecDepth 20000 in
theorem ggX11_missed_X11_full : GoodIn wsX11_missed wsX11_full := goodIn_r _ [30, 26, 31, 32, 33, 34, 35, 36, 37, 38, 39, 40, 41, 42, 43, 44, 45, 46, 47, 48] rfl gw_wsX11_full
set_option maxRecDepth 20000 in
theorem gX11_missed_X11_full : GoodIn wsX11_missed (wsV RX11 82 RX11 yX11_full wsX11_full) := goodIn_app (goodIn_r _ [27, 28, 29, 5] (by exact rfl) (by decide +kernel)) ggX11_missed_X11_full
theorem dX11_missed_0 : decode cX11_missed 0 = .ok (.aload_n 0, 1) := by decide +kernel
theorem dX11_missed_1 : decode cX11_missed 1 = .ok (.iload_n 1, 1) := by decide +kernel
theorem dX11_missed_2 : decode cX11_missed 2 = .ok (.invokevirtual 89, 3) := by decide +kernel
theorem dX11_missed_5 : decode cX11_missed 5 = .ok (.ifCond .eq 25, 3) := by decide +kernel
