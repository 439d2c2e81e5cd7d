theorem dX11_missed_8 : decode cX11_missed 8 = .ok (.iload_n 2, 1) := by decide +kernel
theorem dX11_missed_9 : decode cX11_missed 9 = .ok (.invokestatic 144, 3) := by decide +kernel
theorem dX11_missed_12 : decode cX11_missed 12 = .ok (.ifCond .eq 18, 3) := by decide +kernel
theorem dX11_missed_15 : decode cX11_missed 15 = .ok (.iload_n 3, 1) := by decide +kernel
theorem dX11_missed_16 : decode cX11_missed 16 = .ok (.invokestatic 79, 3) := by decide +kernel
theorem dX11_missed_19 : decode cX11_missed 19 = .ok (.ifCond .eq 11, 3) := by decide +kernel
theorem dX11_missed_22 : decode cX11_missed 22 = .ok (.iload 4, 2) := by decide +kernel
theorem dX11_missed_24 : decode cX11_missed 24 = .ok (.invokestatic 79, 3) := by decide +kernel
theorem dX11_missed_27 : decode cX11_missed 27 = .ok (.ifCond .ne 10, 3) := by decide +kernel
theorem dX11_missed_30 : decode cX11_missed 30 = .ok (.aload_n 0, 1) := by decide +kernel
theorem dX11_missed_31 : decode cX11_missed 31 = .ok (.bipush (-2), 2) := by decide +kernel
theorem dX11_missed_33 : decode cX11_missed 33 = .ok (.invokevirtual 73, 3) := by decide +kernel
theorem dX11_missed_36 : decode cX11_missed 36 = .ok (.ireturn, 1) := by decide +kernel
theorem dX11_missed_37 : decode cX11_missed 37 = .ok (.aload_n 0, 1) := by decide +kernel
theorem dX11_missed_38 : decode cX11_missed 38 = .ok (.getfield 7, 3) := by decide +kernel
theorem dX11_missed_41 : decode cX11_missed 41 = .ok (.iconst 2, 1) := by decide +kernel
theorem dX11_missed_42 : decode cX11_missed 42 = .ok (.iaload, 1) := by decide +kernel
theorem dX11_missed_43 : decode cX11_missed 43 = .ok (.iconst 4, 1) := by decide +kernel
theorem dX11_missed_44 : decode cX11_missed 44 = .ok (.if_icmp .ne 8, 3) := by decide +kernel
theorem dX11_missed_47 : decode cX11_missed 47 = .ok (.aload_n 0, 1) := by decide +kernel
theorem dX11_missed_48 : decode cX11_missed 48 = .ok (.invokevirtual 82, 3) := by decide +kernel
theorem dX11_missed_51 : decode cX11_missed 51 = .ok (.ireturn, 1) := by decide +kernel
theorem dX11_missed_52 : decode cX11_missed 52 = .ok (.bipush 30, 2) := by decide +kernel
theorem dX11_missed_54 : decode cX11_missed 54 = .ok (.iconst 4, 1) := by decide +kernel
theorem dX11_missed_55 : decode cX11_missed 55 = .ok (.aload_n 0, 1) := by decide +kernel
theorem dX11_missed_56 : decode cX11_missed 56 = .ok (.getfield 7, 3) := by decide +kernel
theorem dX11_missed_59 : decode cX11_missed 59 = .ok (.iconst 2, 1) := by decide +kernel
theorem dX11_missed_60 : decode cX11_missed 60 = .ok (.iaload, 1) := by decide +kernel
theorem dX11_missed_61 : decode cX11_missed 61 = .ok (.imul, 1) := by decide +kernel
theorem dX11_missed_62 : decode cX11_missed 62 = .ok (.iadd, 1) := by decide +kernel
theorem dX11_missed_63 : decode cX11_missed 63 = .ok (.istore 5, 2) := by decide +kernel
theorem dX11_missed_65 : decode cX11_missed 65 = .ok (.aload_n 0, 1) := by decide +kernel
theorem dX11_missed_66 : decode cX11_missed 66 = .ok (.getfield 7, 3) := by decide +kernel
theorem dX11_missed_69 : decode cX11_missed 69 = .ok (.iload 5, 2) := by decide +kernel
theorem dX11_missed_71 : decode cX11_missed 71 = .ok (.iload_n 1, 1) := by decide +kernel
theorem dX11_missed_72 : decode cX11_missed 72 = .ok (.iastore, 1) := by decide +kernel
theorem dX11_missed_73 : decode cX11_missed 73 = .ok (.aload_n 0, 1) := by decide +kernel
theorem dX11_missed_74 : decode cX11_missed 74 = .ok (.getfield 7, 3) := by decide +kernel
theorem dX11_missed_77 : decode cX11_missed 77 = .ok (.iload 5, 2) := by decide +kernel
theorem dX11_missed_79 : decode cX11_missed 79 = .ok (.iconst 1, 1) := by decide +kernel
theorem dX11_missed_80 : decode cX11_missed 80 = .ok (.iadd, 1) := by decide +kernel
theorem dX11_missed_81 : decode cX11_missed 81 = .ok (.iload_n 2, 1) := by decide +kernel
theorem dX11_missed_82 : decode cX11_missed 82 = .ok (.iastore, 1) := by decide +kernel
theorem dX11_missed_83 : decode cX11_missed 83 = .ok (.aload_n 0, 1) := by decide +kernel
theorem dX11_missed_84 : decode cX11_missed 84 = .ok (.getfield 7, 3) := by decide +kernel
theorem dX11_missed_87 : decode cX11_missed 87 = .ok (.iload 5, 2) := by decide +kernel
theorem dX11_missed_89 : decode cX11_missed 89 = .ok (.iconst 2, 1) := by decide +kernel
theorem dX11_missed_90 : decode cX11_missed 90 = .ok (.iadd, 1) := by decide +kernel
theorem dX11_missed_91 : decode cX11_missed 91 = .ok (.iload_n 3, 1) := by decide +kernel
theorem dX11_missed_92 : decode cX11_missed 92 = .ok (.iastore, 1) := by decide +kernel
theorem dX11_missed_93 : decode cX11_missed 93 = .ok (.aload_n 0, 1) := by decide +kernel
theorem dX11_missed_94 : decode cX11_missed 94 = .ok (.getfield 7, 3) := by decide +kernel
theorem dX11_missed_97 : decode cX11_missed 97 = .ok (.iload 5, 2) := by decide +kernel
theorem dX11_missed_99 : decode cX11_missed 99 = .ok (.iconst 3, 1) := by decide +kernel
theorem dX11_missed_100 : decode cX11_missed 100 = .ok (.iadd, 1) := by decide +kernel
theorem dX11_missed_101 : decode cX11_missed 101 = .ok (.iload 4, 2) := by decide +kernel
theorem dX11_missed_103 : decode cX11_missed 103 = .ok (.iastore, 1) := by decide +kernel
theorem dX11_missed_104 : decode cX11_missed 104 = .ok (.aload_n 0, 1) := by decide +kernel
theorem dX11_missed_105 : decode cX11_missed 105 = .ok (.getfield 7, 3) := by decide +kernel
theorem dX11_missed_108 : decode cX11_missed 108 = .ok (.iconst 2, 1) := by decide +kernel
theorem dX11_missed_109 : decode cX11_missed 109 = .ok (.dup2, 1) := by decide +kernel
theorem dX11_missed_110 : decode cX11_missed 110 = .ok (.iaload, 1) := by decide +kernel
theorem dX11_missed_111 : decode cX11_missed 111 = .ok (.iconst 1, 1) := by decide +kernel
theorem dX11_missed_112 : decode cX11_missed 112 = .ok (.iadd, 1) := by decide +kernel
theorem dX11_missed_113 : decode cX11_missed 113 = .ok (.iastore, 1) := by decide +kernel
theorem dX11_missed_114 : decode cX11_missed 114 = .ok (.aload_n 0, 1) := by decide +kernel
theorem dX11_missed_115 : decode cX11_missed 115 = .ok (.getfield 7, 3) := by decide +kernel
theorem dX11_missed_118 : decode cX11_missed 118 = .ok (.iconst 2, 1) := by decide +kernel
theorem dX11_missed_119 : decode cX11_missed 119 = .ok (.iaload, 1) := by decide +kernel
theorem dX11_missed_120 : decode cX11_missed 120 = .ok (.ireturn, 1) := by decide +kernel
set_option maxRecDepth 20000 in
theorem ggX11_clouds_X11_seenAs : GoodIn wsX11_clouds wsX11_seenAs := goodIn_r _ [5, 6, 7, 4, 8, 9, 10, 11] rfl gw_wsX11_seenAs
set_option maxRecDepth 20000 in
theorem gX11_clouds_X11_seenAs : GoodIn wsX11_clouds (va_wsS RX11 102 yX11_seenAs wsX11_seenAs) := goodIn_app (goodIn_r _ [2, 3, 4] (by exact rfl) (by decide +kernel)) ggX11_clouds_X11_seenAs
theorem dX11_clouds_0 : decode cX11_clouds 0 = .ok (.iconst 0, 1) := by decide +kernel
theorem dX11_clouds_1 : decode cX11_clouds 1 = .ok (.istore_n 1, 1) := by decide +kernel
theorem dX11_clouds_2 : decode cX11_clouds 2 = .ok (.iconst 0, 1) := by decide +kernel
theorem dX11_clouds_3 : decode cX11_clouds 3 = .ok (.istore_n 2, 1) := by decide +kernel
theorem dX11_clouds_4 : decode cX11_clouds 4 = .ok (.iload_n 2, 1) := by decide +kernel
theorem dX11_clouds_5 : decode cX11_clouds 5 = .ok (.bipush 10, 2) := by decide +kernel
theorem dX11_clouds_7 : decode cX11_clouds 7 = .ok (.if_icmp .ge 113, 3) := by decide +kernel
theorem dX11_clouds_10 : decode cX11_clouds 10 = .ok (.iconst 1, 1) := by decide +kernel
theorem dX11_clouds_11 : decode cX11_clouds 11 = .ok (.istore_n 3, 1) := by decide +kernel
theorem dX11_clouds_12 : decode cX11_clouds 12 = .ok (.iconst 0, 1) := by decide +kernel
theorem dX11_clouds_13 : decode cX11_clouds 13 = .ok (.istore 4, 2) := by decide +kernel
theorem dX11_clouds_15 : decode cX11_clouds 15 = .ok (.iload 4, 2) := by decide +kernel
theorem dX11_clouds_17 : decode cX11_clouds 17 = .ok (.aload_n 0, 1) := by decide +kernel
theorem dX11_clouds_18 : decode cX11_clouds 18 = .ok (.getfield 7, 3) := by decide +kernel
theorem dX11_clouds_21 : decode cX11_clouds 21 = .ok (.iconst 2, 1) := by decide +kernel
theorem dX11_clouds_22 : decode cX11_clouds 22 = .ok (.iaload, 1) := by decide +kernel
theorem dX11_clouds_23 : decode cX11_clouds 23 = .ok (.if_icmp .ge 77, 3) := by decide +kernel
theorem dX11_clouds_26 : decode cX11_clouds 26 = .ok (.bipush 30, 2) := by decide +kernel
theorem dX11_clouds_28 : decode cX11_clouds 28 = .ok (.iconst 4, 1) := by decide +kernel
theorem dX11_clouds_29 : decode cX11_clouds 29 = .ok (.iload 4, 2) := by decide +kernel
theorem dX11_clouds_31 : decode cX11_clouds 31 = .ok (.imul, 1) := by decide +kernel
theorem dX11_clouds_32 : decode cX11_clouds 32 = .ok (.iadd, 1) := by decide +kernel
theorem dX11_clouds_33 : decode cX11_clouds 33 = .ok (.istore 5, 2) := by decide +kernel
theorem dX11_clouds_35 : decode cX11_clouds 35 = .ok (.iload_n 3, 1) := by decide +kernel
theorem dX11_clouds_36 : decode cX11_clouds 36 = .ok (.ifCond .eq 56, 3) := by decide +kernel
theorem dX11_clouds_39 : decode cX11_clouds 39 = .ok (.aload_n 0, 1) := by decide +kernel
theorem dX11_clouds_40 : decode cX11_clouds 40 = .ok (.getfield 7, 3) := by decide +kernel
theorem dX11_clouds_43 : decode cX11_clouds 43 = .ok (.bipush 24, 2) := by decide +kernel
theorem dX11_clouds_45 : decode cX11_clouds 45 = .ok (.aload_n 0, 1) := by decide +kernel
theorem dX11_clouds_46 : decode cX11_clouds 46 = .ok (.getfield 7, 3) := by decide +kernel
theorem dX11_clouds_49 : decode cX11_clouds 49 = .ok (.iload 5, 2) := by decide +kernel
theorem dX11_clouds_51 : decode cX11_clouds 51 = .ok (.iaload, 1) := by decide +kernel
theorem dX11_clouds_52 : decode cX11_clouds 52 = .ok (.iadd, 1) := by decide +kernel
theorem dX11_clouds_53 : decode cX11_clouds 53 = .ok (.iaload, 1) := by decide +kernel
theorem dX11_clouds_54 : decode cX11_clouds 54 = .ok (.aload_n 0, 1) := by decide +kernel
theorem dX11_clouds_55 : decode cX11_clouds 55 = .ok (.getfield 7, 3) := by decide +kernel
theorem dX11_clouds_58 : decode cX11_clouds 58 = .ok (.iload 5, 2) := by decide +kernel
theorem dX11_clouds_60 : decode cX11_clouds 60 = .ok (.iconst 2, 1) := by decide +kernel
theorem dX11_clouds_61 : decode cX11_clouds 61 = .ok (.iadd, 1) := by decide +kernel
theorem dX11_clouds_62 : decode cX11_clouds 62 = .ok (.iaload, 1) := by decide +kernel
theorem dX11_clouds_63 : decode cX11_clouds 63 = .ok (.aload_n 0, 1) := by decide +kernel
theorem dX11_clouds_64 : decode cX11_clouds 64 = .ok (.getfield 7, 3) := by decide +kernel
theorem dX11_clouds_67 : decode cX11_clouds 67 = .ok (.iload 5, 2) := by decide +kernel
theorem dX11_clouds_69 : decode cX11_clouds 69 = .ok (.iconst 1, 1) := by decide +kernel
theorem dX11_clouds_70 : decode cX11_clouds 70 = .ok (.iadd, 1) := by decide +kernel
theorem dX11_clouds_71 : decode cX11_clouds 71 = .ok (.iaload, 1) := by decide +kernel
theorem dX11_clouds_72 : decode cX11_clouds 72 = .ok (.iload_n 2, 1) := by decide +kernel
theorem dX11_clouds_73 : decode cX11_clouds 73 = .ok (.invokestatic 102, 3) := by decide +kernel
theorem dX11_clouds_76 : decode cX11_clouds 76 = .ok (.aload_n 0, 1) := by decide +kernel
theorem dX11_clouds_77 : decode cX11_clouds 77 = .ok (.getfield 7, 3) := by decide +kernel
theorem dX11_clouds_80 : decode cX11_clouds 80 = .ok (.iload 5, 2) := by decide +kernel
theorem dX11_clouds_82 : decode cX11_clouds 82 = .ok (.iconst 3, 1) := by decide +kernel
theorem dX11_clouds_83 : decode cX11_clouds 83 = .ok (.iadd, 1) := by decide +kernel
theorem dX11_clouds_84 : decode cX11_clouds 84 = .ok (.iaload, 1) := by decide +kernel
theorem dX11_clouds_85 : decode cX11_clouds 85 = .ok (.if_icmp .ne 7, 3) := by decide +kernel
theorem dX11_clouds_88 : decode cX11_clouds 88 = .ok (.iconst 1, 1) := by decide +kernel
theorem dX11_clouds_89 : decode cX11_clouds 89 = .ok (.goto 4, 3) := by decide +kernel
theorem dX11_clouds_92 : decode cX11_clouds 92 = .ok (.iconst 0, 1) := by decide +kernel
theorem dX11_clouds_93 : decode cX11_clouds 93 = .ok (.istore_n 3, 1) := by decide +kernel
theorem dX11_clouds_94 : decode cX11_clouds 94 = .ok (.iinc 4 1, 3) := by decide +kernel
theorem dX11_clouds_97 : decode cX11_clouds 97 = .ok (.goto (-82), 3) := by decide +kernel
theorem dX11_clouds_100 : decode cX11_clouds 100 = .ok (.iload_n 1, 1) := by decide +kernel
theorem dX11_clouds_101 : decode cX11_clouds 101 = .ok (.iload_n 3, 1) := by decide +kernel
theorem dX11_clouds_102 : decode cX11_clouds 102 = .ok (.ifCond .eq 9, 3) := by decide +kernel
theorem dX11_clouds_105 : decode cX11_clouds 105 = .ok (.iconst 1, 1) := by decide +kernel
theorem dX11_clouds_106 : decode cX11_clouds 106 = .ok (.iload_n 2, 1) := by decide +kernel
theorem dX11_clouds_107 : decode cX11_clouds 107 = .ok (.ishl, 1) := by decide +kernel
theorem dX11_clouds_108 : decode cX11_clouds 108 = .ok (.goto 4, 3) := by decide +kernel
theorem dX11_clouds_111 : decode cX11_clouds 111 = .ok (.iconst 0, 1) := by decide +kernel
theorem dX11_clouds_112 : decode cX11_clouds 112 = .ok (.ior, 1) := by decide +kernel
theorem dX11_clouds_113 : decode cX11_clouds 113 = .ok (.istore_n 1, 1) := by decide +kernel
theorem dX11_clouds_114 : decode cX11_clouds 114 = .ok (.iinc 2 1, 3) := by decide +kernel
theorem dX11_clouds_117 : decode cX11_clouds 117 = .ok (.goto (-113), 3) := by decide +kernel
theorem dX11_clouds_120 : decode cX11_clouds 120 = .ok (.iload_n 1, 1) := by decide +kernel
theorem dX11_clouds_121 : decode cX11_clouds 121 = .ok (.ireturn, 1) := by decide +kernel
set_option maxRecDepth 20000 in
theorem ggX11_note_X11_isField : GoodIn wsX11_note wsX11_isField := goodIn_r _ [7, 8, 9, 10, 6, 11, 2, 12, 13, 14, 36, 37, 38, 39, 40, 41, 42, 43, 44, 45, 46, 47, 48, 49, 50, 51, 52, 53] rfl gw_wsX11_isField
set_option maxRecDepth 20000 in
theorem gX11_note_X11_isField : GoodIn wsX11_note (wsV RX11 89 RX11 yX11_isField wsX11_isField) := goodIn_app (goodIn_r _ [3, 4, 5, 6] (by exact rfl) (by decide +kernel)) ggX11_note_X11_isField
set_option maxRecDepth 20000 in
theorem ggX11_note_X11_isStep : GoodIn wsX11_note wsX11_isStep := goodIn_r _ [17, 18, 12, 13, 6, 14] rfl gw_wsX11_isStep
set_option maxRecDepth 20000 in
theorem gX11_note_X11_isStep : GoodIn wsX11_note (va_wsS RX11 144 yX11_isStep wsX11_isStep) := goodIn_app (goodIn_r _ [15, 16, 6] (by exact rfl) (by decide +kernel)) ggX11_note_X11_isStep
set_option maxRecDepth 20000 in
theorem ggX11_note_X11_isLight : GoodIn wsX11_note wsX11_isLight := goodIn_r _ [21, 22, 12, 13, 6, 14] rfl gw_wsX11_isLight
set_option maxRecDepth 20000 in
theorem gX11_note_X11_isLight : GoodIn wsX11_note (va_wsS RX11 79 yX11_isLight wsX11_isLight) := goodIn_app (goodIn_r _ [19, 20, 6] (by exact rfl) (by decide +kernel)) ggX11_note_X11_isLight
set_option maxRecDepth 20000 in
theorem ggX11_note_X11_isCloud : GoodIn wsX11_note wsX11_isCloud := goodIn_r _ [25, 26, 12, 13, 6, 14] rfl gw_wsX11_isCloud
set_option maxRecDepth 20000 in
theorem gX11_note_X11_isCloud : GoodIn wsX11_note (va_wsS RX11 69 yX11_isCloud wsX11_isCloud) := goodIn_app (goodIn_r _ [23, 24, 6] (by exact rfl) (by decide +kernel)) ggX11_note_X11_isCloud
set_option maxRecDepth 20000 in
theorem ggX11_note_X11_in : GoodIn wsX11_note wsX11_in := goodIn_r _ [14] rfl gw_wsX11_in
set_option maxRecDepth 20000 in
theorem gX11_note_X11_in : GoodIn wsX11_note (va_wsS RX11 56 yX11_in wsX11_in) := goodIn_app (goodIn_r _ [12, 13, 6] (by exact rfl) (by decide +kernel)) ggX11_note_X11_in
set_option maxRecDepth 20000 in
theorem ggX11_note_X11_bad : GoodIn wsX11_note wsX11_bad := goodIn_r _ [30, 31, 36, 37, 38, 39, 40, 41, 42, 43, 44, 45, 46, 47, 48, 49, 50, 51, 52, 53] rfl gw_wsX11_bad
set_option maxRecDepth 20000 in
theorem gX11_note_X11_bad : GoodIn wsX11_note (wsV RX11 73 RX11 yX11_bad wsX11_bad) := goodIn_app (goodIn_r _ [27, 28, 29, 6] (by exact rfl) (by decide +kernel)) ggX11_note_X11_bad
set_option maxRecDepth 20000 in
theorem ggX11_note_X11_full : GoodIn wsX11_note wsX11_full := goodIn_r _ [35, 31, 36, 37, 38, 39, 40, 41, 42, 43, 44, 45, 46, 47, 48, 49, 50, 51, 52, 53] rfl gw_wsX11_full
set_option maxRecDepth 20000 in
theorem gX11_note_X11_full : GoodIn wsX11_note (wsV RX11 82 RX11 yX11_full wsX11_full) := goodIn_app (goodIn_r _ [32, 33, 34, 6] (by exact rfl) (by decide +kernel)) ggX11_note_X11_full
theorem dX11_note_0 : decode cX11_note 0 = .ok (.aload_n 0, 1) := by decide +kernel
theorem dX11_note_1 : decode cX11_note 1 = .ok (.iload_n 1, 1) := by decide +kernel
theorem dX11_note_2 : decode cX11_note 2 = .ok (.invokevirtual 89, 3) := by decide +kernel
theorem dX11_note_5 : decode cX11_note 5 = .ok (.ifCond .eq 38, 3) := by decide +kernel
theorem dX11_note_8 : decode cX11_note 8 = .ok (.iload_n 2, 1) := by decide +kernel
theorem dX11_note_9 : decode cX11_note 9 = .ok (.invokestatic 144, 3) := by decide +kernel
theorem dX11_note_12 : decode cX11_note 12 = .ok (.ifCond .eq 31, 3) := by decide +kernel
theorem dX11_note_15 : decode cX11_note 15 = .ok (.iload_n 3, 1) := by decide +kernel
theorem dX11_note_16 : decode cX11_note 16 = .ok (.invokestatic 79, 3) := by decide +kernel
theorem dX11_note_19 : decode cX11_note 19 = .ok (.ifCond .eq 24, 3) := by decide +kernel
theorem dX11_note_22 : decode cX11_note 22 = .ok (.iload 4, 2) := by decide +kernel
theorem dX11_note_24 : decode cX11_note 24 = .ok (.invokestatic 69, 3) := by decide +kernel
theorem dX11_note_27 : decode cX11_note 27 = .ok (.ifCond .eq 16, 3) := by decide +kernel
theorem dX11_note_30 : decode cX11_note 30 = .ok (.iload 5, 2) := by decide +kernel
theorem dX11_note_32 : decode cX11_note 32 = .ok (.i2l, 1) := by decide +kernel
theorem dX11_note_33 : decode cX11_note 33 = .ok (.lconst 0, 1) := by decide +kernel
theorem dX11_note_34 : decode cX11_note 34 = .ok (.ldc2_w 174, 3) := by decide +kernel
theorem dX11_note_37 : decode cX11_note 37 = .ok (.invokestatic 56, 3) := by decide +kernel
theorem dX11_note_40 : decode cX11_note 40 = .ok (.ifCond .ne 10, 3) := by decide +kernel
theorem dX11_note_43 : decode cX11_note 43 = .ok (.aload_n 0, 1) := by decide +kernel
theorem dX11_note_44 : decode cX11_note 44 = .ok (.bipush (-2), 2) := by decide +kernel
theorem dX11_note_46 : decode cX11_note 46 = .ok (.invokevirtual 73, 3) := by decide +kernel
theorem dX11_note_49 : decode cX11_note 49 = .ok (.ireturn, 1) := by decide +kernel
theorem dX11_note_50 : decode cX11_note 50 = .ok (.aload_n 0, 1) := by decide +kernel
theorem dX11_note_51 : decode cX11_note 51 = .ok (.getfield 7, 3) := by decide +kernel
theorem dX11_note_54 : decode cX11_note 54 = .ok (.iconst 3, 1) := by decide +kernel
theorem dX11_note_55 : decode cX11_note 55 = .ok (.iaload, 1) := by decide +kernel
theorem dX11_note_56 : decode cX11_note 56 = .ok (.bipush 6, 2) := by decide +kernel
theorem dX11_note_58 : decode cX11_note 58 = .ok (.if_icmp .ne 8, 3) := by decide +kernel
theorem dX11_note_61 : decode cX11_note 61 = .ok (.aload_n 0, 1) := by decide +kernel
theorem dX11_note_62 : decode cX11_note 62 = .ok (.invokevirtual 82, 3) := by decide +kernel
theorem dX11_note_65 : decode cX11_note 65 = .ok (.ireturn, 1) := by decide +kernel
theorem dX11_note_66 : decode cX11_note 66 = .ok (.bipush 46, 2) := by decide +kernel
theorem dX11_note_68 : decode cX11_note 68 = .ok (.iconst 5, 1) := by decide +kernel
theorem dX11_note_69 : decode cX11_note 69 = .ok (.aload_n 0, 1) := by decide +kernel
theorem dX11_note_70 : decode cX11_note 70 = .ok (.getfield 7, 3) := by decide +kernel
theorem dX11_note_73 : decode cX11_note 73 = .ok (.iconst 3, 1) := by decide +kernel
theorem dX11_note_74 : decode cX11_note 74 = .ok (.iaload, 1) := by decide +kernel
theorem dX11_note_75 : decode cX11_note 75 = .ok (.imul, 1) := by decide +kernel
theorem dX11_note_76 : decode cX11_note 76 = .ok (.iadd, 1) := by decide +kernel
theorem dX11_note_77 : decode cX11_note 77 = .ok (.istore 6, 2) := by decide +kernel
theorem dX11_note_79 : decode cX11_note 79 = .ok (.aload_n 0, 1) := by decide +kernel
theorem dX11_note_80 : decode cX11_note 80 = .ok (.getfield 7, 3) := by decide +kernel
theorem dX11_note_83 : decode cX11_note 83 = .ok (.iload 6, 2) := by decide +kernel
theorem dX11_note_85 : decode cX11_note 85 = .ok (.iload_n 1, 1) := by decide +kernel
theorem dX11_note_86 : decode cX11_note 86 = .ok (.iastore, 1) := by decide +kernel
theorem dX11_note_87 : decode cX11_note 87 = .ok (.aload_n 0, 1) := by decide +kernel
theorem dX11_note_88 : decode cX11_note 88 = .ok (.getfield 7, 3) := by decide +kernel
theorem dX11_note_91 : decode cX11_note 91 = .ok (.iload 6, 2) := by decide +kernel
theorem dX11_note_93 : decode cX11_note 93 = .ok (.iconst 1, 1) := by decide +kernel
theorem dX11_note_94 : decode cX11_note 94 = .ok (.iadd, 1) := by decide +kernel
theorem dX11_note_95 : decode cX11_note 95 = .ok (.iload_n 2, 1) := by decide +kernel
theorem dX11_note_96 : decode cX11_note 96 = .ok (.iastore, 1) := by decide +kernel
theorem dX11_note_97 : decode cX11_note 97 = .ok (.aload_n 0, 1) := by decide +kernel
theorem dX11_note_98 : decode cX11_note 98 = .ok (.getfield 7, 3) := by decide +kernel
theorem dX11_note_101 : decode cX11_note 101 = .ok (.iload 6, 2) := by decide +kernel
theorem dX11_note_103 : decode cX11_note 103 = .ok (.iconst 2, 1) := by decide +kernel
theorem dX11_note_104 : decode cX11_note 104 = .ok (.iadd, 1) := by decide +kernel
theorem dX11_note_105 : decode cX11_note 105 = .ok (.iload_n 3, 1) := by decide +kernel
theorem dX11_note_106 : decode cX11_note 106 = .ok (.iastore, 1) := by decide +kernel
theorem dX11_note_107 : decode cX11_note 107 = .ok (.aload_n 0, 1) := by decide +kernel
theorem dX11_note_108 : decode cX11_note 108 = .ok (.getfield 7, 3) := by decide +kernel
theorem dX11_note_111 : decode cX11_note 111 = .ok (.iload 6, 2) := by decide +kernel
theorem dX11_note_113 : decode cX11_note 113 = .ok (.iconst 3, 1) := by decide +kernel
theorem dX11_note_114 : decode cX11_note 114 = .ok (.iadd, 1) := by decide +kernel
theorem dX11_note_115 : decode cX11_note 115 = .ok (.iload 4, 2) := by decide +kernel
theorem dX11_note_117 : decode cX11_note 117 = .ok (.iastore, 1) := by decide +kernel
theorem dX11_note_118 : decode cX11_note 118 = .ok (.aload_n 0, 1) := by decide +kernel
theorem dX11_note_119 : decode cX11_note 119 = .ok (.getfield 7, 3) := by decide +kernel
theorem dX11_note_122 : decode cX11_note 122 = .ok (.iload 6, 2) := by decide +kernel
theorem dX11_note_124 : decode cX11_note 124 = .ok (.iconst 4, 1) := by decide +kernel
theorem dX11_note_125 : decode cX11_note 125 = .ok (.iadd, 1) := by decide +kernel
theorem dX11_note_126 : decode cX11_note 126 = .ok (.iload 5, 2) := by decide +kernel
theorem dX11_note_128 : decode cX11_note 128 = .ok (.iastore, 1) := by decide +kernel
theorem dX11_note_129 : decode cX11_note 129 = .ok (.aload_n 0, 1) := by decide +kernel
theorem dX11_note_130 : decode cX11_note 130 = .ok (.getfield 7, 3) := by decide +kernel
theorem dX11_note_133 : decode cX11_note 133 = .ok (.iconst 3, 1) := by decide +kernel
theorem dX11_note_134 : decode cX11_note 134 = .ok (.dup2, 1) := by decide +kernel
theorem dX11_note_135 : decode cX11_note 135 = .ok (.iaload, 1) := by decide +kernel
theorem dX11_note_136 : decode cX11_note 136 = .ok (.iconst 1, 1) := by decide +kernel
theorem dX11_note_137 : decode cX11_note 137 = .ok (.iadd, 1) := by decide +kernel
theorem dX11_note_138 : decode cX11_note 138 = .ok (.iastore, 1) := by decide +kernel
theorem dX11_note_139 : decode cX11_note 139 = .ok (.aload_n 0, 1) := by decide +kernel
theorem dX11_note_140 : decode cX11_note 140 = .ok (.getfield 7, 3) := by decide +kernel
theorem dX11_note_143 : decode cX11_note 143 = .ok (.iconst 3, 1) := by decide +kernel
theorem dX11_note_144 : decode cX11_note 144 = .ok (.iaload, 1) := by decide +kernel
theorem dX11_note_145 : decode cX11_note 145 = .ok (.ireturn, 1) := by decide +kernel
set_option maxRecDepth 20000 in
theorem ggX11_forget_X11_in : GoodIn wsX11_forget wsX11_in := goodIn_r _ [5] rfl gw_wsX11_in
set_option maxRecDepth 20000 in
theorem gX11_forget_X11_in : GoodIn wsX11_forget (va_wsS RX11 56 yX11_in wsX11_in) := goodIn_app (goodIn_r _ [2, 3, 4] (by exact rfl) (by decide +kernel)) ggX11_forget_X11_in
set_option maxRecDepth 20000 in
theorem ggX11_forget_X11_bad : GoodIn wsX11_forget wsX11_bad := goodIn_r _ [9, 10, 11, 12, 13, 14, 15, 16, 17, 18, 19, 20, 21, 22, 23, 24, 25, 26, 27, 28] rfl gw_wsX11_bad
set_option maxRecDepth 20000 in
theorem gX11_forget_X11_bad : GoodIn wsX11_forget (wsV RX11 73 RX11 yX11_bad wsX11_bad) := goodIn_app (goodIn_r _ [6, 7, 8, 4] (by exact rfl) (by decide +kernel)) ggX11_forget_X11_bad
theorem dX11_forget_0 : decode cX11_forget 0 = .ok (.iload_n 1, 1) := by decide +kernel
theorem dX11_forget_1 : decode cX11_forget 1 = .ok (.i2l, 1) := by decide +kernel
theorem dX11_forget_2 : decode cX11_forget 2 = .ok (.lconst 0, 1) := by decide +kernel
theorem dX11_forget_3 : decode cX11_forget 3 = .ok (.lconst 1, 1) := by decide +kernel
theorem dX11_forget_4 : decode cX11_forget 4 = .ok (.invokestatic 56, 3) := by decide +kernel
theorem dX11_forget_7 : decode cX11_forget 7 = .ok (.ifCond .ne 10, 3) := by decide +kernel
theorem dX11_forget_10 : decode cX11_forget 10 = .ok (.aload_n 0, 1) := by decide +kernel
theorem dX11_forget_11 : decode cX11_forget 11 = .ok (.bipush (-2), 2) := by decide +kernel
theorem dX11_forget_13 : decode cX11_forget 13 = .ok (.invokevirtual 73, 3) := by decide +kernel
theorem dX11_forget_16 : decode cX11_forget 16 = .ok (.ireturn, 1) := by decide +kernel
theorem dX11_forget_17 : decode cX11_forget 17 = .ok (.aload_n 0, 1) := by decide +kernel
theorem dX11_forget_18 : decode cX11_forget 18 = .ok (.getfield 7, 3) := by decide +kernel
theorem dX11_forget_21 : decode cX11_forget 21 = .ok (.iconst 2, 1) := by decide +kernel
theorem dX11_forget_22 : decode cX11_forget 22 = .ok (.iload_n 1, 1) := by decide +kernel
theorem dX11_forget_23 : decode cX11_forget 23 = .ok (.iadd, 1) := by decide +kernel
theorem dX11_forget_24 : decode cX11_forget 24 = .ok (.iaload, 1) := by decide +kernel
theorem dX11_forget_25 : decode cX11_forget 25 = .ok (.istore_n 2, 1) := by decide +kernel
theorem dX11_forget_26 : decode cX11_forget 26 = .ok (.aload_n 0, 1) := by decide +kernel
theorem dX11_forget_27 : decode cX11_forget 27 = .ok (.getfield 7, 3) := by decide +kernel
theorem dX11_forget_30 : decode cX11_forget 30 = .ok (.iconst 2, 1) := by decide +kernel
theorem dX11_forget_31 : decode cX11_forget 31 = .ok (.iload_n 1, 1) := by decide +kernel
theorem dX11_forget_32 : decode cX11_forget 32 = .ok (.iadd, 1) := by decide +kernel
theorem dX11_forget_33 : decode cX11_forget 33 = .ok (.iconst 0, 1) := by decide +kernel
theorem dX11_forget_34 : decode cX11_forget 34 = .ok (.iastore, 1) := by decide +kernel
theorem dX11_forget_35 : decode cX11_forget 35 = .ok (.iload_n 2, 1) := by decide +kernel
theorem dX11_forget_36 : decode cX11_forget 36 = .ok (.ireturn, 1) := by decide +kernel
set_option maxRecDepth 20000 in
theorem ggX11_kindsOf_X11_seenAs : GoodIn wsX11_kindsOf wsX11_seenAs := goodIn_r _ [5, 6, 7, 4, 8, 9, 10, 11] rfl gw_wsX11_seenAs
set_option maxRecDepth 20000 in
theorem gX11_kindsOf_X11_seenAs : GoodIn wsX11_kindsOf (va_wsS RX11 102 yX11_seenAs wsX11_seenAs) := goodIn_app (goodIn_r _ [2, 3, 4] (by exact rfl) (by decide +kernel)) ggX11_kindsOf_X11_seenAs
theorem dX11_kindsOf_0 : decode cX11_kindsOf 0 = .ok (.iconst 0, 1) := by decide +kernel
theorem dX11_kindsOf_1 : decode cX11_kindsOf 1 = .ok (.istore_n 2, 1) := by decide +kernel
theorem dX11_kindsOf_2 : decode cX11_kindsOf 2 = .ok (.iconst 0, 1) := by decide +kernel
theorem dX11_kindsOf_3 : decode cX11_kindsOf 3 = .ok (.istore_n 3, 1) := by decide +kernel
theorem dX11_kindsOf_4 : decode cX11_kindsOf 4 = .ok (.iload_n 3, 1) := by decide +kernel
theorem dX11_kindsOf_5 : decode cX11_kindsOf 5 = .ok (.bipush 6, 2) := by decide +kernel
theorem dX11_kindsOf_7 : decode cX11_kindsOf 7 = .ok (.if_icmp .ge 122, 3) := by decide +kernel
theorem dX11_kindsOf_10 : decode cX11_kindsOf 10 = .ok (.iconst 1, 1) := by decide +kernel
theorem dX11_kindsOf_11 : decode cX11_kindsOf 11 = .ok (.istore 4, 2) := by decide +kernel
theorem dX11_kindsOf_13 : decode cX11_kindsOf 13 = .ok (.iconst 0, 1) := by decide +kernel
theorem dX11_kindsOf_14 : decode cX11_kindsOf 14 = .ok (.istore 5, 2) := by decide +kernel
theorem dX11_kindsOf_16 : decode cX11_kindsOf 16 = .ok (.iload 5, 2) := by decide +kernel
theorem dX11_kindsOf_18 : decode cX11_kindsOf 18 = .ok (.aload_n 0, 1) := by decide +kernel
theorem dX11_kindsOf_19 : decode cX11_kindsOf 19 = .ok (.getfield 7, 3) := by decide +kernel
theorem dX11_kindsOf_22 : decode cX11_kindsOf 22 = .ok (.iconst 3, 1) := by decide +kernel
theorem dX11_kindsOf_23 : decode cX11_kindsOf 23 = .ok (.iaload, 1) := by decide +kernel
theorem dX11_kindsOf_24 : decode cX11_kindsOf 24 = .ok (.if_icmp .ge 84, 3) := by decide +kernel
theorem dX11_kindsOf_27 : decode cX11_kindsOf 27 = .ok (.bipush 46, 2) := by decide +kernel
theorem dX11_kindsOf_29 : decode cX11_kindsOf 29 = .ok (.iconst 5, 1) := by decide +kernel
theorem dX11_kindsOf_30 : decode cX11_kindsOf 30 = .ok (.iload 5, 2) := by decide +kernel
theorem dX11_kindsOf_32 : decode cX11_kindsOf 32 = .ok (.imul, 1) := by decide +kernel
theorem dX11_kindsOf_33 : decode cX11_kindsOf 33 = .ok (.iadd, 1) := by decide +kernel
theorem dX11_kindsOf_34 : decode cX11_kindsOf 34 = .ok (.istore 6, 2) := by decide +kernel
theorem dX11_kindsOf_36 : decode cX11_kindsOf 36 = .ok (.iload 4, 2) := by decide +kernel
theorem dX11_kindsOf_38 : decode cX11_kindsOf 38 = .ok (.ifCond .eq 61, 3) := by decide +kernel
theorem dX11_kindsOf_41 : decode cX11_kindsOf 41 = .ok (.aload_n 0, 1) := by decide +kernel
theorem dX11_kindsOf_42 : decode cX11_kindsOf 42 = .ok (.getfield 7, 3) := by decide +kernel
theorem dX11_kindsOf_45 : decode cX11_kindsOf 45 = .ok (.iload 6, 2) := by decide +kernel
theorem dX11_kindsOf_47 : decode cX11_kindsOf 47 = .ok (.iaload, 1) := by decide +kernel
theorem dX11_kindsOf_48 : decode cX11_kindsOf 48 = .ok (.iload_n 1, 1) := by decide +kernel
theorem dX11_kindsOf_49 : decode cX11_kindsOf 49 = .ok (.if_icmp .ne 46, 3) := by decide +kernel
theorem dX11_kindsOf_52 : decode cX11_kindsOf 52 = .ok (.iload_n 3, 1) := by decide +kernel
theorem dX11_kindsOf_53 : decode cX11_kindsOf 53 = .ok (.aload_n 0, 1) := by decide +kernel
theorem dX11_kindsOf_54 : decode cX11_kindsOf 54 = .ok (.getfield 7, 3) := by decide +kernel
theorem dX11_kindsOf_57 : decode cX11_kindsOf 57 = .ok (.iload 6, 2) := by decide +kernel
theorem dX11_kindsOf_59 : decode cX11_kindsOf 59 = .ok (.iconst 2, 1) := by decide +kernel
theorem dX11_kindsOf_60 : decode cX11_kindsOf 60 = .ok (.iadd, 1) := by decide +kernel
theorem dX11_kindsOf_61 : decode cX11_kindsOf 61 = .ok (.iaload, 1) := by decide +kernel
theorem dX11_kindsOf_62 : decode cX11_kindsOf 62 = .ok (.aload_n 0, 1) := by decide +kernel
theorem dX11_kindsOf_63 : decode cX11_kindsOf 63 = .ok (.getfield 7, 3) := by decide +kernel
theorem dX11_kindsOf_66 : decode cX11_kindsOf 66 = .ok (.iload 6, 2) := by decide +kernel
theorem dX11_kindsOf_68 : decode cX11_kindsOf 68 = .ok (.iconst 1, 1) := by decide +kernel
theorem dX11_kindsOf_69 : decode cX11_kindsOf 69 = .ok (.iadd, 1) := by decide +kernel
theorem dX11_kindsOf_70 : decode cX11_kindsOf 70 = .ok (.iaload, 1) := by decide +kernel
theorem dX11_kindsOf_71 : decode cX11_kindsOf 71 = .ok (.aload_n 0, 1) := by decide +kernel
theorem dX11_kindsOf_72 : decode cX11_kindsOf 72 = .ok (.getfield 7, 3) := by decide +kernel
theorem dX11_kindsOf_75 : decode cX11_kindsOf 75 = .ok (.iload 6, 2) := by decide +kernel
theorem dX11_kindsOf_77 : decode cX11_kindsOf 77 = .ok (.iconst 3, 1) := by decide +kernel
theorem dX11_kindsOf_78 : decode cX11_kindsOf 78 = .ok (.iadd, 1) := by decide +kernel
theorem dX11_kindsOf_79 : decode cX11_kindsOf 79 = .ok (.iaload, 1) := by decide +kernel
theorem dX11_kindsOf_80 : decode cX11_kindsOf 80 = .ok (.invokestatic 102, 3) := by decide +kernel
theorem dX11_kindsOf_83 : decode cX11_kindsOf 83 = .ok (.aload_n 0, 1) := by decide +kernel
theorem dX11_kindsOf_84 : decode cX11_kindsOf 84 = .ok (.getfield 7, 3) := by decide +kernel
theorem dX11_kindsOf_87 : decode cX11_kindsOf 87 = .ok (.iload 6, 2) := by decide +kernel
theorem dX11_kindsOf_89 : decode cX11_kindsOf 89 = .ok (.iconst 4, 1) := by decide +kernel
theorem dX11_kindsOf_90 : decode cX11_kindsOf 90 = .ok (.iadd, 1) := by decide +kernel
theorem dX11_kindsOf_91 : decode cX11_kindsOf 91 = .ok (.iaload, 1) := by decide +kernel
theorem dX11_kindsOf_92 : decode cX11_kindsOf 92 = .ok (.if_icmp .ne 7, 3) := by decide +kernel
theorem dX11_kindsOf_95 : decode cX11_kindsOf 95 = .ok (.iconst 1, 1) := by decide +kernel
theorem dX11_kindsOf_96 : decode cX11_kindsOf 96 = .ok (.goto 4, 3) := by decide +kernel
theorem dX11_kindsOf_99 : decode cX11_kindsOf 99 = .ok (.iconst 0, 1) := by decide +kernel
theorem dX11_kindsOf_100 : decode cX11_kindsOf 100 = .ok (.istore 4, 2) := by decide +kernel
theorem dX11_kindsOf_102 : decode cX11_kindsOf 102 = .ok (.iinc 5 1, 3) := by decide +kernel
theorem dX11_kindsOf_105 : decode cX11_kindsOf 105 = .ok (.goto (-89), 3) := by decide +kernel
theorem dX11_kindsOf_108 : decode cX11_kindsOf 108 = .ok (.iload_n 2, 1) := by decide +kernel
theorem dX11_kindsOf_109 : decode cX11_kindsOf 109 = .ok (.iload 4, 2) := by decide +kernel
theorem dX11_kindsOf_111 : decode cX11_kindsOf 111 = .ok (.ifCond .eq 9, 3) := by decide +kernel
theorem dX11_kindsOf_114 : decode cX11_kindsOf 114 = .ok (.iconst 1, 1) := by decide +kernel
theorem dX11_kindsOf_115 : decode cX11_kindsOf 115 = .ok (.iload_n 3, 1) := by decide +kernel
theorem dX11_kindsOf_116 : decode cX11_kindsOf 116 = .ok (.ishl, 1) := by decide +kernel
theorem dX11_kindsOf_117 : decode cX11_kindsOf 117 = .ok (.goto 4, 3) := by decide +kernel
theorem dX11_kindsOf_120 : decode cX11_kindsOf 120 = .ok (.iconst 0, 1) := by decide +kernel
theorem dX11_kindsOf_121 : decode cX11_kindsOf 121 = .ok (.ior, 1) := by decide +kernel
theorem dX11_kindsOf_122 : decode cX11_kindsOf 122 = .ok (.istore_n 2, 1) := by decide +kernel
theorem dX11_kindsOf_123 : decode cX11_kindsOf 123 = .ok (.iinc 3 1, 3) := by decide +kernel
theorem dX11_kindsOf_126 : decode cX11_kindsOf 126 = .ok (.goto (-122), 3) := by decide +kernel
theorem dX11_kindsOf_129 : decode cX11_kindsOf 129 = .ok (.iload_n 2, 1) := by decide +kernel
theorem dX11_kindsOf_130 : decode cX11_kindsOf 130 = .ok (.ireturn, 1) := by decide +kernel
set_option maxRecDepth 20000 in
theorem ggX11_is_X11_isField : GoodIn wsX11_is wsX11_isField := goodIn_r _ [5, 6, 7, 8, 4, 9, 10, 11, 12, 13, 32, 33, 34, 35, 36, 37, 38, 39, 40, 41, 42, 43, 44, 45, 46, 47, 48, 49] rfl gw_wsX11_isField
set_option maxRecDepth 20000 in
theorem gX11_is_X11_isField : GoodIn wsX11_is (wsV RX11 89 RX11 yX11_isField wsX11_isField) := goodIn_app (goodIn_r _ [1, 2, 3, 4] (by exact rfl) (by decide +kernel)) ggX11_is_X11_isField
set_option maxRecDepth 20000 in
theorem gw_wsX11_kindsOf : wsX11_kindsOf.all goodWord = true := by decide +kernel
set_option maxRecDepth 20000 in
theorem ggX11_is_X11_kindsOf : GoodIn wsX11_is wsX11_kindsOf := goodIn_r _ [17, 10, 18, 19, 4, 20, 21, 22, 23, 24, 25, 26, 32, 33, 34, 35, 36, 37, 38, 39, 40, 41, 42, 43, 44, 45, 46, 47, 48, 49] rfl gw_wsX11_kindsOf
set_option maxRecDepth 20000 in
theorem gX11_is_X11_kindsOf : GoodIn wsX11_is (wsV RX11 176 RX11 yX11_kindsOf wsX11_kindsOf) := goodIn_app (goodIn_r _ [14, 15, 16, 4] (by exact rfl) (by decide +kernel)) ggX11_is_X11_kindsOf
set_option maxRecDepth 20000 in
theorem ggX11_is_X11_bad : GoodIn wsX11_is wsX11_bad := goodIn_r _ [30, 31, 32, 33, 34, 35, 36, 37, 38, 39, 40, 41, 42, 43, 44, 45, 46, 47, 48, 49] rfl gw_wsX11_bad
set_option maxRecDepth 20000 in
theorem gX11_is_X11_bad : GoodIn wsX11_is (wsV RX11 73 RX11 yX11_bad wsX11_bad) := goodIn_app (goodIn_r _ [27, 28, 29, 4] (by exact rfl) (by decide +kernel)) ggX11_is_X11_bad
theorem dX11_is_0 : decode cX11_is 0 = .ok (.aload_n 0, 1) := by decide +kernel
theorem dX11_is_1 : decode cX11_is 1 = .ok (.iload_n 1, 1) := by decide +kernel
theorem dX11_is_2 : decode cX11_is 2 = .ok (.invokevirtual 89, 3) := by decide +kernel
theorem dX11_is_5 : decode cX11_is 5 = .ok (.ifCond .eq 11, 3) := by decide +kernel
theorem dX11_is_8 : decode cX11_is 8 = .ok (.aload_n 0, 1) := by decide +kernel
theorem dX11_is_9 : decode cX11_is 9 = .ok (.iload_n 1, 1) := by decide +kernel
theorem dX11_is_10 : decode cX11_is 10 = .ok (.invokevirtual 176, 3) := by decide +kernel
theorem dX11_is_13 : decode cX11_is 13 = .ok (.goto 9, 3) := by decide +kernel
theorem dX11_is_16 : decode cX11_is 16 = .ok (.aload_n 0, 1) := by decide +kernel
theorem dX11_is_17 : decode cX11_is 17 = .ok (.bipush (-2), 2) := by decide +kernel
theorem dX11_is_19 : decode cX11_is 19 = .ok (.invokevirtual 73, 3) := by decide +kernel
theorem dX11_is_22 : decode cX11_is 22 = .ok (.ireturn, 1) := by decide +kernel
set_option maxRecDepth 20000 in
theorem ggX11_look_X11_isField : GoodIn wsX11_look wsX11_isField := goodIn_r _ [7, 8, 9, 10, 6, 11, 2, 12, 13, 14, 36, 37, 38, 39, 40, 41, 42, 43, 44, 45, 46, 47, 48, 49, 50, 51, 52, 53] rfl gw_wsX11_isField
set_option maxRecDepth 20000 in
theorem gX11_look_X11_isField : GoodIn wsX11_look (wsV RX11 89 RX11 yX11_isField wsX11_isField) := goodIn_app (goodIn_r _ [3, 4, 5, 6] (by exact rfl) (by decide +kernel)) ggX11_look_X11_isField
set_option maxRecDepth 20000 in
theorem ggX11_look_X11_bad : GoodIn wsX11_look wsX11_bad := goodIn_r _ [18, 19, 36, 37, 38, 39, 40, 41, 42, 43, 44, 45, 46, 47, 48, 49, 50, 51, 52, 53] rfl gw_wsX11_bad
set_option maxRecDepth 20000 in
theorem gX11_look_X11_bad : GoodIn wsX11_look (wsV RX11 73 RX11 yX11_bad wsX11_bad) := goodIn_app (goodIn_r _ [15, 16, 17, 6] (by exact rfl) (by decide +kernel)) ggX11_look_X11_bad
set_option maxRecDepth 20000 in
theorem ggX11_look_X11_kindsOf : GoodIn wsX11_look wsX11_kindsOf := goodIn_r _ [23, 2, 24, 25, 6, 26, 27, 28, 29, 30, 31, 32, 36, 37, 38, 39, 40, 41, 42, 43, 44, 45, 46, 47, 48, 49, 50, 51, 52, 53] rfl gw_wsX11_kindsOf
set_option maxRecDepth 20000 in
theorem gX11_look_X11_kindsOf : GoodIn wsX11_look (wsV RX11 176 RX11 yX11_kindsOf wsX11_kindsOf) := goodIn_app (goodIn_r _ [20, 21, 22, 6] (by exact rfl) (by decide +kernel)) ggX11_look_X11_kindsOf
set_option maxRecDepth 20000 in
theorem ggX11_look_X11_seenAs : GoodIn wsX11_look wsX11_seenAs := goodIn_r _ [26, 27, 28, 6, 29, 30, 31, 32] rfl gw_wsX11_seenAs
set_option maxRecDepth 20000 in
theorem gX11_look_X11_seenAs : GoodIn wsX11_look (va_wsS RX11 102 yX11_seenAs wsX11_seenAs) := goodIn_app (goodIn_r _ [24, 25, 6] (by exact rfl) (by decide +kernel)) ggX11_look_X11_seenAs
set_option maxRecDepth 20000 in
theorem ggX11_look_X11_has : GoodIn wsX11_look wsX11_has := goodIn_r _ [35] rfl gw_wsX11_has
set_option maxRecDepth 20000 in
theorem gX11_look_X11_has : GoodIn wsX11_look (va_wsS RX11 167 yX11_has wsX11_has) := goodIn_app (goodIn_r _ [33, 34, 6] (by exact rfl) (by decide +kernel)) ggX11_look_X11_has
theorem dX11_look_0 : decode cX11_look 0 = .ok (.aload_n 0, 1) := by decide +kernel
theorem dX11_look_1 : decode cX11_look 1 = .ok (.iload_n 1, 1) := by decide +kernel
theorem dX11_look_2 : decode cX11_look 2 = .ok (.invokevirtual 89, 3) := by decide +kernel
theorem dX11_look_5 : decode cX11_look 5 = .ok (.ifCond .ne 10, 3) := by decide +kernel
theorem dX11_look_8 : decode cX11_look 8 = .ok (.aload_n 0, 1) := by decide +kernel
theorem dX11_look_9 : decode cX11_look 9 = .ok (.bipush (-2), 2) := by decide +kernel
theorem dX11_look_11 : decode cX11_look 11 = .ok (.invokevirtual 73, 3) := by decide +kernel
theorem dX11_look_14 : decode cX11_look 14 = .ok (.ireturn, 1) := by decide +kernel
theorem dX11_look_15 : decode cX11_look 15 = .ok (.aload_n 0, 1) := by decide +kernel
theorem dX11_look_16 : decode cX11_look 16 = .ok (.iload_n 1, 1) := by decide +kernel
theorem dX11_look_17 : decode cX11_look 17 = .ok (.invokevirtual 176, 3) := by decide +kernel
theorem dX11_look_20 : decode cX11_look 20 = .ok (.istore_n 2, 1) := by decide +kernel
theorem dX11_look_21 : decode cX11_look 21 = .ok (.iconst (-1), 1) := by decide +kernel
theorem dX11_look_22 : decode cX11_look 22 = .ok (.istore_n 3, 1) := by decide +kernel
theorem dX11_look_23 : decode cX11_look 23 = .ok (.ldc 158, 2) := by decide +kernel
theorem dX11_look_25 : decode cX11_look 25 = .ok (.istore 4, 2) := by decide +kernel
theorem dX11_look_27 : decode cX11_look 27 = .ok (.iconst 0, 1) := by decide +kernel
theorem dX11_look_28 : decode cX11_look 28 = .ok (.istore 5, 2) := by decide +kernel
theorem dX11_look_30 : decode cX11_look 30 = .ok (.iload 5, 2) := by decide +kernel
theorem dX11_look_32 : decode cX11_look 32 = .ok (.sipush 1110, 3) := by decide +kernel
theorem dX11_look_35 : decode cX11_look 35 = .ok (.if_icmp .ge 200, 3) := by decide +kernel
theorem dX11_look_38 : decode cX11_look 38 = .ok (.iload_n 2, 1) := by decide +kernel
theorem dX11_look_39 : decode cX11_look 39 = .ok (.ifCond .le 196, 3) := by decide +kernel
theorem dX11_look_42 : decode cX11_look 42 = .ok (.iload 5, 2) := by decide +kernel
theorem dX11_look_44 : decode cX11_look 44 = .ok (.bipush 100, 2) := by decide +kernel
theorem dX11_look_46 : decode cX11_look 46 = .ok (.irem, 1) := by decide +kernel
theorem dX11_look_47 : decode cX11_look 47 = .ok (.bipush 10, 2) := by decide +kernel
theorem dX11_look_49 : decode cX11_look 49 = .ok (.if_icmp .ge 7, 3) := by decide +kernel
theorem dX11_look_52 : decode cX11_look 52 = .ok (.iconst 0, 1) := by decide +kernel
theorem dX11_look_53 : decode cX11_look 53 = .ok (.goto 5, 3) := by decide +kernel
theorem dX11_look_56 : decode cX11_look 56 = .ok (.ldc 158, 2) := by decide +kernel
theorem dX11_look_58 : decode cX11_look 58 = .ok (.istore 6, 2) := by decide +kernel
theorem dX11_look_60 : decode cX11_look 60 = .ok (.iconst 0, 1) := by decide +kernel
theorem dX11_look_61 : decode cX11_look 61 = .ok (.istore 7, 2) := by decide +kernel
theorem dX11_look_63 : decode cX11_look 63 = .ok (.iload 7, 2) := by decide +kernel
theorem dX11_look_65 : decode cX11_look 65 = .ok (.bipush 6, 2) := by decide +kernel
theorem dX11_look_67 : decode cX11_look 67 = .ok (.if_icmp .ge 132, 3) := by decide +kernel
theorem dX11_look_70 : decode cX11_look 70 = .ok (.iload 6, 2) := by decide +kernel
theorem dX11_look_72 : decode cX11_look 72 = .ok (.ldc 158, 2) := by decide +kernel
theorem dX11_look_74 : decode cX11_look 74 = .ok (.if_icmp .ge 125, 3) := by decide +kernel
theorem dX11_look_77 : decode cX11_look 77 = .ok (.iconst 0, 1) := by decide +kernel
theorem dX11_look_78 : decode cX11_look 78 = .ok (.istore 8, 2) := by decide +kernel
theorem dX11_look_80 : decode cX11_look 80 = .ok (.iload 7, 2) := by decide +kernel
theorem dX11_look_82 : decode cX11_look 82 = .ok (.aload_n 0, 1) := by decide +kernel
theorem dX11_look_83 : decode cX11_look 83 = .ok (.getfield 7, 3) := by decide +kernel
theorem dX11_look_86 : decode cX11_look 86 = .ok (.iconst 5, 1) := by decide +kernel
theorem dX11_look_87 : decode cX11_look 87 = .ok (.iload_n 1, 1) := by decide +kernel
theorem dX11_look_88 : decode cX11_look 88 = .ok (.iadd, 1) := by decide +kernel
theorem dX11_look_89 : decode cX11_look 89 = .ok (.iaload, 1) := by decide +kernel
theorem dX11_look_90 : decode cX11_look 90 = .ok (.iload 5, 2) := by decide +kernel
theorem dX11_look_92 : decode cX11_look 92 = .ok (.bipush 100, 2) := by decide +kernel
theorem dX11_look_94 : decode cX11_look 94 = .ok (.idiv, 1) := by decide +kernel
theorem dX11_look_95 : decode cX11_look 95 = .ok (.iload 5, 2) := by decide +kernel
theorem dX11_look_97 : decode cX11_look 97 = .ok (.bipush 100, 2) := by decide +kernel
theorem dX11_look_99 : decode cX11_look 99 = .ok (.irem, 1) := by decide +kernel
theorem dX11_look_100 : decode cX11_look 100 = .ok (.invokestatic 102, 3) := by decide +kernel
theorem dX11_look_103 : decode cX11_look 103 = .ok (.istore 9, 2) := by decide +kernel
theorem dX11_look_105 : decode cX11_look 105 = .ok (.iconst 0, 1) := by decide +kernel
theorem dX11_look_106 : decode cX11_look 106 = .ok (.istore 10, 2) := by decide +kernel
theorem dX11_look_108 : decode cX11_look 108 = .ok (.iload 10, 2) := by decide +kernel
theorem dX11_look_110 : decode cX11_look 110 = .ok (.bipush 6, 2) := by decide +kernel
theorem dX11_look_112 : decode cX11_look 112 = .ok (.if_icmp .ge 65, 3) := by decide +kernel
theorem dX11_look_115 : decode cX11_look 115 = .ok (.iload_n 2, 1) := by decide +kernel
theorem dX11_look_116 : decode cX11_look 116 = .ok (.iload 7, 2) := by decide +kernel
theorem dX11_look_118 : decode cX11_look 118 = .ok (.invokestatic 167, 3) := by decide +kernel
theorem dX11_look_121 : decode cX11_look 121 = .ok (.ifCond .eq 56, 3) := by decide +kernel
theorem dX11_look_124 : decode cX11_look 124 = .ok (.iload 8, 2) := by decide +kernel
theorem dX11_look_126 : decode cX11_look 126 = .ok (.iload_n 2, 1) := by decide +kernel
theorem dX11_look_127 : decode cX11_look 127 = .ok (.iload 10, 2) := by decide +kernel
theorem dX11_look_129 : decode cX11_look 129 = .ok (.invokestatic 167, 3) := by decide +kernel
theorem dX11_look_132 : decode cX11_look 132 = .ok (.ifCond .eq 35, 3) := by decide +kernel
theorem dX11_look_135 : decode cX11_look 135 = .ok (.iload 10, 2) := by decide +kernel
theorem dX11_look_137 : decode cX11_look 137 = .ok (.aload_n 0, 1) := by decide +kernel
theorem dX11_look_138 : decode cX11_look 138 = .ok (.getfield 7, 3) := by decide +kernel
theorem dX11_look_141 : decode cX11_look 141 = .ok (.iconst 5, 1) := by decide +kernel
theorem dX11_look_142 : decode cX11_look 142 = .ok (.iload_n 1, 1) := by decide +kernel
theorem dX11_look_143 : decode cX11_look 143 = .ok (.iadd, 1) := by decide +kernel
theorem dX11_look_144 : decode cX11_look 144 = .ok (.iaload, 1) := by decide +kernel
theorem dX11_look_145 : decode cX11_look 145 = .ok (.iload 5, 2) := by decide +kernel
theorem dX11_look_147 : decode cX11_look 147 = .ok (.bipush 100, 2) := by decide +kernel
theorem dX11_look_149 : decode cX11_look 149 = .ok (.idiv, 1) := by decide +kernel
theorem dX11_look_150 : decode cX11_look 150 = .ok (.iload 5, 2) := by decide +kernel
theorem dX11_look_152 : decode cX11_look 152 = .ok (.bipush 100, 2) := by decide +kernel
theorem dX11_look_154 : decode cX11_look 154 = .ok (.irem, 1) := by decide +kernel
theorem dX11_look_155 : decode cX11_look 155 = .ok (.invokestatic 102, 3) := by decide +kernel
theorem dX11_look_158 : decode cX11_look 158 = .ok (.iload 9, 2) := by decide +kernel
theorem dX11_look_160 : decode cX11_look 160 = .ok (.if_icmp .ne 7, 3) := by decide +kernel
theorem dX11_look_163 : decode cX11_look 163 = .ok (.iconst 1, 1) := by decide +kernel
theorem dX11_look_164 : decode cX11_look 164 = .ok (.goto 4, 3) := by decide +kernel
theorem dX11_look_167 : decode cX11_look 167 = .ok (.iconst 0, 1) := by decide +kernel
theorem dX11_look_168 : decode cX11_look 168 = .ok (.iadd, 1) := by decide +kernel
theorem dX11_look_169 : decode cX11_look 169 = .ok (.istore 8, 2) := by decide +kernel
theorem dX11_look_171 : decode cX11_look 171 = .ok (.iinc 10 1, 3) := by decide +kernel
theorem dX11_look_174 : decode cX11_look 174 = .ok (.goto (-66), 3) := by decide +kernel
theorem dX11_look_177 : decode cX11_look 177 = .ok (.iload 8, 2) := by decide +kernel
theorem dX11_look_179 : decode cX11_look 179 = .ok (.iload 6, 2) := by decide +kernel
theorem dX11_look_181 : decode cX11_look 181 = .ok (.if_icmp .le 8, 3) := by decide +kernel
theorem dX11_look_184 : decode cX11_look 184 = .ok (.iload 8, 2) := by decide +kernel
theorem dX11_look_186 : decode cX11_look 186 = .ok (.goto 5, 3) := by decide +kernel
theorem dX11_look_189 : decode cX11_look 189 = .ok (.iload 6, 2) := by decide +kernel
theorem dX11_look_191 : decode cX11_look 191 = .ok (.istore 6, 2) := by decide +kernel
theorem dX11_look_193 : decode cX11_look 193 = .ok (.iinc 7 1, 3) := by decide +kernel
theorem dX11_look_196 : decode cX11_look 196 = .ok (.goto (-133), 3) := by decide +kernel
theorem dX11_look_199 : decode cX11_look 199 = .ok (.iload 6, 2) := by decide +kernel
theorem dX11_look_201 : decode cX11_look 201 = .ok (.iload 4, 2) := by decide +kernel
theorem dX11_look_203 : decode cX11_look 203 = .ok (.if_icmp .ge 8, 3) := by decide +kernel
theorem dX11_look_206 : decode cX11_look 206 = .ok (.iload 5, 2) := by decide +kernel
theorem dX11_look_208 : decode cX11_look 208 = .ok (.goto 4, 3) := by decide +kernel
theorem dX11_look_211 : decode cX11_look 211 = .ok (.iload_n 3, 1) := by decide +kernel
theorem dX11_look_212 : decode cX11_look 212 = .ok (.istore_n 3, 1) := by decide +kernel
theorem dX11_look_213 : decode cX11_look 213 = .ok (.iload 6, 2) := by decide +kernel
theorem dX11_look_215 : decode cX11_look 215 = .ok (.iload 4, 2) := by decide +kernel
theorem dX11_look_217 : decode cX11_look 217 = .ok (.if_icmp .ge 8, 3) := by decide +kernel
theorem dX11_look_220 : decode cX11_look 220 = .ok (.iload 6, 2) := by decide +kernel
theorem dX11_look_222 : decode cX11_look 222 = .ok (.goto 5, 3) := by decide +kernel
theorem dX11_look_225 : decode cX11_look 225 = .ok (.iload 4, 2) := by decide +kernel
theorem dX11_look_227 : decode cX11_look 227 = .ok (.istore 4, 2) := by decide +kernel
theorem dX11_look_229 : decode cX11_look 229 = .ok (.iinc 5 1, 3) := by decide +kernel
theorem dX11_look_232 : decode cX11_look 232 = .ok (.goto (-202), 3) := by decide +kernel
theorem dX11_look_235 : decode cX11_look 235 = .ok (.iload_n 3, 1) := by decide +kernel
theorem dX11_look_236 : decode cX11_look 236 = .ok (.ireturn, 1) := by decide +kernel
theorem dX11_distance_0 : decode cX11_distance 0 = .ok (.iload_n 0, 1) := by decide +kernel
theorem dX11_distance_1 : decode cX11_distance 1 = .ok (.iload_n 1, 1) := by decide +kernel
theorem dX11_distance_2 : decode cX11_distance 2 = .ok (.if_icmp .ge 9, 3) := by decide +kernel
theorem dX11_distance_5 : decode cX11_distance 5 = .ok (.iload_n 1, 1) := by decide +kernel
theorem dX11_distance_6 : decode cX11_distance 6 = .ok (.iload_n 0, 1) := by decide +kernel
theorem dX11_distance_7 : decode cX11_distance 7 = .ok (.isub, 1) := by decide +kernel
theorem dX11_distance_8 : decode cX11_distance 8 = .ok (.goto 6, 3) := by decide +kernel
theorem dX11_distance_11 : decode cX11_distance 11 = .ok (.iload_n 0, 1) := by decide +kernel
theorem dX11_distance_12 : decode cX11_distance 12 = .ok (.iload_n 1, 1) := by decide +kernel
theorem dX11_distance_13 : decode cX11_distance 13 = .ok (.isub, 1) := by decide +kernel
theorem dX11_distance_14 : decode cX11_distance 14 = .ok (.ireturn, 1) := by decide +kernel
set_option maxRecDepth 20000 in
theorem ggX11_hasBy_X11_seenOn : GoodIn wsX11_hasBy wsX11_seenOn := goodIn_r _ [5, 6, 7, 4, 8, 9, 10, 11, 12, 13, 14] rfl gw_wsX11_seenOn
set_option maxRecDepth 20000 in
theorem gX11_hasBy_X11_seenOn : GoodIn wsX11_hasBy (va_wsS RX11 106 yX11_seenOn wsX11_seenOn) := goodIn_app (goodIn_r _ [2, 3, 4] (by exact rfl) (by decide +kernel)) ggX11_hasBy_X11_seenOn
set_option maxRecDepth 20000 in
theorem gw_wsX11_distance : wsX11_distance.all goodWord = true := by decide +kernel
set_option maxRecDepth 20000 in
theorem ggX11_hasBy_X11_distance : GoodIn wsX11_hasBy wsX11_distance := goodIn_r _ [17] rfl gw_wsX11_distance
set_option maxRecDepth 20000 in
theorem gX11_hasBy_X11_distance : GoodIn wsX11_hasBy (va_wsS RX11 179 yX11_distance wsX11_distance) := goodIn_app (goodIn_r _ [15, 16, 4] (by exact rfl) (by decide +kernel)) ggX11_hasBy_X11_distance
theorem dX11_hasBy_0 : decode cX11_hasBy 0 = .ok (.aload_n 0, 1) := by decide +kernel
theorem dX11_hasBy_1 : decode cX11_hasBy 1 = .ok (.getfield 7, 3) := by decide +kernel
theorem dX11_hasBy_4 : decode cX11_hasBy 4 = .ok (.iload_n 2, 1) := by decide +kernel
theorem dX11_hasBy_5 : decode cX11_hasBy 5 = .ok (.aload_n 0, 1) := by decide +kernel
theorem dX11_hasBy_6 : decode cX11_hasBy 6 = .ok (.getfield 7, 3) := by decide +kernel
theorem dX11_hasBy_9 : decode cX11_hasBy 9 = .ok (.bipush 21, 2) := by decide +kernel
theorem dX11_hasBy_11 : decode cX11_hasBy 11 = .ok (.iaload, 1) := by decide +kernel
theorem dX11_hasBy_12 : decode cX11_hasBy 12 = .ok (.invokestatic 106, 3) := by decide +kernel
theorem dX11_hasBy_15 : decode cX11_hasBy 15 = .ok (.istore 4, 2) := by decide +kernel
theorem dX11_hasBy_17 : decode cX11_hasBy 17 = .ok (.iload_n 2, 1) := by decide +kernel
theorem dX11_hasBy_18 : decode cX11_hasBy 18 = .ok (.iload_n 3, 1) := by decide +kernel
theorem dX11_hasBy_19 : decode cX11_hasBy 19 = .ok (.if_icmp .ne 10, 3) := by decide +kernel
theorem dX11_hasBy_22 : decode cX11_hasBy 22 = .ok (.iload 4, 2) := by decide +kernel
theorem dX11_hasBy_24 : decode cX11_hasBy 24 = .ok (.iconst 2, 1) := by decide +kernel
theorem dX11_hasBy_25 : decode cX11_hasBy 25 = .ok (.idiv, 1) := by decide +kernel
theorem dX11_hasBy_26 : decode cX11_hasBy 26 = .ok (.goto 5, 3) := by decide +kernel
theorem dX11_hasBy_29 : decode cX11_hasBy 29 = .ok (.iload 4, 2) := by decide +kernel
theorem dX11_hasBy_31 : decode cX11_hasBy 31 = .ok (.iload_n 2, 1) := by decide +kernel
theorem dX11_hasBy_32 : decode cX11_hasBy 32 = .ok (.aload_n 0, 1) := by decide +kernel
theorem dX11_hasBy_33 : decode cX11_hasBy 33 = .ok (.getfield 7, 3) := by decide +kernel
theorem dX11_hasBy_36 : decode cX11_hasBy 36 = .ok (.bipush 11, 2) := by decide +kernel
theorem dX11_hasBy_38 : decode cX11_hasBy 38 = .ok (.iload_n 1, 1) := by decide +kernel
theorem dX11_hasBy_39 : decode cX11_hasBy 39 = .ok (.iadd, 1) := by decide +kernel
theorem dX11_hasBy_40 : decode cX11_hasBy 40 = .ok (.iaload, 1) := by decide +kernel
theorem dX11_hasBy_41 : decode cX11_hasBy 41 = .ok (.invokestatic 179, 3) := by decide +kernel
theorem dX11_hasBy_44 : decode cX11_hasBy 44 = .ok (.isub, 1) := by decide +kernel
theorem dX11_hasBy_45 : decode cX11_hasBy 45 = .ok (.ireturn, 1) := by decide +kernel
set_option maxRecDepth 20000 in
theorem ggX11_rests_X11_many : GoodIn wsX11_rests wsX11_many := goodIn_r _ [5, 6, 26, 27, 28, 29, 30, 31, 32, 33, 34, 35, 36, 37, 38, 39, 40, 41, 42, 43] rfl gw_wsX11_many
set_option maxRecDepth 20000 in
theorem gX11_rests_X11_many : GoodIn wsX11_rests (wsV RX11 52 RX11 yX11_many wsX11_many) := goodIn_app (goodIn_r _ [1, 2, 3, 4] (by exact rfl) (by decide +kernel)) ggX11_rests_X11_many
set_option maxRecDepth 20000 in
theorem gw_wsX11_hasBy : wsX11_hasBy.all goodWord = true := by decide +kernel
set_option maxRecDepth 20000 in
theorem ggX11_rests_X11_hasBy : GoodIn wsX11_rests wsX11_hasBy := goodIn_r _ [10, 6, 11, 12, 4, 13, 14, 15, 16, 17, 18, 19, 20, 21, 22, 23, 24, 25, 26, 27, 28, 29, 30, 31, 32, 33, 34, 35, 36, 37, 38, 39, 40, 41, 42, 43] rfl gw_wsX11_hasBy
set_option maxRecDepth 20000 in
theorem gX11_rests_X11_hasBy : GoodIn wsX11_rests (wsV RX11 182 RX11 yX11_hasBy wsX11_hasBy) := goodIn_app (goodIn_r _ [7, 8, 9, 4] (by exact rfl) (by decide +kernel)) ggX11_rests_X11_hasBy
theorem dX11_rests_0 : decode cX11_rests 0 = .ok (.iconst 1, 1) := by decide +kernel
theorem dX11_rests_1 : decode cX11_rests 1 = .ok (.istore 5, 2) := by decide +kernel
theorem dX11_rests_3 : decode cX11_rests 3 = .ok (.iconst 0, 1) := by decide +kernel
theorem dX11_rests_4 : decode cX11_rests 4 = .ok (.istore 6, 2) := by decide +kernel
theorem dX11_rests_6 : decode cX11_rests 6 = .ok (.iload 6, 2) := by decide +kernel
theorem dX11_rests_8 : decode cX11_rests 8 = .ok (.aload_n 0, 1) := by decide +kernel
theorem dX11_rests_9 : decode cX11_rests 9 = .ok (.invokevirtual 52, 3) := by decide +kernel
theorem dX11_rests_12 : decode cX11_rests 12 = .ok (.if_icmp .ge 60, 3) := by decide +kernel
theorem dX11_rests_15 : decode cX11_rests 15 = .ok (.iload 5, 2) := by decide +kernel
theorem dX11_rests_17 : decode cX11_rests 17 = .ok (.ifCond .eq 46, 3) := by decide +kernel
theorem dX11_rests_20 : decode cX11_rests 20 = .ok (.aload_n 0, 1) := by decide +kernel
theorem dX11_rests_21 : decode cX11_rests 21 = .ok (.iload_n 1, 1) := by decide +kernel
theorem dX11_rests_22 : decode cX11_rests 22 = .ok (.iload 6, 2) := by decide +kernel
theorem dX11_rests_24 : decode cX11_rests 24 = .ok (.iload 4, 2) := by decide +kernel
theorem dX11_rests_26 : decode cX11_rests 26 = .ok (.invokevirtual 182, 3) := by decide +kernel
theorem dX11_rests_29 : decode cX11_rests 29 = .ok (.aload_n 0, 1) := by decide +kernel
theorem dX11_rests_30 : decode cX11_rests 30 = .ok (.iload_n 1, 1) := by decide +kernel
theorem dX11_rests_31 : decode cX11_rests 31 = .ok (.iload_n 3, 1) := by decide +kernel
theorem dX11_rests_32 : decode cX11_rests 32 = .ok (.iload 4, 2) := by decide +kernel
theorem dX11_rests_34 : decode cX11_rests 34 = .ok (.invokevirtual 182, 3) := by decide +kernel
theorem dX11_rests_37 : decode cX11_rests 37 = .ok (.if_icmp .gt 26, 3) := by decide +kernel
theorem dX11_rests_40 : decode cX11_rests 40 = .ok (.aload_n 0, 1) := by decide +kernel
theorem dX11_rests_41 : decode cX11_rests 41 = .ok (.iload_n 2, 1) := by decide +kernel
theorem dX11_rests_42 : decode cX11_rests 42 = .ok (.iload 6, 2) := by decide +kernel
theorem dX11_rests_44 : decode cX11_rests 44 = .ok (.iload_n 3, 1) := by decide +kernel
theorem dX11_rests_45 : decode cX11_rests 45 = .ok (.invokevirtual 182, 3) := by decide +kernel
theorem dX11_rests_48 : decode cX11_rests 48 = .ok (.aload_n 0, 1) := by decide +kernel
theorem dX11_rests_49 : decode cX11_rests 49 = .ok (.iload_n 2, 1) := by decide +kernel
theorem dX11_rests_50 : decode cX11_rests 50 = .ok (.iload 4, 2) := by decide +kernel
theorem dX11_rests_52 : decode cX11_rests 52 = .ok (.iload_n 3, 1) := by decide +kernel
theorem dX11_rests_53 : decode cX11_rests 53 = .ok (.invokevirtual 182, 3) := by decide +kernel
theorem dX11_rests_56 : decode cX11_rests 56 = .ok (.if_icmp .gt 7, 3) := by decide +kernel
theorem dX11_rests_59 : decode cX11_rests 59 = .ok (.iconst 1, 1) := by decide +kernel
theorem dX11_rests_60 : decode cX11_rests 60 = .ok (.goto 4, 3) := by decide +kernel
theorem dX11_rests_63 : decode cX11_rests 63 = .ok (.iconst 0, 1) := by decide +kernel
theorem dX11_rests_64 : decode cX11_rests 64 = .ok (.istore 5, 2) := by decide +kernel
theorem dX11_rests_66 : decode cX11_rests 66 = .ok (.iinc 6 1, 3) := by decide +kernel
theorem dX11_rests_69 : decode cX11_rests 69 = .ok (.goto (-63), 3) := by decide +kernel
theorem dX11_rests_72 : decode cX11_rests 72 = .ok (.iload 5, 2) := by decide +kernel
theorem dX11_rests_74 : decode cX11_rests 74 = .ok (.ireturn, 1) := by decide +kernel
set_option maxRecDepth 20000 in
theorem ggX11_two_X11_isGleaner : GoodIn wsX11_two wsX11_isGleaner := goodIn_r _ [5, 6, 7, 8, 4, 9, 10, 11, 12, 13, 46, 47, 48, 49, 50, 51, 52, 53, 54, 55, 56, 57, 58, 59, 60, 61, 62, 63] rfl gw_wsX11_isGleaner
set_option maxRecDepth 20000 in
theorem gX11_two_X11_isGleaner : GoodIn wsX11_two (wsV RX11 133 RX11 yX11_isGleaner wsX11_isGleaner) := goodIn_app (goodIn_r _ [1, 2, 3, 4] (by exact rfl) (by decide +kernel)) ggX11_two_X11_isGleaner
set_option maxRecDepth 20000 in
theorem ggX11_two_X11_bad : GoodIn wsX11_two wsX11_bad := goodIn_r _ [17, 18, 46, 47, 48, 49, 50, 51, 52, 53, 54, 55, 56, 57, 58, 59, 60, 61, 62, 63] rfl gw_wsX11_bad
set_option maxRecDepth 20000 in
theorem gX11_two_X11_bad : GoodIn wsX11_two (wsV RX11 73 RX11 yX11_bad wsX11_bad) := goodIn_app (goodIn_r _ [14, 15, 16, 4] (by exact rfl) (by decide +kernel)) ggX11_two_X11_bad
set_option maxRecDepth 20000 in
theorem ggX11_two_X11_many : GoodIn wsX11_two wsX11_many := goodIn_r _ [22, 10, 46, 47, 48, 49, 50, 51, 52, 53, 54, 55, 56, 57, 58, 59, 60, 61, 62, 63] rfl gw_wsX11_many
set_option maxRecDepth 20000 in
theorem gX11_two_X11_many : GoodIn wsX11_two (wsV RX11 52 RX11 yX11_many wsX11_many) := goodIn_app (goodIn_r _ [19, 20, 21, 4] (by exact rfl) (by decide +kernel)) ggX11_two_X11_many
set_option maxRecDepth 20000 in
theorem gw_wsX11_rests : wsX11_rests.all goodWord = true := by decide +kernel
set_option maxRecDepth 20000 in
theorem ggX11_two_X11_rests : GoodIn wsX11_two wsX11_rests := goodIn_r _ [26, 19, 20, 21, 4, 22, 10, 27, 28, 29, 30, 31, 32, 33, 34, 35, 36, 37, 38, 39, 40, 41, 42, 43, 44, 45, 46, 47, 48, 49, 50, 51, 52, 53, 54, 55, 56, 57, 58, 59, 60, 61, 62, 63] rfl gw_wsX11_rests
set_option maxRecDepth 20000 in
theorem gX11_two_X11_rests : GoodIn wsX11_two (wsV RX11 185 RX11 yX11_rests wsX11_rests) := goodIn_app (goodIn_r _ [23, 24, 25, 4] (by exact rfl) (by decide +kernel)) ggX11_two_X11_rests
theorem dX11_two_0 : decode cX11_two 0 = .ok (.aload_n 0, 1) := by decide +kernel
theorem dX11_two_1 : decode cX11_two 1 = .ok (.iload_n 1, 1) := by decide +kernel
theorem dX11_two_2 : decode cX11_two 2 = .ok (.invokevirtual 133, 3) := by decide +kernel
theorem dX11_two_5 : decode cX11_two 5 = .ok (.ifCond .eq 21, 3) := by decide +kernel
theorem dX11_two_8 : decode cX11_two 8 = .ok (.aload_n 0, 1) := by decide +kernel
theorem dX11_two_9 : decode cX11_two 9 = .ok (.iload_n 2, 1) := by decide +kernel
theorem dX11_two_10 : decode cX11_two 10 = .ok (.invokevirtual 133, 3) := by decide +kernel
theorem dX11_two_13 : decode cX11_two 13 = .ok (.ifCond .eq 13, 3) := by decide +kernel
theorem dX11_two_16 : decode cX11_two 16 = .ok (.iload_n 1, 1) := by decide +kernel
theorem dX11_two_17 : decode cX11_two 17 = .ok (.iload_n 2, 1) := by decide +kernel
theorem dX11_two_18 : decode cX11_two 18 = .ok (.if_icmp .eq 8, 3) := by decide +kernel
theorem dX11_two_21 : decode cX11_two 21 = .ok (.iload_n 3, 1) := by decide +kernel
theorem dX11_two_22 : decode cX11_two 22 = .ok (.iconst (-1), 1) := by decide +kernel
theorem dX11_two_23 : decode cX11_two 23 = .ok (.if_icmp .ge 10, 3) := by decide +kernel
theorem dX11_two_26 : decode cX11_two 26 = .ok (.aload_n 0, 1) := by decide +kernel
theorem dX11_two_27 : decode cX11_two 27 = .ok (.bipush (-10), 2) := by decide +kernel
theorem dX11_two_29 : decode cX11_two 29 = .ok (.invokevirtual 73, 3) := by decide +kernel
theorem dX11_two_32 : decode cX11_two 32 = .ok (.ireturn, 1) := by decide +kernel
theorem dX11_two_33 : decode cX11_two 33 = .ok (.iconst 0, 1) := by decide +kernel
theorem dX11_two_34 : decode cX11_two 34 = .ok (.istore 4, 2) := by decide +kernel
theorem dX11_two_36 : decode cX11_two 36 = .ok (.bipush (-5), 2) := by decide +kernel
theorem dX11_two_38 : decode cX11_two 38 = .ok (.istore 5, 2) := by decide +kernel
theorem dX11_two_40 : decode cX11_two 40 = .ok (.iconst 0, 1) := by decide +kernel
theorem dX11_two_41 : decode cX11_two 41 = .ok (.istore 6, 2) := by decide +kernel
theorem dX11_two_43 : decode cX11_two 43 = .ok (.iload 6, 2) := by decide +kernel
theorem dX11_two_45 : decode cX11_two 45 = .ok (.aload_n 0, 1) := by decide +kernel
theorem dX11_two_46 : decode cX11_two 46 = .ok (.invokevirtual 52, 3) := by decide +kernel
theorem dX11_two_49 : decode cX11_two 49 = .ok (.if_icmp .ge 64, 3) := by decide +kernel
theorem dX11_two_52 : decode cX11_two 52 = .ok (.iconst 0, 1) := by decide +kernel
theorem dX11_two_53 : decode cX11_two 53 = .ok (.istore 7, 2) := by decide +kernel
theorem dX11_two_55 : decode cX11_two 55 = .ok (.iload 7, 2) := by decide +kernel
theorem dX11_two_57 : decode cX11_two 57 = .ok (.aload_n 0, 1) := by decide +kernel
theorem dX11_two_58 : decode cX11_two 58 = .ok (.invokevirtual 52, 3) := by decide +kernel
theorem dX11_two_61 : decode cX11_two 61 = .ok (.if_icmp .ge 46, 3) := by decide +kernel
theorem dX11_two_64 : decode cX11_two 64 = .ok (.aload_n 0, 1) := by decide +kernel
theorem dX11_two_65 : decode cX11_two 65 = .ok (.iload_n 1, 1) := by decide +kernel
theorem dX11_two_66 : decode cX11_two 66 = .ok (.iload_n 2, 1) := by decide +kernel
theorem dX11_two_67 : decode cX11_two 67 = .ok (.iload 6, 2) := by decide +kernel
theorem dX11_two_69 : decode cX11_two 69 = .ok (.iload 7, 2) := by decide +kernel
theorem dX11_two_71 : decode cX11_two 71 = .ok (.invokevirtual 185, 3) := by decide +kernel
theorem dX11_two_74 : decode cX11_two 74 = .ok (.ifCond .eq 27, 3) := by decide +kernel
theorem dX11_two_77 : decode cX11_two 77 = .ok (.iload 4, 2) := by decide +kernel
theorem dX11_two_79 : decode cX11_two 79 = .ok (.iload_n 3, 1) := by decide +kernel
theorem dX11_two_80 : decode cX11_two 80 = .ok (.if_icmp .ne 14, 3) := by decide +kernel
theorem dX11_two_83 : decode cX11_two 83 = .ok (.bipush 6, 2) := by decide +kernel
theorem dX11_two_85 : decode cX11_two 85 = .ok (.iload 6, 2) := by decide +kernel
theorem dX11_two_87 : decode cX11_two 87 = .ok (.imul, 1) := by decide +kernel
theorem dX11_two_88 : decode cX11_two 88 = .ok (.iload 7, 2) := by decide +kernel
theorem dX11_two_90 : decode cX11_two 90 = .ok (.iadd, 1) := by decide +kernel
theorem dX11_two_91 : decode cX11_two 91 = .ok (.goto 5, 3) := by decide +kernel
theorem dX11_two_94 : decode cX11_two 94 = .ok (.iload 5, 2) := by decide +kernel
theorem dX11_two_96 : decode cX11_two 96 = .ok (.istore 5, 2) := by decide +kernel
theorem dX11_two_98 : decode cX11_two 98 = .ok (.iinc 4 1, 3) := by decide +kernel
theorem dX11_two_101 : decode cX11_two 101 = .ok (.iinc 7 1, 3) := by decide +kernel
theorem dX11_two_104 : decode cX11_two 104 = .ok (.goto (-49), 3) := by decide +kernel
theorem dX11_two_107 : decode cX11_two 107 = .ok (.iinc 6 1, 3) := by decide +kernel
theorem dX11_two_110 : decode cX11_two 110 = .ok (.goto (-67), 3) := by decide +kernel
theorem dX11_two_113 : decode cX11_two 113 = .ok (.iload_n 3, 1) := by decide +kernel
theorem dX11_two_114 : decode cX11_two 114 = .ok (.iconst (-1), 1) := by decide +kernel
theorem dX11_two_115 : decode cX11_two 115 = .ok (.if_icmp .ne 8, 3) := by decide +kernel
theorem dX11_two_118 : decode cX11_two 118 = .ok (.iload 4, 2) := by decide +kernel
theorem dX11_two_120 : decode cX11_two 120 = .ok (.goto 5, 3) := by decide +kernel
theorem dX11_two_123 : decode cX11_two 123 = .ok (.iload 5, 2) := by decide +kernel
theorem dX11_two_125 : decode cX11_two 125 = .ok (.ireturn, 1) := by decide +kernel
theorem dX11_fraction_0 : decode cX11_fraction 0 = .ok (.lload_n 1, 1) := by decide +kernel
theorem dX11_fraction_1 : decode cX11_fraction 1 = .ok (.lstore 5, 2) := by decide +kernel
theorem dX11_fraction_3 : decode cX11_fraction 3 = .ok (.lload_n 3, 1) := by decide +kernel
theorem dX11_fraction_4 : decode cX11_fraction 4 = .ok (.lstore 7, 2) := by decide +kernel
theorem dX11_fraction_6 : decode cX11_fraction 6 = .ok (.lload 7, 2) := by decide +kernel
theorem dX11_fraction_8 : decode cX11_fraction 8 = .ok (.lconst 0, 1) := by decide +kernel
theorem dX11_fraction_9 : decode cX11_fraction 9 = .ok (.lcmp, 1) := by decide +kernel
theorem dX11_fraction_10 : decode cX11_fraction 10 = .ok (.ifCond .eq 21, 3) := by decide +kernel
theorem dX11_fraction_13 : decode cX11_fraction 13 = .ok (.lload 5, 2) := by decide +kernel
theorem dX11_fraction_15 : decode cX11_fraction 15 = .ok (.lload 7, 2) := by decide +kernel
theorem dX11_fraction_17 : decode cX11_fraction 17 = .ok (.lrem, 1) := by decide +kernel
theorem dX11_fraction_18 : decode cX11_fraction 18 = .ok (.lstore 9, 2) := by decide +kernel
theorem dX11_fraction_20 : decode cX11_fraction 20 = .ok (.lload 7, 2) := by decide +kernel
theorem dX11_fraction_22 : decode cX11_fraction 22 = .ok (.lstore 5, 2) := by decide +kernel
theorem dX11_fraction_24 : decode cX11_fraction 24 = .ok (.lload 9, 2) := by decide +kernel
theorem dX11_fraction_26 : decode cX11_fraction 26 = .ok (.lstore 7, 2) := by decide +kernel
theorem dX11_fraction_28 : decode cX11_fraction 28 = .ok (.goto (-22), 3) := by decide +kernel
theorem dX11_fraction_31 : decode cX11_fraction 31 = .ok (.aload_n 0, 1) := by decide +kernel
theorem dX11_fraction_32 : decode cX11_fraction 32 = .ok (.lload_n 1, 1) := by decide +kernel
theorem dX11_fraction_33 : decode cX11_fraction 33 = .ok (.lload 5, 2) := by decide +kernel
theorem dX11_fraction_35 : decode cX11_fraction 35 = .ok (.ldiv, 1) := by decide +kernel
theorem dX11_fraction_36 : decode cX11_fraction 36 = .ok (.putfield 189, 3) := by decide +kernel
theorem dX11_fraction_39 : decode cX11_fraction 39 = .ok (.aload_n 0, 1) := by decide +kernel
theorem dX11_fraction_40 : decode cX11_fraction 40 = .ok (.lload_n 3, 1) := by decide +kernel
theorem dX11_fraction_41 : decode cX11_fraction 41 = .ok (.lload 5, 2) := by decide +kernel
theorem dX11_fraction_43 : decode cX11_fraction 43 = .ok (.ldiv, 1) := by decide +kernel
theorem dX11_fraction_44 : decode cX11_fraction 44 = .ok (.putfield 23, 3) := by decide +kernel
theorem dX11_fraction_47 : decode cX11_fraction 47 = .ok (.return_, 1) := by decide +kernel
set_option maxRecDepth 20000 in
theorem ggX11_rains_X11_isField : GoodIn wsX11_rains wsX11_isField := goodIn_r _ [8, 9, 10, 11, 7, 12, 3, 13, 14, 15, 43, 44, 45, 46, 47, 48, 49, 50, 51, 52, 53, 54, 55, 56, 57, 58, 59, 60] rfl gw_wsX11_isField
set_option maxRecDepth 20000 in
theorem gX11_rains_X11_isField : GoodIn wsX11_rains (wsV RX11 89 RX11 yX11_isField wsX11_isField) := goodIn_app (goodIn_r _ [4, 5, 6, 7] (by exact rfl) (by decide +kernel)) ggX11_rains_X11_isField
set_option maxRecDepth 20000 in
theorem ggX11_rains_X11_in : GoodIn wsX11_rains wsX11_in := goodIn_r _ [15] rfl gw_wsX11_in
set_option maxRecDepth 20000 in
theorem gX11_rains_X11_in : GoodIn wsX11_rains (va_wsS RX11 56 yX11_in wsX11_in) := goodIn_app (goodIn_r _ [13, 14, 7] (by exact rfl) (by decide +kernel)) ggX11_rains_X11_in
set_option maxRecDepth 20000 in
theorem ggX11_rains_X11_bad : GoodIn wsX11_rains wsX11_bad := goodIn_r _ [19, 20, 43, 44, 45, 46, 47, 48, 49, 50, 51, 52, 53, 54, 55, 56, 57, 58, 59, 60] rfl gw_wsX11_bad
set_option maxRecDepth 20000 in
theorem gX11_rains_X11_bad : GoodIn wsX11_rains (wsV RX11 73 RX11 yX11_bad wsX11_bad) := goodIn_app (goodIn_r _ [16, 17, 18, 7] (by exact rfl) (by decide +kernel)) ggX11_rains_X11_bad
set_option maxRecDepth 20000 in
theorem ggX11_rains_X11_layHand : GoodIn wsX11_rains wsX11_layHand := goodIn_r _ [24, 2, 3, 43, 44, 45, 46, 47, 48, 49, 50, 51, 52, 53, 54, 55, 56, 57, 58, 59, 60] rfl gw_wsX11_layHand
set_option maxRecDepth 20000 in
theorem gX11_rains_X11_layHand : GoodIn wsX11_rains (wsV RX11 147 RX11 yX11_layHand wsX11_layHand) := goodIn_app (goodIn_r _ [21, 22, 23, 7] (by exact rfl) (by decide +kernel)) ggX11_rains_X11_layHand
set_option maxRecDepth 20000 in
theorem ggX11_rains_X11_seenOn : GoodIn wsX11_rains wsX11_seenOn := goodIn_r _ [27, 28, 29, 7, 30, 31, 32, 33, 34, 35, 36] rfl gw_wsX11_seenOn
set_option maxRecDepth 20000 in
theorem gX11_rains_X11_seenOn : GoodIn wsX11_rains (va_wsS RX11 106 yX11_seenOn wsX11_seenOn) := goodIn_app (goodIn_r _ [25, 26, 7] (by exact rfl) (by decide +kernel)) ggX11_rains_X11_seenOn
set_option maxRecDepth 20000 in
theorem gw_wsX11_fraction : wsX11_fraction.all goodWord = true := by decide +kernel
set_option maxRecDepth 20000 in
theorem ggX11_rains_X11_fraction : GoodIn wsX11_rains wsX11_fraction := goodIn_r _ [40, 41, 42, 43, 44, 45, 46, 47, 48, 49, 50, 51, 52, 53, 54, 55, 56, 57, 58, 59, 60] rfl gw_wsX11_fraction
set_option maxRecDepth 20000 in
theorem gX11_rains_X11_fraction : GoodIn wsX11_rains (wsV RX11 194 RX11 yX11_fraction wsX11_fraction) := goodIn_app (goodIn_r _ [37, 38, 39, 7] (by exact rfl) (by decide +kernel)) ggX11_rains_X11_fraction
theorem dX11_rains_0 : decode cX11_rains 0 = .ok (.aload_n 0, 1) := by decide +kernel
theorem dX11_rains_1 : decode cX11_rains 1 = .ok (.iload_n 1, 1) := by decide +kernel
theorem dX11_rains_2 : decode cX11_rains 2 = .ok (.invokevirtual 89, 3) := by decide +kernel
theorem dX11_rains_5 : decode cX11_rains 5 = .ok (.ifCond .eq 15, 3) := by decide +kernel
theorem dX11_rains_8 : decode cX11_rains 8 = .ok (.iload_n 2, 1) := by decide +kernel
theorem dX11_rains_9 : decode cX11_rains 9 = .ok (.i2l, 1) := by decide +kernel
theorem dX11_rains_10 : decode cX11_rains 10 = .ok (.lconst 0, 1) := by decide +kernel
theorem dX11_rains_11 : decode cX11_rains 11 = .ok (.ldc2_w 192, 3) := by decide +kernel
theorem dX11_rains_14 : decode cX11_rains 14 = .ok (.invokestatic 56, 3) := by decide +kernel
theorem dX11_rains_17 : decode cX11_rains 17 = .ok (.ifCond .ne 10, 3) := by decide +kernel
theorem dX11_rains_20 : decode cX11_rains 20 = .ok (.aload_n 0, 1) := by decide +kernel
theorem dX11_rains_21 : decode cX11_rains 21 = .ok (.bipush (-2), 2) := by decide +kernel
theorem dX11_rains_23 : decode cX11_rains 23 = .ok (.invokevirtual 73, 3) := by decide +kernel
theorem dX11_rains_26 : decode cX11_rains 26 = .ok (.ireturn, 1) := by decide +kernel
theorem dX11_rains_27 : decode cX11_rains 27 = .ok (.aload_n 0, 1) := by decide +kernel
theorem dX11_rains_28 : decode cX11_rains 28 = .ok (.invokevirtual 147, 3) := by decide +kernel
theorem dX11_rains_31 : decode cX11_rains 31 = .ok (.aload_n 0, 1) := by decide +kernel
theorem dX11_rains_32 : decode cX11_rains 32 = .ok (.getfield 27, 3) := by decide +kernel
theorem dX11_rains_35 : decode cX11_rains 35 = .ok (.bipush 22, 2) := by decide +kernel
theorem dX11_rains_37 : decode cX11_rains 37 = .ok (.aload_n 0, 1) := by decide +kernel
theorem dX11_rains_38 : decode cX11_rains 38 = .ok (.getfield 27, 3) := by decide +kernel
theorem dX11_rains_41 : decode cX11_rains 41 = .ok (.bipush 22, 2) := by decide +kernel
theorem dX11_rains_43 : decode cX11_rains 43 = .ok (.iaload, 1) := by decide +kernel
theorem dX11_rains_44 : decode cX11_rains 44 = .ok (.iconst 5, 1) := by decide +kernel
theorem dX11_rains_45 : decode cX11_rains 45 = .ok (.iadd, 1) := by decide +kernel
theorem dX11_rains_46 : decode cX11_rains 46 = .ok (.bipush 9, 2) := by decide +kernel
theorem dX11_rains_48 : decode cX11_rains 48 = .ok (.if_icmp .le 8, 3) := by decide +kernel
theorem dX11_rains_51 : decode cX11_rains 51 = .ok (.bipush 9, 2) := by decide +kernel
theorem dX11_rains_53 : decode cX11_rains 53 = .ok (.goto 12, 3) := by decide +kernel
theorem dX11_rains_56 : decode cX11_rains 56 = .ok (.aload_n 0, 1) := by decide +kernel
theorem dX11_rains_57 : decode cX11_rains 57 = .ok (.getfield 27, 3) := by decide +kernel
theorem dX11_rains_60 : decode cX11_rains 60 = .ok (.bipush 22, 2) := by decide +kernel
theorem dX11_rains_62 : decode cX11_rains 62 = .ok (.iaload, 1) := by decide +kernel
theorem dX11_rains_63 : decode cX11_rains 63 = .ok (.iconst 5, 1) := by decide +kernel
theorem dX11_rains_64 : decode cX11_rains 64 = .ok (.iadd, 1) := by decide +kernel
theorem dX11_rains_65 : decode cX11_rains 65 = .ok (.iastore, 1) := by decide +kernel
theorem dX11_rains_66 : decode cX11_rains 66 = .ok (.aload_n 0, 1) := by decide +kernel
theorem dX11_rains_67 : decode cX11_rains 67 = .ok (.bipush 10, 2) := by decide +kernel
theorem dX11_rains_69 : decode cX11_rains 69 = .ok (.iload_n 2, 1) := by decide +kernel
theorem dX11_rains_70 : decode cX11_rains 70 = .ok (.isub, 1) := by decide +kernel
theorem dX11_rains_71 : decode cX11_rains 71 = .ok (.aload_n 0, 1) := by decide +kernel
theorem dX11_rains_72 : decode cX11_rains 72 = .ok (.getfield 7, 3) := by decide +kernel
theorem dX11_rains_75 : decode cX11_rains 75 = .ok (.iload_n 1, 1) := by decide +kernel
theorem dX11_rains_76 : decode cX11_rains 76 = .ok (.aload_n 0, 1) := by decide +kernel
theorem dX11_rains_77 : decode cX11_rains 77 = .ok (.getfield 7, 3) := by decide +kernel
theorem dX11_rains_80 : decode cX11_rains 80 = .ok (.bipush 21, 2) := by decide +kernel
theorem dX11_rains_82 : decode cX11_rains 82 = .ok (.iaload, 1) := by decide +kernel
theorem dX11_rains_83 : decode cX11_rains 83 = .ok (.invokestatic 106, 3) := by decide +kernel
theorem dX11_rains_86 : decode cX11_rains 86 = .ok (.imul, 1) := by decide +kernel
theorem dX11_rains_87 : decode cX11_rains 87 = .ok (.iload_n 2, 1) := by decide +kernel
theorem dX11_rains_88 : decode cX11_rains 88 = .ok (.aload_n 0, 1) := by decide +kernel
theorem dX11_rains_89 : decode cX11_rains 89 = .ok (.getfield 27, 3) := by decide +kernel
theorem dX11_rains_92 : decode cX11_rains 92 = .ok (.iload_n 1, 1) := by decide +kernel
theorem dX11_rains_93 : decode cX11_rains 93 = .ok (.aload_n 0, 1) := by decide +kernel
theorem dX11_rains_94 : decode cX11_rains 94 = .ok (.getfield 7, 3) := by decide +kernel
theorem dX11_rains_97 : decode cX11_rains 97 = .ok (.bipush 21, 2) := by decide +kernel
theorem dX11_rains_99 : decode cX11_rains 99 = .ok (.iaload, 1) := by decide +kernel
theorem dX11_rains_100 : decode cX11_rains 100 = .ok (.invokestatic 106, 3) := by decide +kernel
theorem dX11_rains_103 : decode cX11_rains 103 = .ok (.imul, 1) := by decide +kernel
theorem dX11_rains_104 : decode cX11_rains 104 = .ok (.iadd, 1) := by decide +kernel
theorem dX11_rains_105 : decode cX11_rains 105 = .ok (.i2l, 1) := by decide +kernel
theorem dX11_rains_106 : decode cX11_rains 106 = .ok (.ldc2_w 192, 3) := by decide +kernel
theorem dX11_rains_109 : decode cX11_rains 109 = .ok (.invokevirtual 194, 3) := by decide +kernel
theorem dX11_rains_112 : decode cX11_rains 112 = .ok (.iconst 1, 1) := by decide +kernel
theorem dX11_rains_113 : decode cX11_rains 113 = .ok (.ireturn, 1) := by decide +kernel
set_option maxRecDepth 20000 in
theorem ggX11_summers_X11_in : GoodIn wsX11_summers wsX11_in := goodIn_r _ [12] rfl gw_wsX11_in
set_option maxRecDepth 20000 in
theorem gX11_summers_X11_in : GoodIn wsX11_summers (va_wsS RX11 56 yX11_in wsX11_in) := goodIn_app (goodIn_r _ [9, 10, 11] (by exact rfl) (by decide +kernel)) ggX11_summers_X11_in
set_option maxRecDepth 20000 in
theorem ggX11_summers_X11_bad : GoodIn wsX11_summers wsX11_bad := goodIn_r _ [16, 17, 47, 48, 49, 50, 51, 52, 53, 54, 55, 56, 57, 58, 59, 60, 61, 62, 63, 64] rfl gw_wsX11_bad
set_option maxRecDepth 20000 in
theorem gX11_summers_X11_bad : GoodIn wsX11_summers (wsV RX11 73 RX11 yX11_bad wsX11_bad) := goodIn_app (goodIn_r _ [13, 14, 15, 11] (by exact rfl) (by decide +kernel)) ggX11_summers_X11_bad
set_option maxRecDepth 20000 in
theorem ggX11_summers_X11_layHand : GoodIn wsX11_summers wsX11_layHand := goodIn_r _ [21, 6, 22, 47, 48, 49, 50, 51, 52, 53, 54, 55, 56, 57, 58, 59, 60, 61, 62, 63, 64] rfl gw_wsX11_layHand
set_option maxRecDepth 20000 in
theorem gX11_summers_X11_layHand : GoodIn wsX11_summers (wsV RX11 147 RX11 yX11_layHand wsX11_layHand) := goodIn_app (goodIn_r _ [18, 19, 20, 11] (by exact rfl) (by decide +kernel)) ggX11_summers_X11_layHand
set_option maxRecDepth 20000 in
theorem ggX11_summers_X11_goNight : GoodIn wsX11_summers wsX11_goNight := goodIn_r _ [25, 26, 27, 11, 28] rfl gw_wsX11_goNight
set_option maxRecDepth 20000 in
theorem gX11_summers_X11_goNight : GoodIn wsX11_summers (va_wsS RX11 129 yX11_goNight wsX11_goNight) := goodIn_app (goodIn_r _ [23, 24, 11] (by exact rfl) (by decide +kernel)) ggX11_summers_X11_goNight
set_option maxRecDepth 20000 in
theorem ggX11_summers_X11_goStep : GoodIn wsX11_summers wsX11_goStep := goodIn_r _ [31, 32, 33, 11, 34, 35, 36, 37, 38, 39, 40, 41, 42, 43, 44, 45, 46] rfl gw_wsX11_goStep
set_option maxRecDepth 20000 in
theorem gX11_summers_X11_goStep : GoodIn wsX11_summers (va_wsS RX11 125 yX11_goStep wsX11_goStep) := goodIn_app (goodIn_r _ [29, 30, 11] (by exact rfl) (by decide +kernel)) ggX11_summers_X11_goStep
theorem dX11_summers_0 : decode cX11_summers 0 = .ok (.iload_n 1, 1) := by decide +kernel
theorem dX11_summers_1 : decode cX11_summers 1 = .ok (.i2l, 1) := by decide +kernel
theorem dX11_summers_2 : decode cX11_summers 2 = .ok (.lconst 0, 1) := by decide +kernel
theorem dX11_summers_3 : decode cX11_summers 3 = .ok (.ldc2_w 198, 3) := by decide +kernel
theorem dX11_summers_6 : decode cX11_summers 6 = .ok (.invokestatic 56, 3) := by decide +kernel
theorem dX11_summers_9 : decode cX11_summers 9 = .ok (.ifCond .eq 15, 3) := by decide +kernel
theorem dX11_summers_12 : decode cX11_summers 12 = .ok (.iload_n 2, 1) := by decide +kernel
theorem dX11_summers_13 : decode cX11_summers 13 = .ok (.i2l, 1) := by decide +kernel
theorem dX11_summers_14 : decode cX11_summers 14 = .ok (.lconst 0, 1) := by decide +kernel
theorem dX11_summers_15 : decode cX11_summers 15 = .ok (.ldc2_w 67, 3) := by decide +kernel
theorem dX11_summers_18 : decode cX11_summers 18 = .ok (.invokestatic 56, 3) := by decide +kernel
theorem dX11_summers_21 : decode cX11_summers 21 = .ok (.ifCond .ne 10, 3) := by decide +kernel
theorem dX11_summers_24 : decode cX11_summers 24 = .ok (.aload_n 0, 1) := by decide +kernel
theorem dX11_summers_25 : decode cX11_summers 25 = .ok (.bipush (-2), 2) := by decide +kernel
theorem dX11_summers_27 : decode cX11_summers 27 = .ok (.invokevirtual 73, 3) := by decide +kernel
theorem dX11_summers_30 : decode cX11_summers 30 = .ok (.ireturn, 1) := by decide +kernel
theorem dX11_summers_31 : decode cX11_summers 31 = .ok (.iload_n 1, 1) := by decide +kernel
theorem dX11_summers_32 : decode cX11_summers 32 = .ok (.i2l, 1) := by decide +kernel
theorem dX11_summers_33 : decode cX11_summers 33 = .ok (.lstore_n 3, 1) := by decide +kernel
theorem dX11_summers_34 : decode cX11_summers 34 = .ok (.iconst 0, 1) := by decide +kernel
theorem dX11_summers_35 : decode cX11_summers 35 = .ok (.istore 5, 2) := by decide +kernel
theorem dX11_summers_37 : decode cX11_summers 37 = .ok (.aload_n 0, 1) := by decide +kernel
theorem dX11_summers_38 : decode cX11_summers 38 = .ok (.invokevirtual 147, 3) := by decide +kernel
theorem dX11_summers_41 : decode cX11_summers 41 = .ok (.iconst 0, 1) := by decide +kernel
theorem dX11_summers_42 : decode cX11_summers 42 = .ok (.istore 6, 2) := by decide +kernel
theorem dX11_summers_44 : decode cX11_summers 44 = .ok (.iload 6, 2) := by decide +kernel
theorem dX11_summers_46 : decode cX11_summers 46 = .ok (.iload_n 2, 1) := by decide +kernel
theorem dX11_summers_47 : decode cX11_summers 47 = .ok (.if_icmp .ge 71, 3) := by decide +kernel
theorem dX11_summers_50 : decode cX11_summers 50 = .ok (.lload_n 3, 1) := by decide +kernel
theorem dX11_summers_51 : decode cX11_summers 51 = .ok (.ldc2_w 200, 3) := by decide +kernel
theorem dX11_summers_54 : decode cX11_summers 54 = .ok (.lmul, 1) := by decide +kernel
theorem dX11_summers_55 : decode cX11_summers 55 = .ok (.ldc2_w 202, 3) := by decide +kernel
theorem dX11_summers_58 : decode cX11_summers 58 = .ok (.ladd, 1) := by decide +kernel
theorem dX11_summers_59 : decode cX11_summers 59 = .ok (.ldc2_w 204, 3) := by decide +kernel
theorem dX11_summers_62 : decode cX11_summers 62 = .ok (.lrem, 1) := by decide +kernel
theorem dX11_summers_63 : decode cX11_summers 63 = .ok (.lstore_n 3, 1) := by decide +kernel
theorem dX11_summers_64 : decode cX11_summers 64 = .ok (.aload_n 0, 1) := by decide +kernel
theorem dX11_summers_65 : decode cX11_summers 65 = .ok (.getfield 27, 3) := by decide +kernel
theorem dX11_summers_68 : decode cX11_summers 68 = .ok (.bipush 21, 2) := by decide +kernel
theorem dX11_summers_70 : decode cX11_summers 70 = .ok (.iaload, 1) := by decide +kernel
theorem dX11_summers_71 : decode cX11_summers 71 = .ok (.bipush 12, 2) := by decide +kernel
theorem dX11_summers_73 : decode cX11_summers 73 = .ok (.if_icmp .ne 10, 3) := by decide +kernel
theorem dX11_summers_76 : decode cX11_summers 76 = .ok (.aload_n 0, 1) := by decide +kernel
theorem dX11_summers_77 : decode cX11_summers 77 = .ok (.getfield 27, 3) := by decide +kernel
theorem dX11_summers_80 : decode cX11_summers 80 = .ok (.invokestatic 129, 3) := by decide +kernel
theorem dX11_summers_83 : decode cX11_summers 83 = .ok (.aload_n 0, 1) := by decide +kernel
theorem dX11_summers_84 : decode cX11_summers 84 = .ok (.getfield 27, 3) := by decide +kernel
theorem dX11_summers_87 : decode cX11_summers 87 = .ok (.bipush 22, 2) := by decide +kernel
theorem dX11_summers_89 : decode cX11_summers 89 = .ok (.lload_n 3, 1) := by decide +kernel
theorem dX11_summers_90 : decode cX11_summers 90 = .ok (.ldc2_w 206, 3) := by decide +kernel
theorem dX11_summers_93 : decode cX11_summers 93 = .ok (.ldiv, 1) := by decide +kernel
theorem dX11_summers_94 : decode cX11_summers 94 = .ok (.ldc2_w 192, 3) := by decide +kernel
theorem dX11_summers_97 : decode cX11_summers 97 = .ok (.lrem, 1) := by decide +kernel
theorem dX11_summers_98 : decode cX11_summers 98 = .ok (.l2i, 1) := by decide +kernel
theorem dX11_summers_99 : decode cX11_summers 99 = .ok (.iastore, 1) := by decide +kernel
theorem dX11_summers_100 : decode cX11_summers 100 = .ok (.iload 5, 2) := by decide +kernel
theorem dX11_summers_102 : decode cX11_summers 102 = .ok (.aload_n 0, 1) := by decide +kernel
theorem dX11_summers_103 : decode cX11_summers 103 = .ok (.getfield 27, 3) := by decide +kernel
theorem dX11_summers_106 : decode cX11_summers 106 = .ok (.invokestatic 125, 3) := by decide +kernel
theorem dX11_summers_109 : decode cX11_summers 109 = .ok (.iadd, 1) := by decide +kernel
theorem dX11_summers_110 : decode cX11_summers 110 = .ok (.istore 5, 2) := by decide +kernel
theorem dX11_summers_112 : decode cX11_summers 112 = .ok (.iinc 6 1, 3) := by decide +kernel
theorem dX11_summers_115 : decode cX11_summers 115 = .ok (.goto (-71), 3) := by decide +kernel
theorem dX11_summers_118 : decode cX11_summers 118 = .ok (.iload 5, 2) := by decide +kernel
theorem dX11_summers_120 : decode cX11_summers 120 = .ok (.ireturn, 1) := by decide +kernel
set_option maxRecDepth 20000 in
theorem ggX11_type_X11_in : GoodIn wsX11_type wsX11_in := goodIn_r _ [7] rfl gw_wsX11_in
set_option maxRecDepth 20000 in
theorem gX11_type_X11_in : GoodIn wsX11_type (va_wsS RX11 56 yX11_in wsX11_in) := goodIn_app (goodIn_r _ [4, 5, 6] (by exact rfl) (by decide +kernel)) ggX11_type_X11_in
set_option maxRecDepth 20000 in
theorem ggX11_type_X11_bad : GoodIn wsX11_type wsX11_bad := goodIn_r _ [11, 12, 17, 18, 19, 20, 21, 22, 23, 24, 25, 26, 27, 28, 29, 30, 31, 32, 33, 34] rfl gw_wsX11_bad
set_option maxRecDepth 20000 in
theorem gX11_type_X11_bad : GoodIn wsX11_type (wsV RX11 73 RX11 yX11_bad wsX11_bad) := goodIn_app (goodIn_r _ [8, 9, 10, 6] (by exact rfl) (by decide +kernel)) ggX11_type_X11_bad
set_option maxRecDepth 20000 in
theorem ggX11_type_X11_full : GoodIn wsX11_type wsX11_full := goodIn_r _ [16, 12, 17, 18, 19, 20, 21, 22, 23, 24, 25, 26, 27, 28, 29, 30, 31, 32, 33, 34] rfl gw_wsX11_full
set_option maxRecDepth 20000 in
theorem gX11_type_X11_full : GoodIn wsX11_type (wsV RX11 82 RX11 yX11_full wsX11_full) := goodIn_app (goodIn_r _ [13, 14, 15, 6] (by exact rfl) (by decide +kernel)) ggX11_type_X11_full
theorem dX11_type_0 : decode cX11_type 0 = .ok (.iload_n 1, 1) := by decide +kernel
theorem dX11_type_1 : decode cX11_type 1 = .ok (.i2l, 1) := by decide +kernel
theorem dX11_type_2 : decode cX11_type 2 = .ok (.lconst 0, 1) := by decide +kernel
theorem dX11_type_3 : decode cX11_type 3 = .ok (.ldc2_w 208, 3) := by decide +kernel
theorem dX11_type_6 : decode cX11_type 6 = .ok (.invokestatic 56, 3) := by decide +kernel
theorem dX11_type_9 : decode cX11_type 9 = .ok (.ifCond .ne 10, 3) := by decide +kernel
theorem dX11_type_12 : decode cX11_type 12 = .ok (.aload_n 0, 1) := by decide +kernel
theorem dX11_type_13 : decode cX11_type 13 = .ok (.bipush (-2), 2) := by decide +kernel
theorem dX11_type_15 : decode cX11_type 15 = .ok (.invokevirtual 73, 3) := by decide +kernel
theorem dX11_type_18 : decode cX11_type 18 = .ok (.ireturn, 1) := by decide +kernel
theorem dX11_type_19 : decode cX11_type 19 = .ok (.aload_n 0, 1) := by decide +kernel
theorem dX11_type_20 : decode cX11_type 20 = .ok (.getfield 210, 3) := by decide +kernel
theorem dX11_type_23 : decode cX11_type 23 = .ok (.sipush 150, 3) := by decide +kernel
theorem dX11_type_26 : decode cX11_type 26 = .ok (.if_icmp .ne 8, 3) := by decide +kernel
theorem dX11_type_29 : decode cX11_type 29 = .ok (.aload_n 0, 1) := by decide +kernel
theorem dX11_type_30 : decode cX11_type 30 = .ok (.invokevirtual 82, 3) := by decide +kernel
theorem dX11_type_33 : decode cX11_type 33 = .ok (.ireturn, 1) := by decide +kernel
theorem dX11_type_34 : decode cX11_type 34 = .ok (.aload_n 0, 1) := by decide +kernel
theorem dX11_type_35 : decode cX11_type 35 = .ok (.getfield 39, 3) := by decide +kernel
theorem dX11_type_38 : decode cX11_type 38 = .ok (.aload_n 0, 1) := by decide +kernel
theorem dX11_type_39 : decode cX11_type 39 = .ok (.getfield 210, 3) := by decide +kernel
theorem dX11_type_42 : decode cX11_type 42 = .ok (.iload_n 1, 1) := by decide +kernel
theorem dX11_type_43 : decode cX11_type 43 = .ok (.iastore, 1) := by decide +kernel
theorem dX11_type_44 : decode cX11_type 44 = .ok (.aload_n 0, 1) := by decide +kernel
theorem dX11_type_45 : decode cX11_type 45 = .ok (.dup, 1) := by decide +kernel
theorem dX11_type_46 : decode cX11_type 46 = .ok (.getfield 210, 3) := by decide +kernel
theorem dX11_type_49 : decode cX11_type 49 = .ok (.iconst 1, 1) := by decide +kernel
theorem dX11_type_50 : decode cX11_type 50 = .ok (.iadd, 1) := by decide +kernel
theorem dX11_type_51 : decode cX11_type 51 = .ok (.putfield 210, 3) := by decide +kernel
theorem dX11_type_54 : decode cX11_type 54 = .ok (.aload_n 0, 1) := by decide +kernel
theorem dX11_type_55 : decode cX11_type 55 = .ok (.getfield 210, 3) := by decide +kernel
theorem dX11_type_58 : decode cX11_type 58 = .ok (.ireturn, 1) := by decide +kernel
theorem dX11_clear_0 : decode cX11_clear 0 = .ok (.aload_n 0, 1) := by decide +kernel
theorem dX11_clear_1 : decode cX11_clear 1 = .ok (.getfield 210, 3) := by decide +kernel
theorem dX11_clear_4 : decode cX11_clear 4 = .ok (.istore_n 1, 1) := by decide +kernel
theorem dX11_clear_5 : decode cX11_clear 5 = .ok (.aload_n 0, 1) := by decide +kernel
theorem dX11_clear_6 : decode cX11_clear 6 = .ok (.iconst 0, 1) := by decide +kernel
theorem dX11_clear_7 : decode cX11_clear 7 = .ok (.putfield 210, 3) := by decide +kernel
theorem dX11_clear_10 : decode cX11_clear 10 = .ok (.iload_n 1, 1) := by decide +kernel
theorem dX11_clear_11 : decode cX11_clear 11 = .ok (.ireturn, 1) := by decide +kernel
set_option maxRecDepth 20000 in
theorem ggX11_isSmall_X11_in : GoodIn wsX11_isSmall wsX11_in := goodIn_r _ [6] rfl gw_wsX11_in
set_option maxRecDepth 20000 in
theorem gX11_isSmall_X11_in : GoodIn wsX11_isSmall (va_wsS RX11 56 yX11_in wsX11_in) := goodIn_app (goodIn_r _ [3, 4, 5] (by exact rfl) (by decide +kernel)) ggX11_isSmall_X11_in
theorem dX11_isSmall_0 : decode cX11_isSmall 0 = .ok (.iload_n 0, 1) := by decide +kernel
theorem dX11_isSmall_1 : decode cX11_isSmall 1 = .ok (.i2l, 1) := by decide +kernel
theorem dX11_isSmall_2 : decode cX11_isSmall 2 = .ok (.ldc2_w 214, 3) := by decide +kernel
theorem dX11_isSmall_5 : decode cX11_isSmall 5 = .ok (.ldc2_w 216, 3) := by decide +kernel
theorem dX11_isSmall_8 : decode cX11_isSmall 8 = .ok (.invokestatic 56, 3) := by decide +kernel
theorem dX11_isSmall_11 : decode cX11_isSmall 11 = .ok (.ireturn, 1) := by decide +kernel
set_option maxRecDepth 20000 in
theorem ggX11_isFigure_X11_in : GoodIn wsX11_isFigure wsX11_in := goodIn_r _ [6] rfl gw_wsX11_in
set_option maxRecDepth 20000 in
theorem gX11_isFigure_X11_in : GoodIn wsX11_isFigure (va_wsS RX11 56 yX11_in wsX11_in) := goodIn_app (goodIn_r _ [3, 4, 5] (by exact rfl) (by decide +kernel)) ggX11_isFigure_X11_in
theorem dX11_isFigure_0 : decode cX11_isFigure 0 = .ok (.iload_n 0, 1) := by decide +kernel
theorem dX11_isFigure_1 : decode cX11_isFigure 1 = .ok (.i2l, 1) := by decide +kernel
theorem dX11_isFigure_2 : decode cX11_isFigure 2 = .ok (.ldc2_w 218, 3) := by decide +kernel
theorem dX11_isFigure_5 : decode cX11_isFigure 5 = .ok (.ldc2_w 220, 3) := by decide +kernel
theorem dX11_isFigure_8 : decode cX11_isFigure 8 = .ok (.invokestatic 56, 3) := by decide +kernel
theorem dX11_isFigure_11 : decode cX11_isFigure 11 = .ok (.ireturn, 1) := by decide +kernel
set_option maxRecDepth 20000 in
theorem gw_wsX11_isSmall : wsX11_isSmall.all goodWord = true := by decide +kernel
set_option maxRecDepth 20000 in
theorem ggX11_lookAt_X11_isSmall : GoodIn wsX11_lookAt wsX11_isSmall := goodIn_r _ [10, 11, 12, 13, 14, 9, 15] rfl gw_wsX11_isSmall
set_option maxRecDepth 20000 in
theorem gX11_lookAt_X11_isSmall : GoodIn wsX11_lookAt (va_wsS RX11 234 yX11_isSmall wsX11_isSmall) := goodIn_app (goodIn_r _ [7, 8, 9] (by exact rfl) (by decide +kernel)) ggX11_lookAt_X11_isSmall
set_option maxRecDepth 20000 in
theorem gw_wsX11_isFigure : wsX11_isFigure.all goodWord = true := by decide +kernel
set_option maxRecDepth 20000 in
theorem ggX11_lookAt_X11_isFigure : GoodIn wsX11_lookAt wsX11_isFigure := goodIn_r _ [18, 19, 20, 13, 14, 9, 15] rfl gw_wsX11_isFigure
set_option maxRecDepth 20000 in
theorem gX11_lookAt_X11_isFigure : GoodIn wsX11_lookAt (va_wsS RX11 237 yX11_isFigure wsX11_isFigure) := goodIn_app (goodIn_r _ [16, 17, 9] (by exact rfl) (by decide +kernel)) ggX11_lookAt_X11_isFigure
theorem dX11_lookAt_0 : decode cX11_lookAt 0 = .ok (.aload_n 0, 1) := by decide +kernel
theorem dX11_lookAt_1 : decode cX11_lookAt 1 = .ok (.iload_n 1, 1) := by decide +kernel
theorem dX11_lookAt_2 : decode cX11_lookAt 2 = .ok (.putfield 222, 3) := by decide +kernel
theorem dX11_lookAt_5 : decode cX11_lookAt 5 = .ok (.aload_n 0, 1) := by decide +kernel
theorem dX11_lookAt_6 : decode cX11_lookAt 6 = .ok (.getfield 222, 3) := by decide +kernel
theorem dX11_lookAt_9 : decode cX11_lookAt 9 = .ok (.aload_n 0, 1) := by decide +kernel
theorem dX11_lookAt_10 : decode cX11_lookAt 10 = .ok (.getfield 210, 3) := by decide +kernel
theorem dX11_lookAt_13 : decode cX11_lookAt 13 = .ok (.if_icmp .ge 30, 3) := by decide +kernel
theorem dX11_lookAt_16 : decode cX11_lookAt 16 = .ok (.aload_n 0, 1) := by decide +kernel
theorem dX11_lookAt_17 : decode cX11_lookAt 17 = .ok (.getfield 39, 3) := by decide +kernel
theorem dX11_lookAt_20 : decode cX11_lookAt 20 = .ok (.aload_n 0, 1) := by decide +kernel
theorem dX11_lookAt_21 : decode cX11_lookAt 21 = .ok (.getfield 222, 3) := by decide +kernel
theorem dX11_lookAt_24 : decode cX11_lookAt 24 = .ok (.iaload, 1) := by decide +kernel
theorem dX11_lookAt_25 : decode cX11_lookAt 25 = .ok (.bipush 32, 2) := by decide +kernel
theorem dX11_lookAt_27 : decode cX11_lookAt 27 = .ok (.if_icmp .ne 16, 3) := by decide +kernel
theorem dX11_lookAt_30 : decode cX11_lookAt 30 = .ok (.aload_n 0, 1) := by decide +kernel
theorem dX11_lookAt_31 : decode cX11_lookAt 31 = .ok (.dup, 1) := by decide +kernel
theorem dX11_lookAt_32 : decode cX11_lookAt 32 = .ok (.getfield 222, 3) := by decide +kernel
theorem dX11_lookAt_35 : decode cX11_lookAt 35 = .ok (.iconst 1, 1) := by decide +kernel
theorem dX11_lookAt_36 : decode cX11_lookAt 36 = .ok (.iadd, 1) := by decide +kernel
theorem dX11_lookAt_37 : decode cX11_lookAt 37 = .ok (.putfield 222, 3) := by decide +kernel
theorem dX11_lookAt_40 : decode cX11_lookAt 40 = .ok (.goto (-35), 3) := by decide +kernel
theorem dX11_lookAt_43 : decode cX11_lookAt 43 = .ok (.aload_n 0, 1) := by decide +kernel
theorem dX11_lookAt_44 : decode cX11_lookAt 44 = .ok (.iconst 0, 1) := by decide +kernel
theorem dX11_lookAt_45 : decode cX11_lookAt 45 = .ok (.putfield 225, 3) := by decide +kernel
theorem dX11_lookAt_48 : decode cX11_lookAt 48 = .ok (.aload_n 0, 1) := by decide +kernel
theorem dX11_lookAt_49 : decode cX11_lookAt 49 = .ok (.iconst 0, 1) := by decide +kernel
theorem dX11_lookAt_50 : decode cX11_lookAt 50 = .ok (.putfield 228, 3) := by decide +kernel
theorem dX11_lookAt_53 : decode cX11_lookAt 53 = .ok (.aload_n 0, 1) := by decide +kernel
theorem dX11_lookAt_54 : decode cX11_lookAt 54 = .ok (.iconst 0, 1) := by decide +kernel
theorem dX11_lookAt_55 : decode cX11_lookAt 55 = .ok (.putfield 231, 3) := by decide +kernel
theorem dX11_lookAt_58 : decode cX11_lookAt 58 = .ok (.aload_n 0, 1) := by decide +kernel
theorem dX11_lookAt_59 : decode cX11_lookAt 59 = .ok (.getfield 222, 3) := by decide +kernel
theorem dX11_lookAt_62 : decode cX11_lookAt 62 = .ok (.aload_n 0, 1) := by decide +kernel
theorem dX11_lookAt_63 : decode cX11_lookAt 63 = .ok (.getfield 210, 3) := by decide +kernel
theorem dX11_lookAt_66 : decode cX11_lookAt 66 = .ok (.if_icmp .ne 4, 3) := by decide +kernel
theorem dX11_lookAt_69 : decode cX11_lookAt 69 = .ok (.return_, 1) := by decide +kernel
theorem dX11_lookAt_70 : decode cX11_lookAt 70 = .ok (.aload_n 0, 1) := by decide +kernel
theorem dX11_lookAt_71 : decode cX11_lookAt 71 = .ok (.getfield 39, 3) := by decide +kernel
theorem dX11_lookAt_74 : decode cX11_lookAt 74 = .ok (.aload_n 0, 1) := by decide +kernel
theorem dX11_lookAt_75 : decode cX11_lookAt 75 = .ok (.getfield 222, 3) := by decide +kernel
theorem dX11_lookAt_78 : decode cX11_lookAt 78 = .ok (.iaload, 1) := by decide +kernel
theorem dX11_lookAt_79 : decode cX11_lookAt 79 = .ok (.istore_n 2, 1) := by decide +kernel
theorem dX11_lookAt_80 : decode cX11_lookAt 80 = .ok (.aload_n 0, 1) := by decide +kernel
theorem dX11_lookAt_81 : decode cX11_lookAt 81 = .ok (.iload_n 2, 1) := by decide +kernel
theorem dX11_lookAt_82 : decode cX11_lookAt 82 = .ok (.invokestatic 234, 3) := by decide +kernel
theorem dX11_lookAt_85 : decode cX11_lookAt 85 = .ok (.ifCond .eq 7, 3) := by decide +kernel
theorem dX11_lookAt_88 : decode cX11_lookAt 88 = .ok (.iconst 1, 1) := by decide +kernel
theorem dX11_lookAt_89 : decode cX11_lookAt 89 = .ok (.goto 25, 3) := by decide +kernel
theorem dX11_lookAt_92 : decode cX11_lookAt 92 = .ok (.iload_n 2, 1) := by decide +kernel
theorem dX11_lookAt_93 : decode cX11_lookAt 93 = .ok (.invokestatic 237, 3) := by decide +kernel
theorem dX11_lookAt_96 : decode cX11_lookAt 96 = .ok (.ifCond .eq 7, 3) := by decide +kernel
theorem dX11_lookAt_99 : decode cX11_lookAt 99 = .ok (.iconst 2, 1) := by decide +kernel
theorem dX11_lookAt_100 : decode cX11_lookAt 100 = .ok (.goto 14, 3) := by decide +kernel
theorem dX11_lookAt_103 : decode cX11_lookAt 103 = .ok (.iload_n 2, 1) := by decide +kernel
theorem dX11_lookAt_104 : decode cX11_lookAt 104 = .ok (.bipush 59, 2) := by decide +kernel
theorem dX11_lookAt_106 : decode cX11_lookAt 106 = .ok (.if_icmp .ne 7, 3) := by decide +kernel
theorem dX11_lookAt_109 : decode cX11_lookAt 109 = .ok (.iconst 3, 1) := by decide +kernel
theorem dX11_lookAt_110 : decode cX11_lookAt 110 = .ok (.goto 4, 3) := by decide +kernel
theorem dX11_lookAt_113 : decode cX11_lookAt 113 = .ok (.iconst 4, 1) := by decide +kernel
theorem dX11_lookAt_114 : decode cX11_lookAt 114 = .ok (.putfield 228, 3) := by decide +kernel
theorem dX11_lookAt_117 : decode cX11_lookAt 117 = .ok (.aload_n 0, 1) := by decide +kernel
theorem dX11_lookAt_118 : decode cX11_lookAt 118 = .ok (.iconst 1, 1) := by decide +kernel
theorem dX11_lookAt_119 : decode cX11_lookAt 119 = .ok (.putfield 225, 3) := by decide +kernel
theorem dX11_lookAt_122 : decode cX11_lookAt 122 = .ok (.aload_n 0, 1) := by decide +kernel
theorem dX11_lookAt_123 : decode cX11_lookAt 123 = .ok (.getfield 228, 3) := by decide +kernel
theorem dX11_lookAt_126 : decode cX11_lookAt 126 = .ok (.iconst 3, 1) := by decide +kernel
theorem dX11_lookAt_127 : decode cX11_lookAt 127 = .ok (.if_icmp .ge 7, 3) := by decide +kernel
theorem dX11_lookAt_130 : decode cX11_lookAt 130 = .ok (.iconst 1, 1) := by decide +kernel
theorem dX11_lookAt_131 : decode cX11_lookAt 131 = .ok (.goto 4, 3) := by decide +kernel
theorem dX11_lookAt_134 : decode cX11_lookAt 134 = .ok (.iconst 0, 1) := by decide +kernel
theorem dX11_lookAt_135 : decode cX11_lookAt 135 = .ok (.istore_n 3, 1) := by decide +kernel
theorem dX11_lookAt_136 : decode cX11_lookAt 136 = .ok (.iload_n 3, 1) := by decide +kernel
theorem dX11_lookAt_137 : decode cX11_lookAt 137 = .ok (.ifCond .eq 78, 3) := by decide +kernel
theorem dX11_lookAt_140 : decode cX11_lookAt 140 = .ok (.aload_n 0, 1) := by decide +kernel
theorem dX11_lookAt_141 : decode cX11_lookAt 141 = .ok (.getfield 222, 3) := by decide +kernel
theorem dX11_lookAt_144 : decode cX11_lookAt 144 = .ok (.aload_n 0, 1) := by decide +kernel
theorem dX11_lookAt_145 : decode cX11_lookAt 145 = .ok (.getfield 225, 3) := by decide +kernel
theorem dX11_lookAt_148 : decode cX11_lookAt 148 = .ok (.iadd, 1) := by decide +kernel
theorem dX11_lookAt_149 : decode cX11_lookAt 149 = .ok (.aload_n 0, 1) := by decide +kernel
theorem dX11_lookAt_150 : decode cX11_lookAt 150 = .ok (.getfield 210, 3) := by decide +kernel
theorem dX11_lookAt_153 : decode cX11_lookAt 153 = .ok (.if_icmp .ge 62, 3) := by decide +kernel
theorem dX11_lookAt_156 : decode cX11_lookAt 156 = .ok (.aload_n 0, 1) := by decide +kernel
theorem dX11_lookAt_157 : decode cX11_lookAt 157 = .ok (.getfield 39, 3) := by decide +kernel
theorem dX11_lookAt_160 : decode cX11_lookAt 160 = .ok (.aload_n 0, 1) := by decide +kernel
theorem dX11_lookAt_161 : decode cX11_lookAt 161 = .ok (.getfield 222, 3) := by decide +kernel
theorem dX11_lookAt_164 : decode cX11_lookAt 164 = .ok (.aload_n 0, 1) := by decide +kernel
theorem dX11_lookAt_165 : decode cX11_lookAt 165 = .ok (.getfield 225, 3) := by decide +kernel
theorem dX11_lookAt_168 : decode cX11_lookAt 168 = .ok (.iadd, 1) := by decide +kernel
theorem dX11_lookAt_169 : decode cX11_lookAt 169 = .ok (.iaload, 1) := by decide +kernel
theorem dX11_lookAt_170 : decode cX11_lookAt 170 = .ok (.istore 4, 2) := by decide +kernel
theorem dX11_lookAt_172 : decode cX11_lookAt 172 = .ok (.aload_n 0, 1) := by decide +kernel
theorem dX11_lookAt_173 : decode cX11_lookAt 173 = .ok (.getfield 228, 3) := by decide +kernel
theorem dX11_lookAt_176 : decode cX11_lookAt 176 = .ok (.iconst 1, 1) := by decide +kernel
theorem dX11_lookAt_177 : decode cX11_lookAt 177 = .ok (.if_icmp .ne 11, 3) := by decide +kernel
theorem dX11_lookAt_180 : decode cX11_lookAt 180 = .ok (.iload 4, 2) := by decide +kernel
theorem dX11_lookAt_182 : decode cX11_lookAt 182 = .ok (.invokestatic 234, 3) := by decide +kernel
theorem dX11_lookAt_185 : decode cX11_lookAt 185 = .ok (.goto 8, 3) := by decide +kernel
theorem dX11_lookAt_188 : decode cX11_lookAt 188 = .ok (.iload 4, 2) := by decide +kernel
theorem dX11_lookAt_190 : decode cX11_lookAt 190 = .ok (.invokestatic 237, 3) := by decide +kernel
theorem dX11_lookAt_193 : decode cX11_lookAt 193 = .ok (.istore_n 3, 1) := by decide +kernel
theorem dX11_lookAt_194 : decode cX11_lookAt 194 = .ok (.aload_n 0, 1) := by decide +kernel
theorem dX11_lookAt_195 : decode cX11_lookAt 195 = .ok (.dup, 1) := by decide +kernel
theorem dX11_lookAt_196 : decode cX11_lookAt 196 = .ok (.getfield 225, 3) := by decide +kernel
theorem dX11_lookAt_199 : decode cX11_lookAt 199 = .ok (.iload_n 3, 1) := by decide +kernel
theorem dX11_lookAt_200 : decode cX11_lookAt 200 = .ok (.ifCond .eq 7, 3) := by decide +kernel
theorem dX11_lookAt_203 : decode cX11_lookAt 203 = .ok (.iconst 1, 1) := by decide +kernel
theorem dX11_lookAt_204 : decode cX11_lookAt 204 = .ok (.goto 4, 3) := by decide +kernel
theorem dX11_lookAt_207 : decode cX11_lookAt 207 = .ok (.iconst 0, 1) := by decide +kernel
theorem dX11_lookAt_208 : decode cX11_lookAt 208 = .ok (.iadd, 1) := by decide +kernel
theorem dX11_lookAt_209 : decode cX11_lookAt 209 = .ok (.putfield 225, 3) := by decide +kernel
theorem dX11_lookAt_212 : decode cX11_lookAt 212 = .ok (.goto (-76), 3) := by decide +kernel
theorem dX11_lookAt_215 : decode cX11_lookAt 215 = .ok (.iconst 0, 1) := by decide +kernel
theorem dX11_lookAt_216 : decode cX11_lookAt 216 = .ok (.istore 4, 2) := by decide +kernel
theorem dX11_lookAt_218 : decode cX11_lookAt 218 = .ok (.iload 4, 2) := by decide +kernel
theorem dX11_lookAt_220 : decode cX11_lookAt 220 = .ok (.aload_n 0, 1) := by decide +kernel
theorem dX11_lookAt_221 : decode cX11_lookAt 221 = .ok (.getfield 225, 3) := by decide +kernel
theorem dX11_lookAt_224 : decode cX11_lookAt 224 = .ok (.if_icmp .ge 50, 3) := by decide +kernel
theorem dX11_lookAt_227 : decode cX11_lookAt 227 = .ok (.iload 4, 2) := by decide +kernel
theorem dX11_lookAt_229 : decode cX11_lookAt 229 = .ok (.iconst 2, 1) := by decide +kernel
theorem dX11_lookAt_230 : decode cX11_lookAt 230 = .ok (.if_icmp .ge 44, 3) := by decide +kernel
theorem dX11_lookAt_233 : decode cX11_lookAt 233 = .ok (.aload_n 0, 1) := by decide +kernel
theorem dX11_lookAt_234 : decode cX11_lookAt 234 = .ok (.getfield 228, 3) := by decide +kernel
theorem dX11_lookAt_237 : decode cX11_lookAt 237 = .ok (.iconst 2, 1) := by decide +kernel
theorem dX11_lookAt_238 : decode cX11_lookAt 238 = .ok (.if_icmp .ne 36, 3) := by decide +kernel
theorem dX11_lookAt_241 : decode cX11_lookAt 241 = .ok (.aload_n 0, 1) := by decide +kernel
theorem dX11_lookAt_242 : decode cX11_lookAt 242 = .ok (.bipush 10, 2) := by decide +kernel
theorem dX11_lookAt_244 : decode cX11_lookAt 244 = .ok (.aload_n 0, 1) := by decide +kernel
theorem dX11_lookAt_245 : decode cX11_lookAt 245 = .ok (.getfield 231, 3) := by decide +kernel
theorem dX11_lookAt_248 : decode cX11_lookAt 248 = .ok (.imul, 1) := by decide +kernel
theorem dX11_lookAt_249 : decode cX11_lookAt 249 = .ok (.aload_n 0, 1) := by decide +kernel
theorem dX11_lookAt_250 : decode cX11_lookAt 250 = .ok (.getfield 39, 3) := by decide +kernel
theorem dX11_lookAt_253 : decode cX11_lookAt 253 = .ok (.aload_n 0, 1) := by decide +kernel
theorem dX11_lookAt_254 : decode cX11_lookAt 254 = .ok (.getfield 222, 3) := by decide +kernel
theorem dX11_lookAt_257 : decode cX11_lookAt 257 = .ok (.iload 4, 2) := by decide +kernel
theorem dX11_lookAt_259 : decode cX11_lookAt 259 = .ok (.iadd, 1) := by decide +kernel
theorem dX11_lookAt_260 : decode cX11_lookAt 260 = .ok (.iaload, 1) := by decide +kernel
theorem dX11_lookAt_261 : decode cX11_lookAt 261 = .ok (.iadd, 1) := by decide +kernel
theorem dX11_lookAt_262 : decode cX11_lookAt 262 = .ok (.bipush 48, 2) := by decide +kernel
theorem dX11_lookAt_264 : decode cX11_lookAt 264 = .ok (.isub, 1) := by decide +kernel
theorem dX11_lookAt_265 : decode cX11_lookAt 265 = .ok (.putfield 231, 3) := by decide +kernel
theorem dX11_lookAt_268 : decode cX11_lookAt 268 = .ok (.iinc 4 1, 3) := by decide +kernel
theorem dX11_lookAt_271 : decode cX11_lookAt 271 = .ok (.goto (-53), 3) := by decide +kernel
theorem dX11_lookAt_274 : decode cX11_lookAt 274 = .ok (.aload_n 0, 1) := by decide +kernel
theorem dX11_lookAt_275 : decode cX11_lookAt 275 = .ok (.aload_n 0, 1) := by decide +kernel
theorem dX11_lookAt_276 : decode cX11_lookAt 276 = .ok (.getfield 228, 3) := by decide +kernel
theorem dX11_lookAt_279 : decode cX11_lookAt 279 = .ok (.iconst 2, 1) := by decide +kernel
theorem dX11_lookAt_280 : decode cX11_lookAt 280 = .ok (.if_icmp .ne 15, 3) := by decide +kernel
theorem dX11_lookAt_283 : decode cX11_lookAt 283 = .ok (.aload_n 0, 1) := by decide +kernel
theorem dX11_lookAt_284 : decode cX11_lookAt 284 = .ok (.getfield 225, 3) := by decide +kernel
theorem dX11_lookAt_287 : decode cX11_lookAt 287 = .ok (.iconst 2, 1) := by decide +kernel
theorem dX11_lookAt_288 : decode cX11_lookAt 288 = .ok (.if_icmp .le 7, 3) := by decide +kernel
theorem dX11_lookAt_291 : decode cX11_lookAt 291 = .ok (.iconst 4, 1) := by decide +kernel
theorem dX11_lookAt_292 : decode cX11_lookAt 292 = .ok (.goto 7, 3) := by decide +kernel
theorem dX11_lookAt_295 : decode cX11_lookAt 295 = .ok (.aload_n 0, 1) := by decide +kernel
theorem dX11_lookAt_296 : decode cX11_lookAt 296 = .ok (.getfield 228, 3) := by decide +kernel
theorem dX11_lookAt_299 : decode cX11_lookAt 299 = .ok (.putfield 228, 3) := by decide +kernel
theorem dX11_lookAt_302 : decode cX11_lookAt 302 = .ok (.return_, 1) := by decide +kernel
set_option maxRecDepth 20000 in
theorem gw_wsX11_lookAt : wsX11_lookAt.all goodWord = true := by decide +kernel
set_option maxRecDepth 20000 in
theorem ggX11_goBehind_X11_lookAt : GoodIn wsX11_goBehind wsX11_lookAt := goodIn_r _ [7, 1, 8, 9, 2, 10, 11, 12, 13, 6, 14, 15, 16, 17, 18, 19, 20, 21, 22, 23, 24, 25, 26, 27, 28, 29, 30, 31, 32, 33, 34, 35, 36, 37, 38, 39, 40, 41, 42] rfl gw_wsX11_lookAt
set_option maxRecDepth 20000 in
theorem gX11_goBehind_X11_lookAt : GoodIn wsX11_goBehind (wsV RX11 240 RX11 yX11_lookAt wsX11_lookAt) := goodIn_app (goodIn_r _ [3, 4, 5, 6] (by exact rfl) (by decide +kernel)) ggX11_goBehind_X11_lookAt
theorem dX11_goBehind_0 : decode cX11_goBehind 0 = .ok (.aload_n 0, 1) := by decide +kernel
theorem dX11_goBehind_1 : decode cX11_goBehind 1 = .ok (.aload_n 0, 1) := by decide +kernel
theorem dX11_goBehind_2 : decode cX11_goBehind 2 = .ok (.getfield 222, 3) := by decide +kernel
theorem dX11_goBehind_5 : decode cX11_goBehind 5 = .ok (.aload_n 0, 1) := by decide +kernel
theorem dX11_goBehind_6 : decode cX11_goBehind 6 = .ok (.getfield 225, 3) := by decide +kernel
theorem dX11_goBehind_9 : decode cX11_goBehind 9 = .ok (.iadd, 1) := by decide +kernel
theorem dX11_goBehind_10 : decode cX11_goBehind 10 = .ok (.invokevirtual 240, 3) := by decide +kernel
theorem dX11_goBehind_13 : decode cX11_goBehind 13 = .ok (.return_, 1) := by decide +kernel
theorem dX11_spells_0 : decode cX11_spells 0 = .ok (.aload_n 0, 1) := by decide +kernel
theorem dX11_spells_1 : decode cX11_spells 1 = .ok (.getfield 228, 3) := by decide +kernel
theorem dX11_spells_4 : decode cX11_spells 4 = .ok (.iconst 1, 1) := by decide +kernel
theorem dX11_spells_5 : decode cX11_spells 5 = .ok (.if_icmp .ne 15, 3) := by decide +kernel
theorem dX11_spells_8 : decode cX11_spells 8 = .ok (.aload_n 0, 1) := by decide +kernel
theorem dX11_spells_9 : decode cX11_spells 9 = .ok (.getfield 225, 3) := by decide +kernel
theorem dX11_spells_12 : decode cX11_spells 12 = .ok (.iload_n 1, 1) := by decide +kernel
theorem dX11_spells_13 : decode cX11_spells 13 = .ok (.if_icmp .ne 7, 3) := by decide +kernel
theorem dX11_spells_16 : decode cX11_spells 16 = .ok (.iconst 1, 1) := by decide +kernel
theorem dX11_spells_17 : decode cX11_spells 17 = .ok (.goto 4, 3) := by decide +kernel
theorem dX11_spells_20 : decode cX11_spells 20 = .ok (.iconst 0, 1) := by decide +kernel
theorem dX11_spells_21 : decode cX11_spells 21 = .ok (.istore 8, 2) := by decide +kernel
theorem dX11_spells_23 : decode cX11_spells 23 = .ok (.iconst 0, 1) := by decide +kernel
theorem dX11_spells_24 : decode cX11_spells 24 = .ok (.istore 9, 2) := by decide +kernel
theorem dX11_spells_26 : decode cX11_spells 26 = .ok (.iload 9, 2) := by decide +kernel
theorem dX11_spells_28 : decode cX11_spells 28 = .ok (.iload_n 1, 1) := by decide +kernel
theorem dX11_spells_29 : decode cX11_spells 29 = .ok (.if_icmp .ge 90, 3) := by decide +kernel
theorem dX11_spells_32 : decode cX11_spells 32 = .ok (.iload 8, 2) := by decide +kernel
theorem dX11_spells_34 : decode cX11_spells 34 = .ok (.ifCond .eq 85, 3) := by decide +kernel
theorem dX11_spells_37 : decode cX11_spells 37 = .ok (.aload_n 0, 1) := by decide +kernel
theorem dX11_spells_38 : decode cX11_spells 38 = .ok (.getfield 39, 3) := by decide +kernel
theorem dX11_spells_41 : decode cX11_spells 41 = .ok (.aload_n 0, 1) := by decide +kernel
theorem dX11_spells_42 : decode cX11_spells 42 = .ok (.getfield 222, 3) := by decide +kernel
theorem dX11_spells_45 : decode cX11_spells 45 = .ok (.iload 9, 2) := by decide +kernel
theorem dX11_spells_47 : decode cX11_spells 47 = .ok (.iadd, 1) := by decide +kernel
theorem dX11_spells_48 : decode cX11_spells 48 = .ok (.iaload, 1) := by decide +kernel
theorem dX11_spells_49 : decode cX11_spells 49 = .ok (.iload 9, 2) := by decide +kernel
theorem dX11_spells_51 : decode cX11_spells 51 = .ok (.ifCond .ne 7, 3) := by decide +kernel
theorem dX11_spells_54 : decode cX11_spells 54 = .ok (.iload_n 2, 1) := by decide +kernel
theorem dX11_spells_55 : decode cX11_spells 55 = .ok (.goto 48, 3) := by decide +kernel
theorem dX11_spells_58 : decode cX11_spells 58 = .ok (.iload 9, 2) := by decide +kernel
theorem dX11_spells_60 : decode cX11_spells 60 = .ok (.iconst 1, 1) := by decide +kernel
theorem dX11_spells_61 : decode cX11_spells 61 = .ok (.if_icmp .ne 7, 3) := by decide +kernel
theorem dX11_spells_64 : decode cX11_spells 64 = .ok (.iload_n 3, 1) := by decide +kernel
theorem dX11_spells_65 : decode cX11_spells 65 = .ok (.goto 38, 3) := by decide +kernel
theorem dX11_spells_68 : decode cX11_spells 68 = .ok (.iload 9, 2) := by decide +kernel
theorem dX11_spells_70 : decode cX11_spells 70 = .ok (.iconst 2, 1) := by decide +kernel
theorem dX11_spells_71 : decode cX11_spells 71 = .ok (.if_icmp .ne 8, 3) := by decide +kernel
theorem dX11_spells_74 : decode cX11_spells 74 = .ok (.iload 4, 2) := by decide +kernel
theorem dX11_spells_76 : decode cX11_spells 76 = .ok (.goto 27, 3) := by decide +kernel
theorem dX11_spells_79 : decode cX11_spells 79 = .ok (.iload 9, 2) := by decide +kernel
theorem dX11_spells_81 : decode cX11_spells 81 = .ok (.iconst 3, 1) := by decide +kernel
theorem dX11_spells_82 : decode cX11_spells 82 = .ok (.if_icmp .ne 8, 3) := by decide +kernel
theorem dX11_spells_85 : decode cX11_spells 85 = .ok (.iload 5, 2) := by decide +kernel
theorem dX11_spells_87 : decode cX11_spells 87 = .ok (.goto 16, 3) := by decide +kernel
theorem dX11_spells_90 : decode cX11_spells 90 = .ok (.iload 9, 2) := by decide +kernel
theorem dX11_spells_92 : decode cX11_spells 92 = .ok (.iconst 4, 1) := by decide +kernel
theorem dX11_spells_93 : decode cX11_spells 93 = .ok (.if_icmp .ne 8, 3) := by decide +kernel
theorem dX11_spells_96 : decode cX11_spells 96 = .ok (.iload 6, 2) := by decide +kernel
theorem dX11_spells_98 : decode cX11_spells 98 = .ok (.goto 5, 3) := by decide +kernel
theorem dX11_spells_101 : decode cX11_spells 101 = .ok (.iload 7, 2) := by decide +kernel
theorem dX11_spells_103 : decode cX11_spells 103 = .ok (.if_icmp .ne 7, 3) := by decide +kernel
theorem dX11_spells_106 : decode cX11_spells 106 = .ok (.iconst 1, 1) := by decide +kernel
theorem dX11_spells_107 : decode cX11_spells 107 = .ok (.goto 4, 3) := by decide +kernel
theorem dX11_spells_110 : decode cX11_spells 110 = .ok (.iconst 0, 1) := by decide +kernel
theorem dX11_spells_111 : decode cX11_spells 111 = .ok (.istore 8, 2) := by decide +kernel
theorem dX11_spells_113 : decode cX11_spells 113 = .ok (.iinc 9 1, 3) := by decide +kernel
theorem dX11_spells_116 : decode cX11_spells 116 = .ok (.goto (-90), 3) := by decide +kernel
theorem dX11_spells_119 : decode cX11_spells 119 = .ok (.iload 8, 2) := by decide +kernel
theorem dX11_spells_121 : decode cX11_spells 121 = .ok (.ireturn, 1) := by decide +kernel
set_option maxRecDepth 20000 in
theorem ggX11_takes_X11_in : GoodIn wsX11_takes wsX11_in := goodIn_r _ [7] rfl gw_wsX11_in
set_option maxRecDepth 20000 in
theorem gX11_takes_X11_in : GoodIn wsX11_takes (va_wsS RX11 56 yX11_in wsX11_in) := goodIn_app (goodIn_r _ [4, 5, 6] (by exact rfl) (by decide +kernel)) ggX11_takes_X11_in
set_option maxRecDepth 20000 in
theorem gw_wsX11_goBehind : wsX11_goBehind.all goodWord = true := by decide +kernel
set_option maxRecDepth 20000 in
theorem ggX11_takes_X11_goBehind : GoodIn wsX11_takes wsX11_goBehind := goodIn_r _ [11, 12, 13, 14, 15, 16, 6, 17, 18, 19, 1, 2, 20, 21, 22, 23, 24, 4, 5, 7, 25, 26, 27, 28, 29, 30, 31, 32, 33, 34, 35, 36, 37, 38, 39, 40, 41, 42, 43, 44, 45, 46, 47] rfl gw_wsX11_goBehind
set_option maxRecDepth 20000 in
theorem gX11_takes_X11_goBehind : GoodIn wsX11_takes (wsV RX11 244 RX11 yX11_goBehind wsX11_goBehind) := goodIn_app (goodIn_r _ [8, 9, 10, 6] (by exact rfl) (by decide +kernel)) ggX11_takes_X11_goBehind
theorem dX11_takes_0 : decode cX11_takes 0 = .ok (.aload_n 0, 1) := by decide +kernel
theorem dX11_takes_1 : decode cX11_takes 1 = .ok (.getfield 228, 3) := by decide +kernel
theorem dX11_takes_4 : decode cX11_takes 4 = .ok (.iconst 2, 1) := by decide +kernel
theorem dX11_takes_5 : decode cX11_takes 5 = .ok (.if_icmp .ne 18, 3) := by decide +kernel
theorem dX11_takes_8 : decode cX11_takes 8 = .ok (.aload_n 0, 1) := by decide +kernel
theorem dX11_takes_9 : decode cX11_takes 9 = .ok (.getfield 231, 3) := by decide +kernel
theorem dX11_takes_12 : decode cX11_takes 12 = .ok (.i2l, 1) := by decide +kernel
theorem dX11_takes_13 : decode cX11_takes 13 = .ok (.iload_n 2, 1) := by decide +kernel
theorem dX11_takes_14 : decode cX11_takes 14 = .ok (.i2l, 1) := by decide +kernel
theorem dX11_takes_15 : decode cX11_takes 15 = .ok (.iload_n 3, 1) := by decide +kernel
theorem dX11_takes_16 : decode cX11_takes 16 = .ok (.i2l, 1) := by decide +kernel
theorem dX11_takes_17 : decode cX11_takes 17 = .ok (.invokestatic 56, 3) := by decide +kernel
theorem dX11_takes_20 : decode cX11_takes 20 = .ok (.ifCond .ne 5, 3) := by decide +kernel
theorem dX11_takes_23 : decode cX11_takes 23 = .ok (.iconst 0, 1) := by decide +kernel
theorem dX11_takes_24 : decode cX11_takes 24 = .ok (.ireturn, 1) := by decide +kernel
theorem dX11_takes_25 : decode cX11_takes 25 = .ok (.aload_n 0, 1) := by decide +kernel
theorem dX11_takes_26 : decode cX11_takes 26 = .ok (.getfield 45, 3) := by decide +kernel
theorem dX11_takes_29 : decode cX11_takes 29 = .ok (.iload_n 1, 1) := by decide +kernel
theorem dX11_takes_30 : decode cX11_takes 30 = .ok (.aload_n 0, 1) := by decide +kernel
theorem dX11_takes_31 : decode cX11_takes 31 = .ok (.getfield 231, 3) := by decide +kernel
theorem dX11_takes_34 : decode cX11_takes 34 = .ok (.iastore, 1) := by decide +kernel
theorem dX11_takes_35 : decode cX11_takes 35 = .ok (.aload_n 0, 1) := by decide +kernel
theorem dX11_takes_36 : decode cX11_takes 36 = .ok (.invokevirtual 244, 3) := by decide +kernel
theorem dX11_takes_39 : decode cX11_takes 39 = .ok (.iconst 1, 1) := by decide +kernel
theorem dX11_takes_40 : decode cX11_takes 40 = .ok (.ireturn, 1) := by decide +kernel
set_option maxRecDepth 20000 in
theorem gw_wsX11_spells : wsX11_spells.all goodWord = true := by decide +kernel
set_option maxRecDepth 20000 in
theorem ggX11_takesParish_X11_spells : GoodIn wsX11_takesParish wsX11_spells := goodIn_r _ [8, 3, 9, 10, 11, 42, 43, 44, 45, 46, 47, 48, 49, 50, 51, 52, 53, 54, 55, 56, 57, 58, 59] rfl gw_wsX11_spells
set_option maxRecDepth 20000 in
theorem gX11_takesParish_X11_spells : GoodIn wsX11_takesParish (wsV RX11 247 RX11 yX11_spells wsX11_spells) := goodIn_app (goodIn_r _ [4, 5, 6, 7] (by exact rfl) (by decide +kernel)) ggX11_takesParish_X11_spells
set_option maxRecDepth 20000 in
theorem ggX11_takesParish_X11_goBehind : GoodIn wsX11_takesParish wsX11_goBehind := goodIn_r _ [15, 11, 9, 16, 17, 18, 7, 19, 20, 10, 3, 21, 22, 23, 24, 25, 26, 27, 28, 29, 30, 31, 32, 33, 34, 42, 43, 44, 45, 46, 47, 48, 49, 50, 51, 52, 53, 54, 55, 56, 57, 58, 59] rfl gw_wsX11_goBehind
set_option maxRecDepth 20000 in
theorem gX11_takesParish_X11_goBehind : GoodIn wsX11_takesParish (wsV RX11 244 RX11 yX11_goBehind wsX11_goBehind) := goodIn_app (goodIn_r _ [12, 13, 14, 7] (by exact rfl) (by decide +kernel)) ggX11_takesParish_X11_goBehind
set_option maxRecDepth 20000 in
theorem gw_wsX11_takes : wsX11_takes.all goodWord = true := by decide +kernel
set_option maxRecDepth 20000 in
theorem ggX11_takesParish_X11_takes : GoodIn wsX11_takesParish wsX11_takes := goodIn_r _ [38, 3, 21, 2, 27, 28, 7, 29, 12, 13, 14, 15, 11, 9, 16, 17, 18, 19, 20, 10, 22, 23, 24, 25, 26, 30, 31, 32, 33, 34, 42, 43, 44, 45, 46, 47, 48, 49, 50, 51, 52, 53, 54, 55, 56, 57, 58, 59] rfl gw_wsX11_takes
set_option maxRecDepth 20000 in
theorem gX11_takesParish_X11_takes : GoodIn wsX11_takesParish (wsV RX11 251 RX11 yX11_takes wsX11_takes) := goodIn_app (goodIn_r _ [35, 36, 37, 7] (by exact rfl) (by decide +kernel)) ggX11_takesParish_X11_takes
set_option maxRecDepth 20000 in
theorem ggX11_takesParish_X11_begin : GoodIn wsX11_takesParish wsX11_begin := goodIn_r _ [41] rfl gw_wsX11_begin
set_option maxRecDepth 20000 in
theorem gX11_takesParish_X11_begin : GoodIn wsX11_takesParish (va_wsS RX11 48 yX11_begin wsX11_begin) := goodIn_app (goodIn_r _ [39, 40, 7] (by exact rfl) (by decide +kernel)) ggX11_takesParish_X11_begin
theorem dX11_takesParish_0 : decode cX11_takesParish 0 = .ok (.aload_n 0, 1) := by decide +kernel
theorem dX11_takesParish_1 : decode cX11_takesParish 1 = .ok (.bipush 6, 2) := by decide +kernel
theorem dX11_takesParish_3 : decode cX11_takesParish 3 = .ok (.bipush 112, 2) := by decide +kernel
theorem dX11_takesParish_5 : decode cX11_takesParish 5 = .ok (.bipush 97, 2) := by decide +kernel
theorem dX11_takesParish_7 : decode cX11_takesParish 7 = .ok (.bipush 114, 2) := by decide +kernel
theorem dX11_takesParish_9 : decode cX11_takesParish 9 = .ok (.bipush 105, 2) := by decide +kernel
theorem dX11_takesParish_11 : decode cX11_takesParish 11 = .ok (.bipush 115, 2) := by decide +kernel
theorem dX11_takesParish_13 : decode cX11_takesParish 13 = .ok (.bipush 104, 2) := by decide +kernel
theorem dX11_takesParish_15 : decode cX11_takesParish 15 = .ok (.invokevirtual 247, 3) := by decide +kernel
theorem dX11_takesParish_18 : decode cX11_takesParish 18 = .ok (.ifCond .ne 5, 3) := by decide +kernel
theorem dX11_takesParish_21 : decode cX11_takesParish 21 = .ok (.iconst 0, 1) := by decide +kernel
theorem dX11_takesParish_22 : decode cX11_takesParish 22 = .ok (.ireturn, 1) := by decide +kernel
theorem dX11_takesParish_23 : decode cX11_takesParish 23 = .ok (.aload_n 0, 1) := by decide +kernel
theorem dX11_takesParish_24 : decode cX11_takesParish 24 = .ok (.invokevirtual 244, 3) := by decide +kernel
theorem dX11_takesParish_27 : decode cX11_takesParish 27 = .ok (.aload_n 0, 1) := by decide +kernel
theorem dX11_takesParish_28 : decode cX11_takesParish 28 = .ok (.iconst 0, 1) := by decide +kernel
theorem dX11_takesParish_29 : decode cX11_takesParish 29 = .ok (.iconst 0, 1) := by decide +kernel
theorem dX11_takesParish_30 : decode cX11_takesParish 30 = .ok (.bipush 9, 2) := by decide +kernel
theorem dX11_takesParish_32 : decode cX11_takesParish 32 = .ok (.invokevirtual 251, 3) := by decide +kernel
theorem dX11_takesParish_35 : decode cX11_takesParish 35 = .ok (.ifCond .ne 5, 3) := by decide +kernel
theorem dX11_takesParish_38 : decode cX11_takesParish 38 = .ok (.iconst 0, 1) := by decide +kernel
theorem dX11_takesParish_39 : decode cX11_takesParish 39 = .ok (.ireturn, 1) := by decide +kernel
theorem dX11_takesParish_40 : decode cX11_takesParish 40 = .ok (.aload_n 0, 1) := by decide +kernel
theorem dX11_takesParish_41 : decode cX11_takesParish 41 = .ok (.getfield 42, 3) := by decide +kernel
theorem dX11_takesParish_44 : decode cX11_takesParish 44 = .ok (.aload_n 0, 1) := by decide +kernel
theorem dX11_takesParish_45 : decode cX11_takesParish 45 = .ok (.getfield 45, 3) := by decide +kernel
theorem dX11_takesParish_48 : decode cX11_takesParish 48 = .ok (.iconst 0, 1) := by decide +kernel
theorem dX11_takesParish_49 : decode cX11_takesParish 49 = .ok (.iaload, 1) := by decide +kernel
theorem dX11_takesParish_50 : decode cX11_takesParish 50 = .ok (.invokestatic 48, 3) := by decide +kernel
theorem dX11_takesParish_53 : decode cX11_takesParish 53 = .ok (.aload_n 0, 1) := by decide +kernel
theorem dX11_takesParish_54 : decode cX11_takesParish 54 = .ok (.getfield 228, 3) := by decide +kernel
theorem dX11_takesParish_57 : decode cX11_takesParish 57 = .ok (.iconst 3, 1) := by decide +kernel
theorem dX11_takesParish_58 : decode cX11_takesParish 58 = .ok (.if_icmp .ne 7, 3) := by decide +kernel
theorem dX11_takesParish_61 : decode cX11_takesParish 61 = .ok (.iconst 1, 1) := by decide +kernel
theorem dX11_takesParish_62 : decode cX11_takesParish 62 = .ok (.goto 4, 3) := by decide +kernel
theorem dX11_takesParish_65 : decode cX11_takesParish 65 = .ok (.iconst 0, 1) := by decide +kernel
theorem dX11_takesParish_66 : decode cX11_takesParish 66 = .ok (.ireturn, 1) := by decide +kernel
set_option maxRecDepth 20000 in
theorem ggX11_takesField_X11_goBehind : GoodIn wsX11_takesField wsX11_goBehind := goodIn_r _ [7, 8, 9, 10, 11, 12, 6, 13, 14, 15, 16, 17, 18, 19, 20, 21, 22, 23, 24, 25, 26, 27, 28, 29, 30, 38, 39, 40, 41, 42, 43, 44, 45, 46, 47, 48, 49, 50, 51, 52, 53, 54, 55] rfl gw_wsX11_goBehind
set_option maxRecDepth 20000 in
theorem gX11_takesField_X11_goBehind : GoodIn wsX11_takesField (wsV RX11 244 RX11 yX11_goBehind wsX11_goBehind) := goodIn_app (goodIn_r _ [3, 4, 5, 6] (by exact rfl) (by decide +kernel)) ggX11_takesField_X11_goBehind
set_option maxRecDepth 20000 in
theorem ggX11_takesField_X11_takes : GoodIn wsX11_takesField wsX11_takes := goodIn_r _ [34, 16, 17, 2, 23, 24, 6, 25, 3, 4, 5, 7, 8, 9, 10, 11, 12, 13, 14, 15, 18, 19, 20, 21, 22, 26, 27, 28, 29, 30, 38, 39, 40, 41, 42, 43, 44, 45, 46, 47, 48, 49, 50, 51, 52, 53, 54, 55] rfl gw_wsX11_takes
set_option maxRecDepth 20000 in
theorem gX11_takesField_X11_takes : GoodIn wsX11_takesField (wsV RX11 251 RX11 yX11_takes wsX11_takes) := goodIn_app (goodIn_r _ [31, 32, 33, 6] (by exact rfl) (by decide +kernel)) ggX11_takesField_X11_takes
set_option maxRecDepth 20000 in
theorem ggX11_takesField_X11_layField : GoodIn wsX11_takesField wsX11_layField := goodIn_r _ [37] rfl gw_wsX11_layField
set_option maxRecDepth 20000 in
theorem gX11_takesField_X11_layField : GoodIn wsX11_takesField (va_wsS RX11 85 yX11_layField wsX11_layField) := goodIn_app (goodIn_r _ [35, 36, 6] (by exact rfl) (by decide +kernel)) ggX11_takesField_X11_layField
theorem dX11_takesField_0 : decode cX11_takesField 0 = .ok (.aload_n 0, 1) := by decide +kernel
theorem dX11_takesField_1 : decode cX11_takesField 1 = .ok (.getfield 42, 3) := by decide +kernel
theorem dX11_takesField_4 : decode cX11_takesField 4 = .ok (.iconst 0, 1) := by decide +kernel
theorem dX11_takesField_5 : decode cX11_takesField 5 = .ok (.iaload, 1) := by decide +kernel
theorem dX11_takesField_6 : decode cX11_takesField 6 = .ok (.bipush 6, 2) := by decide +kernel
theorem dX11_takesField_8 : decode cX11_takesField 8 = .ok (.if_icmp .ne 5, 3) := by decide +kernel
theorem dX11_takesField_11 : decode cX11_takesField 11 = .ok (.iconst 0, 1) := by decide +kernel
theorem dX11_takesField_12 : decode cX11_takesField 12 = .ok (.ireturn, 1) := by decide +kernel
theorem dX11_takesField_13 : decode cX11_takesField 13 = .ok (.aload_n 0, 1) := by decide +kernel
theorem dX11_takesField_14 : decode cX11_takesField 14 = .ok (.invokevirtual 244, 3) := by decide +kernel
theorem dX11_takesField_17 : decode cX11_takesField 17 = .ok (.aload_n 0, 1) := by decide +kernel
theorem dX11_takesField_18 : decode cX11_takesField 18 = .ok (.iconst 0, 1) := by decide +kernel
theorem dX11_takesField_19 : decode cX11_takesField 19 = .ok (.iconst 0, 1) := by decide +kernel
theorem dX11_takesField_20 : decode cX11_takesField 20 = .ok (.iconst 5, 1) := by decide +kernel
theorem dX11_takesField_21 : decode cX11_takesField 21 = .ok (.invokevirtual 251, 3) := by decide +kernel
theorem dX11_takesField_24 : decode cX11_takesField 24 = .ok (.ifCond .eq 14, 3) := by decide +kernel
theorem dX11_takesField_27 : decode cX11_takesField 27 = .ok (.aload_n 0, 1) := by decide +kernel
theorem dX11_takesField_28 : decode cX11_takesField 28 = .ok (.iconst 1, 1) := by decide +kernel
theorem dX11_takesField_29 : decode cX11_takesField 29 = .ok (.iconst 0, 1) := by decide +kernel
theorem dX11_takesField_30 : decode cX11_takesField 30 = .ok (.bipush 60, 2) := by decide +kernel
theorem dX11_takesField_32 : decode cX11_takesField 32 = .ok (.invokevirtual 251, 3) := by decide +kernel
theorem dX11_takesField_35 : decode cX11_takesField 35 = .ok (.ifCond .ne 5, 3) := by decide +kernel
theorem dX11_takesField_38 : decode cX11_takesField 38 = .ok (.iconst 0, 1) := by decide +kernel
theorem dX11_takesField_39 : decode cX11_takesField 39 = .ok (.ireturn, 1) := by decide +kernel
theorem dX11_takesField_40 : decode cX11_takesField 40 = .ok (.aload_n 0, 1) := by decide +kernel
theorem dX11_takesField_41 : decode cX11_takesField 41 = .ok (.getfield 42, 3) := by decide +kernel
theorem dX11_takesField_44 : decode cX11_takesField 44 = .ok (.aload_n 0, 1) := by decide +kernel
theorem dX11_takesField_45 : decode cX11_takesField 45 = .ok (.getfield 45, 3) := by decide +kernel
theorem dX11_takesField_48 : decode cX11_takesField 48 = .ok (.iconst 0, 1) := by decide +kernel
theorem dX11_takesField_49 : decode cX11_takesField 49 = .ok (.iaload, 1) := by decide +kernel
theorem dX11_takesField_50 : decode cX11_takesField 50 = .ok (.aload_n 0, 1) := by decide +kernel
theorem dX11_takesField_51 : decode cX11_takesField 51 = .ok (.getfield 45, 3) := by decide +kernel
theorem dX11_takesField_54 : decode cX11_takesField 54 = .ok (.iconst 1, 1) := by decide +kernel
theorem dX11_takesField_55 : decode cX11_takesField 55 = .ok (.iaload, 1) := by decide +kernel
theorem dX11_takesField_56 : decode cX11_takesField 56 = .ok (.invokestatic 85, 3) := by decide +kernel
theorem dX11_takesField_59 : decode cX11_takesField 59 = .ok (.iconst 1, 1) := by decide +kernel
theorem dX11_takesField_60 : decode cX11_takesField 60 = .ok (.ireturn, 1) := by decide +kernel
set_option maxRecDepth 20000 in
theorem ggX11_takesGleaner_X11_goBehind : GoodIn wsX11_takesGleaner wsX11_goBehind := goodIn_r _ [7, 8, 9, 10, 11, 12, 6, 13, 14, 15, 16, 17, 18, 19, 20, 21, 22, 23, 24, 25, 26, 27, 28, 29, 30, 38, 39, 40, 41, 42, 43, 44, 45, 46, 47, 48, 49, 50, 51, 52, 53, 54, 55] rfl gw_wsX11_goBehind
set_option maxRecDepth 20000 in
theorem gX11_takesGleaner_X11_goBehind : GoodIn wsX11_takesGleaner (wsV RX11 244 RX11 yX11_goBehind wsX11_goBehind) := goodIn_app (goodIn_r _ [3, 4, 5, 6] (by exact rfl) (by decide +kernel)) ggX11_takesGleaner_X11_goBehind
set_option maxRecDepth 20000 in
theorem ggX11_takesGleaner_X11_takes : GoodIn wsX11_takesGleaner wsX11_takes := goodIn_r _ [34, 16, 17, 2, 23, 24, 6, 25, 3, 4, 5, 7, 8, 9, 10, 11, 12, 13, 14, 15, 18, 19, 20, 21, 22, 26, 27, 28, 29, 30, 38, 39, 40, 41, 42, 43, 44, 45, 46, 47, 48, 49, 50, 51, 52, 53, 54, 55] rfl gw_wsX11_takes
set_option maxRecDepth 20000 in
theorem gX11_takesGleaner_X11_takes : GoodIn wsX11_takesGleaner (wsV RX11 251 RX11 yX11_takes wsX11_takes) := goodIn_app (goodIn_r _ [31, 32, 33, 6] (by exact rfl) (by decide +kernel)) ggX11_takesGleaner_X11_takes
set_option maxRecDepth 20000 in
theorem ggX11_takesGleaner_X11_layGleaner : GoodIn wsX11_takesGleaner wsX11_layGleaner := goodIn_r _ [37] rfl gw_wsX11_layGleaner
set_option maxRecDepth 20000 in
theorem gX11_takesGleaner_X11_layGleaner : GoodIn wsX11_takesGleaner (va_wsS RX11 92 yX11_layGleaner wsX11_layGleaner) := goodIn_app (goodIn_r _ [35, 36, 6] (by exact rfl) (by decide +kernel)) ggX11_takesGleaner_X11_layGleaner
theorem dX11_takesGleaner_0 : decode cX11_takesGleaner 0 = .ok (.aload_n 0, 1) := by decide +kernel
theorem dX11_takesGleaner_1 : decode cX11_takesGleaner 1 = .ok (.getfield 42, 3) := by decide +kernel
theorem dX11_takesGleaner_4 : decode cX11_takesGleaner 4 = .ok (.iconst 1, 1) := by decide +kernel
theorem dX11_takesGleaner_5 : decode cX11_takesGleaner 5 = .ok (.iaload, 1) := by decide +kernel
theorem dX11_takesGleaner_6 : decode cX11_takesGleaner 6 = .ok (.iconst 5, 1) := by decide +kernel
theorem dX11_takesGleaner_7 : decode cX11_takesGleaner 7 = .ok (.if_icmp .ne 5, 3) := by decide +kernel
theorem dX11_takesGleaner_10 : decode cX11_takesGleaner 10 = .ok (.iconst 0, 1) := by decide +kernel
theorem dX11_takesGleaner_11 : decode cX11_takesGleaner 11 = .ok (.ireturn, 1) := by decide +kernel
theorem dX11_takesGleaner_12 : decode cX11_takesGleaner 12 = .ok (.aload_n 0, 1) := by decide +kernel
theorem dX11_takesGleaner_13 : decode cX11_takesGleaner 13 = .ok (.invokevirtual 244, 3) := by decide +kernel
theorem dX11_takesGleaner_16 : decode cX11_takesGleaner 16 = .ok (.aload_n 0, 1) := by decide +kernel
theorem dX11_takesGleaner_17 : decode cX11_takesGleaner 17 = .ok (.iconst 0, 1) := by decide +kernel
theorem dX11_takesGleaner_18 : decode cX11_takesGleaner 18 = .ok (.iconst 0, 1) := by decide +kernel
theorem dX11_takesGleaner_19 : decode cX11_takesGleaner 19 = .ok (.aload_n 0, 1) := by decide +kernel
theorem dX11_takesGleaner_20 : decode cX11_takesGleaner 20 = .ok (.getfield 42, 3) := by decide +kernel
theorem dX11_takesGleaner_23 : decode cX11_takesGleaner 23 = .ok (.iconst 0, 1) := by decide +kernel
theorem dX11_takesGleaner_24 : decode cX11_takesGleaner 24 = .ok (.iaload, 1) := by decide +kernel
theorem dX11_takesGleaner_25 : decode cX11_takesGleaner 25 = .ok (.iconst 1, 1) := by decide +kernel
theorem dX11_takesGleaner_26 : decode cX11_takesGleaner 26 = .ok (.isub, 1) := by decide +kernel
theorem dX11_takesGleaner_27 : decode cX11_takesGleaner 27 = .ok (.invokevirtual 251, 3) := by decide +kernel
theorem dX11_takesGleaner_30 : decode cX11_takesGleaner 30 = .ok (.ifCond .ne 5, 3) := by decide +kernel
theorem dX11_takesGleaner_33 : decode cX11_takesGleaner 33 = .ok (.iconst 0, 1) := by decide +kernel
theorem dX11_takesGleaner_34 : decode cX11_takesGleaner 34 = .ok (.ireturn, 1) := by decide +kernel
theorem dX11_takesGleaner_35 : decode cX11_takesGleaner 35 = .ok (.aload_n 0, 1) := by decide +kernel
theorem dX11_takesGleaner_36 : decode cX11_takesGleaner 36 = .ok (.getfield 42, 3) := by decide +kernel
theorem dX11_takesGleaner_39 : decode cX11_takesGleaner 39 = .ok (.aload_n 0, 1) := by decide +kernel
theorem dX11_takesGleaner_40 : decode cX11_takesGleaner 40 = .ok (.getfield 45, 3) := by decide +kernel
theorem dX11_takesGleaner_43 : decode cX11_takesGleaner 43 = .ok (.iconst 0, 1) := by decide +kernel
theorem dX11_takesGleaner_44 : decode cX11_takesGleaner 44 = .ok (.iaload, 1) := by decide +kernel
theorem dX11_takesGleaner_45 : decode cX11_takesGleaner 45 = .ok (.invokestatic 92, 3) := by decide +kernel
theorem dX11_takesGleaner_48 : decode cX11_takesGleaner 48 = .ok (.iconst 1, 1) := by decide +kernel
theorem dX11_takesGleaner_49 : decode cX11_takesGleaner 49 = .ok (.ireturn, 1) := by decide +kernel
set_option maxRecDepth 20000 in
theorem ggX11_takesGlean_X11_goBehind : GoodIn wsX11_takesGlean wsX11_goBehind := goodIn_r _ [7, 8, 9, 10, 11, 12, 6, 13, 14, 15, 16, 17, 18, 19, 20, 21, 22, 23, 24, 25, 26, 27, 28, 29, 30, 53, 54, 55, 56, 57, 58, 59, 60, 61, 62, 63, 64, 65, 66, 67, 68, 69, 70] rfl gw_wsX11_goBehind
set_option maxRecDepth 20000 in
theorem gX11_takesGlean_X11_goBehind : GoodIn wsX11_takesGlean (wsV RX11 244 RX11 yX11_goBehind wsX11_goBehind) := goodIn_app (goodIn_r _ [3, 4, 5, 6] (by exact rfl) (by decide +kernel)) ggX11_takesGlean_X11_goBehind
set_option maxRecDepth 20000 in
theorem ggX11_takesGlean_X11_takes : GoodIn wsX11_takesGlean wsX11_takes := goodIn_r _ [34, 16, 17, 2, 23, 24, 6, 25, 3, 4, 5, 7, 8, 9, 10, 11, 12, 13, 14, 15, 18, 19, 20, 21, 22, 26, 27, 28, 29, 30, 53, 54, 55, 56, 57, 58, 59, 60, 61, 62, 63, 64, 65, 66, 67, 68, 69, 70] rfl gw_wsX11_takes
set_option maxRecDepth 20000 in
theorem gX11_takesGlean_X11_takes : GoodIn wsX11_takesGlean (wsV RX11 251 RX11 yX11_takes wsX11_takes) := goodIn_app (goodIn_r _ [31, 32, 33, 6] (by exact rfl) (by decide +kernel)) ggX11_takesGlean_X11_takes
set_option maxRecDepth 20000 in
theorem ggX11_takesGlean_X11_goStep : GoodIn wsX11_takesGlean wsX11_goStep := goodIn_r _ [37, 38, 39, 6, 40, 41, 42, 43, 44, 45, 46, 47, 48, 49, 50, 51, 52] rfl gw_wsX11_goStep
set_option maxRecDepth 20000 in
theorem gX11_takesGlean_X11_goStep : GoodIn wsX11_takesGlean (va_wsS RX11 125 yX11_goStep wsX11_goStep) := goodIn_app (goodIn_r _ [35, 36, 6] (by exact rfl) (by decide +kernel)) ggX11_takesGlean_X11_goStep
theorem dX11_takesGlean_0 : decode cX11_takesGlean 0 = .ok (.aload_n 0, 1) := by decide +kernel
theorem dX11_takesGlean_1 : decode cX11_takesGlean 1 = .ok (.invokevirtual 244, 3) := by decide +kernel
theorem dX11_takesGlean_4 : decode cX11_takesGlean 4 = .ok (.aload_n 0, 1) := by decide +kernel
theorem dX11_takesGlean_5 : decode cX11_takesGlean 5 = .ok (.iconst 0, 1) := by decide +kernel
theorem dX11_takesGlean_6 : decode cX11_takesGlean 6 = .ok (.iconst 1, 1) := by decide +kernel
theorem dX11_takesGlean_7 : decode cX11_takesGlean 7 = .ok (.bipush 12, 2) := by decide +kernel
theorem dX11_takesGlean_9 : decode cX11_takesGlean 9 = .ok (.aload_n 0, 1) := by decide +kernel
theorem dX11_takesGlean_10 : decode cX11_takesGlean 10 = .ok (.getfield 42, 3) := by decide +kernel
theorem dX11_takesGlean_13 : decode cX11_takesGlean 13 = .ok (.bipush 21, 2) := by decide +kernel
theorem dX11_takesGlean_15 : decode cX11_takesGlean 15 = .ok (.iaload, 1) := by decide +kernel
theorem dX11_takesGlean_16 : decode cX11_takesGlean 16 = .ok (.isub, 1) := by decide +kernel
theorem dX11_takesGlean_17 : decode cX11_takesGlean 17 = .ok (.invokevirtual 251, 3) := by decide +kernel
theorem dX11_takesGlean_20 : decode cX11_takesGlean 20 = .ok (.ifCond .ne 5, 3) := by decide +kernel
theorem dX11_takesGlean_23 : decode cX11_takesGlean 23 = .ok (.iconst 0, 1) := by decide +kernel
theorem dX11_takesGlean_24 : decode cX11_takesGlean 24 = .ok (.ireturn, 1) := by decide +kernel
theorem dX11_takesGlean_25 : decode cX11_takesGlean 25 = .ok (.iconst 0, 1) := by decide +kernel
theorem dX11_takesGlean_26 : decode cX11_takesGlean 26 = .ok (.istore_n 1, 1) := by decide +kernel
theorem dX11_takesGlean_27 : decode cX11_takesGlean 27 = .ok (.iload_n 1, 1) := by decide +kernel
theorem dX11_takesGlean_28 : decode cX11_takesGlean 28 = .ok (.aload_n 0, 1) := by decide +kernel
theorem dX11_takesGlean_29 : decode cX11_takesGlean 29 = .ok (.getfield 45, 3) := by decide +kernel
theorem dX11_takesGlean_32 : decode cX11_takesGlean 32 = .ok (.iconst 0, 1) := by decide +kernel
theorem dX11_takesGlean_33 : decode cX11_takesGlean 33 = .ok (.iaload, 1) := by decide +kernel
theorem dX11_takesGlean_34 : decode cX11_takesGlean 34 = .ok (.if_icmp .ge 17, 3) := by decide +kernel
theorem dX11_takesGlean_37 : decode cX11_takesGlean 37 = .ok (.aload_n 0, 1) := by decide +kernel
theorem dX11_takesGlean_38 : decode cX11_takesGlean 38 = .ok (.getfield 42, 3) := by decide +kernel
theorem dX11_takesGlean_41 : decode cX11_takesGlean 41 = .ok (.invokestatic 125, 3) := by decide +kernel
theorem dX11_takesGlean_44 : decode cX11_takesGlean 44 = .ok (.istore_n 2, 1) := by decide +kernel
theorem dX11_takesGlean_45 : decode cX11_takesGlean 45 = .ok (.iinc 1 1, 3) := by decide +kernel
theorem dX11_takesGlean_48 : decode cX11_takesGlean 48 = .ok (.goto (-21), 3) := by decide +kernel
theorem dX11_takesGlean_51 : decode cX11_takesGlean 51 = .ok (.iconst 1, 1) := by decide +kernel
theorem dX11_takesGlean_52 : decode cX11_takesGlean 52 = .ok (.ireturn, 1) := by decide +kernel
set_option maxRecDepth 20000 in
theorem ggX11_isGleanerWord_X11_spells : GoodIn wsX11_isGleanerWord wsX11_spells := goodIn_r _ [9, 1, 2, 3, 4, 10, 11, 12, 13, 14, 15, 16, 17, 18, 19, 20, 21, 22, 23, 24, 25, 26, 27] rfl gw_wsX11_spells
set_option maxRecDepth 20000 in
theorem gX11_isGleanerWord_X11_spells : GoodIn wsX11_isGleanerWord (wsV RX11 247 RX11 yX11_spells wsX11_spells) := goodIn_app (goodIn_r _ [5, 6, 7, 8] (by exact rfl) (by decide +kernel)) ggX11_isGleanerWord_X11_spells
theorem dX11_isGleanerWord_0 : decode cX11_isGleanerWord 0 = .ok (.aload_n 0, 1) := by decide +kernel
theorem dX11_isGleanerWord_1 : decode cX11_isGleanerWord 1 = .ok (.getfield 228, 3) := by decide +kernel
theorem dX11_isGleanerWord_4 : decode cX11_isGleanerWord 4 = .ok (.iconst 1, 1) := by decide +kernel
theorem dX11_isGleanerWord_5 : decode cX11_isGleanerWord 5 = .ok (.if_icmp .ne 16, 3) := by decide +kernel
theorem dX11_isGleanerWord_8 : decode cX11_isGleanerWord 8 = .ok (.aload_n 0, 1) := by decide +kernel
theorem dX11_isGleanerWord_9 : decode cX11_isGleanerWord 9 = .ok (.getfield 225, 3) := by decide +kernel
theorem dX11_isGleanerWord_12 : decode cX11_isGleanerWord 12 = .ok (.bipush 7, 2) := by decide +kernel
theorem dX11_isGleanerWord_14 : decode cX11_isGleanerWord 14 = .ok (.if_icmp .ne 7, 3) := by decide +kernel
theorem dX11_isGleanerWord_17 : decode cX11_isGleanerWord 17 = .ok (.iconst 1, 1) := by decide +kernel
theorem dX11_isGleanerWord_18 : decode cX11_isGleanerWord 18 = .ok (.goto 4, 3) := by decide +kernel
theorem dX11_isGleanerWord_21 : decode cX11_isGleanerWord 21 = .ok (.iconst 0, 1) := by decide +kernel
theorem dX11_isGleanerWord_22 : decode cX11_isGleanerWord 22 = .ok (.istore_n 1, 1) := by decide +kernel
theorem dX11_isGleanerWord_23 : decode cX11_isGleanerWord 23 = .ok (.aload_n 0, 1) := by decide +kernel
theorem dX11_isGleanerWord_24 : decode cX11_isGleanerWord 24 = .ok (.iload_n 1, 1) := by decide +kernel
theorem dX11_isGleanerWord_25 : decode cX11_isGleanerWord 25 = .ok (.ifCond .eq 8, 3) := by decide +kernel
theorem dX11_isGleanerWord_28 : decode cX11_isGleanerWord 28 = .ok (.bipush 6, 2) := by decide +kernel
theorem dX11_isGleanerWord_30 : decode cX11_isGleanerWord 30 = .ok (.goto 7, 3) := by decide +kernel
theorem dX11_isGleanerWord_33 : decode cX11_isGleanerWord 33 = .ok (.aload_n 0, 1) := by decide +kernel
theorem dX11_isGleanerWord_34 : decode cX11_isGleanerWord 34 = .ok (.getfield 225, 3) := by decide +kernel
theorem dX11_isGleanerWord_37 : decode cX11_isGleanerWord 37 = .ok (.putfield 225, 3) := by decide +kernel
theorem dX11_isGleanerWord_40 : decode cX11_isGleanerWord 40 = .ok (.aload_n 0, 1) := by decide +kernel
theorem dX11_isGleanerWord_41 : decode cX11_isGleanerWord 41 = .ok (.bipush 6, 2) := by decide +kernel
theorem dX11_isGleanerWord_43 : decode cX11_isGleanerWord 43 = .ok (.bipush 103, 2) := by decide +kernel
theorem dX11_isGleanerWord_45 : decode cX11_isGleanerWord 45 = .ok (.bipush 108, 2) := by decide +kernel
theorem dX11_isGleanerWord_47 : decode cX11_isGleanerWord 47 = .ok (.bipush 101, 2) := by decide +kernel
theorem dX11_isGleanerWord_49 : decode cX11_isGleanerWord 49 = .ok (.bipush 97, 2) := by decide +kernel
theorem dX11_isGleanerWord_51 : decode cX11_isGleanerWord 51 = .ok (.bipush 110, 2) := by decide +kernel
theorem dX11_isGleanerWord_53 : decode cX11_isGleanerWord 53 = .ok (.bipush 101, 2) := by decide +kernel
theorem dX11_isGleanerWord_55 : decode cX11_isGleanerWord 55 = .ok (.invokevirtual 247, 3) := by decide +kernel
theorem dX11_isGleanerWord_58 : decode cX11_isGleanerWord 58 = .ok (.istore_n 2, 1) := by decide +kernel
theorem dX11_isGleanerWord_59 : decode cX11_isGleanerWord 59 = .ok (.aload_n 0, 1) := by decide +kernel
theorem dX11_isGleanerWord_60 : decode cX11_isGleanerWord 60 = .ok (.iload_n 1, 1) := by decide +kernel
theorem dX11_isGleanerWord_61 : decode cX11_isGleanerWord 61 = .ok (.ifCond .eq 8, 3) := by decide +kernel
theorem dX11_isGleanerWord_64 : decode cX11_isGleanerWord 64 = .ok (.bipush 7, 2) := by decide +kernel
theorem dX11_isGleanerWord_66 : decode cX11_isGleanerWord 66 = .ok (.goto 7, 3) := by decide +kernel
theorem dX11_isGleanerWord_69 : decode cX11_isGleanerWord 69 = .ok (.aload_n 0, 1) := by decide +kernel
theorem dX11_isGleanerWord_70 : decode cX11_isGleanerWord 70 = .ok (.getfield 225, 3) := by decide +kernel
theorem dX11_isGleanerWord_73 : decode cX11_isGleanerWord 73 = .ok (.putfield 225, 3) := by decide +kernel
theorem dX11_isGleanerWord_76 : decode cX11_isGleanerWord 76 = .ok (.iload_n 1, 1) := by decide +kernel
theorem dX11_isGleanerWord_77 : decode cX11_isGleanerWord 77 = .ok (.ifCond .eq 28, 3) := by decide +kernel
theorem dX11_isGleanerWord_80 : decode cX11_isGleanerWord 80 = .ok (.iload_n 2, 1) := by decide +kernel
theorem dX11_isGleanerWord_81 : decode cX11_isGleanerWord 81 = .ok (.ifCond .eq 24, 3) := by decide +kernel
theorem dX11_isGleanerWord_84 : decode cX11_isGleanerWord 84 = .ok (.aload_n 0, 1) := by decide +kernel
theorem dX11_isGleanerWord_85 : decode cX11_isGleanerWord 85 = .ok (.getfield 39, 3) := by decide +kernel
theorem dX11_isGleanerWord_88 : decode cX11_isGleanerWord 88 = .ok (.aload_n 0, 1) := by decide +kernel
theorem dX11_isGleanerWord_89 : decode cX11_isGleanerWord 89 = .ok (.getfield 222, 3) := by decide +kernel
theorem dX11_isGleanerWord_92 : decode cX11_isGleanerWord 92 = .ok (.bipush 6, 2) := by decide +kernel
theorem dX11_isGleanerWord_94 : decode cX11_isGleanerWord 94 = .ok (.iadd, 1) := by decide +kernel
theorem dX11_isGleanerWord_95 : decode cX11_isGleanerWord 95 = .ok (.iaload, 1) := by decide +kernel
theorem dX11_isGleanerWord_96 : decode cX11_isGleanerWord 96 = .ok (.bipush 114, 2) := by decide +kernel
theorem dX11_isGleanerWord_98 : decode cX11_isGleanerWord 98 = .ok (.if_icmp .ne 7, 3) := by decide +kernel
theorem dX11_isGleanerWord_101 : decode cX11_isGleanerWord 101 = .ok (.iconst 1, 1) := by decide +kernel
theorem dX11_isGleanerWord_102 : decode cX11_isGleanerWord 102 = .ok (.goto 4, 3) := by decide +kernel
theorem dX11_isGleanerWord_105 : decode cX11_isGleanerWord 105 = .ok (.iconst 0, 1) := by decide +kernel
theorem dX11_isGleanerWord_106 : decode cX11_isGleanerWord 106 = .ok (.ireturn, 1) := by decide +kernel
set_option maxRecDepth 20000 in
theorem ggX11_takesItem_X11_spells : GoodIn wsX11_takesItem wsX11_spells := goodIn_r _ [5, 6, 7, 8, 9, 79, 80, 81, 82, 83, 84, 85, 86, 87, 88, 89, 90, 91, 92, 93, 94, 95, 96] rfl gw_wsX11_spells
set_option maxRecDepth 20000 in
theorem gX11_takesItem_X11_spells : GoodIn wsX11_takesItem (wsV RX11 247 RX11 yX11_spells wsX11_spells) := goodIn_app (goodIn_r _ [1, 2, 3, 4] (by exact rfl) (by decide +kernel)) ggX11_takesItem_X11_spells
set_option maxRecDepth 20000 in
theorem gw_wsX11_takesField : wsX11_takesField.all goodWord = true := by decide +kernel
set_option maxRecDepth 20000 in
theorem ggX11_takesItem_X11_takesField : GoodIn wsX11_takesItem wsX11_takesField := goodIn_r _ [13, 14, 15, 16, 17, 18, 4, 19, 9, 7, 20, 21, 22, 23, 24, 8, 6, 25, 26, 27, 28, 29, 30, 31, 32, 33, 34, 35, 36, 37, 38, 39, 40, 41, 42, 43, 44, 45, 79, 80, 81, 82, 83, 84, 85, 86, 87, 88, 89, 90, 91, 92, 93, 94, 95, 96] rfl gw_wsX11_takesField
set_option maxRecDepth 20000 in
theorem gX11_takesItem_X11_takesField : GoodIn wsX11_takesItem (wsV RX11 255 RX11 yX11_takesField wsX11_takesField) := goodIn_app (goodIn_r _ [10, 11, 12, 4] (by exact rfl) (by decide +kernel)) ggX11_takesItem_X11_takesField
set_option maxRecDepth 20000 in
theorem gw_wsX11_takesGlean : wsX11_takesGlean.all goodWord = true := by decide +kernel
set_option maxRecDepth 20000 in
theorem ggX11_takesItem_X11_takesGlean : GoodIn wsX11_takesItem wsX11_takesGlean := goodIn_r _ [49, 14, 15, 16, 17, 18, 4, 19, 9, 7, 20, 21, 22, 23, 24, 8, 6, 25, 26, 27, 28, 29, 30, 31, 32, 33, 34, 35, 36, 37, 38, 39, 40, 41, 42, 50, 51, 52, 53, 54, 55, 56, 57, 58, 59, 60, 61, 62, 63, 64, 65, 66, 67, 79, 80, 81, 82, 83, 84, 85, 86, 87, 88, 89, 90, 91, 92, 93, 94, 95, 96] rfl gw_wsX11_takesGlean
set_option maxRecDepth 20000 in
theorem gX11_takesItem_X11_takesGlean : GoodIn wsX11_takesItem (wsV RX11 259 RX11 yX11_takesGlean wsX11_takesGlean) := goodIn_app (goodIn_r _ [46, 47, 48, 4] (by exact rfl) (by decide +kernel)) ggX11_takesItem_X11_takesGlean
set_option maxRecDepth 20000 in
theorem gw_wsX11_isGleanerWord : wsX11_isGleanerWord.all goodWord = true := by decide +kernel
set_option maxRecDepth 20000 in
theorem ggX11_takesItem_X11_isGleanerWord : GoodIn wsX11_takesItem wsX11_isGleanerWord := goodIn_r _ [71, 6, 7, 8, 9, 1, 2, 3, 4, 5, 79, 80, 81, 82, 83, 84, 85, 86, 87, 88, 89, 90, 91, 92, 93, 94, 95, 96] rfl gw_wsX11_isGleanerWord
set_option maxRecDepth 20000 in
theorem gX11_takesItem_X11_isGleanerWord : GoodIn wsX11_takesItem (wsV RX11 262 RX11 yX11_isGleanerWord wsX11_isGleanerWord) := goodIn_app (goodIn_r _ [68, 69, 70, 4] (by exact rfl) (by decide +kernel)) ggX11_takesItem_X11_isGleanerWord
set_option maxRecDepth 20000 in
theorem gw_wsX11_takesGleaner : wsX11_takesGleaner.all goodWord = true := by decide +kernel
set_option maxRecDepth 20000 in
theorem ggX11_takesItem_X11_takesGleaner : GoodIn wsX11_takesItem wsX11_takesGleaner := goodIn_r _ [75, 14, 15, 16, 17, 18, 4, 19, 9, 7, 20, 21, 22, 23, 24, 8, 6, 25, 26, 27, 28, 29, 30, 31, 32, 33, 34, 35, 36, 37, 38, 39, 40, 41, 42, 76, 77, 78, 79, 80, 81, 82, 83, 84, 85, 86, 87, 88, 89, 90, 91, 92, 93, 94, 95, 96] rfl gw_wsX11_takesGleaner
set_option maxRecDepth 20000 in
theorem gX11_takesItem_X11_takesGleaner : GoodIn wsX11_takesItem (wsV RX11 265 RX11 yX11_takesGleaner wsX11_takesGleaner) := goodIn_app (goodIn_r _ [72, 73, 74, 4] (by exact rfl) (by decide +kernel)) ggX11_takesItem_X11_takesGleaner
theorem dX11_takesItem_0 : decode cX11_takesItem 0 = .ok (.aload_n 0, 1) := by decide +kernel
theorem dX11_takesItem_1 : decode cX11_takesItem 1 = .ok (.iconst 5, 1) := by decide +kernel
theorem dX11_takesItem_2 : decode cX11_takesItem 2 = .ok (.bipush 102, 2) := by decide +kernel
theorem dX11_takesItem_4 : decode cX11_takesItem 4 = .ok (.bipush 105, 2) := by decide +kernel
theorem dX11_takesItem_6 : decode cX11_takesItem 6 = .ok (.bipush 101, 2) := by decide +kernel
theorem dX11_takesItem_8 : decode cX11_takesItem 8 = .ok (.bipush 108, 2) := by decide +kernel
theorem dX11_takesItem_10 : decode cX11_takesItem 10 = .ok (.bipush 100, 2) := by decide +kernel
theorem dX11_takesItem_12 : decode cX11_takesItem 12 = .ok (.iconst 0, 1) := by decide +kernel
theorem dX11_takesItem_13 : decode cX11_takesItem 13 = .ok (.invokevirtual 247, 3) := by decide +kernel
theorem dX11_takesItem_16 : decode cX11_takesItem 16 = .ok (.ifCond .eq 8, 3) := by decide +kernel
theorem dX11_takesItem_19 : decode cX11_takesItem 19 = .ok (.aload_n 0, 1) := by decide +kernel
theorem dX11_takesItem_20 : decode cX11_takesItem 20 = .ok (.invokevirtual 255, 3) := by decide +kernel
theorem dX11_takesItem_23 : decode cX11_takesItem 23 = .ok (.ireturn, 1) := by decide +kernel
theorem dX11_takesItem_24 : decode cX11_takesItem 24 = .ok (.aload_n 0, 1) := by decide +kernel
theorem dX11_takesItem_25 : decode cX11_takesItem 25 = .ok (.iconst 5, 1) := by decide +kernel
theorem dX11_takesItem_26 : decode cX11_takesItem 26 = .ok (.bipush 103, 2) := by decide +kernel
theorem dX11_takesItem_28 : decode cX11_takesItem 28 = .ok (.bipush 108, 2) := by decide +kernel
theorem dX11_takesItem_30 : decode cX11_takesItem 30 = .ok (.bipush 101, 2) := by decide +kernel
theorem dX11_takesItem_32 : decode cX11_takesItem 32 = .ok (.bipush 97, 2) := by decide +kernel
theorem dX11_takesItem_34 : decode cX11_takesItem 34 = .ok (.bipush 110, 2) := by decide +kernel
theorem dX11_takesItem_36 : decode cX11_takesItem 36 = .ok (.iconst 0, 1) := by decide +kernel
theorem dX11_takesItem_37 : decode cX11_takesItem 37 = .ok (.invokevirtual 247, 3) := by decide +kernel
theorem dX11_takesItem_40 : decode cX11_takesItem 40 = .ok (.ifCond .eq 8, 3) := by decide +kernel
theorem dX11_takesItem_43 : decode cX11_takesItem 43 = .ok (.aload_n 0, 1) := by decide +kernel
theorem dX11_takesItem_44 : decode cX11_takesItem 44 = .ok (.invokevirtual 259, 3) := by decide +kernel
theorem dX11_takesItem_47 : decode cX11_takesItem 47 = .ok (.ireturn, 1) := by decide +kernel
theorem dX11_takesItem_48 : decode cX11_takesItem 48 = .ok (.aload_n 0, 1) := by decide +kernel
theorem dX11_takesItem_49 : decode cX11_takesItem 49 = .ok (.invokevirtual 262, 3) := by decide +kernel
theorem dX11_takesItem_52 : decode cX11_takesItem 52 = .ok (.ifCond .eq 14, 3) := by decide +kernel
theorem dX11_takesItem_55 : decode cX11_takesItem 55 = .ok (.aload_n 0, 1) := by decide +kernel
theorem dX11_takesItem_56 : decode cX11_takesItem 56 = .ok (.invokevirtual 265, 3) := by decide +kernel
theorem dX11_takesItem_59 : decode cX11_takesItem 59 = .ok (.ifCond .eq 7, 3) := by decide +kernel
theorem dX11_takesItem_62 : decode cX11_takesItem 62 = .ok (.iconst 1, 1) := by decide +kernel
theorem dX11_takesItem_63 : decode cX11_takesItem 63 = .ok (.goto 4, 3) := by decide +kernel
theorem dX11_takesItem_66 : decode cX11_takesItem 66 = .ok (.iconst 0, 1) := by decide +kernel
theorem dX11_takesItem_67 : decode cX11_takesItem 67 = .ok (.ireturn, 1) := by decide +kernel
set_option maxRecDepth 20000 in
theorem ggX11_read_X11_lookAt : GoodIn wsX11_read wsX11_lookAt := goodIn_r _ [9, 1, 10, 11, 12, 2, 13, 14, 15, 8, 16, 17, 18, 19, 20, 21, 22, 23, 24, 25, 26, 91, 92, 93, 94, 95, 96, 97, 98, 99, 100, 101, 102, 103, 104, 105, 106, 107, 108] rfl gw_wsX11_lookAt
set_option maxRecDepth 20000 in
theorem gX11_read_X11_lookAt : GoodIn wsX11_read (wsV RX11 240 RX11 yX11_lookAt wsX11_lookAt) := goodIn_app (goodIn_r _ [5, 6, 7, 8] (by exact rfl) (by decide +kernel)) ggX11_read_X11_lookAt
set_option maxRecDepth 20000 in
theorem gw_wsX11_takesParish : wsX11_takesParish.all goodWord = true := by decide +kernel
set_option maxRecDepth 20000 in
theorem ggX11_read_X11_takesParish : GoodIn wsX11_read wsX11_takesParish := goodIn_r _ [30, 4, 31, 2, 32, 33, 34, 8, 35, 12, 11, 1, 36, 37, 38, 39, 5, 6, 7, 9, 10, 13, 14, 15, 16, 17, 18, 19, 20, 21, 22, 23, 24, 25, 26, 40, 41, 42, 43, 44, 45, 46, 91, 92, 93, 94, 95, 96, 97, 98, 99, 100, 101, 102, 103, 104, 105, 106, 107, 108] rfl gw_wsX11_takesParish
set_option maxRecDepth 20000 in
theorem gX11_read_X11_takesParish : GoodIn wsX11_read (wsV RX11 268 RX11 yX11_takesParish wsX11_takesParish) := goodIn_app (goodIn_r _ [27, 28, 29, 8] (by exact rfl) (by decide +kernel)) ggX11_read_X11_takesParish
set_option maxRecDepth 20000 in
theorem ggX11_read_X11_goBehind : GoodIn wsX11_read wsX11_goBehind := goodIn_r _ [39, 1, 12, 5, 6, 7, 8, 9, 10, 11, 2, 13, 14, 15, 16, 17, 18, 19, 20, 21, 22, 23, 24, 25, 26, 91, 92, 93, 94, 95, 96, 97, 98, 99, 100, 101, 102, 103, 104, 105, 106, 107, 108] rfl gw_wsX11_goBehind
