theorem dX1_init_9 : decode cX1_init 9 = .ok (.putfield 9, 3) := by decide +kernel
theorem dX1_init_12 : decode cX1_init 12 = .ok (.aload_n 0, 1) := by decide +kernel
theorem dX1_init_13 : decode cX1_init 13 = .ok (.iconst 5, 1) := by decide +kernel
theorem dX1_init_14 : decode cX1_init 14 = .ok (.newarray .int, 2) := by decide +kernel
theorem dX1_init_16 : decode cX1_init 16 = .ok (.putfield 15, 3) := by decide +kernel
theorem dX1_init_19 : decode cX1_init 19 = .ok (.aload_n 0, 1) := by decide +kernel
theorem dX1_init_20 : decode cX1_init 20 = .ok (.iconst 5, 1) := by decide +kernel
theorem dX1_init_21 : decode cX1_init 21 = .ok (.newarray .int, 2) := by decide +kernel
theorem dX1_init_23 : decode cX1_init 23 = .ok (.putfield 18, 3) := by decide +kernel
theorem dX1_init_26 : decode cX1_init 26 = .ok (.return_, 1) := by decide +kernel
theorem dX1_become_0 : decode cX1_become 0 = .ok (.aload_n 1, 1) := by decide +kernel
theorem dX1_become_1 : decode cX1_become 1 = .ok (.getfield 9, 3) := by decide +kernel
theorem dX1_become_4 : decode cX1_become 4 = .ok (.iconst 0, 1) := by decide +kernel
theorem dX1_become_5 : decode cX1_become 5 = .ok (.aload_n 0, 1) := by decide +kernel
theorem dX1_become_6 : decode cX1_become 6 = .ok (.getfield 9, 3) := by decide +kernel
theorem dX1_become_9 : decode cX1_become 9 = .ok (.iconst 0, 1) := by decide +kernel
theorem dX1_become_10 : decode cX1_become 10 = .ok (.bipush 6, 2) := by decide +kernel
theorem dX1_become_12 : decode cX1_become 12 = .ok (.invokestatic 21, 3) := by decide +kernel
theorem dX1_become_15 : decode cX1_become 15 = .ok (.aload_n 1, 1) := by decide +kernel
theorem dX1_become_16 : decode cX1_become 16 = .ok (.getfield 15, 3) := by decide +kernel
theorem dX1_become_19 : decode cX1_become 19 = .ok (.iconst 0, 1) := by decide +kernel
theorem dX1_become_20 : decode cX1_become 20 = .ok (.aload_n 0, 1) := by decide +kernel
theorem dX1_become_21 : decode cX1_become 21 = .ok (.getfield 15, 3) := by decide +kernel
theorem dX1_become_24 : decode cX1_become 24 = .ok (.iconst 0, 1) := by decide +kernel
theorem dX1_become_25 : decode cX1_become 25 = .ok (.iconst 5, 1) := by decide +kernel
theorem dX1_become_26 : decode cX1_become 26 = .ok (.invokestatic 21, 3) := by decide +kernel
theorem dX1_become_29 : decode cX1_become 29 = .ok (.aload_n 1, 1) := by decide +kernel
theorem dX1_become_30 : decode cX1_become 30 = .ok (.getfield 18, 3) := by decide +kernel
theorem dX1_become_33 : decode cX1_become 33 = .ok (.iconst 0, 1) := by decide +kernel
theorem dX1_become_34 : decode cX1_become 34 = .ok (.aload_n 0, 1) := by decide +kernel
theorem dX1_become_35 : decode cX1_become 35 = .ok (.getfield 18, 3) := by decide +kernel
theorem dX1_become_38 : decode cX1_become 38 = .ok (.iconst 0, 1) := by decide +kernel
theorem dX1_become_39 : decode cX1_become 39 = .ok (.iconst 5, 1) := by decide +kernel
theorem dX1_become_40 : decode cX1_become 40 = .ok (.invokestatic 21, 3) := by decide +kernel
theorem dX1_become_43 : decode cX1_become 43 = .ok (.aload_n 0, 1) := by decide +kernel
theorem dX1_become_44 : decode cX1_become 44 = .ok (.aload_n 1, 1) := by decide +kernel
theorem dX1_become_45 : decode cX1_become 45 = .ok (.getfield 27, 3) := by decide +kernel
theorem dX1_become_48 : decode cX1_become 48 = .ok (.putfield 27, 3) := by decide +kernel
theorem dX1_become_51 : decode cX1_become 51 = .ok (.aload_n 0, 1) := by decide +kernel
theorem dX1_become_52 : decode cX1_become 52 = .ok (.aload_n 1, 1) := by decide +kernel
theorem dX1_become_53 : decode cX1_become 53 = .ok (.getfield 31, 3) := by decide +kernel
theorem dX1_become_56 : decode cX1_become 56 = .ok (.putfield 31, 3) := by decide +kernel
theorem dX1_become_59 : decode cX1_become 59 = .ok (.aload_n 0, 1) := by decide +kernel
theorem dX1_become_60 : decode cX1_become 60 = .ok (.aload_n 1, 1) := by decide +kernel
theorem dX1_become_61 : decode cX1_become 61 = .ok (.getfield 34, 3) := by decide +kernel
theorem dX1_become_64 : decode cX1_become 64 = .ok (.putfield 34, 3) := by decide +kernel
theorem dX1_become_67 : decode cX1_become 67 = .ok (.return_, 1) := by decide +kernel
set_option maxRecDepth 20000 in
theorem ggX2_init_X8_init : GoodIn wsX2_init wsX8_init := goodIn_r _ [3, 4, 5, 6, 7, 8, 9] (by decide +kernel) (by decide +kernel)
set_option maxRecDepth 20000 in
theorem gX2_init_X8_init_n1 : GoodIn wsX2_init (wsX8_init) := ggX2_init_X8_init
theorem dX2_init_0 : decode cX2_init 0 = .ok (.aload_n 0, 1) := by decide +kernel
theorem dX2_init_1 : decode cX2_init 1 = .ok (.invokespecial 1, 3) := by decide +kernel
theorem dX2_init_4 : decode cX2_init 4 = .ok (.return_, 1) := by decide +kernel
set_option maxRecDepth 20000 in
theorem ggX3_init_X9_init : GoodIn wsX3_init wsX9_init := goodIn_r _ [3, 4, 5, 6, 7, 8, 9] (by decide +kernel) (by decide +kernel)
set_option maxRecDepth 20000 in
theorem gX3_init_X9_init_n1 : GoodIn wsX3_init (wsX9_init) := ggX3_init_X9_init
theorem dX3_init_0 : decode cX3_init 0 = .ok (.aload_n 0, 1) := by decide +kernel
theorem dX3_init_1 : decode cX3_init 1 = .ok (.invokespecial 1, 3) := by decide +kernel
theorem dX3_init_4 : decode cX3_init 4 = .ok (.return_, 1) := by decide +kernel
set_option maxRecDepth 20000 in
theorem ggX4_init_X1_init : GoodIn wsX4_init wsX1_init := goodIn_r _ [16, 17, 2, 3, 4, 18, 19, 20, 32, 33, 34, 35, 36, 37] (by decide +kernel) (by decide +kernel)
set_option maxRecDepth 20000 in
theorem gX4_init_X1_init_n17 : GoodIn wsX4_init (wsX1_init) := ggX4_init_X1_init
theorem dX4_init_0 : decode cX4_init 0 = .ok (.aload_n 0, 1) := by decide +kernel
theorem dX4_init_1 : decode cX4_init 1 = .ok (.invokespecial 3, 3) := by decide +kernel
theorem dX4_init_4 : decode cX4_init 4 = .ok (.aload_n 0, 1) := by decide +kernel
theorem dX4_init_5 : decode cX4_init 5 = .ok (.bipush 6, 2) := by decide +kernel
theorem dX4_init_7 : decode cX4_init 7 = .ok (.newarray .int, 2) := by decide +kernel
theorem dX4_init_9 : decode cX4_init 9 = .ok (.putfield 9, 3) := by decide +kernel
theorem dX4_init_12 : decode cX4_init 12 = .ok (.aload_n 0, 1) := by decide +kernel
theorem dX4_init_13 : decode cX4_init 13 = .ok (.new 15, 3) := by decide +kernel
theorem dX4_init_16 : decode cX4_init 16 = .ok (.dup, 1) := by decide +kernel
theorem dX4_init_17 : decode cX4_init 17 = .ok (.invokespecial 17, 3) := by decide +kernel
theorem dX4_init_20 : decode cX4_init 20 = .ok (.putfield 18, 3) := by decide +kernel
theorem dX4_init_23 : decode cX4_init 23 = .ok (.aload_n 0, 1) := by decide +kernel
theorem dX4_init_24 : decode cX4_init 24 = .ok (.bipush 8, 2) := by decide +kernel
theorem dX4_init_26 : decode cX4_init 26 = .ok (.anewarray 15, 3) := by decide +kernel
theorem dX4_init_29 : decode cX4_init 29 = .ok (.putfield 22, 3) := by decide +kernel
theorem dX4_init_32 : decode cX4_init 32 = .ok (.aload_n 0, 1) := by decide +kernel
theorem dX4_init_33 : decode cX4_init 33 = .ok (.iconst 4, 1) := by decide +kernel
theorem dX4_init_34 : decode cX4_init 34 = .ok (.iconst 4, 1) := by decide +kernel
theorem dX4_init_35 : decode cX4_init 35 = .ok (.multianewarray 26 2, 4) := by decide +kernel
theorem dX4_init_39 : decode cX4_init 39 = .ok (.putfield 28, 3) := by decide +kernel
theorem dX4_init_42 : decode cX4_init 42 = .ok (.aload_n 0, 1) := by decide +kernel
theorem dX4_init_43 : decode cX4_init 43 = .ok (.bipush 6, 2) := by decide +kernel
theorem dX4_init_45 : decode cX4_init 45 = .ok (.iconst 5, 1) := by decide +kernel
theorem dX4_init_46 : decode cX4_init 46 = .ok (.multianewarray 26 2, 4) := by decide +kernel
theorem dX4_init_50 : decode cX4_init 50 = .ok (.putfield 31, 3) := by decide +kernel
theorem dX4_init_53 : decode cX4_init 53 = .ok (.aload_n 0, 1) := by decide +kernel
theorem dX4_init_54 : decode cX4_init 54 = .ok (.aload_n 1, 1) := by decide +kernel
theorem dX4_init_55 : decode cX4_init 55 = .ok (.putfield 34, 3) := by decide +kernel
theorem dX4_init_58 : decode cX4_init 58 = .ok (.iconst 0, 1) := by decide +kernel
theorem dX4_init_59 : decode cX4_init 59 = .ok (.istore_n 2, 1) := by decide +kernel
theorem dX4_init_60 : decode cX4_init 60 = .ok (.iload_n 2, 1) := by decide +kernel
theorem dX4_init_61 : decode cX4_init 61 = .ok (.bipush 8, 2) := by decide +kernel
theorem dX4_init_63 : decode cX4_init 63 = .ok (.if_icmp .ge 22, 3) := by decide +kernel
theorem dX4_init_66 : decode cX4_init 66 = .ok (.aload_n 0, 1) := by decide +kernel
theorem dX4_init_67 : decode cX4_init 67 = .ok (.getfield 22, 3) := by decide +kernel
theorem dX4_init_70 : decode cX4_init 70 = .ok (.iload_n 2, 1) := by decide +kernel
theorem dX4_init_71 : decode cX4_init 71 = .ok (.new 15, 3) := by decide +kernel
theorem dX4_init_74 : decode cX4_init 74 = .ok (.dup, 1) := by decide +kernel
theorem dX4_init_75 : decode cX4_init 75 = .ok (.invokespecial 17, 3) := by decide +kernel
theorem dX4_init_78 : decode cX4_init 78 = .ok (.aastore, 1) := by decide +kernel
theorem dX4_init_79 : decode cX4_init 79 = .ok (.iinc 2 1, 3) := by decide +kernel
theorem dX4_init_82 : decode cX4_init 82 = .ok (.goto (-22), 3) := by decide +kernel
theorem dX4_init_85 : decode cX4_init 85 = .ok (.return_, 1) := by decide +kernel
theorem dX4_begin_0 : decode cX4_begin 0 = .ok (.aload_n 0, 1) := by decide +kernel
theorem dX4_begin_1 : decode cX4_begin 1 = .ok (.iconst 0, 1) := by decide +kernel
theorem dX4_begin_2 : decode cX4_begin 2 = .ok (.putfield 38, 3) := by decide +kernel
theorem dX4_begin_5 : decode cX4_begin 5 = .ok (.aload_n 0, 1) := by decide +kernel
theorem dX4_begin_6 : decode cX4_begin 6 = .ok (.iconst 0, 1) := by decide +kernel
theorem dX4_begin_7 : decode cX4_begin 7 = .ok (.putfield 42, 3) := by decide +kernel
theorem dX4_begin_10 : decode cX4_begin 10 = .ok (.aload_n 0, 1) := by decide +kernel
theorem dX4_begin_11 : decode cX4_begin 11 = .ok (.iconst 0, 1) := by decide +kernel
theorem dX4_begin_12 : decode cX4_begin 12 = .ok (.putfield 45, 3) := by decide +kernel
theorem dX4_begin_15 : decode cX4_begin 15 = .ok (.aload_n 0, 1) := by decide +kernel
theorem dX4_begin_16 : decode cX4_begin 16 = .ok (.iconst 0, 1) := by decide +kernel
theorem dX4_begin_17 : decode cX4_begin 17 = .ok (.putfield 48, 3) := by decide +kernel
theorem dX4_begin_20 : decode cX4_begin 20 = .ok (.aload_n 0, 1) := by decide +kernel
theorem dX4_begin_21 : decode cX4_begin 21 = .ok (.iconst 0, 1) := by decide +kernel
theorem dX4_begin_22 : decode cX4_begin 22 = .ok (.putfield 51, 3) := by decide +kernel
theorem dX4_begin_25 : decode cX4_begin 25 = .ok (.aload_n 0, 1) := by decide +kernel
theorem dX4_begin_26 : decode cX4_begin 26 = .ok (.getfield 18, 3) := by decide +kernel
theorem dX4_begin_29 : decode cX4_begin 29 = .ok (.iconst 0, 1) := by decide +kernel
theorem dX4_begin_30 : decode cX4_begin 30 = .ok (.putfield 54, 3) := by decide +kernel
theorem dX4_begin_33 : decode cX4_begin 33 = .ok (.aload_n 0, 1) := by decide +kernel
theorem dX4_begin_34 : decode cX4_begin 34 = .ok (.getfield 18, 3) := by decide +kernel
theorem dX4_begin_37 : decode cX4_begin 37 = .ok (.iload_n 1, 1) := by decide +kernel
theorem dX4_begin_38 : decode cX4_begin 38 = .ok (.putfield 57, 3) := by decide +kernel
theorem dX4_begin_41 : decode cX4_begin 41 = .ok (.aload_n 0, 1) := by decide +kernel
theorem dX4_begin_42 : decode cX4_begin 42 = .ok (.getfield 18, 3) := by decide +kernel
theorem dX4_begin_45 : decode cX4_begin 45 = .ok (.iconst 0, 1) := by decide +kernel
theorem dX4_begin_46 : decode cX4_begin 46 = .ok (.putfield 60, 3) := by decide +kernel
theorem dX4_begin_49 : decode cX4_begin 49 = .ok (.return_, 1) := by decide +kernel
set_option maxRecDepth 20000 in
theorem ggX4_become_X1_become : GoodIn wsX4_become wsX1_become := goodIn_r _ [19, 20, 21, 3, 4, 5, 22, 23, 24, 25, 26, 38, 39, 40, 41, 42, 43] (by decide +kernel) (by decide +kernel)
set_option maxRecDepth 20000 in
theorem gX4_become_X1_become : GoodIn wsX4_become (wsV RX4 69 RX1 yX1_become wsX1_become) := goodIn_app (goodIn_of _ (by decide +kernel)) ggX4_become_X1_become
theorem dX4_become_0 : decode cX4_become 0 = .ok (.aload_n 1, 1) := by decide +kernel
theorem dX4_become_1 : decode cX4_become 1 = .ok (.getfield 9, 3) := by decide +kernel
theorem dX4_become_4 : decode cX4_become 4 = .ok (.iconst 0, 1) := by decide +kernel
theorem dX4_become_5 : decode cX4_become 5 = .ok (.aload_n 0, 1) := by decide +kernel
theorem dX4_become_6 : decode cX4_become 6 = .ok (.getfield 9, 3) := by decide +kernel
theorem dX4_become_9 : decode cX4_become 9 = .ok (.iconst 0, 1) := by decide +kernel
theorem dX4_become_10 : decode cX4_become 10 = .ok (.bipush 6, 2) := by decide +kernel
theorem dX4_become_12 : decode cX4_become 12 = .ok (.invokestatic 63, 3) := by decide +kernel
theorem dX4_become_15 : decode cX4_become 15 = .ok (.aload_n 0, 1) := by decide +kernel
theorem dX4_become_16 : decode cX4_become 16 = .ok (.getfield 18, 3) := by decide +kernel
theorem dX4_become_19 : decode cX4_become 19 = .ok (.aload_n 1, 1) := by decide +kernel
theorem dX4_become_20 : decode cX4_become 20 = .ok (.getfield 18, 3) := by decide +kernel
theorem dX4_become_23 : decode cX4_become 23 = .ok (.invokevirtual 69, 3) := by decide +kernel
theorem dX4_become_26 : decode cX4_become 26 = .ok (.iconst 0, 1) := by decide +kernel
theorem dX4_become_27 : decode cX4_become 27 = .ok (.istore_n 2, 1) := by decide +kernel
theorem dX4_become_28 : decode cX4_become 28 = .ok (.iload_n 2, 1) := by decide +kernel
theorem dX4_become_29 : decode cX4_become 29 = .ok (.aload_n 1, 1) := by decide +kernel
theorem dX4_become_30 : decode cX4_become 30 = .ok (.getfield 45, 3) := by decide +kernel
theorem dX4_become_33 : decode cX4_become 33 = .ok (.if_icmp .ge 24, 3) := by decide +kernel
theorem dX4_become_57 : decode cX4_become 57 = .ok (.iconst 0, 1) := by decide +kernel
theorem dX4_become_58 : decode cX4_become 58 = .ok (.istore_n 2, 1) := by decide +kernel
theorem dX4_become_59 : decode cX4_become 59 = .ok (.iload_n 2, 1) := by decide +kernel
theorem dX4_become_60 : decode cX4_become 60 = .ok (.aload_n 1, 1) := by decide +kernel
theorem dX4_become_61 : decode cX4_become 61 = .ok (.getfield 48, 3) := by decide +kernel
theorem dX4_become_64 : decode cX4_become 64 = .ok (.if_icmp .ge 27, 3) := by decide +kernel
theorem dX4_become_91 : decode cX4_become 91 = .ok (.iconst 0, 1) := by decide +kernel
theorem dX4_become_92 : decode cX4_become 92 = .ok (.istore_n 2, 1) := by decide +kernel
theorem dX4_become_93 : decode cX4_become 93 = .ok (.iload_n 2, 1) := by decide +kernel
theorem dX4_become_94 : decode cX4_become 94 = .ok (.aload_n 1, 1) := by decide +kernel
theorem dX4_become_95 : decode cX4_become 95 = .ok (.getfield 51, 3) := by decide +kernel
theorem dX4_become_98 : decode cX4_become 98 = .ok (.if_icmp .ge 27, 3) := by decide +kernel
theorem dX4_become_125 : decode cX4_become 125 = .ok (.aload_n 0, 1) := by decide +kernel
theorem dX4_become_126 : decode cX4_become 126 = .ok (.aload_n 1, 1) := by decide +kernel
theorem dX4_become_127 : decode cX4_become 127 = .ok (.getfield 38, 3) := by decide +kernel
theorem dX4_become_130 : decode cX4_become 130 = .ok (.putfield 38, 3) := by decide +kernel
theorem dX4_become_133 : decode cX4_become 133 = .ok (.aload_n 0, 1) := by decide +kernel
theorem dX4_become_134 : decode cX4_become 134 = .ok (.aload_n 1, 1) := by decide +kernel
theorem dX4_become_135 : decode cX4_become 135 = .ok (.getfield 42, 3) := by decide +kernel
theorem dX4_become_138 : decode cX4_become 138 = .ok (.putfield 42, 3) := by decide +kernel
theorem dX4_become_141 : decode cX4_become 141 = .ok (.aload_n 0, 1) := by decide +kernel
theorem dX4_become_142 : decode cX4_become 142 = .ok (.aload_n 1, 1) := by decide +kernel
theorem dX4_become_143 : decode cX4_become 143 = .ok (.getfield 45, 3) := by decide +kernel
theorem dX4_become_146 : decode cX4_become 146 = .ok (.putfield 45, 3) := by decide +kernel
theorem dX4_become_149 : decode cX4_become 149 = .ok (.aload_n 0, 1) := by decide +kernel
theorem dX4_become_150 : decode cX4_become 150 = .ok (.aload_n 1, 1) := by decide +kernel
theorem dX4_become_151 : decode cX4_become 151 = .ok (.getfield 48, 3) := by decide +kernel
theorem dX4_become_154 : decode cX4_become 154 = .ok (.putfield 48, 3) := by decide +kernel
theorem dX4_become_157 : decode cX4_become 157 = .ok (.aload_n 0, 1) := by decide +kernel
theorem dX4_become_158 : decode cX4_become 158 = .ok (.aload_n 1, 1) := by decide +kernel
theorem dX4_become_159 : decode cX4_become 159 = .ok (.getfield 51, 3) := by decide +kernel
theorem dX4_become_162 : decode cX4_become 162 = .ok (.putfield 51, 3) := by decide +kernel
theorem dX4_become_165 : decode cX4_become 165 = .ok (.return_, 1) := by decide +kernel
set_option maxRecDepth 20000 in
theorem ggX4_hasField_X10_isBelow : GoodIn wsX4_hasField wsX10_isBelow := goodIn_r _ [4] (by decide +kernel) (by decide +kernel)
set_option maxRecDepth 20000 in
theorem gX4_hasField_X10_isBelow_n73 : GoodIn wsX4_hasField (wsX10_isBelow) := ggX4_hasField_X10_isBelow
theorem dX4_hasField_0 : decode cX4_hasField 0 = .ok (.iload_n 1, 1) := by decide +kernel
theorem dX4_hasField_1 : decode cX4_hasField 1 = .ok (.aload_n 0, 1) := by decide +kernel
theorem dX4_hasField_2 : decode cX4_hasField 2 = .ok (.getfield 38, 3) := by decide +kernel
theorem dX4_hasField_5 : decode cX4_hasField 5 = .ok (.invokestatic 73, 3) := by decide +kernel
theorem dX4_hasField_8 : decode cX4_hasField 8 = .ok (.ireturn, 1) := by decide +kernel
set_option maxRecDepth 20000 in
theorem ggX4_hasGleaner_X10_isBelow : GoodIn wsX4_hasGleaner wsX10_isBelow := goodIn_r _ [4] (by decide +kernel) (by decide +kernel)
set_option maxRecDepth 20000 in
theorem gX4_hasGleaner_X10_isBelow_n73 : GoodIn wsX4_hasGleaner (wsX10_isBelow) := ggX4_hasGleaner_X10_isBelow
theorem dX4_hasGleaner_0 : decode cX4_hasGleaner 0 = .ok (.iload_n 1, 1) := by decide +kernel
theorem dX4_hasGleaner_1 : decode cX4_hasGleaner 1 = .ok (.aload_n 0, 1) := by decide +kernel
theorem dX4_hasGleaner_2 : decode cX4_hasGleaner 2 = .ok (.getfield 42, 3) := by decide +kernel
theorem dX4_hasGleaner_5 : decode cX4_hasGleaner 5 = .ok (.invokestatic 73, 3) := by decide +kernel
theorem dX4_hasGleaner_8 : decode cX4_hasGleaner 8 = .ok (.ireturn, 1) := by decide +kernel
theorem dX4_addField_0 : decode cX4_addField 0 = .ok (.aload_n 0, 1) := by decide +kernel
theorem dX4_addField_1 : decode cX4_addField 1 = .ok (.getfield 9, 3) := by decide +kernel
theorem dX4_addField_4 : decode cX4_addField 4 = .ok (.aload_n 0, 1) := by decide +kernel
theorem dX4_addField_5 : decode cX4_addField 5 = .ok (.getfield 38, 3) := by decide +kernel
theorem dX4_addField_8 : decode cX4_addField 8 = .ok (.iload_n 1, 1) := by decide +kernel
theorem dX4_addField_9 : decode cX4_addField 9 = .ok (.iastore, 1) := by decide +kernel
theorem dX4_addField_10 : decode cX4_addField 10 = .ok (.aload_n 0, 1) := by decide +kernel
theorem dX4_addField_11 : decode cX4_addField 11 = .ok (.getfield 18, 3) := by decide +kernel
theorem dX4_addField_14 : decode cX4_addField 14 = .ok (.getfield 77, 3) := by decide +kernel
theorem dX4_addField_17 : decode cX4_addField 17 = .ok (.aload_n 0, 1) := by decide +kernel
theorem dX4_addField_18 : decode cX4_addField 18 = .ok (.getfield 38, 3) := by decide +kernel
theorem dX4_addField_21 : decode cX4_addField 21 = .ok (.iload_n 2, 1) := by decide +kernel
theorem dX4_addField_22 : decode cX4_addField 22 = .ok (.iastore, 1) := by decide +kernel
theorem dX4_addField_23 : decode cX4_addField 23 = .ok (.aload_n 0, 1) := by decide +kernel
theorem dX4_addField_24 : decode cX4_addField 24 = .ok (.iconst 0, 1) := by decide +kernel
theorem dX4_addField_25 : decode cX4_addField 25 = .ok (.putfield 45, 3) := by decide +kernel
theorem dX4_addField_28 : decode cX4_addField 28 = .ok (.aload_n 0, 1) := by decide +kernel
theorem dX4_addField_29 : decode cX4_addField 29 = .ok (.dup, 1) := by decide +kernel
theorem dX4_addField_30 : decode cX4_addField 30 = .ok (.getfield 38, 3) := by decide +kernel
theorem dX4_addField_33 : decode cX4_addField 33 = .ok (.dup_x1, 1) := by decide +kernel
theorem dX4_addField_34 : decode cX4_addField 34 = .ok (.iconst 1, 1) := by decide +kernel
theorem dX4_addField_35 : decode cX4_addField 35 = .ok (.iadd, 1) := by decide +kernel
theorem dX4_addField_36 : decode cX4_addField 36 = .ok (.putfield 38, 3) := by decide +kernel
theorem dX4_addField_39 : decode cX4_addField 39 = .ok (.ireturn, 1) := by decide +kernel
set_option maxRecDepth 20000 in
theorem ggX4_remember_X1_become : GoodIn wsX4_remember wsX1_become := goodIn_r _ [13, 14, 15, 16, 17, 18, 19, 20, 21, 22, 23, 35, 36, 37, 38, 39, 40] (by decide +kernel) (by decide +kernel)
set_option maxRecDepth 20000 in
theorem gX4_remember_X1_become : GoodIn wsX4_remember (wsV RX4 69 RX1 yX1_become wsX1_become) := goodIn_app (goodIn_of _ (by decide +kernel)) ggX4_remember_X1_become
theorem dX4_remember_0 : decode cX4_remember 0 = .ok (.aload_n 0, 1) := by decide +kernel
theorem dX4_remember_1 : decode cX4_remember 1 = .ok (.getfield 45, 3) := by decide +kernel
theorem dX4_remember_4 : decode cX4_remember 4 = .ok (.bipush 8, 2) := by decide +kernel
theorem dX4_remember_6 : decode cX4_remember 6 = .ok (.if_icmp .lt 7, 3) := by decide +kernel
theorem dX4_remember_13 : decode cX4_remember 13 = .ok (.aload_n 0, 1) := by decide +kernel
theorem dX4_remember_14 : decode cX4_remember 14 = .ok (.getfield 22, 3) := by decide +kernel
theorem dX4_remember_17 : decode cX4_remember 17 = .ok (.aload_n 0, 1) := by decide +kernel
theorem dX4_remember_18 : decode cX4_remember 18 = .ok (.getfield 45, 3) := by decide +kernel
theorem dX4_remember_21 : decode cX4_remember 21 = .ok (.aaload, 1) := by decide +kernel
theorem dX4_remember_22 : decode cX4_remember 22 = .ok (.aload_n 0, 1) := by decide +kernel
theorem dX4_remember_23 : decode cX4_remember 23 = .ok (.getfield 18, 3) := by decide +kernel
theorem dX4_remember_26 : decode cX4_remember 26 = .ok (.invokevirtual 69, 3) := by decide +kernel
theorem dX4_remember_29 : decode cX4_remember 29 = .ok (.aload_n 0, 1) := by decide +kernel
theorem dX4_remember_30 : decode cX4_remember 30 = .ok (.dup, 1) := by decide +kernel
theorem dX4_remember_31 : decode cX4_remember 31 = .ok (.getfield 45, 3) := by decide +kernel
theorem dX4_remember_34 : decode cX4_remember 34 = .ok (.iconst 1, 1) := by decide +kernel
theorem dX4_remember_35 : decode cX4_remember 35 = .ok (.iadd, 1) := by decide +kernel
theorem dX4_remember_36 : decode cX4_remember 36 = .ok (.putfield 45, 3) := by decide +kernel
theorem dX4_remember_39 : decode cX4_remember 39 = .ok (.return_, 1) := by decide +kernel
theorem dX4_gather_0 : decode cX4_gather 0 = .ok (.iconst 0, 1) := by decide +kernel
theorem dX4_gather_1 : decode cX4_gather 1 = .ok (.istore_n 3, 1) := by decide +kernel
theorem dX4_gather_2 : decode cX4_gather 2 = .ok (.iconst 0, 1) := by decide +kernel
theorem dX4_gather_3 : decode cX4_gather 3 = .ok (.istore 4, 2) := by decide +kernel
theorem dX4_gather_5 : decode cX4_gather 5 = .ok (.iload 4, 2) := by decide +kernel
theorem dX4_gather_7 : decode cX4_gather 7 = .ok (.iload_n 2, 1) := by decide +kernel
theorem dX4_gather_8 : decode cX4_gather 8 = .ok (.if_icmp .ge 54, 3) := by decide +kernel
theorem dX4_gather_11 : decode cX4_gather 11 = .ok (.iconst 0, 1) := by decide +kernel
theorem dX4_gather_12 : decode cX4_gather 12 = .ok (.istore 5, 2) := by decide +kernel
theorem dX4_gather_14 : decode cX4_gather 14 = .ok (.iload 5, 2) := by decide +kernel
theorem dX4_gather_16 : decode cX4_gather 16 = .ok (.aload_n 0, 1) := by decide +kernel
theorem dX4_gather_17 : decode cX4_gather 17 = .ok (.getfield 38, 3) := by decide +kernel
theorem dX4_gather_20 : decode cX4_gather 20 = .ok (.if_icmp .ge 26, 3) := by decide +kernel
theorem dX4_gather_46 : decode cX4_gather 46 = .ok (.aload_n 1, 1) := by decide +kernel
theorem dX4_gather_47 : decode cX4_gather 47 = .ok (.dup, 1) := by decide +kernel
theorem dX4_gather_48 : decode cX4_gather 48 = .ok (.getfield 54, 3) := by decide +kernel
theorem dX4_gather_51 : decode cX4_gather 51 = .ok (.iconst 1, 1) := by decide +kernel
theorem dX4_gather_52 : decode cX4_gather 52 = .ok (.iadd, 1) := by decide +kernel
theorem dX4_gather_53 : decode cX4_gather 53 = .ok (.putfield 54, 3) := by decide +kernel
theorem dX4_gather_56 : decode cX4_gather 56 = .ok (.iinc 4 1, 3) := by decide +kernel
theorem dX4_gather_59 : decode cX4_gather 59 = .ok (.goto (-54), 3) := by decide +kernel
theorem dX4_gather_62 : decode cX4_gather 62 = .ok (.iload_n 3, 1) := by decide +kernel
theorem dX4_gather_63 : decode cX4_gather 63 = .ok (.ireturn, 1) := by decide +kernel
theorem dX4_fade_0 : decode cX4_fade 0 = .ok (.iconst 0, 1) := by decide +kernel
theorem dX4_fade_1 : decode cX4_fade 1 = .ok (.istore_n 2, 1) := by decide +kernel
theorem dX4_fade_2 : decode cX4_fade 2 = .ok (.iload_n 2, 1) := by decide +kernel
theorem dX4_fade_3 : decode cX4_fade 3 = .ok (.aload_n 0, 1) := by decide +kernel
theorem dX4_fade_4 : decode cX4_fade 4 = .ok (.getfield 42, 3) := by decide +kernel
theorem dX4_fade_7 : decode cX4_fade 7 = .ok (.if_icmp .ge 24, 3) := by decide +kernel
theorem dX4_fade_31 : decode cX4_fade 31 = .ok (.iconst 0, 1) := by decide +kernel
theorem dX4_fade_32 : decode cX4_fade 32 = .ok (.istore_n 2, 1) := by decide +kernel
theorem dX4_fade_33 : decode cX4_fade 33 = .ok (.iload_n 2, 1) := by decide +kernel
theorem dX4_fade_34 : decode cX4_fade 34 = .ok (.aload_n 0, 1) := by decide +kernel
theorem dX4_fade_35 : decode cX4_fade 35 = .ok (.getfield 38, 3) := by decide +kernel
theorem dX4_fade_38 : decode cX4_fade 38 = .ok (.if_icmp .ge 29, 3) := by decide +kernel
theorem dX4_fade_67 : decode cX4_fade 67 = .ok (.aload_n 1, 1) := by decide +kernel
theorem dX4_fade_68 : decode cX4_fade 68 = .ok (.sipush 999, 3) := by decide +kernel
theorem dX4_fade_71 : decode cX4_fade 71 = .ok (.aload_n 1, 1) := by decide +kernel
theorem dX4_fade_72 : decode cX4_fade 72 = .ok (.getfield 60, 3) := by decide +kernel
theorem dX4_fade_75 : decode cX4_fade 75 = .ok (.iconst 1, 1) := by decide +kernel
theorem dX4_fade_76 : decode cX4_fade 76 = .ok (.iadd, 1) := by decide +kernel
theorem dX4_fade_77 : decode cX4_fade 77 = .ok (.invokestatic 109, 3) := by decide +kernel
theorem dX4_fade_80 : decode cX4_fade 80 = .ok (.putfield 60, 3) := by decide +kernel
theorem dX4_fade_83 : decode cX4_fade 83 = .ok (.aload_n 1, 1) := by decide +kernel
theorem dX4_fade_84 : decode cX4_fade 84 = .ok (.iconst 0, 1) := by decide +kernel
theorem dX4_fade_85 : decode cX4_fade 85 = .ok (.putfield 54, 3) := by decide +kernel
theorem dX4_fade_88 : decode cX4_fade 88 = .ok (.return_, 1) := by decide +kernel
theorem dX4_storesOf_0 : decode cX4_storesOf 0 = .ok (.iconst 0, 1) := by decide +kernel
theorem dX4_storesOf_1 : decode cX4_storesOf 1 = .ok (.istore_n 2, 1) := by decide +kernel
theorem dX4_storesOf_2 : decode cX4_storesOf 2 = .ok (.iconst 0, 1) := by decide +kernel
theorem dX4_storesOf_3 : decode cX4_storesOf 3 = .ok (.istore_n 3, 1) := by decide +kernel
theorem dX4_storesOf_4 : decode cX4_storesOf 4 = .ok (.iload_n 3, 1) := by decide +kernel
theorem dX4_storesOf_5 : decode cX4_storesOf 5 = .ok (.aload_n 0, 1) := by decide +kernel
theorem dX4_storesOf_6 : decode cX4_storesOf 6 = .ok (.getfield 42, 3) := by decide +kernel
theorem dX4_storesOf_9 : decode cX4_storesOf 9 = .ok (.if_icmp .ge 30, 3) := by decide +kernel
theorem dX4_storesOf_39 : decode cX4_storesOf 39 = .ok (.iload_n 2, 1) := by decide +kernel
theorem dX4_storesOf_40 : decode cX4_storesOf 40 = .ok (.ireturn, 1) := by decide +kernel
theorem dX4_missedFit_0 : decode cX4_missedFit 0 = .ok (.iconst 0, 1) := by decide +kernel
theorem dX4_missedFit_1 : decode cX4_missedFit 1 = .ok (.istore_n 2, 1) := by decide +kernel
theorem dX4_missedFit_2 : decode cX4_missedFit 2 = .ok (.iload_n 2, 1) := by decide +kernel
theorem dX4_missedFit_3 : decode cX4_missedFit 3 = .ok (.aload_n 0, 1) := by decide +kernel
theorem dX4_missedFit_4 : decode cX4_missedFit 4 = .ok (.getfield 48, 3) := by decide +kernel
theorem dX4_missedFit_7 : decode cX4_missedFit 7 = .ok (.if_icmp .ge 47, 3) := by decide +kernel
theorem dX4_missedFit_54 : decode cX4_missedFit 54 = .ok (.iconst 1, 1) := by decide +kernel
theorem dX4_missedFit_55 : decode cX4_missedFit 55 = .ok (.ireturn, 1) := by decide +kernel
theorem dX5_init_0 : decode cX5_init 0 = .ok (.aload_n 0, 1) := by decide +kernel
theorem dX5_init_1 : decode cX5_init 1 = .ok (.invokespecial 1, 3) := by decide +kernel
theorem dX5_init_4 : decode cX5_init 4 = .ok (.return_, 1) := by decide +kernel
set_option maxRecDepth 20000 in
theorem ggX6_init_X5_init : GoodIn wsX6_init wsX5_init := goodIn_r _ [3, 4, 5, 6] (by decide +kernel) (by decide +kernel)
set_option maxRecDepth 20000 in
theorem gX6_init_X5_init_n1 : GoodIn wsX6_init (wsX5_init) := ggX6_init_X5_init
theorem dX6_init_0 : decode cX6_init 0 = .ok (.aload_n 0, 1) := by decide +kernel
theorem dX6_init_1 : decode cX6_init 1 = .ok (.invokespecial 1, 3) := by decide +kernel
theorem dX6_init_4 : decode cX6_init 4 = .ok (.return_, 1) := by decide +kernel
theorem dX7_init_0 : decode cX7_init 0 = .ok (.aload_n 0, 1) := by decide +kernel
theorem dX7_init_1 : decode cX7_init 1 = .ok (.invokespecial 3, 3) := by decide +kernel
theorem dX7_init_4 : decode cX7_init 4 = .ok (.aload_n 0, 1) := by decide +kernel
theorem dX7_init_5 : decode cX7_init 5 = .ok (.sipush 150, 3) := by decide +kernel
theorem dX7_init_8 : decode cX7_init 8 = .ok (.newarray .byte, 2) := by decide +kernel
theorem dX7_init_10 : decode cX7_init 10 = .ok (.putfield 9, 3) := by decide +kernel
theorem dX7_init_13 : decode cX7_init 13 = .ok (.aload_n 0, 1) := by decide +kernel
theorem dX7_init_14 : decode cX7_init 14 = .ok (.bipush 25, 2) := by decide +kernel
theorem dX7_init_16 : decode cX7_init 16 = .ok (.newarray .int, 2) := by decide +kernel
theorem dX7_init_18 : decode cX7_init 18 = .ok (.putfield 15, 3) := by decide +kernel
theorem dX7_init_21 : decode cX7_init 21 = .ok (.aload_n 0, 1) := by decide +kernel
theorem dX7_init_22 : decode cX7_init 22 = .ok (.bipush 25, 2) := by decide +kernel
theorem dX7_init_24 : decode cX7_init 24 = .ok (.newarray .int, 2) := by decide +kernel
theorem dX7_init_26 : decode cX7_init 26 = .ok (.putfield 19, 3) := by decide +kernel
theorem dX7_init_29 : decode cX7_init 29 = .ok (.aload_n 0, 1) := by decide +kernel
theorem dX7_init_30 : decode cX7_init 30 = .ok (.bipush 25, 2) := by decide +kernel
theorem dX7_init_32 : decode cX7_init 32 = .ok (.newarray .int, 2) := by decide +kernel
theorem dX7_init_34 : decode cX7_init 34 = .ok (.putfield 22, 3) := by decide +kernel
theorem dX7_init_37 : decode cX7_init 37 = .ok (.return_, 1) := by decide +kernel
theorem dX7_append_0 : decode cX7_append 0 = .ok (.aload_n 0, 1) := by decide +kernel
theorem dX7_append_1 : decode cX7_append 1 = .ok (.getfield 9, 3) := by decide +kernel
theorem dX7_append_4 : decode cX7_append 4 = .ok (.aload_n 0, 1) := by decide +kernel
theorem dX7_append_5 : decode cX7_append 5 = .ok (.getfield 25, 3) := by decide +kernel
theorem dX7_append_8 : decode cX7_append 8 = .ok (.iload_n 1, 1) := by decide +kernel
theorem dX7_append_9 : decode cX7_append 9 = .ok (.i2b, 1) := by decide +kernel
theorem dX7_append_10 : decode cX7_append 10 = .ok (.bastore, 1) := by decide +kernel
theorem dX7_append_11 : decode cX7_append 11 = .ok (.aload_n 0, 1) := by decide +kernel
theorem dX7_append_12 : decode cX7_append 12 = .ok (.dup, 1) := by decide +kernel
theorem dX7_append_13 : decode cX7_append 13 = .ok (.getfield 25, 3) := by decide +kernel
theorem dX7_append_16 : decode cX7_append 16 = .ok (.iconst 1, 1) := by decide +kernel
theorem dX7_append_17 : decode cX7_append 17 = .ok (.iadd, 1) := by decide +kernel
theorem dX7_append_18 : decode cX7_append 18 = .ok (.dup_x1, 1) := by decide +kernel
theorem dX7_append_19 : decode cX7_append 19 = .ok (.putfield 25, 3) := by decide +kernel
theorem dX7_append_22 : decode cX7_append 22 = .ok (.ireturn, 1) := by decide +kernel
set_option maxRecDepth 20000 in
theorem ggX7_parse_X7_advance : GoodIn wsX7_parse wsX7_advance := goodIn_r _ [11, 1, 6, 12, 13, 5, 14, 15, 10, 16, 17, 18, 19, 20, 21, 22, 23, 24, 25, 26, 27, 28, 29, 30, 31, 32, 104, 105, 106, 107, 108, 109, 110, 111, 112, 113, 114, 115] (by decide +kernel) (by decide +kernel)
set_option maxRecDepth 20000 in
theorem gX7_parse_X7_advance : GoodIn wsX7_parse (wsV RX7 41 RX7 yX7_advance wsX7_advance) := goodIn_app (goodIn_of _ (by decide +kernel)) ggX7_parse_X7_advance
set_option maxRecDepth 20000 in
theorem ggX7_parse_X7_isItem : GoodIn wsX7_parse wsX7_isItem := goodIn_r _ [36, 37, 38, 2, 39, 3, 4, 28, 40, 41, 42, 10, 43, 5, 44, 45, 46, 47, 1, 6, 13, 48, 49, 50, 51, 52, 53, 54, 55, 56, 57, 58, 59, 60, 61, 62, 63, 64, 65, 66, 67, 68, 69, 70, 71, 72, 73, 74, 75, 76, 77, 78, 79, 80, 81, 82, 83, 84, 85, 86, 87, 88, 89, 90, 91, 92, 93, 94, 95, 96, 97, 98, 99, 100, 7, 8, 9, 11, 12, 14, 15, 16, 17, 18, 19, 20, 21, 22, 23, 24, 25, 26, 27, 29, 30, 31, 32, 101, 102, 103, 104, 105, 106, 107, 108, 109, 110, 111, 112, 113, 114, 115] (by decide +kernel) (by decide +kernel)
set_option maxRecDepth 20000 in
theorem gX7_parse_X7_isItem : GoodIn wsX7_parse (wsV RX7 47 RX7 yX7_isItem wsX7_isItem) := goodIn_app (goodIn_of _ (by decide +kernel)) ggX7_parse_X7_isItem
theorem dX7_parse_0 : decode cX7_parse 0 = .ok (.aload_n 0, 1) := by decide +kernel
theorem dX7_parse_1 : decode cX7_parse 1 = .ok (.iconst 0, 1) := by decide +kernel
theorem dX7_parse_2 : decode cX7_parse 2 = .ok (.putfield 29, 3) := by decide +kernel
theorem dX7_parse_5 : decode cX7_parse 5 = .ok (.aload_n 0, 1) := by decide +kernel
theorem dX7_parse_6 : decode cX7_parse 6 = .ok (.iconst 0, 1) := by decide +kernel
theorem dX7_parse_7 : decode cX7_parse 7 = .ok (.putfield 32, 3) := by decide +kernel
theorem dX7_parse_10 : decode cX7_parse 10 = .ok (.aload_n 0, 1) := by decide +kernel
theorem dX7_parse_11 : decode cX7_parse 11 = .ok (.iconst 0, 1) := by decide +kernel
theorem dX7_parse_12 : decode cX7_parse 12 = .ok (.putfield 35, 3) := by decide +kernel
theorem dX7_parse_15 : decode cX7_parse 15 = .ok (.aload_n 0, 1) := by decide +kernel
theorem dX7_parse_16 : decode cX7_parse 16 = .ok (.bipush 12, 2) := by decide +kernel
theorem dX7_parse_18 : decode cX7_parse 18 = .ok (.putfield 38, 3) := by decide +kernel
theorem dX7_parse_21 : decode cX7_parse 21 = .ok (.iconst 0, 1) := by decide +kernel
theorem dX7_parse_22 : decode cX7_parse 22 = .ok (.istore_n 1, 1) := by decide +kernel
theorem dX7_parse_23 : decode cX7_parse 23 = .ok (.iload_n 1, 1) := by decide +kernel
theorem dX7_parse_24 : decode cX7_parse 24 = .ok (.bipush 25, 2) := by decide +kernel
theorem dX7_parse_26 : decode cX7_parse 26 = .ok (.if_icmp .ge 52, 3) := by decide +kernel
theorem dX7_parse_29 : decode cX7_parse 29 = .ok (.aload_n 0, 1) := by decide +kernel
theorem dX7_parse_30 : decode cX7_parse 30 = .ok (.invokevirtual 41, 3) := by decide +kernel
theorem dX7_parse_33 : decode cX7_parse 33 = .ok (.aload_n 0, 1) := by decide +kernel
theorem dX7_parse_34 : decode cX7_parse 34 = .ok (.getfield 44, 3) := by decide +kernel
theorem dX7_parse_37 : decode cX7_parse 37 = .ok (.ifCond .ne 9, 3) := by decide +kernel
theorem dX7_parse_40 : decode cX7_parse 40 = .ok (.iload_n 1, 1) := by decide +kernel
theorem dX7_parse_41 : decode cX7_parse 41 = .ok (.ifCond .le 5, 3) := by decide +kernel
theorem dX7_parse_46 : decode cX7_parse 46 = .ok (.aload_n 0, 1) := by decide +kernel
theorem dX7_parse_47 : decode cX7_parse 47 = .ok (.iload_n 1, 1) := by decide +kernel
theorem dX7_parse_48 : decode cX7_parse 48 = .ok (.invokevirtual 47, 3) := by decide +kernel
theorem dX7_parse_51 : decode cX7_parse 51 = .ok (.ifCond .ne 6, 3) := by decide +kernel
theorem dX7_parse_54 : decode cX7_parse 54 = .ok (.goto 24, 3) := by decide +kernel
theorem dX7_parse_78 : decode cX7_parse 78 = .ok (.bipush (-10), 2) := by decide +kernel
theorem dX7_parse_80 : decode cX7_parse 80 = .ok (.aload_n 0, 1) := by decide +kernel
theorem dX7_parse_81 : decode cX7_parse 81 = .ok (.getfield 51, 3) := by decide +kernel
theorem dX7_parse_84 : decode cX7_parse 84 = .ok (.isub, 1) := by decide +kernel
theorem dX7_parse_85 : decode cX7_parse 85 = .ok (.ireturn, 1) := by decide +kernel
set_option maxRecDepth 20000 in
theorem ggX7_isItem_X7_wordHere : GoodIn wsX7_isItem wsX7_wordHere := goodIn_r _ [12, 13, 14, 15, 16, 11, 17, 18, 19, 20, 21, 22, 23, 24, 25, 26, 27, 28, 29, 30, 31, 32, 33, 34, 35, 36, 37, 38, 39, 40, 41, 42, 43, 44, 45, 46, 47, 48, 49, 50, 51, 52, 53, 54, 55, 56, 57, 58, 59, 60, 61, 62, 63, 64, 65, 66, 67, 68, 69, 100, 101, 102, 103, 104, 105, 106, 107, 108, 109, 110, 111] (by decide +kernel) (by decide +kernel)
set_option maxRecDepth 20000 in
theorem gX7_isItem_X7_wordHere : GoodIn wsX7_isItem (wsV RX7 54 RX7 yX7_wordHere wsX7_wordHere) := goodIn_app (goodIn_of _ (by decide +kernel)) ggX7_isItem_X7_wordHere
theorem dX7_isItem_0 : decode cX7_isItem 0 = .ok (.aload_n 0, 1) := by decide +kernel
theorem dX7_isItem_1 : decode cX7_isItem 1 = .ok (.invokevirtual 54, 3) := by decide +kernel
theorem dX7_isItem_4 : decode cX7_isItem 4 = .ok (.istore_n 2, 1) := by decide +kernel
theorem dX7_isItem_5 : decode cX7_isItem 5 = .ok (.iload_n 2, 1) := by decide +kernel
theorem dX7_isItem_6 : decode cX7_isItem 6 = .ok (.iconst (-1), 1) := by decide +kernel
theorem dX7_isItem_7 : decode cX7_isItem 7 = .ok (.if_icmp .eq 24, 3) := by decide +kernel
theorem dX7_isItem_31 : decode cX7_isItem 31 = .ok (.iconst 0, 1) := by decide +kernel
theorem dX7_isItem_32 : decode cX7_isItem 32 = .ok (.ireturn, 1) := by decide +kernel
theorem dX7_wordHere_0 : decode cX7_wordHere 0 = .ok (.aload_n 0, 1) := by decide +kernel
theorem dX7_wordHere_1 : decode cX7_wordHere 1 = .ok (.getfield 44, 3) := by decide +kernel
theorem dX7_wordHere_4 : decode cX7_wordHere 4 = .ok (.iconst 1, 1) := by decide +kernel
theorem dX7_wordHere_5 : decode cX7_wordHere 5 = .ok (.if_icmp .eq 5, 3) := by decide +kernel
theorem dX7_wordHere_8 : decode cX7_wordHere 8 = .ok (.iconst (-1), 1) := by decide +kernel
theorem dX7_wordHere_9 : decode cX7_wordHere 9 = .ok (.ireturn, 1) := by decide +kernel
theorem dX7_advance_0 : decode cX7_advance 0 = .ok (.aload_n 0, 1) := by decide +kernel
theorem dX7_advance_1 : decode cX7_advance 1 = .ok (.aload_n 0, 1) := by decide +kernel
theorem dX7_advance_2 : decode cX7_advance 2 = .ok (.getfield 29, 3) := by decide +kernel
theorem dX7_advance_5 : decode cX7_advance 5 = .ok (.putfield 51, 3) := by decide +kernel
theorem dX7_advance_8 : decode cX7_advance 8 = .ok (.aload_n 0, 1) := by decide +kernel
theorem dX7_advance_9 : decode cX7_advance 9 = .ok (.getfield 51, 3) := by decide +kernel
theorem dX7_advance_12 : decode cX7_advance 12 = .ok (.aload_n 0, 1) := by decide +kernel
theorem dX7_advance_13 : decode cX7_advance 13 = .ok (.getfield 25, 3) := by decide +kernel
theorem dX7_advance_16 : decode cX7_advance 16 = .ok (.if_icmp .ge 30, 3) := by decide +kernel
theorem dX7_advance_46 : decode cX7_advance 46 = .ok (.aload_n 0, 1) := by decide +kernel
theorem dX7_advance_47 : decode cX7_advance 47 = .ok (.aload_n 0, 1) := by decide +kernel
theorem dX7_advance_48 : decode cX7_advance 48 = .ok (.getfield 51, 3) := by decide +kernel
theorem dX7_advance_51 : decode cX7_advance 51 = .ok (.putfield 29, 3) := by decide +kernel
theorem dX7_advance_54 : decode cX7_advance 54 = .ok (.aload_n 0, 1) := by decide +kernel
theorem dX7_advance_55 : decode cX7_advance 55 = .ok (.getfield 51, 3) := by decide +kernel
theorem dX7_advance_58 : decode cX7_advance 58 = .ok (.aload_n 0, 1) := by decide +kernel
theorem dX7_advance_59 : decode cX7_advance 59 = .ok (.getfield 25, 3) := by decide +kernel
theorem dX7_advance_62 : decode cX7_advance 62 = .ok (.if_icmp .lt 11, 3) := by decide +kernel
theorem dX7_advance_65 : decode cX7_advance 65 = .ok (.aload_n 0, 1) := by decide +kernel
theorem dX7_advance_66 : decode cX7_advance 66 = .ok (.iconst 0, 1) := by decide +kernel
theorem dX7_advance_67 : decode cX7_advance 67 = .ok (.putfield 44, 3) := by decide +kernel
theorem dX7_advance_70 : decode cX7_advance 70 = .ok (.goto 51, 3) := by decide +kernel
theorem dX7_advance_121 : decode cX7_advance 121 = .ok (.return_, 1) := by decide +kernel
set_option maxRecDepth 20000 in
theorem ggX8_init_X5_init : GoodIn wsX8_init wsX5_init := goodIn_r _ [3, 4, 5, 6] (by decide +kernel) (by decide +kernel)
set_option maxRecDepth 20000 in
theorem gX8_init_X5_init_n1 : GoodIn wsX8_init (wsX5_init) := ggX8_init_X5_init
theorem dX8_init_0 : decode cX8_init 0 = .ok (.aload_n 0, 1) := by decide +kernel
theorem dX8_init_1 : decode cX8_init 1 = .ok (.invokespecial 1, 3) := by decide +kernel
theorem dX8_init_4 : decode cX8_init 4 = .ok (.return_, 1) := by decide +kernel
set_option maxRecDepth 20000 in
theorem ggX9_init_X5_init : GoodIn wsX9_init wsX5_init := goodIn_r _ [3, 4, 5, 6] (by decide +kernel) (by decide +kernel)
set_option maxRecDepth 20000 in
theorem gX9_init_X5_init_n1 : GoodIn wsX9_init (wsX5_init) := ggX9_init_X5_init
theorem dX9_init_0 : decode cX9_init 0 = .ok (.aload_n 0, 1) := by decide +kernel
theorem dX9_init_1 : decode cX9_init 1 = .ok (.invokespecial 1, 3) := by decide +kernel
theorem dX9_init_4 : decode cX9_init 4 = .ok (.return_, 1) := by decide +kernel
set_option maxRecDepth 20000 in
theorem ggX10_init_X5_init : GoodIn wsX10_init wsX5_init := goodIn_r _ [49, 50, 2, 3] (by decide +kernel) (by decide +kernel)
set_option maxRecDepth 20000 in
theorem gX10_init_X5_init_n9 : GoodIn wsX10_init (wsX5_init) := ggX10_init_X5_init
set_option maxRecDepth 20000 in
theorem ggX10_init_X8_init : GoodIn wsX10_init wsX8_init := goodIn_r _ [52, 48, 6, 49, 50, 2, 3] (by decide +kernel) (by decide +kernel)
set_option maxRecDepth 20000 in
theorem gX10_init_X8_init_n12 : GoodIn wsX10_init (wsX8_init) := ggX10_init_X8_init
set_option maxRecDepth 20000 in
theorem ggX10_init_X9_init : GoodIn wsX10_init wsX9_init := goodIn_r _ [54, 48, 6, 49, 50, 2, 3] (by decide +kernel) (by decide +kernel)
set_option maxRecDepth 20000 in
theorem gX10_init_X9_init_n15 : GoodIn wsX10_init (wsX9_init) := ggX10_init_X9_init
set_option maxRecDepth 20000 in
theorem ggX10_init_X6_init : GoodIn wsX10_init wsX6_init := goodIn_r _ [56, 48, 6, 49, 50, 2, 3] (by decide +kernel) (by decide +kernel)
set_option maxRecDepth 20000 in
theorem gX10_init_X6_init_n18 : GoodIn wsX10_init (wsX6_init) := ggX10_init_X6_init
set_option maxRecDepth 20000 in
theorem ggX10_init_X2_init : GoodIn wsX10_init wsX2_init := goodIn_r _ [58, 51, 9, 52, 48, 6, 49, 50, 2, 3] (by decide +kernel) (by decide +kernel)
set_option maxRecDepth 20000 in
theorem gX10_init_X2_init_n21 : GoodIn wsX10_init (wsX2_init) := ggX10_init_X2_init
set_option maxRecDepth 20000 in
theorem ggX10_init_X3_init : GoodIn wsX10_init wsX3_init := goodIn_r _ [60, 53, 12, 54, 48, 6, 49, 50, 2, 3] (by decide +kernel) (by decide +kernel)
set_option maxRecDepth 20000 in
theorem gX10_init_X3_init_n24 : GoodIn wsX10_init (wsX3_init) := ggX10_init_X3_init
set_option maxRecDepth 20000 in
theorem ggX10_init_X4_init : GoodIn wsX10_init wsX4_init := goodIn_r _ [63, 64, 2, 3, 42, 65, 66, 35, 36, 67, 68, 69, 70, 71, 72, 73, 74, 75, 76, 77, 78, 104, 105, 106, 107, 108, 109, 110, 111, 112, 113, 114, 127, 128, 129, 130, 131, 132] (by decide +kernel) (by decide +kernel)
set_option maxRecDepth 20000 in
theorem gX10_init_X4_init : GoodIn wsX10_init (wsX4_init) := ggX10_init_X4_init
set_option maxRecDepth 20000 in
theorem ggX10_init_X7_init : GoodIn wsX10_init wsX7_init := goodIn_r _ [80, 81, 2, 3, 82, 83, 42, 84, 85, 86, 115, 116, 117, 118, 119, 120, 121, 122, 123, 124, 125, 126] (by decide +kernel) (by decide +kernel)
set_option maxRecDepth 20000 in
theorem gX10_init_X7_init_n50 : GoodIn wsX10_init (wsX7_init) := ggX10_init_X7_init
set_option maxRecDepth 20000 in
theorem ggX10_init_X1_init : GoodIn wsX10_init wsX1_init := goodIn_r _ [74, 75, 2, 3, 42, 76, 77, 78, 127, 128, 129, 130, 131, 132] (by decide +kernel) (by decide +kernel)
set_option maxRecDepth 20000 in
theorem gX10_init_X1_init_n57 : GoodIn wsX10_init (wsX1_init) := ggX10_init_X1_init
set_option maxRecDepth 20000 in
theorem ggX10_init_X0_init : GoodIn wsX10_init wsX0_init := goodIn_r _ [88, 89, 2, 3, 42, 90, 91, 133, 134, 135] (by decide +kernel) (by decide +kernel)
set_option maxRecDepth 20000 in
theorem gX10_init_X0_init_n64 : GoodIn wsX10_init (wsX0_init) := ggX10_init_X0_init
theorem dX10_init_0 : decode cX10_init 0 = .ok (.aload_n 0, 1) := by decide +kernel
theorem dX10_init_1 : decode cX10_init 1 = .ok (.invokespecial 1, 3) := by decide +kernel
theorem dX10_init_4 : decode cX10_init 4 = .ok (.aload_n 0, 1) := by decide +kernel
theorem dX10_init_5 : decode cX10_init 5 = .ok (.bipush 6, 2) := by decide +kernel
theorem dX10_init_7 : decode cX10_init 7 = .ok (.anewarray 7, 3) := by decide +kernel
theorem dX10_init_10 : decode cX10_init 10 = .ok (.dup, 1) := by decide +kernel
theorem dX10_init_11 : decode cX10_init 11 = .ok (.iconst 0, 1) := by decide +kernel
theorem dX10_init_12 : decode cX10_init 12 = .ok (.new 7, 3) := by decide +kernel
theorem dX10_init_15 : decode cX10_init 15 = .ok (.dup, 1) := by decide +kernel
theorem dX10_init_16 : decode cX10_init 16 = .ok (.invokespecial 9, 3) := by decide +kernel
theorem dX10_init_19 : decode cX10_init 19 = .ok (.aastore, 1) := by decide +kernel
theorem dX10_init_20 : decode cX10_init 20 = .ok (.dup, 1) := by decide +kernel
theorem dX10_init_21 : decode cX10_init 21 = .ok (.iconst 1, 1) := by decide +kernel
theorem dX10_init_22 : decode cX10_init 22 = .ok (.new 10, 3) := by decide +kernel
theorem dX10_init_25 : decode cX10_init 25 = .ok (.dup, 1) := by decide +kernel
theorem dX10_init_26 : decode cX10_init 26 = .ok (.invokespecial 12, 3) := by decide +kernel
theorem dX10_init_29 : decode cX10_init 29 = .ok (.aastore, 1) := by decide +kernel
theorem dX10_init_30 : decode cX10_init 30 = .ok (.dup, 1) := by decide +kernel
theorem dX10_init_31 : decode cX10_init 31 = .ok (.iconst 2, 1) := by decide +kernel
theorem dX10_init_32 : decode cX10_init 32 = .ok (.new 13, 3) := by decide +kernel
theorem dX10_init_35 : decode cX10_init 35 = .ok (.dup, 1) := by decide +kernel
theorem dX10_init_36 : decode cX10_init 36 = .ok (.invokespecial 15, 3) := by decide +kernel
theorem dX10_init_39 : decode cX10_init 39 = .ok (.aastore, 1) := by decide +kernel
theorem dX10_init_40 : decode cX10_init 40 = .ok (.dup, 1) := by decide +kernel
theorem dX10_init_41 : decode cX10_init 41 = .ok (.iconst 3, 1) := by decide +kernel
theorem dX10_init_42 : decode cX10_init 42 = .ok (.new 16, 3) := by decide +kernel
theorem dX10_init_45 : decode cX10_init 45 = .ok (.dup, 1) := by decide +kernel
theorem dX10_init_46 : decode cX10_init 46 = .ok (.invokespecial 18, 3) := by decide +kernel
theorem dX10_init_49 : decode cX10_init 49 = .ok (.aastore, 1) := by decide +kernel
theorem dX10_init_50 : decode cX10_init 50 = .ok (.dup, 1) := by decide +kernel
theorem dX10_init_51 : decode cX10_init 51 = .ok (.iconst 4, 1) := by decide +kernel
theorem dX10_init_52 : decode cX10_init 52 = .ok (.new 19, 3) := by decide +kernel
theorem dX10_init_55 : decode cX10_init 55 = .ok (.dup, 1) := by decide +kernel
theorem dX10_init_56 : decode cX10_init 56 = .ok (.invokespecial 21, 3) := by decide +kernel
theorem dX10_init_59 : decode cX10_init 59 = .ok (.aastore, 1) := by decide +kernel
theorem dX10_init_60 : decode cX10_init 60 = .ok (.dup, 1) := by decide +kernel
theorem dX10_init_61 : decode cX10_init 61 = .ok (.iconst 5, 1) := by decide +kernel
theorem dX10_init_62 : decode cX10_init 62 = .ok (.new 22, 3) := by decide +kernel
theorem dX10_init_65 : decode cX10_init 65 = .ok (.dup, 1) := by decide +kernel
theorem dX10_init_66 : decode cX10_init 66 = .ok (.invokespecial 24, 3) := by decide +kernel
theorem dX10_init_69 : decode cX10_init 69 = .ok (.aastore, 1) := by decide +kernel
theorem dX10_init_70 : decode cX10_init 70 = .ok (.putfield 25, 3) := by decide +kernel
theorem dX10_init_73 : decode cX10_init 73 = .ok (.aload_n 0, 1) := by decide +kernel
theorem dX10_init_74 : decode cX10_init 74 = .ok (.new 31, 3) := by decide +kernel
theorem dX10_init_77 : decode cX10_init 77 = .ok (.dup, 1) := by decide +kernel
theorem dX10_init_78 : decode cX10_init 78 = .ok (.aload_n 0, 1) := by decide +kernel
theorem dX10_init_79 : decode cX10_init 79 = .ok (.getfield 25, 3) := by decide +kernel
theorem dX10_init_82 : decode cX10_init 82 = .ok (.invokespecial 33, 3) := by decide +kernel
theorem dX10_init_85 : decode cX10_init 85 = .ok (.putfield 36, 3) := by decide +kernel
theorem dX10_init_88 : decode cX10_init 88 = .ok (.aload_n 0, 1) := by decide +kernel
theorem dX10_init_89 : decode cX10_init 89 = .ok (.iconst 2, 1) := by decide +kernel
theorem dX10_init_90 : decode cX10_init 90 = .ok (.anewarray 31, 3) := by decide +kernel
theorem dX10_init_93 : decode cX10_init 93 = .ok (.dup, 1) := by decide +kernel
theorem dX10_init_94 : decode cX10_init 94 = .ok (.iconst 0, 1) := by decide +kernel
theorem dX10_init_95 : decode cX10_init 95 = .ok (.new 31, 3) := by decide +kernel
theorem dX10_init_98 : decode cX10_init 98 = .ok (.dup, 1) := by decide +kernel
theorem dX10_init_99 : decode cX10_init 99 = .ok (.aload_n 0, 1) := by decide +kernel
theorem dX10_init_100 : decode cX10_init 100 = .ok (.getfield 25, 3) := by decide +kernel
theorem dX10_init_103 : decode cX10_init 103 = .ok (.invokespecial 33, 3) := by decide +kernel
theorem dX10_init_106 : decode cX10_init 106 = .ok (.aastore, 1) := by decide +kernel
theorem dX10_init_107 : decode cX10_init 107 = .ok (.dup, 1) := by decide +kernel
theorem dX10_init_108 : decode cX10_init 108 = .ok (.iconst 1, 1) := by decide +kernel
theorem dX10_init_109 : decode cX10_init 109 = .ok (.new 31, 3) := by decide +kernel
theorem dX10_init_112 : decode cX10_init 112 = .ok (.dup, 1) := by decide +kernel
theorem dX10_init_113 : decode cX10_init 113 = .ok (.aload_n 0, 1) := by decide +kernel
theorem dX10_init_114 : decode cX10_init 114 = .ok (.getfield 25, 3) := by decide +kernel
theorem dX10_init_117 : decode cX10_init 117 = .ok (.invokespecial 33, 3) := by decide +kernel
theorem dX10_init_120 : decode cX10_init 120 = .ok (.aastore, 1) := by decide +kernel
theorem dX10_init_121 : decode cX10_init 121 = .ok (.putfield 40, 3) := by decide +kernel
theorem dX10_init_124 : decode cX10_init 124 = .ok (.aload_n 0, 1) := by decide +kernel
theorem dX10_init_125 : decode cX10_init 125 = .ok (.iconst 2, 1) := by decide +kernel
theorem dX10_init_126 : decode cX10_init 126 = .ok (.newarray .boolean, 2) := by decide +kernel
theorem dX10_init_128 : decode cX10_init 128 = .ok (.putfield 44, 3) := by decide +kernel
theorem dX10_init_131 : decode cX10_init 131 = .ok (.aload_n 0, 1) := by decide +kernel
theorem dX10_init_132 : decode cX10_init 132 = .ok (.new 48, 3) := by decide +kernel
theorem dX10_init_135 : decode cX10_init 135 = .ok (.dup, 1) := by decide +kernel
theorem dX10_init_136 : decode cX10_init 136 = .ok (.invokespecial 50, 3) := by decide +kernel
theorem dX10_init_139 : decode cX10_init 139 = .ok (.putfield 51, 3) := by decide +kernel
theorem dX10_init_142 : decode cX10_init 142 = .ok (.aload_n 0, 1) := by decide +kernel
theorem dX10_init_143 : decode cX10_init 143 = .ok (.new 55, 3) := by decide +kernel
theorem dX10_init_146 : decode cX10_init 146 = .ok (.dup, 1) := by decide +kernel
theorem dX10_init_147 : decode cX10_init 147 = .ok (.invokespecial 57, 3) := by decide +kernel
theorem dX10_init_150 : decode cX10_init 150 = .ok (.putfield 58, 3) := by decide +kernel
theorem dX10_init_153 : decode cX10_init 153 = .ok (.aload_n 0, 1) := by decide +kernel
theorem dX10_init_154 : decode cX10_init 154 = .ok (.new 62, 3) := by decide +kernel
theorem dX10_init_157 : decode cX10_init 157 = .ok (.dup, 1) := by decide +kernel
theorem dX10_init_158 : decode cX10_init 158 = .ok (.invokespecial 64, 3) := by decide +kernel
theorem dX10_init_161 : decode cX10_init 161 = .ok (.putfield 65, 3) := by decide +kernel
theorem dX10_init_164 : decode cX10_init 164 = .ok (.aload_n 0, 1) := by decide +kernel
theorem dX10_init_165 : decode cX10_init 165 = .ok (.bipush 6, 2) := by decide +kernel
theorem dX10_init_167 : decode cX10_init 167 = .ok (.newarray .int, 2) := by decide +kernel
theorem dX10_init_169 : decode cX10_init 169 = .ok (.putfield 69, 3) := by decide +kernel
theorem dX10_init_172 : decode cX10_init 172 = .ok (.aload_n 0, 1) := by decide +kernel
theorem dX10_init_173 : decode cX10_init 173 = .ok (.bipush 6, 2) := by decide +kernel
theorem dX10_init_175 : decode cX10_init 175 = .ok (.newarray .int, 2) := by decide +kernel
theorem dX10_init_177 : decode cX10_init 177 = .ok (.putfield 73, 3) := by decide +kernel
theorem dX10_init_180 : decode cX10_init 180 = .ok (.aload_n 0, 1) := by decide +kernel
theorem dX10_init_181 : decode cX10_init 181 = .ok (.iconst 3, 1) := by decide +kernel
theorem dX10_init_182 : decode cX10_init 182 = .ok (.newarray .int, 2) := by decide +kernel
theorem dX10_init_184 : decode cX10_init 184 = .ok (.putfield 76, 3) := by decide +kernel
theorem dX10_init_187 : decode cX10_init 187 = .ok (.aload_n 0, 1) := by decide +kernel
theorem dX10_init_188 : decode cX10_init 188 = .ok (.iconst 0, 1) := by decide +kernel
theorem dX10_init_189 : decode cX10_init 189 = .ok (.putfield 79, 3) := by decide +kernel
theorem dX10_init_192 : decode cX10_init 192 = .ok (.aload_n 0, 1) := by decide +kernel
theorem dX10_init_193 : decode cX10_init 193 = .ok (.iconst 1, 1) := by decide +kernel
theorem dX10_init_194 : decode cX10_init 194 = .ok (.putfield 83, 3) := by decide +kernel
theorem dX10_init_197 : decode cX10_init 197 = .ok (.return_, 1) := by decide +kernel
set_option maxRecDepth 20000 in
theorem ggX10_parish_X10_isBelow : GoodIn wsX10_parish wsX10_isBelow := goodIn_r _ [6] (by decide +kernel) (by decide +kernel)
set_option maxRecDepth 20000 in
theorem gX10_parish_X10_isBelow : GoodIn wsX10_parish (va_wsS RX10 86 yX10_isBelow wsX10_isBelow) := goodIn_app (goodIn_of _ (by decide +kernel)) ggX10_parish_X10_isBelow
set_option maxRecDepth 20000 in
theorem ggX10_parish_X10_refuseBad : GoodIn wsX10_parish wsX10_refuseBad := goodIn_r _ [10, 11, 26, 27, 28, 29, 30, 31, 32, 33, 34, 35, 36, 37] (by decide +kernel) (by decide +kernel)
set_option maxRecDepth 20000 in
theorem gX10_parish_X10_refuseBad : GoodIn wsX10_parish (wsV RX10 90 RX10 yX10_refuseBad wsX10_refuseBad) := goodIn_app (goodIn_of _ (by decide +kernel)) ggX10_parish_X10_refuseBad
set_option maxRecDepth 20000 in
theorem ggX10_parish_X4_begin : GoodIn wsX10_parish wsX4_begin := goodIn_r _ [16, 17, 18, 19, 20, 21, 22, 23, 24, 25, 38, 39, 40, 41, 42, 43, 44, 45, 46, 47, 48, 49, 50, 51, 52, 53, 54] (by decide +kernel) (by decide +kernel)
set_option maxRecDepth 20000 in
theorem gX10_parish_X4_begin : GoodIn wsX10_parish (wsV RX10 97 RX4 yX4_begin wsX4_begin) := goodIn_app (goodIn_of _ (by decide +kernel)) ggX10_parish_X4_begin
theorem dX10_parish_0 : decode cX10_parish 0 = .ok (.iload_n 1, 1) := by decide +kernel
theorem dX10_parish_1 : decode cX10_parish 1 = .ok (.bipush 10, 2) := by decide +kernel
theorem dX10_parish_3 : decode cX10_parish 3 = .ok (.invokestatic 86, 3) := by decide +kernel
theorem dX10_parish_6 : decode cX10_parish 6 = .ok (.ifCond .ne 8, 3) := by decide +kernel
theorem dX10_parish_9 : decode cX10_parish 9 = .ok (.aload_n 0, 1) := by decide +kernel
theorem dX10_parish_10 : decode cX10_parish 10 = .ok (.invokevirtual 90, 3) := by decide +kernel
theorem dX10_parish_13 : decode cX10_parish 13 = .ok (.ireturn, 1) := by decide +kernel
theorem dX10_parish_14 : decode cX10_parish 14 = .ok (.aload_n 0, 1) := by decide +kernel
theorem dX10_parish_15 : decode cX10_parish 15 = .ok (.getfield 36, 3) := by decide +kernel
theorem dX10_parish_18 : decode cX10_parish 18 = .ok (.getfield 94, 3) := by decide +kernel
theorem dX10_parish_21 : decode cX10_parish 21 = .ok (.istore_n 2, 1) := by decide +kernel
theorem dX10_parish_22 : decode cX10_parish 22 = .ok (.aload_n 0, 1) := by decide +kernel
theorem dX10_parish_23 : decode cX10_parish 23 = .ok (.getfield 36, 3) := by decide +kernel
theorem dX10_parish_26 : decode cX10_parish 26 = .ok (.iload_n 1, 1) := by decide +kernel
theorem dX10_parish_27 : decode cX10_parish 27 = .ok (.invokevirtual 97, 3) := by decide +kernel
theorem dX10_parish_30 : decode cX10_parish 30 = .ok (.iload_n 2, 1) := by decide +kernel
theorem dX10_parish_31 : decode cX10_parish 31 = .ok (.ireturn, 1) := by decide +kernel
set_option maxRecDepth 20000 in
theorem ggX10_field_X10_isBelow : GoodIn wsX10_field wsX10_isBelow := goodIn_r _ [6] (by decide +kernel) (by decide +kernel)
set_option maxRecDepth 20000 in
theorem gX10_field_X10_isBelow : GoodIn wsX10_field (va_wsS RX10 86 yX10_isBelow wsX10_isBelow) := goodIn_app (goodIn_of _ (by decide +kernel)) ggX10_field_X10_isBelow
set_option maxRecDepth 20000 in
theorem ggX10_field_X10_isLight : GoodIn wsX10_field wsX10_isLight := goodIn_r _ [9, 10, 11, 5, 12] (by decide +kernel) (by decide +kernel)
set_option maxRecDepth 20000 in
theorem gX10_field_X10_isLight : GoodIn wsX10_field (va_wsS RX10 101 yX10_isLight wsX10_isLight) := goodIn_app (goodIn_of _ (by decide +kernel)) ggX10_field_X10_isLight
set_option maxRecDepth 20000 in
theorem ggX10_field_X10_refuseBad : GoodIn wsX10_field wsX10_refuseBad := goodIn_r _ [16, 17, 32, 33, 34, 35, 36, 37, 38, 39, 40, 41, 42, 43] (by decide +kernel) (by decide +kernel)
set_option maxRecDepth 20000 in
theorem gX10_field_X10_refuseBad : GoodIn wsX10_field (wsV RX10 90 RX10 yX10_refuseBad wsX10_refuseBad) := goodIn_app (goodIn_of _ (by decide +kernel)) ggX10_field_X10_refuseBad
set_option maxRecDepth 20000 in
theorem ggX10_field_X4_addField : GoodIn wsX10_field wsX4_addField := goodIn_r _ [26, 27, 28, 29, 30, 31, 44, 45, 46, 47, 48, 49, 50, 51, 52, 53, 54, 55, 56, 57, 58, 59, 60] (by decide +kernel) (by decide +kernel)
set_option maxRecDepth 20000 in
theorem gX10_field_X4_addField : GoodIn wsX10_field (wsV RX10 108 RX4 yX4_addField wsX4_addField) := goodIn_app (goodIn_of _ (by decide +kernel)) ggX10_field_X4_addField
theorem dX10_field_0 : decode cX10_field 0 = .ok (.iload_n 1, 1) := by decide +kernel
theorem dX10_field_1 : decode cX10_field 1 = .ok (.bipush 6, 2) := by decide +kernel
theorem dX10_field_3 : decode cX10_field 3 = .ok (.invokestatic 86, 3) := by decide +kernel
theorem dX10_field_6 : decode cX10_field 6 = .ok (.ifCond .eq 10, 3) := by decide +kernel
theorem dX10_field_9 : decode cX10_field 9 = .ok (.iload_n 2, 1) := by decide +kernel
theorem dX10_field_10 : decode cX10_field 10 = .ok (.invokestatic 101, 3) := by decide +kernel
theorem dX10_field_13 : decode cX10_field 13 = .ok (.ifCond .ne 8, 3) := by decide +kernel
theorem dX10_field_16 : decode cX10_field 16 = .ok (.aload_n 0, 1) := by decide +kernel
theorem dX10_field_17 : decode cX10_field 17 = .ok (.invokevirtual 90, 3) := by decide +kernel
theorem dX10_field_20 : decode cX10_field 20 = .ok (.ireturn, 1) := by decide +kernel
theorem dX10_field_21 : decode cX10_field 21 = .ok (.aload_n 0, 1) := by decide +kernel
theorem dX10_field_22 : decode cX10_field 22 = .ok (.getfield 36, 3) := by decide +kernel
theorem dX10_field_25 : decode cX10_field 25 = .ok (.getfield 94, 3) := by decide +kernel
theorem dX10_field_28 : decode cX10_field 28 = .ok (.bipush 6, 2) := by decide +kernel
theorem dX10_field_30 : decode cX10_field 30 = .ok (.if_icmp .lt 8, 3) := by decide +kernel
theorem dX10_field_38 : decode cX10_field 38 = .ok (.aload_n 0, 1) := by decide +kernel
theorem dX10_field_39 : decode cX10_field 39 = .ok (.getfield 36, 3) := by decide +kernel
theorem dX10_field_42 : decode cX10_field 42 = .ok (.iload_n 1, 1) := by decide +kernel
theorem dX10_field_43 : decode cX10_field 43 = .ok (.iload_n 2, 1) := by decide +kernel
theorem dX10_field_44 : decode cX10_field 44 = .ok (.invokevirtual 108, 3) := by decide +kernel
theorem dX10_field_47 : decode cX10_field 47 = .ok (.ireturn, 1) := by decide +kernel
set_option maxRecDepth 20000 in
theorem ggX10_gleaner_X4_hasField : GoodIn wsX10_gleaner wsX4_hasField := goodIn_r _ [7, 8, 9, 10, 11, 42, 43, 44, 45, 46, 47, 48, 49, 50, 51, 52] (by decide +kernel) (by decide +kernel)
set_option maxRecDepth 20000 in
theorem gX10_gleaner_X4_hasField : GoodIn wsX10_gleaner (wsV RX10 112 RX4 yX4_hasField wsX4_hasField) := goodIn_app (goodIn_of _ (by decide +kernel)) ggX10_gleaner_X4_hasField
set_option maxRecDepth 20000 in
theorem ggX10_gleaner_X10_refuseBad : GoodIn wsX10_gleaner wsX10_refuseBad := goodIn_r _ [15, 16, 30, 31, 32, 33, 34, 35, 36, 37, 38, 39, 40, 41] (by decide +kernel) (by decide +kernel)
set_option maxRecDepth 20000 in
theorem gX10_gleaner_X10_refuseBad : GoodIn wsX10_gleaner (wsV RX10 90 RX10 yX10_refuseBad wsX10_refuseBad) := goodIn_app (goodIn_of _ (by decide +kernel)) ggX10_gleaner_X10_refuseBad
theorem dX10_gleaner_0 : decode cX10_gleaner 0 = .ok (.aload_n 0, 1) := by decide +kernel
theorem dX10_gleaner_1 : decode cX10_gleaner 1 = .ok (.getfield 36, 3) := by decide +kernel
theorem dX10_gleaner_4 : decode cX10_gleaner 4 = .ok (.iload_n 1, 1) := by decide +kernel
theorem dX10_gleaner_5 : decode cX10_gleaner 5 = .ok (.invokevirtual 112, 3) := by decide +kernel
theorem dX10_gleaner_8 : decode cX10_gleaner 8 = .ok (.ifCond .ne 8, 3) := by decide +kernel
theorem dX10_gleaner_11 : decode cX10_gleaner 11 = .ok (.aload_n 0, 1) := by decide +kernel
theorem dX10_gleaner_12 : decode cX10_gleaner 12 = .ok (.invokevirtual 90, 3) := by decide +kernel
theorem dX10_gleaner_15 : decode cX10_gleaner 15 = .ok (.ireturn, 1) := by decide +kernel
set_option maxRecDepth 20000 in
theorem ggX10_type_X10_isBelow : GoodIn wsX10_type wsX10_isBelow := goodIn_r _ [6] (by decide +kernel) (by decide +kernel)
set_option maxRecDepth 20000 in
theorem gX10_type_X10_isBelow : GoodIn wsX10_type (va_wsS RX10 86 yX10_isBelow wsX10_isBelow) := goodIn_app (goodIn_of _ (by decide +kernel)) ggX10_type_X10_isBelow
set_option maxRecDepth 20000 in
theorem ggX10_type_X10_refuseBad : GoodIn wsX10_type wsX10_refuseBad := goodIn_r _ [10, 11, 23, 24, 25, 26, 27, 28, 29, 30, 31, 32, 33, 34] (by decide +kernel) (by decide +kernel)
set_option maxRecDepth 20000 in
theorem gX10_type_X10_refuseBad : GoodIn wsX10_type (wsV RX10 90 RX10 yX10_refuseBad wsX10_refuseBad) := goodIn_app (goodIn_of _ (by decide +kernel)) ggX10_type_X10_refuseBad
set_option maxRecDepth 20000 in
theorem ggX10_type_X7_append : GoodIn wsX10_type wsX7_append := goodIn_r _ [20, 21, 22, 35, 36, 37, 38, 39, 40, 41, 42, 43, 44, 45, 46] (by decide +kernel) (by decide +kernel)
set_option maxRecDepth 20000 in
theorem gX10_type_X7_append : GoodIn wsX10_type (wsV RX10 125 RX7 yX7_append wsX7_append) := goodIn_app (goodIn_of _ (by decide +kernel)) ggX10_type_X7_append
theorem dX10_type_0 : decode cX10_type 0 = .ok (.iload_n 1, 1) := by decide +kernel
theorem dX10_type_1 : decode cX10_type 1 = .ok (.sipush 128, 3) := by decide +kernel
theorem dX10_type_4 : decode cX10_type 4 = .ok (.invokestatic 86, 3) := by decide +kernel
theorem dX10_type_7 : decode cX10_type 7 = .ok (.ifCond .ne 8, 3) := by decide +kernel
theorem dX10_type_10 : decode cX10_type 10 = .ok (.aload_n 0, 1) := by decide +kernel
theorem dX10_type_11 : decode cX10_type 11 = .ok (.invokevirtual 90, 3) := by decide +kernel
theorem dX10_type_14 : decode cX10_type 14 = .ok (.ireturn, 1) := by decide +kernel
theorem dX10_type_15 : decode cX10_type 15 = .ok (.aload_n 0, 1) := by decide +kernel
theorem dX10_type_16 : decode cX10_type 16 = .ok (.getfield 51, 3) := by decide +kernel
theorem dX10_type_19 : decode cX10_type 19 = .ok (.getfield 122, 3) := by decide +kernel
theorem dX10_type_22 : decode cX10_type 22 = .ok (.sipush 150, 3) := by decide +kernel
theorem dX10_type_25 : decode cX10_type 25 = .ok (.if_icmp .lt 8, 3) := by decide +kernel
theorem dX10_type_33 : decode cX10_type 33 = .ok (.aload_n 0, 1) := by decide +kernel
theorem dX10_type_34 : decode cX10_type 34 = .ok (.getfield 51, 3) := by decide +kernel
theorem dX10_type_37 : decode cX10_type 37 = .ok (.iload_n 1, 1) := by decide +kernel
theorem dX10_type_38 : decode cX10_type 38 = .ok (.invokevirtual 125, 3) := by decide +kernel
theorem dX10_type_41 : decode cX10_type 41 = .ok (.ireturn, 1) := by decide +kernel
theorem dX10_clear_0 : decode cX10_clear 0 = .ok (.aload_n 0, 1) := by decide +kernel
theorem dX10_clear_1 : decode cX10_clear 1 = .ok (.getfield 51, 3) := by decide +kernel
theorem dX10_clear_4 : decode cX10_clear 4 = .ok (.getfield 122, 3) := by decide +kernel
theorem dX10_clear_7 : decode cX10_clear 7 = .ok (.istore_n 1, 1) := by decide +kernel
theorem dX10_clear_8 : decode cX10_clear 8 = .ok (.aload_n 0, 1) := by decide +kernel
theorem dX10_clear_9 : decode cX10_clear 9 = .ok (.getfield 51, 3) := by decide +kernel
theorem dX10_clear_12 : decode cX10_clear 12 = .ok (.iconst 0, 1) := by decide +kernel
theorem dX10_clear_13 : decode cX10_clear 13 = .ok (.putfield 122, 3) := by decide +kernel
theorem dX10_clear_16 : decode cX10_clear 16 = .ok (.iload_n 1, 1) := by decide +kernel
theorem dX10_clear_17 : decode cX10_clear 17 = .ok (.ireturn, 1) := by decide +kernel
set_option maxRecDepth 20000 in
theorem ggX10_read_X7_parse : GoodIn wsX10_read wsX7_parse := goodIn_r _ [11, 12, 13, 14, 15, 16, 17, 18, 19, 20, 10, 21, 22, 23, 24, 25, 26, 27, 28, 29, 30, 31, 32, 33, 34, 35, 36, 37, 38, 39, 40, 41, 42, 43, 44, 45, 46, 47, 48, 49, 50, 51, 52, 53, 54, 55, 56, 57, 58, 59, 60, 61, 62, 63, 64, 65, 66, 67, 68, 69, 70, 71, 72, 73, 74, 75, 76, 77, 78, 79, 80, 81, 82, 83, 84, 85, 86, 87, 88, 89, 90, 91, 92, 93, 94, 95, 96, 97, 98, 99, 100, 101, 102, 103, 104, 105, 106, 107, 108, 109, 110, 111, 112, 113, 223, 224, 225, 226, 227, 228, 229, 230, 231, 232, 233, 234] (by decide +kernel) (by decide +kernel)
set_option maxRecDepth 20000 in
theorem gX10_read_X7_parse : GoodIn wsX10_read (wsV RX10 128 RX7 yX7_parse wsX7_parse) := goodIn_app (goodIn_of _ (by decide +kernel)) ggX10_read_X7_parse
theorem dX10_read_0 : decode cX10_read 0 = .ok (.aload_n 0, 1) := by decide +kernel
theorem dX10_read_1 : decode cX10_read 1 = .ok (.getfield 51, 3) := by decide +kernel
theorem dX10_read_4 : decode cX10_read 4 = .ok (.invokevirtual 128, 3) := by decide +kernel
theorem dX10_read_7 : decode cX10_read 7 = .ok (.istore_n 1, 1) := by decide +kernel
theorem dX10_read_8 : decode cX10_read 8 = .ok (.iload_n 1, 1) := by decide +kernel
theorem dX10_read_9 : decode cX10_read 9 = .ok (.ifCond .ge 5, 3) := by decide +kernel
theorem dX10_read_12 : decode cX10_read 12 = .ok (.iload_n 1, 1) := by decide +kernel
theorem dX10_read_13 : decode cX10_read 13 = .ok (.ireturn, 1) := by decide +kernel
set_option maxRecDepth 20000 in
theorem ggX10_glean_X10_isIn : GoodIn wsX10_glean wsX10_isIn := goodIn_r _ [7] (by decide +kernel) (by decide +kernel)
set_option maxRecDepth 20000 in
theorem gX10_glean_X10_isIn : GoodIn wsX10_glean (va_wsS RX10 147 yX10_isIn wsX10_isIn) := goodIn_app (goodIn_of _ (by decide +kernel)) ggX10_glean_X10_isIn
set_option maxRecDepth 20000 in
theorem ggX10_glean_X10_refuseBad : GoodIn wsX10_glean wsX10_refuseBad := goodIn_r _ [11, 12, 123, 124, 125, 126, 127, 128, 129, 130, 131, 132, 133, 134] (by decide +kernel) (by decide +kernel)
set_option maxRecDepth 20000 in
theorem gX10_glean_X10_refuseBad : GoodIn wsX10_glean (wsV RX10 90 RX10 yX10_refuseBad wsX10_refuseBad) := goodIn_app (goodIn_of _ (by decide +kernel)) ggX10_glean_X10_refuseBad
set_option maxRecDepth 20000 in
theorem ggX10_glean_X4_remember : GoodIn wsX10_glean wsX4_remember := goodIn_r _ [21, 22, 23, 24, 25, 26, 27, 20, 28, 29, 30, 31, 32, 33, 34, 35, 36, 37, 38, 39, 40, 41, 42, 43, 135, 136, 137, 138, 139, 140, 141, 142, 143, 144, 145, 146, 147, 148, 149, 150, 151] (by decide +kernel) (by decide +kernel)
set_option maxRecDepth 20000 in
theorem gX10_glean_X4_remember : GoodIn wsX10_glean (wsV RX10 157 RX4 yX4_remember wsX4_remember) := goodIn_app (goodIn_of _ (by decide +kernel)) ggX10_glean_X4_remember
set_option maxRecDepth 20000 in
theorem ggX10_glean_X4_gather : GoodIn wsX10_glean wsX4_gather := goodIn_r _ [47, 48, 49, 50, 51, 52, 20, 53, 54, 55, 56, 57, 58, 59, 60, 61, 62, 63, 64, 65, 66, 67, 68, 69, 70, 71, 72, 73, 74, 75, 76, 77, 78, 79, 80, 81, 82, 83, 84, 85, 86, 87, 88, 89, 90, 91, 92, 93, 94, 95, 96, 97, 98, 99, 100, 101, 102, 103, 104, 105, 106, 107, 108, 109, 110, 111, 112, 113, 114, 115, 116, 117, 118, 119, 120, 121, 122, 135, 136, 137, 138, 139, 140, 141, 142, 143, 144, 145, 146, 147, 148, 149, 150, 151] (by decide +kernel) (by decide +kernel)
set_option maxRecDepth 20000 in
theorem gX10_glean_X4_gather : GoodIn wsX10_glean (wsV RX10 143 RX4 yX4_gather wsX4_gather) := goodIn_app (goodIn_of _ (by decide +kernel)) ggX10_glean_X4_gather
theorem dX10_glean_0 : decode cX10_glean 0 = .ok (.iload_n 1, 1) := by decide +kernel
theorem dX10_glean_1 : decode cX10_glean 1 = .ok (.iconst 1, 1) := by decide +kernel
theorem dX10_glean_2 : decode cX10_glean 2 = .ok (.bipush 12, 2) := by decide +kernel
theorem dX10_glean_4 : decode cX10_glean 4 = .ok (.invokestatic 147, 3) := by decide +kernel
theorem dX10_glean_7 : decode cX10_glean 7 = .ok (.ifCond .ne 8, 3) := by decide +kernel
theorem dX10_glean_10 : decode cX10_glean 10 = .ok (.aload_n 0, 1) := by decide +kernel
theorem dX10_glean_11 : decode cX10_glean 11 = .ok (.invokevirtual 90, 3) := by decide +kernel
theorem dX10_glean_14 : decode cX10_glean 14 = .ok (.ireturn, 1) := by decide +kernel
theorem dX10_glean_15 : decode cX10_glean 15 = .ok (.iload_n 1, 1) := by decide +kernel
theorem dX10_glean_16 : decode cX10_glean 16 = .ok (.bipush 12, 2) := by decide +kernel
theorem dX10_glean_18 : decode cX10_glean 18 = .ok (.aload_n 0, 1) := by decide +kernel
theorem dX10_glean_19 : decode cX10_glean 19 = .ok (.getfield 36, 3) := by decide +kernel
theorem dX10_glean_22 : decode cX10_glean 22 = .ok (.getfield 140, 3) := by decide +kernel
theorem dX10_glean_25 : decode cX10_glean 25 = .ok (.getfield 151, 3) := by decide +kernel
theorem dX10_glean_28 : decode cX10_glean 28 = .ok (.isub, 1) := by decide +kernel
theorem dX10_glean_29 : decode cX10_glean 29 = .ok (.if_icmp .le 8, 3) := by decide +kernel
theorem dX10_glean_37 : decode cX10_glean 37 = .ok (.aload_n 0, 1) := by decide +kernel
theorem dX10_glean_38 : decode cX10_glean 38 = .ok (.getfield 36, 3) := by decide +kernel
theorem dX10_glean_41 : decode cX10_glean 41 = .ok (.invokevirtual 157, 3) := by decide +kernel
theorem dX10_glean_44 : decode cX10_glean 44 = .ok (.aload_n 0, 1) := by decide +kernel
theorem dX10_glean_45 : decode cX10_glean 45 = .ok (.getfield 36, 3) := by decide +kernel
theorem dX10_glean_48 : decode cX10_glean 48 = .ok (.aload_n 0, 1) := by decide +kernel
theorem dX10_glean_49 : decode cX10_glean 49 = .ok (.getfield 36, 3) := by decide +kernel
theorem dX10_glean_52 : decode cX10_glean 52 = .ok (.getfield 140, 3) := by decide +kernel
theorem dX10_glean_55 : decode cX10_glean 55 = .ok (.iload_n 1, 1) := by decide +kernel
theorem dX10_glean_56 : decode cX10_glean 56 = .ok (.invokevirtual 143, 3) := by decide +kernel
theorem dX10_glean_59 : decode cX10_glean 59 = .ok (.ireturn, 1) := by decide +kernel
set_option maxRecDepth 20000 in
theorem ggX10_night_X4_remember : GoodIn wsX10_night wsX4_remember := goodIn_r _ [8, 9, 10, 11, 12, 13, 14, 7, 15, 16, 17, 18, 19, 20, 21, 22, 23, 24, 25, 26, 27, 28, 29, 30, 60, 61, 62, 63, 64, 65, 66, 67, 68, 69, 70, 71, 72, 73, 74, 75, 76] (by decide +kernel) (by decide +kernel)
set_option maxRecDepth 20000 in
theorem gX10_night_X4_remember : GoodIn wsX10_night (wsV RX10 157 RX4 yX4_remember wsX4_remember) := goodIn_app (goodIn_of _ (by decide +kernel)) ggX10_night_X4_remember
set_option maxRecDepth 20000 in
theorem ggX10_night_X4_fade : GoodIn wsX10_night wsX4_fade := goodIn_r _ [34, 35, 36, 37, 38, 39, 40, 41, 42, 43, 44, 45, 46, 47, 60, 61, 62, 63, 64, 65, 66, 67, 68, 69, 70, 71, 72, 73, 74, 75, 76] (by decide +kernel) (by decide +kernel)
set_option maxRecDepth 20000 in
theorem gX10_night_X4_fade : GoodIn wsX10_night (wsV RX10 160 RX4 yX4_fade wsX4_fade) := goodIn_app (goodIn_of _ (by decide +kernel)) ggX10_night_X4_fade
theorem dX10_night_0 : decode cX10_night 0 = .ok (.aload_n 0, 1) := by decide +kernel
theorem dX10_night_1 : decode cX10_night 1 = .ok (.getfield 36, 3) := by decide +kernel
theorem dX10_night_4 : decode cX10_night 4 = .ok (.invokevirtual 157, 3) := by decide +kernel
theorem dX10_night_7 : decode cX10_night 7 = .ok (.aload_n 0, 1) := by decide +kernel
theorem dX10_night_8 : decode cX10_night 8 = .ok (.getfield 36, 3) := by decide +kernel
theorem dX10_night_11 : decode cX10_night 11 = .ok (.aload_n 0, 1) := by decide +kernel
theorem dX10_night_12 : decode cX10_night 12 = .ok (.getfield 36, 3) := by decide +kernel
theorem dX10_night_15 : decode cX10_night 15 = .ok (.getfield 140, 3) := by decide +kernel
theorem dX10_night_18 : decode cX10_night 18 = .ok (.invokevirtual 160, 3) := by decide +kernel
theorem dX10_night_21 : decode cX10_night 21 = .ok (.aload_n 0, 1) := by decide +kernel
theorem dX10_night_22 : decode cX10_night 22 = .ok (.getfield 36, 3) := by decide +kernel
theorem dX10_night_25 : decode cX10_night 25 = .ok (.getfield 140, 3) := by decide +kernel
theorem dX10_night_28 : decode cX10_night 28 = .ok (.getfield 164, 3) := by decide +kernel
theorem dX10_night_31 : decode cX10_night 31 = .ok (.ireturn, 1) := by decide +kernel
set_option maxRecDepth 20000 in
theorem ggX10_goes_X4_hasGleaner : GoodIn wsX10_goes wsX4_hasGleaner := goodIn_r _ [8, 9, 10, 11, 12, 61, 62, 63, 64, 65, 66, 67, 68, 69, 70, 71] (by decide +kernel) (by decide +kernel)
set_option maxRecDepth 20000 in
theorem gX10_goes_X4_hasGleaner : GoodIn wsX10_goes (wsV RX10 167 RX4 yX4_hasGleaner wsX4_hasGleaner) := goodIn_app (goodIn_of _ (by decide +kernel)) ggX10_goes_X4_hasGleaner
set_option maxRecDepth 20000 in
theorem ggX10_goes_X10_refuseBad : GoodIn wsX10_goes wsX10_refuseBad := goodIn_r _ [21, 22, 49, 50, 51, 52, 53, 54, 55, 56, 57, 58, 59, 60] (by decide +kernel) (by decide +kernel)
set_option maxRecDepth 20000 in
theorem gX10_goes_X10_refuseBad : GoodIn wsX10_goes (wsV RX10 90 RX10 yX10_refuseBad wsX10_refuseBad) := goodIn_app (goodIn_of _ (by decide +kernel)) ggX10_goes_X10_refuseBad
theorem dX10_goes_0 : decode cX10_goes 0 = .ok (.aload_n 0, 1) := by decide +kernel
theorem dX10_goes_1 : decode cX10_goes 1 = .ok (.getfield 36, 3) := by decide +kernel
theorem dX10_goes_4 : decode cX10_goes 4 = .ok (.iload_n 1, 1) := by decide +kernel
theorem dX10_goes_5 : decode cX10_goes 5 = .ok (.invokevirtual 167, 3) := by decide +kernel
theorem dX10_goes_8 : decode cX10_goes 8 = .ok (.ifCond .eq 14, 3) := by decide +kernel
theorem dX10_goes_22 : decode cX10_goes 22 = .ok (.aload_n 0, 1) := by decide +kernel
theorem dX10_goes_23 : decode cX10_goes 23 = .ok (.invokevirtual 90, 3) := by decide +kernel
theorem dX10_goes_26 : decode cX10_goes 26 = .ok (.ireturn, 1) := by decide +kernel
set_option maxRecDepth 20000 in
theorem ggX10_cloud_X10_isBelow : GoodIn wsX10_cloud wsX10_isBelow := goodIn_r _ [7] (by decide +kernel) (by decide +kernel)
set_option maxRecDepth 20000 in
theorem gX10_cloud_X10_isBelow : GoodIn wsX10_cloud (va_wsS RX10 86 yX10_isBelow wsX10_isBelow) := goodIn_app (goodIn_of _ (by decide +kernel)) ggX10_cloud_X10_isBelow
set_option maxRecDepth 20000 in
theorem ggX10_cloud_X10_refuseBad : GoodIn wsX10_cloud wsX10_refuseBad := goodIn_r _ [11, 12, 40, 41, 42, 43, 44, 45, 46, 47, 48, 49, 50, 51] (by decide +kernel) (by decide +kernel)
set_option maxRecDepth 20000 in
theorem gX10_cloud_X10_refuseBad : GoodIn wsX10_cloud (wsV RX10 90 RX10 yX10_refuseBad wsX10_refuseBad) := goodIn_app (goodIn_of _ (by decide +kernel)) ggX10_cloud_X10_refuseBad
set_option maxRecDepth 20000 in
theorem ggX10_cloud_X4_remember : GoodIn wsX10_cloud wsX4_remember := goodIn_r _ [17, 18, 19, 20, 21, 22, 23, 16, 24, 25, 26, 27, 28, 29, 30, 31, 32, 33, 34, 35, 36, 37, 38, 39, 52, 53, 54, 55, 56, 57, 58, 59, 60, 61, 62, 63, 64, 65, 66, 67, 68] (by decide +kernel) (by decide +kernel)
set_option maxRecDepth 20000 in
theorem gX10_cloud_X4_remember : GoodIn wsX10_cloud (wsV RX10 157 RX4 yX4_remember wsX4_remember) := goodIn_app (goodIn_of _ (by decide +kernel)) ggX10_cloud_X4_remember
theorem dX10_cloud_0 : decode cX10_cloud 0 = .ok (.iload_n 1, 1) := by decide +kernel
theorem dX10_cloud_1 : decode cX10_cloud 1 = .ok (.bipush 10, 2) := by decide +kernel
theorem dX10_cloud_3 : decode cX10_cloud 3 = .ok (.invokestatic 86, 3) := by decide +kernel
theorem dX10_cloud_6 : decode cX10_cloud 6 = .ok (.ifCond .ne 8, 3) := by decide +kernel
theorem dX10_cloud_9 : decode cX10_cloud 9 = .ok (.aload_n 0, 1) := by decide +kernel
theorem dX10_cloud_10 : decode cX10_cloud 10 = .ok (.invokevirtual 90, 3) := by decide +kernel
theorem dX10_cloud_13 : decode cX10_cloud 13 = .ok (.ireturn, 1) := by decide +kernel
theorem dX10_cloud_14 : decode cX10_cloud 14 = .ok (.aload_n 0, 1) := by decide +kernel
theorem dX10_cloud_15 : decode cX10_cloud 15 = .ok (.getfield 36, 3) := by decide +kernel
theorem dX10_cloud_18 : decode cX10_cloud 18 = .ok (.invokevirtual 157, 3) := by decide +kernel
theorem dX10_cloud_21 : decode cX10_cloud 21 = .ok (.aload_n 0, 1) := by decide +kernel
theorem dX10_cloud_22 : decode cX10_cloud 22 = .ok (.getfield 36, 3) := by decide +kernel
theorem dX10_cloud_25 : decode cX10_cloud 25 = .ok (.getfield 140, 3) := by decide +kernel
theorem dX10_cloud_28 : decode cX10_cloud 28 = .ok (.getfield 173, 3) := by decide +kernel
theorem dX10_cloud_31 : decode cX10_cloud 31 = .ok (.istore_n 2, 1) := by decide +kernel
theorem dX10_cloud_32 : decode cX10_cloud 32 = .ok (.aload_n 0, 1) := by decide +kernel
theorem dX10_cloud_33 : decode cX10_cloud 33 = .ok (.getfield 36, 3) := by decide +kernel
theorem dX10_cloud_36 : decode cX10_cloud 36 = .ok (.getfield 140, 3) := by decide +kernel
theorem dX10_cloud_39 : decode cX10_cloud 39 = .ok (.iload_n 1, 1) := by decide +kernel
theorem dX10_cloud_40 : decode cX10_cloud 40 = .ok (.putfield 173, 3) := by decide +kernel
theorem dX10_cloud_43 : decode cX10_cloud 43 = .ok (.iload_n 2, 1) := by decide +kernel
theorem dX10_cloud_44 : decode cX10_cloud 44 = .ok (.ireturn, 1) := by decide +kernel
set_option maxRecDepth 20000 in
theorem ggX10_undo_X10_refuseNo : GoodIn wsX10_undo wsX10_refuseNo := goodIn_r _ [9, 10, 34, 35, 36, 37, 38, 39, 40, 41, 42, 43, 44, 45] (by decide +kernel) (by decide +kernel)
set_option maxRecDepth 20000 in
theorem gX10_undo_X10_refuseNo : GoodIn wsX10_undo (wsV RX10 154 RX10 yX10_refuseNo wsX10_refuseNo) := goodIn_app (goodIn_of _ (by decide +kernel)) ggX10_undo_X10_refuseNo
theorem dX10_undo_0 : decode cX10_undo 0 = .ok (.aload_n 0, 1) := by decide +kernel
theorem dX10_undo_1 : decode cX10_undo 1 = .ok (.getfield 36, 3) := by decide +kernel
theorem dX10_undo_4 : decode cX10_undo 4 = .ok (.getfield 176, 3) := by decide +kernel
theorem dX10_undo_7 : decode cX10_undo 7 = .ok (.ifCond .ne 8, 3) := by decide +kernel
theorem dX10_undo_10 : decode cX10_undo 10 = .ok (.aload_n 0, 1) := by decide +kernel
theorem dX10_undo_11 : decode cX10_undo 11 = .ok (.invokevirtual 154, 3) := by decide +kernel
theorem dX10_undo_14 : decode cX10_undo 14 = .ok (.ireturn, 1) := by decide +kernel
set_option maxRecDepth 20000 in
theorem ggX10_of_X4_hasField : GoodIn wsX10_of wsX4_hasField := goodIn_r _ [9, 10, 11, 12, 13, 39, 40, 41, 42, 43, 44, 45, 46, 47, 48, 49] (by decide +kernel) (by decide +kernel)
set_option maxRecDepth 20000 in
theorem gX10_of_X4_hasField : GoodIn wsX10_of (wsV RX10 112 RX4 yX4_hasField wsX4_hasField) := goodIn_app (goodIn_of _ (by decide +kernel)) ggX10_of_X4_hasField
set_option maxRecDepth 20000 in
theorem ggX10_of_X10_refuseBad : GoodIn wsX10_of wsX10_refuseBad := goodIn_r _ [18, 19, 27, 28, 29, 30, 31, 32, 33, 34, 35, 36, 37, 38] (by decide +kernel) (by decide +kernel)
set_option maxRecDepth 20000 in
theorem gX10_of_X10_refuseBad : GoodIn wsX10_of (wsV RX10 90 RX10 yX10_refuseBad wsX10_refuseBad) := goodIn_app (goodIn_of _ (by decide +kernel)) ggX10_of_X10_refuseBad
theorem dX10_of_0 : decode cX10_of 0 = .ok (.aload_n 0, 1) := by decide +kernel
theorem dX10_of_1 : decode cX10_of 1 = .ok (.getfield 36, 3) := by decide +kernel
theorem dX10_of_4 : decode cX10_of 4 = .ok (.iload_n 1, 1) := by decide +kernel
theorem dX10_of_5 : decode cX10_of 5 = .ok (.invokevirtual 112, 3) := by decide +kernel
theorem dX10_of_8 : decode cX10_of 8 = .ok (.ifCond .eq 11, 3) := by decide +kernel
theorem dX10_of_19 : decode cX10_of 19 = .ok (.aload_n 0, 1) := by decide +kernel
theorem dX10_of_20 : decode cX10_of 20 = .ok (.invokevirtual 90, 3) := by decide +kernel
theorem dX10_of_23 : decode cX10_of 23 = .ok (.ireturn, 1) := by decide +kernel
set_option maxRecDepth 20000 in
theorem ggX10_about_X4_hasGleaner : GoodIn wsX10_about wsX4_hasGleaner := goodIn_r _ [9, 10, 11, 12, 13, 98, 99, 100, 101, 102, 103, 104, 105, 106, 107, 108] (by decide +kernel) (by decide +kernel)
set_option maxRecDepth 20000 in
theorem gX10_about_X4_hasGleaner : GoodIn wsX10_about (wsV RX10 167 RX4 yX4_hasGleaner wsX4_hasGleaner) := goodIn_app (goodIn_of _ (by decide +kernel)) ggX10_about_X4_hasGleaner
set_option maxRecDepth 20000 in
theorem ggX10_about_X10_refuseBad : GoodIn wsX10_about wsX10_refuseBad := goodIn_r _ [18, 19, 86, 87, 88, 89, 90, 91, 92, 93, 94, 95, 96, 97] (by decide +kernel) (by decide +kernel)
set_option maxRecDepth 20000 in
theorem gX10_about_X10_refuseBad : GoodIn wsX10_about (wsV RX10 90 RX10 yX10_refuseBad wsX10_refuseBad) := goodIn_app (goodIn_of _ (by decide +kernel)) ggX10_about_X10_refuseBad
theorem dX10_about_0 : decode cX10_about 0 = .ok (.aload_n 0, 1) := by decide +kernel
theorem dX10_about_1 : decode cX10_about 1 = .ok (.getfield 36, 3) := by decide +kernel
theorem dX10_about_4 : decode cX10_about 4 = .ok (.iload_n 1, 1) := by decide +kernel
theorem dX10_about_5 : decode cX10_about 5 = .ok (.invokevirtual 167, 3) := by decide +kernel
theorem dX10_about_8 : decode cX10_about 8 = .ok (.ifCond .eq 11, 3) := by decide +kernel
theorem dX10_about_19 : decode cX10_about 19 = .ok (.aload_n 0, 1) := by decide +kernel
theorem dX10_about_20 : decode cX10_about 20 = .ok (.invokevirtual 90, 3) := by decide +kernel
theorem dX10_about_23 : decode cX10_about 23 = .ok (.ireturn, 1) := by decide +kernel
set_option maxRecDepth 20000 in
theorem ggX10_seen_X4_hasField : GoodIn wsX10_seen wsX4_hasField := goodIn_r _ [7, 8, 9, 10, 11, 86, 87, 88, 89, 90, 91, 92, 93, 94, 95, 96] (by decide +kernel) (by decide +kernel)
set_option maxRecDepth 20000 in
theorem gX10_seen_X4_hasField : GoodIn wsX10_seen (wsV RX10 112 RX4 yX4_hasField wsX4_hasField) := goodIn_app (goodIn_of _ (by decide +kernel)) ggX10_seen_X4_hasField
set_option maxRecDepth 20000 in
theorem ggX10_seen_X10_refuseBad : GoodIn wsX10_seen wsX10_refuseBad := goodIn_r _ [16, 17, 74, 75, 76, 77, 78, 79, 80, 81, 82, 83, 84, 85] (by decide +kernel) (by decide +kernel)
set_option maxRecDepth 20000 in
theorem gX10_seen_X10_refuseBad : GoodIn wsX10_seen (wsV RX10 90 RX10 yX10_refuseBad wsX10_refuseBad) := goodIn_app (goodIn_of _ (by decide +kernel)) ggX10_seen_X10_refuseBad
theorem dX10_seen_0 : decode cX10_seen 0 = .ok (.aload_n 0, 1) := by decide +kernel
theorem dX10_seen_1 : decode cX10_seen 1 = .ok (.getfield 36, 3) := by decide +kernel
theorem dX10_seen_4 : decode cX10_seen 4 = .ok (.iload_n 1, 1) := by decide +kernel
theorem dX10_seen_5 : decode cX10_seen 5 = .ok (.invokevirtual 112, 3) := by decide +kernel
theorem dX10_seen_8 : decode cX10_seen 8 = .ok (.ifCond .eq 12, 3) := by decide +kernel
theorem dX10_seen_20 : decode cX10_seen 20 = .ok (.aload_n 0, 1) := by decide +kernel
theorem dX10_seen_21 : decode cX10_seen 21 = .ok (.invokevirtual 90, 3) := by decide +kernel
theorem dX10_seen_24 : decode cX10_seen 24 = .ok (.ireturn, 1) := by decide +kernel
set_option maxRecDepth 20000 in
theorem ggX10_then_X4_hasGleaner : GoodIn wsX10_then wsX4_hasGleaner := goodIn_r _ [14, 15, 16, 17, 18, 129, 130, 131, 132, 133, 134, 135, 136, 137, 138, 139] (by decide +kernel) (by decide +kernel)
set_option maxRecDepth 20000 in
theorem gX10_then_X4_hasGleaner : GoodIn wsX10_then (wsV RX10 167 RX4 yX4_hasGleaner wsX4_hasGleaner) := goodIn_app (goodIn_of _ (by decide +kernel)) ggX10_then_X4_hasGleaner
set_option maxRecDepth 20000 in
theorem ggX10_then_X10_refuseBad : GoodIn wsX10_then wsX10_refuseBad := goodIn_r _ [25, 26, 117, 118, 119, 120, 121, 122, 123, 124, 125, 126, 127, 128] (by decide +kernel) (by decide +kernel)
set_option maxRecDepth 20000 in
theorem gX10_then_X10_refuseBad : GoodIn wsX10_then (wsV RX10 90 RX10 yX10_refuseBad wsX10_refuseBad) := goodIn_app (goodIn_of _ (by decide +kernel)) ggX10_then_X10_refuseBad
theorem dX10_then_0 : decode cX10_then 0 = .ok (.aload_n 0, 1) := by decide +kernel
theorem dX10_then_1 : decode cX10_then 1 = .ok (.getfield 36, 3) := by decide +kernel
theorem dX10_then_4 : decode cX10_then 4 = .ok (.iload_n 1, 1) := by decide +kernel
theorem dX10_then_5 : decode cX10_then 5 = .ok (.invokevirtual 167, 3) := by decide +kernel
theorem dX10_then_8 : decode cX10_then 8 = .ok (.ifCond .eq 13, 3) := by decide +kernel
theorem dX10_then_21 : decode cX10_then 21 = .ok (.aload_n 0, 1) := by decide +kernel
theorem dX10_then_22 : decode cX10_then 22 = .ok (.invokevirtual 90, 3) := by decide +kernel
theorem dX10_then_25 : decode cX10_then 25 = .ok (.ireturn, 1) := by decide +kernel
set_option maxRecDepth 20000 in
theorem ggX10_round_X4_hasGleaner : GoodIn wsX10_round wsX4_hasGleaner := goodIn_r _ [12, 13, 14, 15, 16, 139, 140, 141, 142, 143, 144, 145, 146, 147, 148, 149] (by decide +kernel) (by decide +kernel)
set_option maxRecDepth 20000 in
theorem gX10_round_X4_hasGleaner : GoodIn wsX10_round (wsV RX10 167 RX4 yX4_hasGleaner wsX4_hasGleaner) := goodIn_app (goodIn_of _ (by decide +kernel)) ggX10_round_X4_hasGleaner
set_option maxRecDepth 20000 in
theorem ggX10_round_X10_refuseTen : GoodIn wsX10_round wsX10_refuseTen := goodIn_r _ [23, 24, 127, 128, 129, 130, 131, 132, 133, 134, 135, 136, 137, 138] (by decide +kernel) (by decide +kernel)
set_option maxRecDepth 20000 in
theorem gX10_round_X10_refuseTen : GoodIn wsX10_round (wsV RX10 209 RX10 yX10_refuseTen wsX10_refuseTen) := goodIn_app (goodIn_of _ (by decide +kernel)) ggX10_round_X10_refuseTen
theorem dX10_round_0 : decode cX10_round 0 = .ok (.aload_n 0, 1) := by decide +kernel
theorem dX10_round_1 : decode cX10_round 1 = .ok (.getfield 36, 3) := by decide +kernel
theorem dX10_round_4 : decode cX10_round 4 = .ok (.iload_n 1, 1) := by decide +kernel
theorem dX10_round_5 : decode cX10_round 5 = .ok (.invokevirtual 167, 3) := by decide +kernel
theorem dX10_round_8 : decode cX10_round 8 = .ok (.ifCond .eq 18, 3) := by decide +kernel
theorem dX10_round_26 : decode cX10_round 26 = .ok (.aload_n 0, 1) := by decide +kernel
theorem dX10_round_27 : decode cX10_round 27 = .ok (.invokevirtual 209, 3) := by decide +kernel
theorem dX10_round_30 : decode cX10_round 30 = .ok (.ireturn, 1) := by decide +kernel
set_option maxRecDepth 20000 in
theorem ggX10_places_X10_isBelow : GoodIn wsX10_places wsX10_isBelow := goodIn_r _ [11] (by decide +kernel) (by decide +kernel)
set_option maxRecDepth 20000 in
theorem gX10_places_X10_isBelow : GoodIn wsX10_places (va_wsS RX10 86 yX10_isBelow wsX10_isBelow) := goodIn_app (goodIn_of _ (by decide +kernel)) ggX10_places_X10_isBelow
set_option maxRecDepth 20000 in
theorem ggX10_places_X4_hasGleaner : GoodIn wsX10_places wsX4_hasGleaner := goodIn_r _ [16, 17, 9, 10, 11, 130, 131, 132, 133, 134, 135, 136, 137, 138, 139, 140] (by decide +kernel) (by decide +kernel)
set_option maxRecDepth 20000 in
theorem gX10_places_X4_hasGleaner : GoodIn wsX10_places (wsV RX10 167 RX4 yX4_hasGleaner wsX4_hasGleaner) := goodIn_app (goodIn_of _ (by decide +kernel)) ggX10_places_X4_hasGleaner
set_option maxRecDepth 20000 in
theorem ggX10_places_X10_refuseTen : GoodIn wsX10_places wsX10_refuseTen := goodIn_r _ [21, 22, 118, 119, 120, 121, 122, 123, 124, 125, 126, 127, 128, 129] (by decide +kernel) (by decide +kernel)
set_option maxRecDepth 20000 in
theorem gX10_places_X10_refuseTen : GoodIn wsX10_places (wsV RX10 209 RX10 yX10_refuseTen wsX10_refuseTen) := goodIn_app (goodIn_of _ (by decide +kernel)) ggX10_places_X10_refuseTen
theorem dX10_places_0 : decode cX10_places 0 = .ok (.iload_n 1, 1) := by decide +kernel
theorem dX10_places_1 : decode cX10_places 1 = .ok (.iconst 2, 1) := by decide +kernel
theorem dX10_places_2 : decode cX10_places 2 = .ok (.invokestatic 86, 3) := by decide +kernel
theorem dX10_places_5 : decode cX10_places 5 = .ok (.ifCond .eq 19, 3) := by decide +kernel
theorem dX10_places_8 : decode cX10_places 8 = .ok (.iload_n 2, 1) := by decide +kernel
theorem dX10_places_9 : decode cX10_places 9 = .ok (.iconst (-1), 1) := by decide +kernel
theorem dX10_places_10 : decode cX10_places 10 = .ok (.if_icmp .eq 19, 3) := by decide +kernel
theorem dX10_places_13 : decode cX10_places 13 = .ok (.aload_n 0, 1) := by decide +kernel
theorem dX10_places_14 : decode cX10_places 14 = .ok (.getfield 36, 3) := by decide +kernel
theorem dX10_places_17 : decode cX10_places 17 = .ok (.iload_n 2, 1) := by decide +kernel
theorem dX10_places_18 : decode cX10_places 18 = .ok (.invokevirtual 167, 3) := by decide +kernel
theorem dX10_places_21 : decode cX10_places 21 = .ok (.ifCond .ne 8, 3) := by decide +kernel
theorem dX10_places_24 : decode cX10_places 24 = .ok (.aload_n 0, 1) := by decide +kernel
theorem dX10_places_25 : decode cX10_places 25 = .ok (.invokevirtual 209, 3) := by decide +kernel
theorem dX10_places_28 : decode cX10_places 28 = .ok (.ireturn, 1) := by decide +kernel
theorem dX10_places_29 : decode cX10_places 29 = .ok (.aload_n 0, 1) := by decide +kernel
theorem dX10_places_30 : decode cX10_places 30 = .ok (.getfield 36, 3) := by decide +kernel
theorem dX10_places_33 : decode cX10_places 33 = .ok (.getfield 115, 3) := by decide +kernel
theorem dX10_places_36 : decode cX10_places 36 = .ok (.ifCond .ne 5, 3) := by decide +kernel
theorem dX10_places_39 : decode cX10_places 39 = .ok (.iconst 0, 1) := by decide +kernel
theorem dX10_places_40 : decode cX10_places 40 = .ok (.ireturn, 1) := by decide +kernel
set_option maxRecDepth 20000 in
theorem ggX10_which_X10_isBelow : GoodIn wsX10_which wsX10_isBelow := goodIn_r _ [7] (by decide +kernel) (by decide +kernel)
set_option maxRecDepth 20000 in
theorem gX10_which_X10_isBelow : GoodIn wsX10_which (va_wsS RX10 86 yX10_isBelow wsX10_isBelow) := goodIn_app (goodIn_of _ (by decide +kernel)) ggX10_which_X10_isBelow
set_option maxRecDepth 20000 in
theorem ggX10_which_X10_refuseBad : GoodIn wsX10_which wsX10_refuseBad := goodIn_r _ [11, 12, 75, 76, 77, 78, 79, 80, 81, 82, 83, 84, 85, 86] (by decide +kernel) (by decide +kernel)
set_option maxRecDepth 20000 in
theorem gX10_which_X10_refuseBad : GoodIn wsX10_which (wsV RX10 90 RX10 yX10_refuseBad wsX10_refuseBad) := goodIn_app (goodIn_of _ (by decide +kernel)) ggX10_which_X10_refuseBad
set_option maxRecDepth 20000 in
theorem ggX10_which_X10_showAll : GoodIn wsX10_which wsX10_showAll := goodIn_r _ [16, 1, 2, 3, 17, 18, 19, 20, 21, 22, 23, 24, 25, 26, 27, 28, 29, 30, 31, 32, 33, 34, 35, 36, 37, 38, 39, 40, 41, 42, 43, 44, 45, 46, 47, 48, 49, 50, 51, 52, 53, 54, 55, 56, 57, 58, 59, 60, 61, 62, 63, 64, 65, 66, 67, 68, 69, 70, 71, 72, 73, 74, 75, 76, 77, 78, 79, 80, 81, 82, 83, 84, 85, 86, 87, 88, 89, 90, 91, 92, 93, 94, 95, 96, 97, 98, 99, 100, 101, 102, 103] (by decide +kernel) (by decide +kernel)
set_option maxRecDepth 20000 in
theorem gX10_which_X10_showAll : GoodIn wsX10_which (wsV RX10 222 RX10 yX10_showAll wsX10_showAll) := goodIn_app (goodIn_of _ (by decide +kernel)) ggX10_which_X10_showAll
theorem dX10_which_0 : decode cX10_which 0 = .ok (.iload_n 1, 1) := by decide +kernel
theorem dX10_which_1 : decode cX10_which 1 = .ok (.bipush 12, 2) := by decide +kernel
theorem dX10_which_3 : decode cX10_which 3 = .ok (.invokestatic 86, 3) := by decide +kernel
theorem dX10_which_6 : decode cX10_which 6 = .ok (.ifCond .ne 8, 3) := by decide +kernel
theorem dX10_which_9 : decode cX10_which 9 = .ok (.aload_n 0, 1) := by decide +kernel
theorem dX10_which_10 : decode cX10_which 10 = .ok (.invokevirtual 90, 3) := by decide +kernel
theorem dX10_which_13 : decode cX10_which 13 = .ok (.ireturn, 1) := by decide +kernel
theorem dX10_which_14 : decode cX10_which 14 = .ok (.aload_n 0, 1) := by decide +kernel
theorem dX10_which_15 : decode cX10_which 15 = .ok (.iload_n 1, 1) := by decide +kernel
theorem dX10_which_16 : decode cX10_which 16 = .ok (.invokevirtual 222, 3) := by decide +kernel
theorem dX10_which_19 : decode cX10_which 19 = .ok (.iconst (-1), 1) := by decide +kernel
theorem dX10_which_20 : decode cX10_which 20 = .ok (.istore_n 2, 1) := by decide +kernel
theorem dX10_which_21 : decode cX10_which 21 = .ok (.iconst 0, 1) := by decide +kernel
theorem dX10_which_22 : decode cX10_which 22 = .ok (.istore_n 3, 1) := by decide +kernel
theorem dX10_which_23 : decode cX10_which 23 = .ok (.iload_n 3, 1) := by decide +kernel
theorem dX10_which_24 : decode cX10_which 24 = .ok (.aload_n 0, 1) := by decide +kernel
theorem dX10_which_25 : decode cX10_which 25 = .ok (.getfield 36, 3) := by decide +kernel
theorem dX10_which_28 : decode cX10_which 28 = .ok (.getfield 94, 3) := by decide +kernel
theorem dX10_which_31 : decode cX10_which 31 = .ok (.if_icmp .ge 31, 3) := by decide +kernel
theorem dX10_which_62 : decode cX10_which 62 = .ok (.iload_n 2, 1) := by decide +kernel
theorem dX10_which_63 : decode cX10_which 63 = .ok (.ireturn, 1) := by decide +kernel
set_option maxRecDepth 20000 in
theorem ggX10_lasts_X4_hasGleaner : GoodIn wsX10_lasts wsX4_hasGleaner := goodIn_r _ [8, 9, 10, 11, 12, 36, 37, 38, 39, 40, 41, 42, 43, 44, 45, 46] (by decide +kernel) (by decide +kernel)
set_option maxRecDepth 20000 in
theorem gX10_lasts_X4_hasGleaner : GoodIn wsX10_lasts (wsV RX10 167 RX4 yX4_hasGleaner wsX4_hasGleaner) := goodIn_app (goodIn_of _ (by decide +kernel)) ggX10_lasts_X4_hasGleaner
set_option maxRecDepth 20000 in
theorem ggX10_lasts_X10_refuseBad : GoodIn wsX10_lasts wsX10_refuseBad := goodIn_r _ [19, 20, 24, 25, 26, 27, 28, 29, 30, 31, 32, 33, 34, 35] (by decide +kernel) (by decide +kernel)
set_option maxRecDepth 20000 in
theorem gX10_lasts_X10_refuseBad : GoodIn wsX10_lasts (wsV RX10 90 RX10 yX10_refuseBad wsX10_refuseBad) := goodIn_app (goodIn_of _ (by decide +kernel)) ggX10_lasts_X10_refuseBad
theorem dX10_lasts_0 : decode cX10_lasts 0 = .ok (.aload_n 0, 1) := by decide +kernel
theorem dX10_lasts_1 : decode cX10_lasts 1 = .ok (.getfield 36, 3) := by decide +kernel
theorem dX10_lasts_4 : decode cX10_lasts 4 = .ok (.iload_n 1, 1) := by decide +kernel
theorem dX10_lasts_5 : decode cX10_lasts 5 = .ok (.invokevirtual 167, 3) := by decide +kernel
theorem dX10_lasts_8 : decode cX10_lasts 8 = .ok (.ifCond .eq 14, 3) := by decide +kernel
theorem dX10_lasts_22 : decode cX10_lasts 22 = .ok (.aload_n 0, 1) := by decide +kernel
theorem dX10_lasts_23 : decode cX10_lasts 23 = .ok (.invokevirtual 90, 3) := by decide +kernel
theorem dX10_lasts_26 : decode cX10_lasts 26 = .ok (.ireturn, 1) := by decide +kernel
set_option maxRecDepth 20000 in
theorem ggX10_enough_X10_isIn : GoodIn wsX10_enough wsX10_isIn := goodIn_r _ [6] (by decide +kernel) (by decide +kernel)
set_option maxRecDepth 20000 in
theorem gX10_enough_X10_isIn : GoodIn wsX10_enough (va_wsS RX10 147 yX10_isIn wsX10_isIn) := goodIn_app (goodIn_of _ (by decide +kernel)) ggX10_enough_X10_isIn
set_option maxRecDepth 20000 in
theorem ggX10_enough_X10_refuseBad : GoodIn wsX10_enough wsX10_refuseBad := goodIn_r _ [10, 11, 27, 28, 29, 30, 31, 32, 33, 34, 35, 36, 37, 38] (by decide +kernel) (by decide +kernel)
set_option maxRecDepth 20000 in
theorem gX10_enough_X10_refuseBad : GoodIn wsX10_enough (wsV RX10 90 RX10 yX10_refuseBad wsX10_refuseBad) := goodIn_app (goodIn_of _ (by decide +kernel)) ggX10_enough_X10_refuseBad
set_option maxRecDepth 20000 in
theorem ggX10_enough_X4_storesOf : GoodIn wsX10_enough wsX4_storesOf := goodIn_r _ [23, 24, 25, 26, 39, 40, 41, 42, 43, 44, 45, 46, 47, 48, 49, 50, 51, 52, 53, 54, 55] (by decide +kernel) (by decide +kernel)
set_option maxRecDepth 20000 in
theorem gX10_enough_X4_storesOf : GoodIn wsX10_enough (wsV RX10 237 RX4 yX4_storesOf wsX4_storesOf) := goodIn_app (goodIn_of _ (by decide +kernel)) ggX10_enough_X4_storesOf
theorem dX10_enough_0 : decode cX10_enough 0 = .ok (.iload_n 1, 1) := by decide +kernel
theorem dX10_enough_1 : decode cX10_enough 1 = .ok (.iconst 0, 1) := by decide +kernel
theorem dX10_enough_2 : decode cX10_enough 2 = .ok (.sipush 999, 3) := by decide +kernel
theorem dX10_enough_5 : decode cX10_enough 5 = .ok (.invokestatic 147, 3) := by decide +kernel
theorem dX10_enough_8 : decode cX10_enough 8 = .ok (.ifCond .ne 8, 3) := by decide +kernel
theorem dX10_enough_11 : decode cX10_enough 11 = .ok (.aload_n 0, 1) := by decide +kernel
theorem dX10_enough_12 : decode cX10_enough 12 = .ok (.invokevirtual 90, 3) := by decide +kernel
theorem dX10_enough_15 : decode cX10_enough 15 = .ok (.ireturn, 1) := by decide +kernel
theorem dX10_enough_16 : decode cX10_enough 16 = .ok (.iconst (-1), 1) := by decide +kernel
theorem dX10_enough_17 : decode cX10_enough 17 = .ok (.istore_n 2, 1) := by decide +kernel
theorem dX10_enough_18 : decode cX10_enough 18 = .ok (.iconst 0, 1) := by decide +kernel
theorem dX10_enough_19 : decode cX10_enough 19 = .ok (.istore_n 3, 1) := by decide +kernel
theorem dX10_enough_20 : decode cX10_enough 20 = .ok (.iload_n 3, 1) := by decide +kernel
theorem dX10_enough_21 : decode cX10_enough 21 = .ok (.iconst 1, 1) := by decide +kernel
theorem dX10_enough_22 : decode cX10_enough 22 = .ok (.aload_n 0, 1) := by decide +kernel
theorem dX10_enough_23 : decode cX10_enough 23 = .ok (.getfield 36, 3) := by decide +kernel
theorem dX10_enough_26 : decode cX10_enough 26 = .ok (.getfield 115, 3) := by decide +kernel
theorem dX10_enough_29 : decode cX10_enough 29 = .ok (.ishl, 1) := by decide +kernel
theorem dX10_enough_30 : decode cX10_enough 30 = .ok (.if_icmp .ge 51, 3) := by decide +kernel
theorem dX10_enough_33 : decode cX10_enough 33 = .ok (.iload_n 2, 1) := by decide +kernel
theorem dX10_enough_34 : decode cX10_enough 34 = .ok (.iconst (-1), 1) := by decide +kernel
theorem dX10_enough_35 : decode cX10_enough 35 = .ok (.if_icmp .eq 14, 3) := by decide +kernel
theorem dX10_enough_49 : decode cX10_enough 49 = .ok (.iconst 1, 1) := by decide +kernel
theorem dX10_enough_50 : decode cX10_enough 50 = .ok (.goto 4, 3) := by decide +kernel
theorem dX10_enough_54 : decode cX10_enough 54 = .ok (.istore 4, 2) := by decide +kernel
theorem dX10_enough_56 : decode cX10_enough 56 = .ok (.iload 4, 2) := by decide +kernel
theorem dX10_enough_58 : decode cX10_enough 58 = .ok (.ifCond .eq 17, 3) := by decide +kernel
theorem dX10_enough_61 : decode cX10_enough 61 = .ok (.aload_n 0, 1) := by decide +kernel
theorem dX10_enough_62 : decode cX10_enough 62 = .ok (.getfield 36, 3) := by decide +kernel
theorem dX10_enough_65 : decode cX10_enough 65 = .ok (.iload_n 3, 1) := by decide +kernel
theorem dX10_enough_66 : decode cX10_enough 66 = .ok (.invokevirtual 237, 3) := by decide +kernel
theorem dX10_enough_69 : decode cX10_enough 69 = .ok (.iload_n 1, 1) := by decide +kernel
theorem dX10_enough_70 : decode cX10_enough 70 = .ok (.if_icmp .lt 5, 3) := by decide +kernel
theorem dX10_enough_73 : decode cX10_enough 73 = .ok (.iload_n 3, 1) := by decide +kernel
theorem dX10_enough_74 : decode cX10_enough 74 = .ok (.istore_n 2, 1) := by decide +kernel
theorem dX10_enough_75 : decode cX10_enough 75 = .ok (.iinc 3 1, 3) := by decide +kernel
theorem dX10_enough_78 : decode cX10_enough 78 = .ok (.goto (-58), 3) := by decide +kernel
theorem dX10_enough_81 : decode cX10_enough 81 = .ok (.iload_n 2, 1) := by decide +kernel
theorem dX10_enough_82 : decode cX10_enough 82 = .ok (.ireturn, 1) := by decide +kernel
set_option maxRecDepth 20000 in
theorem ggX10_missed_X4_hasField : GoodIn wsX10_missed wsX4_hasField := goodIn_r _ [7, 8, 9, 10, 11, 46, 47, 48, 49, 50, 51, 52, 53, 54, 55, 56] (by decide +kernel) (by decide +kernel)
set_option maxRecDepth 20000 in
theorem gX10_missed_X4_hasField : GoodIn wsX10_missed (wsV RX10 112 RX4 yX4_hasField wsX4_hasField) := goodIn_app (goodIn_of _ (by decide +kernel)) ggX10_missed_X4_hasField
set_option maxRecDepth 20000 in
theorem ggX10_missed_X10_refuseBad : GoodIn wsX10_missed wsX10_refuseBad := goodIn_r _ [22, 23, 34, 35, 36, 37, 38, 39, 40, 41, 42, 43, 44, 45] (by decide +kernel) (by decide +kernel)
set_option maxRecDepth 20000 in
theorem gX10_missed_X10_refuseBad : GoodIn wsX10_missed (wsV RX10 90 RX10 yX10_refuseBad wsX10_refuseBad) := goodIn_app (goodIn_of _ (by decide +kernel)) ggX10_missed_X10_refuseBad
theorem dX10_missed_0 : decode cX10_missed 0 = .ok (.aload_n 0, 1) := by decide +kernel
theorem dX10_missed_1 : decode cX10_missed 1 = .ok (.getfield 36, 3) := by decide +kernel
theorem dX10_missed_4 : decode cX10_missed 4 = .ok (.iload_n 1, 1) := by decide +kernel
theorem dX10_missed_5 : decode cX10_missed 5 = .ok (.invokevirtual 112, 3) := by decide +kernel
theorem dX10_missed_8 : decode cX10_missed 8 = .ok (.ifCond .eq 30, 3) := by decide +kernel
theorem dX10_missed_38 : decode cX10_missed 38 = .ok (.aload_n 0, 1) := by decide +kernel
theorem dX10_missed_39 : decode cX10_missed 39 = .ok (.invokevirtual 90, 3) := by decide +kernel
theorem dX10_missed_42 : decode cX10_missed 42 = .ok (.ireturn, 1) := by decide +kernel
set_option maxRecDepth 20000 in
theorem ggX10_clouds_X4_missedFit : GoodIn wsX10_clouds wsX4_missedFit := goodIn_r _ [6, 7, 8, 9, 10, 11, 12, 13, 14, 15, 16, 17, 18, 19, 20, 21, 22, 23, 24, 25, 26, 27, 28, 29, 30, 31, 32, 33, 34, 35, 36, 37, 38, 39, 40, 41, 42, 43, 44, 45, 46, 47, 48, 49, 50, 51, 52, 53, 54, 55, 56, 57, 58, 71, 72, 73, 74, 75, 76, 77, 78, 79, 80, 81] (by decide +kernel) (by decide +kernel)
set_option maxRecDepth 20000 in
theorem gX10_clouds_X4_missedFit : GoodIn wsX10_clouds (wsV RX10 247 RX4 yX4_missedFit wsX4_missedFit) := goodIn_app (goodIn_of _ (by decide +kernel)) ggX10_clouds_X4_missedFit
theorem dX10_clouds_0 : decode cX10_clouds 0 = .ok (.iconst 0, 1) := by decide +kernel
theorem dX10_clouds_1 : decode cX10_clouds 1 = .ok (.istore_n 1, 1) := by decide +kernel
theorem dX10_clouds_2 : decode cX10_clouds 2 = .ok (.iconst 0, 1) := by decide +kernel
theorem dX10_clouds_3 : decode cX10_clouds 3 = .ok (.istore_n 2, 1) := by decide +kernel
theorem dX10_clouds_4 : decode cX10_clouds 4 = .ok (.iload_n 2, 1) := by decide +kernel
theorem dX10_clouds_5 : decode cX10_clouds 5 = .ok (.bipush 10, 2) := by decide +kernel
theorem dX10_clouds_7 : decode cX10_clouds 7 = .ok (.if_icmp .ge 26, 3) := by decide +kernel
theorem dX10_clouds_10 : decode cX10_clouds 10 = .ok (.aload_n 0, 1) := by decide +kernel
theorem dX10_clouds_11 : decode cX10_clouds 11 = .ok (.getfield 36, 3) := by decide +kernel
theorem dX10_clouds_14 : decode cX10_clouds 14 = .ok (.iload_n 2, 1) := by decide +kernel
theorem dX10_clouds_15 : decode cX10_clouds 15 = .ok (.invokevirtual 247, 3) := by decide +kernel
theorem dX10_clouds_18 : decode cX10_clouds 18 = .ok (.ifCond .eq 9, 3) := by decide +kernel
theorem dX10_clouds_21 : decode cX10_clouds 21 = .ok (.iload_n 1, 1) := by decide +kernel
theorem dX10_clouds_22 : decode cX10_clouds 22 = .ok (.iconst 1, 1) := by decide +kernel
theorem dX10_clouds_23 : decode cX10_clouds 23 = .ok (.iload_n 2, 1) := by decide +kernel
theorem dX10_clouds_24 : decode cX10_clouds 24 = .ok (.ishl, 1) := by decide +kernel
theorem dX10_clouds_25 : decode cX10_clouds 25 = .ok (.ior, 1) := by decide +kernel
theorem dX10_clouds_26 : decode cX10_clouds 26 = .ok (.istore_n 1, 1) := by decide +kernel
theorem dX10_clouds_27 : decode cX10_clouds 27 = .ok (.iinc 2 1, 3) := by decide +kernel
theorem dX10_clouds_30 : decode cX10_clouds 30 = .ok (.goto (-26), 3) := by decide +kernel
theorem dX10_clouds_33 : decode cX10_clouds 33 = .ok (.iload_n 1, 1) := by decide +kernel
theorem dX10_clouds_34 : decode cX10_clouds 34 = .ok (.ireturn, 1) := by decide +kernel
set_option maxRecDepth 20000 in
theorem ggX10_note_X4_hasField : GoodIn wsX10_note wsX4_hasField := goodIn_r _ [7, 8, 9, 10, 11, 46, 47, 48, 49, 50, 51, 52, 53, 54, 55, 56] (by decide +kernel) (by decide +kernel)
set_option maxRecDepth 20000 in
theorem gX10_note_X4_hasField : GoodIn wsX10_note (wsV RX10 112 RX4 yX4_hasField wsX4_hasField) := goodIn_app (goodIn_of _ (by decide +kernel)) ggX10_note_X4_hasField
set_option maxRecDepth 20000 in
theorem ggX10_note_X10_refuseBad : GoodIn wsX10_note wsX10_refuseBad := goodIn_r _ [22, 23, 34, 35, 36, 37, 38, 39, 40, 41, 42, 43, 44, 45] (by decide +kernel) (by decide +kernel)
set_option maxRecDepth 20000 in
theorem gX10_note_X10_refuseBad : GoodIn wsX10_note (wsV RX10 90 RX10 yX10_refuseBad wsX10_refuseBad) := goodIn_app (goodIn_of _ (by decide +kernel)) ggX10_note_X10_refuseBad
theorem dX10_note_0 : decode cX10_note 0 = .ok (.aload_n 0, 1) := by decide +kernel
theorem dX10_note_1 : decode cX10_note 1 = .ok (.getfield 36, 3) := by decide +kernel
theorem dX10_note_4 : decode cX10_note 4 = .ok (.iload_n 1, 1) := by decide +kernel
theorem dX10_note_5 : decode cX10_note 5 = .ok (.invokevirtual 112, 3) := by decide +kernel
theorem dX10_note_8 : decode cX10_note 8 = .ok (.ifCond .eq 19, 3) := by decide +kernel
theorem dX10_note_27 : decode cX10_note 27 = .ok (.aload_n 0, 1) := by decide +kernel
theorem dX10_note_28 : decode cX10_note 28 = .ok (.invokevirtual 90, 3) := by decide +kernel
theorem dX10_note_31 : decode cX10_note 31 = .ok (.ireturn, 1) := by decide +kernel
set_option maxRecDepth 20000 in
theorem ggX10_forget_X10_isBelow : GoodIn wsX10_forget wsX10_isBelow := goodIn_r _ [7] (by decide +kernel) (by decide +kernel)
set_option maxRecDepth 20000 in
theorem gX10_forget_X10_isBelow : GoodIn wsX10_forget (va_wsS RX10 86 yX10_isBelow wsX10_isBelow) := goodIn_app (goodIn_of _ (by decide +kernel)) ggX10_forget_X10_isBelow
set_option maxRecDepth 20000 in
theorem ggX10_forget_X10_refuseBad : GoodIn wsX10_forget wsX10_refuseBad := goodIn_r _ [11, 12, 13, 14, 15, 16, 17, 18, 19, 20, 21, 22, 23, 24] (by decide +kernel) (by decide +kernel)
set_option maxRecDepth 20000 in
theorem gX10_forget_X10_refuseBad : GoodIn wsX10_forget (wsV RX10 90 RX10 yX10_refuseBad wsX10_refuseBad) := goodIn_app (goodIn_of _ (by decide +kernel)) ggX10_forget_X10_refuseBad
theorem dX10_forget_0 : decode cX10_forget 0 = .ok (.iload_n 1, 1) := by decide +kernel
theorem dX10_forget_1 : decode cX10_forget 1 = .ok (.iconst 2, 1) := by decide +kernel
theorem dX10_forget_2 : decode cX10_forget 2 = .ok (.invokestatic 86, 3) := by decide +kernel
theorem dX10_forget_5 : decode cX10_forget 5 = .ok (.ifCond .ne 8, 3) := by decide +kernel
theorem dX10_forget_8 : decode cX10_forget 8 = .ok (.aload_n 0, 1) := by decide +kernel
theorem dX10_forget_9 : decode cX10_forget 9 = .ok (.invokevirtual 90, 3) := by decide +kernel
theorem dX10_forget_12 : decode cX10_forget 12 = .ok (.ireturn, 1) := by decide +kernel
theorem dX10_forget_13 : decode cX10_forget 13 = .ok (.iload_n 1, 1) := by decide +kernel
theorem dX10_forget_14 : decode cX10_forget 14 = .ok (.ifCond .ne 13, 3) := by decide +kernel
theorem dX10_forget_17 : decode cX10_forget 17 = .ok (.aload_n 0, 1) := by decide +kernel
theorem dX10_forget_18 : decode cX10_forget 18 = .ok (.getfield 36, 3) := by decide +kernel
theorem dX10_forget_21 : decode cX10_forget 21 = .ok (.getfield 240, 3) := by decide +kernel
theorem dX10_forget_24 : decode cX10_forget 24 = .ok (.goto 10, 3) := by decide +kernel
theorem dX10_forget_27 : decode cX10_forget 27 = .ok (.aload_n 0, 1) := by decide +kernel
theorem dX10_forget_28 : decode cX10_forget 28 = .ok (.getfield 36, 3) := by decide +kernel
theorem dX10_forget_31 : decode cX10_forget 31 = .ok (.getfield 250, 3) := by decide +kernel
theorem dX10_forget_34 : decode cX10_forget 34 = .ok (.istore_n 2, 1) := by decide +kernel
theorem dX10_forget_35 : decode cX10_forget 35 = .ok (.iload_n 1, 1) := by decide +kernel
theorem dX10_forget_36 : decode cX10_forget 36 = .ok (.ifCond .ne 14, 3) := by decide +kernel
theorem dX10_forget_39 : decode cX10_forget 39 = .ok (.aload_n 0, 1) := by decide +kernel
theorem dX10_forget_40 : decode cX10_forget 40 = .ok (.getfield 36, 3) := by decide +kernel
theorem dX10_forget_43 : decode cX10_forget 43 = .ok (.iconst 0, 1) := by decide +kernel
theorem dX10_forget_44 : decode cX10_forget 44 = .ok (.putfield 240, 3) := by decide +kernel
theorem dX10_forget_47 : decode cX10_forget 47 = .ok (.goto 11, 3) := by decide +kernel
theorem dX10_forget_50 : decode cX10_forget 50 = .ok (.aload_n 0, 1) := by decide +kernel
theorem dX10_forget_51 : decode cX10_forget 51 = .ok (.getfield 36, 3) := by decide +kernel
theorem dX10_forget_54 : decode cX10_forget 54 = .ok (.iconst 0, 1) := by decide +kernel
theorem dX10_forget_55 : decode cX10_forget 55 = .ok (.putfield 250, 3) := by decide +kernel
theorem dX10_forget_58 : decode cX10_forget 58 = .ok (.iload_n 2, 1) := by decide +kernel
theorem dX10_forget_59 : decode cX10_forget 59 = .ok (.ireturn, 1) := by decide +kernel
set_option maxRecDepth 20000 in
theorem ggX10_is_X4_hasField : GoodIn wsX10_is wsX4_hasField := goodIn_r _ [6, 7, 8, 9, 10, 87, 88, 89, 90, 91, 92, 93, 94, 95, 96, 97] (by decide +kernel) (by decide +kernel)
set_option maxRecDepth 20000 in
theorem gX10_is_X4_hasField : GoodIn wsX10_is (wsV RX10 112 RX4 yX4_hasField wsX4_hasField) := goodIn_app (goodIn_of _ (by decide +kernel)) ggX10_is_X4_hasField
set_option maxRecDepth 20000 in
theorem ggX10_is_X10_refuseBad : GoodIn wsX10_is wsX10_refuseBad := goodIn_r _ [14, 15, 75, 76, 77, 78, 79, 80, 81, 82, 83, 84, 85, 86] (by decide +kernel) (by decide +kernel)
set_option maxRecDepth 20000 in
theorem gX10_is_X10_refuseBad : GoodIn wsX10_is (wsV RX10 90 RX10 yX10_refuseBad wsX10_refuseBad) := goodIn_app (goodIn_of _ (by decide +kernel)) ggX10_is_X10_refuseBad
theorem dX10_is_0 : decode cX10_is 0 = .ok (.aload_n 0, 1) := by decide +kernel
theorem dX10_is_1 : decode cX10_is 1 = .ok (.getfield 36, 3) := by decide +kernel
theorem dX10_is_4 : decode cX10_is 4 = .ok (.iload_n 1, 1) := by decide +kernel
theorem dX10_is_5 : decode cX10_is 5 = .ok (.invokevirtual 112, 3) := by decide +kernel
theorem dX10_is_8 : decode cX10_is 8 = .ok (.ifCond .ne 8, 3) := by decide +kernel
theorem dX10_is_11 : decode cX10_is 11 = .ok (.aload_n 0, 1) := by decide +kernel
theorem dX10_is_12 : decode cX10_is 12 = .ok (.invokevirtual 90, 3) := by decide +kernel
theorem dX10_is_15 : decode cX10_is 15 = .ok (.ireturn, 1) := by decide +kernel
set_option maxRecDepth 20000 in
theorem ggX10_look_X4_hasField : GoodIn wsX10_look wsX4_hasField := goodIn_r _ [8, 9, 10, 11, 12, 97, 98, 99, 100, 101, 102, 103, 104, 105, 106, 107] (by decide +kernel) (by decide +kernel)
set_option maxRecDepth 20000 in
theorem gX10_look_X4_hasField : GoodIn wsX10_look (wsV RX10 112 RX4 yX4_hasField wsX4_hasField) := goodIn_app (goodIn_of _ (by decide +kernel)) ggX10_look_X4_hasField
set_option maxRecDepth 20000 in
theorem ggX10_look_X10_refuseBad : GoodIn wsX10_look wsX10_refuseBad := goodIn_r _ [16, 17, 85, 86, 87, 88, 89, 90, 91, 92, 93, 94, 95, 96] (by decide +kernel) (by decide +kernel)
set_option maxRecDepth 20000 in
theorem gX10_look_X10_refuseBad : GoodIn wsX10_look (wsV RX10 90 RX10 yX10_refuseBad wsX10_refuseBad) := goodIn_app (goodIn_of _ (by decide +kernel)) ggX10_look_X10_refuseBad
