theorem dX7_takes_9 : decode cX7_takes 9 = .ok (.if_icmp .ne 16, 3) := by decide +kernel
theorem dX7_takes_12 : decode cX7_takes 12 = .ok (.aload_n 0, 1) := by decide +kernel
theorem dX7_takes_13 : decode cX7_takes 13 = .ok (.getfield 62, 3) := by decide +kernel
theorem dX7_takes_16 : decode cX7_takes 16 = .ok (.iload_n 3, 1) := by decide +kernel
theorem dX7_takes_17 : decode cX7_takes 17 = .ok (.iload 4, 2) := by decide +kernel
theorem dX7_takes_19 : decode cX7_takes 19 = .ok (.invokestatic 85, 3) := by decide +kernel
theorem dX7_takes_22 : decode cX7_takes 22 = .ok (.ifCond .ne 5, 3) := by decide +kernel
theorem dX7_takes_25 : decode cX7_takes 25 = .ok (.iconst 0, 1) := by decide +kernel
theorem dX7_takes_26 : decode cX7_takes 26 = .ok (.ireturn, 1) := by decide +kernel
theorem dX7_takes_27 : decode cX7_takes 27 = .ok (.aload_n 1, 1) := by decide +kernel
theorem dX7_takes_28 : decode cX7_takes 28 = .ok (.iload_n 2, 1) := by decide +kernel
theorem dX7_takes_29 : decode cX7_takes 29 = .ok (.aload_n 0, 1) := by decide +kernel
theorem dX7_takes_30 : decode cX7_takes 30 = .ok (.getfield 62, 3) := by decide +kernel
theorem dX7_takes_33 : decode cX7_takes 33 = .ok (.iastore, 1) := by decide +kernel
theorem dX7_takes_34 : decode cX7_takes 34 = .ok (.iconst 1, 1) := by decide +kernel
theorem dX7_takes_35 : decode cX7_takes 35 = .ok (.ireturn, 1) := by decide +kernel
set_option maxRecDepth 20000 in
theorem gw_wsX7_isLetter : wsX7_isLetter.all goodWord = true := by decide +kernel
set_option maxRecDepth 20000 in
theorem ggX7_advance_X7_isLetter : GoodIn wsX7_advance wsX7_isLetter := goodIn_r _ [9] rfl gw_wsX7_isLetter
set_option maxRecDepth 20000 in
theorem gX7_advance_X7_isLetter : GoodIn wsX7_advance (va_wsS RX7 89 yX7_isLetter wsX7_isLetter) := goodIn_app (goodIn_r _ [6, 7, 8] (by exact rfl) (by decide +kernel)) ggX7_advance_X7_isLetter
set_option maxRecDepth 20000 in
theorem gw_wsX7_passWord : wsX7_passWord.all goodWord = true := by decide +kernel
set_option maxRecDepth 20000 in
theorem ggX7_advance_X7_passWord : GoodIn wsX7_advance wsX7_passWord := goodIn_r _ [13, 5, 1, 3, 4, 6, 7, 8, 9, 26, 27, 28, 29, 30, 31, 32, 33, 34, 35, 36, 37] rfl gw_wsX7_passWord
set_option maxRecDepth 20000 in
theorem gX7_advance_X7_passWord : GoodIn wsX7_advance (wsV RX7 92 RX7 yX7_passWord wsX7_passWord) := goodIn_app (goodIn_r _ [10, 11, 12, 8] (by exact rfl) (by decide +kernel)) ggX7_advance_X7_passWord
set_option maxRecDepth 20000 in
theorem gw_wsX7_isFigure : wsX7_isFigure.all goodWord = true := by decide +kernel
set_option maxRecDepth 20000 in
theorem ggX7_advance_X7_isFigure : GoodIn wsX7_advance wsX7_isFigure := goodIn_r _ [16] rfl gw_wsX7_isFigure
set_option maxRecDepth 20000 in
theorem gX7_advance_X7_isFigure : GoodIn wsX7_advance (va_wsS RX7 95 yX7_isFigure wsX7_isFigure) := goodIn_app (goodIn_r _ [14, 15, 8] (by exact rfl) (by decide +kernel)) ggX7_advance_X7_isFigure
set_option maxRecDepth 20000 in
theorem gw_wsX7_passNumber : wsX7_passNumber.all goodWord = true := by decide +kernel
set_option maxRecDepth 20000 in
theorem ggX7_advance_X7_passNumber : GoodIn wsX7_advance wsX7_passNumber := goodIn_r _ [20, 21, 1, 3, 4, 2, 5, 14, 15, 8, 16, 26, 27, 28, 29, 30, 31, 32, 33, 34, 35, 36, 37] rfl gw_wsX7_passNumber
set_option maxRecDepth 20000 in
theorem gX7_advance_X7_passNumber : GoodIn wsX7_advance (wsV RX7 98 RX7 yX7_passNumber wsX7_passNumber) := goodIn_app (goodIn_r _ [17, 18, 19, 8] (by exact rfl) (by decide +kernel)) ggX7_advance_X7_passNumber
set_option maxRecDepth 20000 in
theorem gw_wsX7_passSign : wsX7_passSign.all goodWord = true := by decide +kernel
set_option maxRecDepth 20000 in
theorem ggX7_advance_X7_passSign : GoodIn wsX7_advance wsX7_passSign := goodIn_r _ [25, 4, 2, 5, 1, 26, 27, 28, 29, 30, 31, 32, 33, 34, 35, 36, 37] rfl gw_wsX7_passSign
set_option maxRecDepth 20000 in
theorem gX7_advance_X7_passSign : GoodIn wsX7_advance (wsV RX7 101 RX7 yX7_passSign wsX7_passSign) := goodIn_app (goodIn_r _ [22, 23, 24, 8] (by exact rfl) (by decide +kernel)) ggX7_advance_X7_passSign
theorem dX7_advance_0 : decode cX7_advance 0 = .ok (.aload_n 0, 1) := by decide +kernel
theorem dX7_advance_1 : decode cX7_advance 1 = .ok (.aload_n 0, 1) := by decide +kernel
theorem dX7_advance_2 : decode cX7_advance 2 = .ok (.getfield 29, 3) := by decide +kernel
theorem dX7_advance_5 : decode cX7_advance 5 = .ok (.putfield 51, 3) := by decide +kernel
theorem dX7_advance_8 : decode cX7_advance 8 = .ok (.aload_n 0, 1) := by decide +kernel
theorem dX7_advance_9 : decode cX7_advance 9 = .ok (.getfield 51, 3) := by decide +kernel
theorem dX7_advance_12 : decode cX7_advance 12 = .ok (.aload_n 0, 1) := by decide +kernel
theorem dX7_advance_13 : decode cX7_advance 13 = .ok (.getfield 25, 3) := by decide +kernel
theorem dX7_advance_16 : decode cX7_advance 16 = .ok (.if_icmp .ge 30, 3) := by decide +kernel
theorem dX7_advance_19 : decode cX7_advance 19 = .ok (.aload_n 0, 1) := by decide +kernel
theorem dX7_advance_20 : decode cX7_advance 20 = .ok (.getfield 9, 3) := by decide +kernel
theorem dX7_advance_23 : decode cX7_advance 23 = .ok (.aload_n 0, 1) := by decide +kernel
theorem dX7_advance_24 : decode cX7_advance 24 = .ok (.getfield 51, 3) := by decide +kernel
theorem dX7_advance_27 : decode cX7_advance 27 = .ok (.baload, 1) := by decide +kernel
theorem dX7_advance_28 : decode cX7_advance 28 = .ok (.bipush 32, 2) := by decide +kernel
theorem dX7_advance_30 : decode cX7_advance 30 = .ok (.if_icmp .ne 16, 3) := by decide +kernel
theorem dX7_advance_33 : decode cX7_advance 33 = .ok (.aload_n 0, 1) := by decide +kernel
theorem dX7_advance_34 : decode cX7_advance 34 = .ok (.dup, 1) := by decide +kernel
theorem dX7_advance_35 : decode cX7_advance 35 = .ok (.getfield 51, 3) := by decide +kernel
theorem dX7_advance_38 : decode cX7_advance 38 = .ok (.iconst 1, 1) := by decide +kernel
theorem dX7_advance_39 : decode cX7_advance 39 = .ok (.iadd, 1) := by decide +kernel
theorem dX7_advance_40 : decode cX7_advance 40 = .ok (.putfield 51, 3) := by decide +kernel
theorem dX7_advance_43 : decode cX7_advance 43 = .ok (.goto (-35), 3) := by decide +kernel
theorem dX7_advance_46 : decode cX7_advance 46 = .ok (.aload_n 0, 1) := by decide +kernel
theorem dX7_advance_47 : decode cX7_advance 47 = .ok (.aload_n 0, 1) := by decide +kernel
theorem dX7_advance_48 : decode cX7_advance 48 = .ok (.getfield 51, 3) := by decide +kernel
theorem dX7_advance_51 : decode cX7_advance 51 = .ok (.putfield 29, 3) := by decide +kernel
theorem dX7_advance_54 : decode cX7_advance 54 = .ok (.aload_n 0, 1) := by decide +kernel
theorem dX7_advance_55 : decode cX7_advance 55 = .ok (.getfield 51, 3) := by decide +kernel
theorem dX7_advance_58 : decode cX7_advance 58 = .ok (.aload_n 0, 1) := by decide +kernel
theorem dX7_advance_59 : decode cX7_advance 59 = .ok (.getfield 25, 3) := by decide +kernel
theorem dX7_advance_62 : decode cX7_advance 62 = .ok (.if_icmp .lt 11, 3) := by decide +kernel
theorem dX7_advance_65 : decode cX7_advance 65 = .ok (.aload_n 0, 1) := by decide +kernel
theorem dX7_advance_66 : decode cX7_advance 66 = .ok (.iconst 0, 1) := by decide +kernel
theorem dX7_advance_67 : decode cX7_advance 67 = .ok (.putfield 44, 3) := by decide +kernel
theorem dX7_advance_70 : decode cX7_advance 70 = .ok (.goto 51, 3) := by decide +kernel
theorem dX7_advance_73 : decode cX7_advance 73 = .ok (.aload_n 0, 1) := by decide +kernel
theorem dX7_advance_74 : decode cX7_advance 74 = .ok (.getfield 9, 3) := by decide +kernel
theorem dX7_advance_77 : decode cX7_advance 77 = .ok (.aload_n 0, 1) := by decide +kernel
theorem dX7_advance_78 : decode cX7_advance 78 = .ok (.getfield 51, 3) := by decide +kernel
theorem dX7_advance_81 : decode cX7_advance 81 = .ok (.baload, 1) := by decide +kernel
theorem dX7_advance_82 : decode cX7_advance 82 = .ok (.invokestatic 89, 3) := by decide +kernel
theorem dX7_advance_85 : decode cX7_advance 85 = .ok (.ifCond .eq 10, 3) := by decide +kernel
theorem dX7_advance_88 : decode cX7_advance 88 = .ok (.aload_n 0, 1) := by decide +kernel
theorem dX7_advance_89 : decode cX7_advance 89 = .ok (.invokevirtual 92, 3) := by decide +kernel
theorem dX7_advance_92 : decode cX7_advance 92 = .ok (.goto 29, 3) := by decide +kernel
theorem dX7_advance_95 : decode cX7_advance 95 = .ok (.aload_n 0, 1) := by decide +kernel
theorem dX7_advance_96 : decode cX7_advance 96 = .ok (.getfield 9, 3) := by decide +kernel
theorem dX7_advance_99 : decode cX7_advance 99 = .ok (.aload_n 0, 1) := by decide +kernel
theorem dX7_advance_100 : decode cX7_advance 100 = .ok (.getfield 51, 3) := by decide +kernel
theorem dX7_advance_103 : decode cX7_advance 103 = .ok (.baload, 1) := by decide +kernel
theorem dX7_advance_104 : decode cX7_advance 104 = .ok (.invokestatic 95, 3) := by decide +kernel
theorem dX7_advance_107 : decode cX7_advance 107 = .ok (.ifCond .eq 10, 3) := by decide +kernel
theorem dX7_advance_110 : decode cX7_advance 110 = .ok (.aload_n 0, 1) := by decide +kernel
theorem dX7_advance_111 : decode cX7_advance 111 = .ok (.invokevirtual 98, 3) := by decide +kernel
theorem dX7_advance_114 : decode cX7_advance 114 = .ok (.goto 7, 3) := by decide +kernel
theorem dX7_advance_117 : decode cX7_advance 117 = .ok (.aload_n 0, 1) := by decide +kernel
theorem dX7_advance_118 : decode cX7_advance 118 = .ok (.invokevirtual 101, 3) := by decide +kernel
theorem dX7_advance_121 : decode cX7_advance 121 = .ok (.return_, 1) := by decide +kernel
set_option maxRecDepth 20000 in
theorem ggX7_passWord_X7_isLetter : GoodIn wsX7_passWord wsX7_isLetter := goodIn_r _ [8] rfl gw_wsX7_isLetter
set_option maxRecDepth 20000 in
theorem gX7_passWord_X7_isLetter : GoodIn wsX7_passWord (va_wsS RX7 89 yX7_isLetter wsX7_isLetter) := goodIn_app (goodIn_r _ [5, 6, 7] (by exact rfl) (by decide +kernel)) ggX7_passWord_X7_isLetter
theorem dX7_passWord_0 : decode cX7_passWord 0 = .ok (.aload_n 0, 1) := by decide +kernel
theorem dX7_passWord_1 : decode cX7_passWord 1 = .ok (.iconst 1, 1) := by decide +kernel
theorem dX7_passWord_2 : decode cX7_passWord 2 = .ok (.putfield 44, 3) := by decide +kernel
theorem dX7_passWord_5 : decode cX7_passWord 5 = .ok (.aload_n 0, 1) := by decide +kernel
theorem dX7_passWord_6 : decode cX7_passWord 6 = .ok (.getfield 29, 3) := by decide +kernel
theorem dX7_passWord_9 : decode cX7_passWord 9 = .ok (.aload_n 0, 1) := by decide +kernel
theorem dX7_passWord_10 : decode cX7_passWord 10 = .ok (.getfield 25, 3) := by decide +kernel
theorem dX7_passWord_13 : decode cX7_passWord 13 = .ok (.if_icmp .ge 31, 3) := by decide +kernel
theorem dX7_passWord_16 : decode cX7_passWord 16 = .ok (.aload_n 0, 1) := by decide +kernel
theorem dX7_passWord_17 : decode cX7_passWord 17 = .ok (.getfield 9, 3) := by decide +kernel
theorem dX7_passWord_20 : decode cX7_passWord 20 = .ok (.aload_n 0, 1) := by decide +kernel
theorem dX7_passWord_21 : decode cX7_passWord 21 = .ok (.getfield 29, 3) := by decide +kernel
theorem dX7_passWord_24 : decode cX7_passWord 24 = .ok (.baload, 1) := by decide +kernel
theorem dX7_passWord_25 : decode cX7_passWord 25 = .ok (.invokestatic 89, 3) := by decide +kernel
theorem dX7_passWord_28 : decode cX7_passWord 28 = .ok (.ifCond .eq 16, 3) := by decide +kernel
theorem dX7_passWord_31 : decode cX7_passWord 31 = .ok (.aload_n 0, 1) := by decide +kernel
theorem dX7_passWord_32 : decode cX7_passWord 32 = .ok (.dup, 1) := by decide +kernel
theorem dX7_passWord_33 : decode cX7_passWord 33 = .ok (.getfield 29, 3) := by decide +kernel
theorem dX7_passWord_36 : decode cX7_passWord 36 = .ok (.iconst 1, 1) := by decide +kernel
theorem dX7_passWord_37 : decode cX7_passWord 37 = .ok (.iadd, 1) := by decide +kernel
theorem dX7_passWord_38 : decode cX7_passWord 38 = .ok (.putfield 29, 3) := by decide +kernel
theorem dX7_passWord_41 : decode cX7_passWord 41 = .ok (.goto (-36), 3) := by decide +kernel
theorem dX7_passWord_44 : decode cX7_passWord 44 = .ok (.return_, 1) := by decide +kernel
set_option maxRecDepth 20000 in
theorem ggX7_passNumber_X7_isFigure : GoodIn wsX7_passNumber wsX7_isFigure := goodIn_r _ [10] rfl gw_wsX7_isFigure
set_option maxRecDepth 20000 in
theorem gX7_passNumber_X7_isFigure : GoodIn wsX7_passNumber (va_wsS RX7 95 yX7_isFigure wsX7_isFigure) := goodIn_app (goodIn_r _ [7, 8, 9] (by exact rfl) (by decide +kernel)) ggX7_passNumber_X7_isFigure
theorem dX7_passNumber_0 : decode cX7_passNumber 0 = .ok (.aload_n 0, 1) := by decide +kernel
theorem dX7_passNumber_1 : decode cX7_passNumber 1 = .ok (.iconst 0, 1) := by decide +kernel
theorem dX7_passNumber_2 : decode cX7_passNumber 2 = .ok (.putfield 62, 3) := by decide +kernel
theorem dX7_passNumber_5 : decode cX7_passNumber 5 = .ok (.aload_n 0, 1) := by decide +kernel
theorem dX7_passNumber_6 : decode cX7_passNumber 6 = .ok (.getfield 29, 3) := by decide +kernel
theorem dX7_passNumber_9 : decode cX7_passNumber 9 = .ok (.aload_n 0, 1) := by decide +kernel
theorem dX7_passNumber_10 : decode cX7_passNumber 10 = .ok (.getfield 25, 3) := by decide +kernel
theorem dX7_passNumber_13 : decode cX7_passNumber 13 = .ok (.if_icmp .ge 68, 3) := by decide +kernel
theorem dX7_passNumber_16 : decode cX7_passNumber 16 = .ok (.aload_n 0, 1) := by decide +kernel
theorem dX7_passNumber_17 : decode cX7_passNumber 17 = .ok (.getfield 9, 3) := by decide +kernel
theorem dX7_passNumber_20 : decode cX7_passNumber 20 = .ok (.aload_n 0, 1) := by decide +kernel
theorem dX7_passNumber_21 : decode cX7_passNumber 21 = .ok (.getfield 29, 3) := by decide +kernel
theorem dX7_passNumber_24 : decode cX7_passNumber 24 = .ok (.baload, 1) := by decide +kernel
theorem dX7_passNumber_25 : decode cX7_passNumber 25 = .ok (.invokestatic 95, 3) := by decide +kernel
theorem dX7_passNumber_28 : decode cX7_passNumber 28 = .ok (.ifCond .eq 53, 3) := by decide +kernel
theorem dX7_passNumber_31 : decode cX7_passNumber 31 = .ok (.aload_n 0, 1) := by decide +kernel
theorem dX7_passNumber_32 : decode cX7_passNumber 32 = .ok (.getfield 29, 3) := by decide +kernel
theorem dX7_passNumber_35 : decode cX7_passNumber 35 = .ok (.aload_n 0, 1) := by decide +kernel
theorem dX7_passNumber_36 : decode cX7_passNumber 36 = .ok (.getfield 51, 3) := by decide +kernel
theorem dX7_passNumber_39 : decode cX7_passNumber 39 = .ok (.isub, 1) := by decide +kernel
theorem dX7_passNumber_40 : decode cX7_passNumber 40 = .ok (.iconst 2, 1) := by decide +kernel
theorem dX7_passNumber_41 : decode cX7_passNumber 41 = .ok (.if_icmp .ge 27, 3) := by decide +kernel
theorem dX7_passNumber_44 : decode cX7_passNumber 44 = .ok (.aload_n 0, 1) := by decide +kernel
theorem dX7_passNumber_45 : decode cX7_passNumber 45 = .ok (.bipush 10, 2) := by decide +kernel
theorem dX7_passNumber_47 : decode cX7_passNumber 47 = .ok (.aload_n 0, 1) := by decide +kernel
theorem dX7_passNumber_48 : decode cX7_passNumber 48 = .ok (.getfield 62, 3) := by decide +kernel
theorem dX7_passNumber_51 : decode cX7_passNumber 51 = .ok (.imul, 1) := by decide +kernel
theorem dX7_passNumber_52 : decode cX7_passNumber 52 = .ok (.aload_n 0, 1) := by decide +kernel
theorem dX7_passNumber_53 : decode cX7_passNumber 53 = .ok (.getfield 9, 3) := by decide +kernel
theorem dX7_passNumber_56 : decode cX7_passNumber 56 = .ok (.aload_n 0, 1) := by decide +kernel
theorem dX7_passNumber_57 : decode cX7_passNumber 57 = .ok (.getfield 29, 3) := by decide +kernel
theorem dX7_passNumber_60 : decode cX7_passNumber 60 = .ok (.baload, 1) := by decide +kernel
theorem dX7_passNumber_61 : decode cX7_passNumber 61 = .ok (.iadd, 1) := by decide +kernel
theorem dX7_passNumber_62 : decode cX7_passNumber 62 = .ok (.bipush 48, 2) := by decide +kernel
theorem dX7_passNumber_64 : decode cX7_passNumber 64 = .ok (.isub, 1) := by decide +kernel
theorem dX7_passNumber_65 : decode cX7_passNumber 65 = .ok (.putfield 62, 3) := by decide +kernel
theorem dX7_passNumber_68 : decode cX7_passNumber 68 = .ok (.aload_n 0, 1) := by decide +kernel
theorem dX7_passNumber_69 : decode cX7_passNumber 69 = .ok (.dup, 1) := by decide +kernel
theorem dX7_passNumber_70 : decode cX7_passNumber 70 = .ok (.getfield 29, 3) := by decide +kernel
theorem dX7_passNumber_73 : decode cX7_passNumber 73 = .ok (.iconst 1, 1) := by decide +kernel
theorem dX7_passNumber_74 : decode cX7_passNumber 74 = .ok (.iadd, 1) := by decide +kernel
theorem dX7_passNumber_75 : decode cX7_passNumber 75 = .ok (.putfield 29, 3) := by decide +kernel
theorem dX7_passNumber_78 : decode cX7_passNumber 78 = .ok (.goto (-73), 3) := by decide +kernel
theorem dX7_passNumber_81 : decode cX7_passNumber 81 = .ok (.aload_n 0, 1) := by decide +kernel
theorem dX7_passNumber_82 : decode cX7_passNumber 82 = .ok (.aload_n 0, 1) := by decide +kernel
theorem dX7_passNumber_83 : decode cX7_passNumber 83 = .ok (.getfield 29, 3) := by decide +kernel
theorem dX7_passNumber_86 : decode cX7_passNumber 86 = .ok (.aload_n 0, 1) := by decide +kernel
theorem dX7_passNumber_87 : decode cX7_passNumber 87 = .ok (.getfield 51, 3) := by decide +kernel
theorem dX7_passNumber_90 : decode cX7_passNumber 90 = .ok (.isub, 1) := by decide +kernel
theorem dX7_passNumber_91 : decode cX7_passNumber 91 = .ok (.iconst 2, 1) := by decide +kernel
theorem dX7_passNumber_92 : decode cX7_passNumber 92 = .ok (.if_icmp .gt 7, 3) := by decide +kernel
theorem dX7_passNumber_95 : decode cX7_passNumber 95 = .ok (.iconst 2, 1) := by decide +kernel
theorem dX7_passNumber_96 : decode cX7_passNumber 96 = .ok (.goto 4, 3) := by decide +kernel
theorem dX7_passNumber_99 : decode cX7_passNumber 99 = .ok (.iconst 4, 1) := by decide +kernel
theorem dX7_passNumber_100 : decode cX7_passNumber 100 = .ok (.putfield 44, 3) := by decide +kernel
theorem dX7_passNumber_103 : decode cX7_passNumber 103 = .ok (.return_, 1) := by decide +kernel
theorem dX7_passSign_0 : decode cX7_passSign 0 = .ok (.aload_n 0, 1) := by decide +kernel
theorem dX7_passSign_1 : decode cX7_passSign 1 = .ok (.aload_n 0, 1) := by decide +kernel
theorem dX7_passSign_2 : decode cX7_passSign 2 = .ok (.getfield 9, 3) := by decide +kernel
theorem dX7_passSign_5 : decode cX7_passSign 5 = .ok (.aload_n 0, 1) := by decide +kernel
theorem dX7_passSign_6 : decode cX7_passSign 6 = .ok (.getfield 51, 3) := by decide +kernel
theorem dX7_passSign_9 : decode cX7_passSign 9 = .ok (.baload, 1) := by decide +kernel
theorem dX7_passSign_10 : decode cX7_passSign 10 = .ok (.bipush 59, 2) := by decide +kernel
theorem dX7_passSign_12 : decode cX7_passSign 12 = .ok (.if_icmp .ne 7, 3) := by decide +kernel
theorem dX7_passSign_15 : decode cX7_passSign 15 = .ok (.iconst 3, 1) := by decide +kernel
theorem dX7_passSign_16 : decode cX7_passSign 16 = .ok (.goto 4, 3) := by decide +kernel
theorem dX7_passSign_19 : decode cX7_passSign 19 = .ok (.iconst 4, 1) := by decide +kernel
theorem dX7_passSign_20 : decode cX7_passSign 20 = .ok (.putfield 44, 3) := by decide +kernel
theorem dX7_passSign_23 : decode cX7_passSign 23 = .ok (.aload_n 0, 1) := by decide +kernel
theorem dX7_passSign_24 : decode cX7_passSign 24 = .ok (.dup, 1) := by decide +kernel
theorem dX7_passSign_25 : decode cX7_passSign 25 = .ok (.getfield 29, 3) := by decide +kernel
theorem dX7_passSign_28 : decode cX7_passSign 28 = .ok (.iconst 1, 1) := by decide +kernel
theorem dX7_passSign_29 : decode cX7_passSign 29 = .ok (.iadd, 1) := by decide +kernel
theorem dX7_passSign_30 : decode cX7_passSign 30 = .ok (.putfield 29, 3) := by decide +kernel
theorem dX7_passSign_33 : decode cX7_passSign 33 = .ok (.return_, 1) := by decide +kernel
theorem dX7_isLetter_0 : decode cX7_isLetter 0 = .ok (.iload_n 0, 1) := by decide +kernel
theorem dX7_isLetter_1 : decode cX7_isLetter 1 = .ok (.bipush 97, 2) := by decide +kernel
theorem dX7_isLetter_3 : decode cX7_isLetter 3 = .ok (.if_icmp .lt 13, 3) := by decide +kernel
theorem dX7_isLetter_6 : decode cX7_isLetter 6 = .ok (.iload_n 0, 1) := by decide +kernel
theorem dX7_isLetter_7 : decode cX7_isLetter 7 = .ok (.bipush 122, 2) := by decide +kernel
theorem dX7_isLetter_9 : decode cX7_isLetter 9 = .ok (.if_icmp .gt 7, 3) := by decide +kernel
theorem dX7_isLetter_12 : decode cX7_isLetter 12 = .ok (.iconst 1, 1) := by decide +kernel
theorem dX7_isLetter_13 : decode cX7_isLetter 13 = .ok (.goto 4, 3) := by decide +kernel
theorem dX7_isLetter_16 : decode cX7_isLetter 16 = .ok (.iconst 0, 1) := by decide +kernel
theorem dX7_isLetter_17 : decode cX7_isLetter 17 = .ok (.ireturn, 1) := by decide +kernel
theorem dX7_isFigure_0 : decode cX7_isFigure 0 = .ok (.iload_n 0, 1) := by decide +kernel
theorem dX7_isFigure_1 : decode cX7_isFigure 1 = .ok (.bipush 48, 2) := by decide +kernel
theorem dX7_isFigure_3 : decode cX7_isFigure 3 = .ok (.if_icmp .lt 13, 3) := by decide +kernel
theorem dX7_isFigure_6 : decode cX7_isFigure 6 = .ok (.iload_n 0, 1) := by decide +kernel
theorem dX7_isFigure_7 : decode cX7_isFigure 7 = .ok (.bipush 57, 2) := by decide +kernel
theorem dX7_isFigure_9 : decode cX7_isFigure 9 = .ok (.if_icmp .gt 7, 3) := by decide +kernel
theorem dX7_isFigure_12 : decode cX7_isFigure 12 = .ok (.iconst 1, 1) := by decide +kernel
theorem dX7_isFigure_13 : decode cX7_isFigure 13 = .ok (.goto 4, 3) := by decide +kernel
theorem dX7_isFigure_16 : decode cX7_isFigure 16 = .ok (.iconst 0, 1) := by decide +kernel
theorem dX7_isFigure_17 : decode cX7_isFigure 17 = .ok (.ireturn, 1) := by decide +kernel
set_option maxRecDepth 20000 in
theorem ggX8_init_X5_init : GoodIn wsX8_init wsX5_init := goodIn_r _ [3, 4, 5, 6] rfl gw_wsX5_init
set_option maxRecDepth 20000 in
theorem gX8_init_X5_init_n1 : GoodIn wsX8_init (wsX5_init) := ggX8_init_X5_init
theorem dX8_init_0 : decode cX8_init 0 = .ok (.aload_n 0, 1) := by decide +kernel
theorem dX8_init_1 : decode cX8_init 1 = .ok (.invokespecial 1, 3) := by decide +kernel
theorem dX8_init_4 : decode cX8_init 4 = .ok (.return_, 1) := by decide +kernel
set_option maxRecDepth 20000 in
theorem ggX8_sight_X5_sight : GoodIn wsX8_sight wsX5_sight := goodIn_r _ [6, 7, 8, 9, 10] rfl gw_wsX5_sight
set_option maxRecDepth 20000 in
theorem gX8_sight_X5_sight_s7 : GoodIn wsX8_sight (va_wsSU RX8 7 yX5_sight wsX5_sight) := goodIn_app (goodIn_of _ (by decide +kernel)) ggX8_sight_X5_sight
theorem dX8_sight_0 : decode cX8_sight 0 = .ok (.aload_n 0, 1) := by decide +kernel
theorem dX8_sight_1 : decode cX8_sight 1 = .ok (.iload_n 1, 1) := by decide +kernel
theorem dX8_sight_2 : decode cX8_sight 2 = .ok (.iload_n 2, 1) := by decide +kernel
theorem dX8_sight_3 : decode cX8_sight 3 = .ok (.iload_n 3, 1) := by decide +kernel
theorem dX8_sight_4 : decode cX8_sight 4 = .ok (.invokespecial 7, 3) := by decide +kernel
theorem dX8_sight_7 : decode cX8_sight 7 = .ok (.istore 4, 2) := by decide +kernel
theorem dX8_sight_9 : decode cX8_sight 9 = .ok (.iload_n 1, 1) := by decide +kernel
theorem dX8_sight_10 : decode cX8_sight 10 = .ok (.bipush 6, 2) := by decide +kernel
theorem dX8_sight_12 : decode cX8_sight 12 = .ok (.if_icmp .lt 15, 3) := by decide +kernel
theorem dX8_sight_15 : decode cX8_sight 15 = .ok (.iload_n 2, 1) := by decide +kernel
theorem dX8_sight_16 : decode cX8_sight 16 = .ok (.iconst 1, 1) := by decide +kernel
theorem dX8_sight_17 : decode cX8_sight 17 = .ok (.if_icmp .lt 10, 3) := by decide +kernel
theorem dX8_sight_20 : decode cX8_sight 20 = .ok (.iload 4, 2) := by decide +kernel
theorem dX8_sight_22 : decode cX8_sight 22 = .ok (.iload_n 1, 1) := by decide +kernel
theorem dX8_sight_23 : decode cX8_sight 23 = .ok (.iadd, 1) := by decide +kernel
theorem dX8_sight_24 : decode cX8_sight 24 = .ok (.goto 5, 3) := by decide +kernel
theorem dX8_sight_27 : decode cX8_sight 27 = .ok (.iload 4, 2) := by decide +kernel
theorem dX8_sight_29 : decode cX8_sight 29 = .ok (.ireturn, 1) := by decide +kernel
set_option maxRecDepth 20000 in
theorem ggX9_init_X5_init : GoodIn wsX9_init wsX5_init := goodIn_r _ [3, 4, 5, 6] rfl gw_wsX5_init
set_option maxRecDepth 20000 in
theorem gX9_init_X5_init_n1 : GoodIn wsX9_init (wsX5_init) := ggX9_init_X5_init
theorem dX9_init_0 : decode cX9_init 0 = .ok (.aload_n 0, 1) := by decide +kernel
theorem dX9_init_1 : decode cX9_init 1 = .ok (.invokespecial 1, 3) := by decide +kernel
theorem dX9_init_4 : decode cX9_init 4 = .ok (.return_, 1) := by decide +kernel
set_option maxRecDepth 20000 in
theorem ggX9_sight_X5_sight : GoodIn wsX9_sight wsX5_sight := goodIn_r _ [6, 7, 8, 9, 10] rfl gw_wsX5_sight
set_option maxRecDepth 20000 in
theorem gX9_sight_X5_sight_s7 : GoodIn wsX9_sight (va_wsSU RX9 7 yX5_sight wsX5_sight) := goodIn_app (goodIn_of _ (by decide +kernel)) ggX9_sight_X5_sight
theorem dX9_sight_0 : decode cX9_sight 0 = .ok (.aload_n 0, 1) := by decide +kernel
theorem dX9_sight_1 : decode cX9_sight 1 = .ok (.iload_n 1, 1) := by decide +kernel
theorem dX9_sight_2 : decode cX9_sight 2 = .ok (.iload_n 2, 1) := by decide +kernel
theorem dX9_sight_3 : decode cX9_sight 3 = .ok (.iload_n 3, 1) := by decide +kernel
theorem dX9_sight_4 : decode cX9_sight 4 = .ok (.invokespecial 7, 3) := by decide +kernel
theorem dX9_sight_7 : decode cX9_sight 7 = .ok (.iconst 2, 1) := by decide +kernel
theorem dX9_sight_8 : decode cX9_sight 8 = .ok (.idiv, 1) := by decide +kernel
theorem dX9_sight_9 : decode cX9_sight 9 = .ok (.ireturn, 1) := by decide +kernel
set_option maxRecDepth 20000 in
theorem ggX10_init_X5_init : GoodIn wsX10_init wsX5_init := goodIn_r _ [49, 50, 2, 3] rfl gw_wsX5_init
set_option maxRecDepth 20000 in
theorem gX10_init_X5_init_n9 : GoodIn wsX10_init (wsX5_init) := ggX10_init_X5_init
set_option maxRecDepth 20000 in
theorem ggX10_init_X8_init : GoodIn wsX10_init wsX8_init := goodIn_r _ [52, 48, 6, 49, 50, 2, 3] rfl gw_wsX8_init
set_option maxRecDepth 20000 in
theorem gX10_init_X8_init_n12 : GoodIn wsX10_init (wsX8_init) := ggX10_init_X8_init
set_option maxRecDepth 20000 in
theorem ggX10_init_X9_init : GoodIn wsX10_init wsX9_init := goodIn_r _ [54, 48, 6, 49, 50, 2, 3] rfl gw_wsX9_init
set_option maxRecDepth 20000 in
theorem gX10_init_X9_init_n15 : GoodIn wsX10_init (wsX9_init) := ggX10_init_X9_init
set_option maxRecDepth 20000 in
theorem gw_wsX6_init : wsX6_init.all goodWord = true := by decide +kernel
set_option maxRecDepth 20000 in
theorem ggX10_init_X6_init : GoodIn wsX10_init wsX6_init := goodIn_r _ [56, 48, 6, 49, 50, 2, 3] rfl gw_wsX6_init
set_option maxRecDepth 20000 in
theorem gX10_init_X6_init_n18 : GoodIn wsX10_init (wsX6_init) := ggX10_init_X6_init
set_option maxRecDepth 20000 in
theorem gw_wsX2_init : wsX2_init.all goodWord = true := by decide +kernel
set_option maxRecDepth 20000 in
theorem ggX10_init_X2_init : GoodIn wsX10_init wsX2_init := goodIn_r _ [58, 51, 9, 52, 48, 6, 49, 50, 2, 3] rfl gw_wsX2_init
set_option maxRecDepth 20000 in
theorem gX10_init_X2_init_n21 : GoodIn wsX10_init (wsX2_init) := ggX10_init_X2_init
set_option maxRecDepth 20000 in
theorem gw_wsX3_init : wsX3_init.all goodWord = true := by decide +kernel
set_option maxRecDepth 20000 in
theorem ggX10_init_X3_init : GoodIn wsX10_init wsX3_init := goodIn_r _ [60, 53, 12, 54, 48, 6, 49, 50, 2, 3] rfl gw_wsX3_init
set_option maxRecDepth 20000 in
theorem gX10_init_X3_init_n24 : GoodIn wsX10_init (wsX3_init) := ggX10_init_X3_init
set_option maxRecDepth 20000 in
theorem gw_wsX4_init : wsX4_init.all goodWord = true := by decide +kernel
set_option maxRecDepth 20000 in
theorem ggX10_init_X4_init : GoodIn wsX10_init wsX4_init := goodIn_r _ [63, 64, 2, 3, 42, 65, 66, 35, 36, 67, 68, 69, 70, 71, 72, 73, 74, 75, 76, 77, 78, 104, 105, 106, 107, 108, 109, 110, 111, 112, 113, 114, 127, 128, 129, 130, 131, 132] rfl gw_wsX4_init
set_option maxRecDepth 20000 in
theorem gX10_init_X4_init : GoodIn wsX10_init (wsX4_init) := ggX10_init_X4_init
set_option maxRecDepth 20000 in
theorem gw_wsX7_init : wsX7_init.all goodWord = true := by decide +kernel
set_option maxRecDepth 20000 in
theorem ggX10_init_X7_init : GoodIn wsX10_init wsX7_init := goodIn_r _ [80, 81, 2, 3, 82, 83, 42, 84, 85, 86, 115, 116, 117, 118, 119, 120, 121, 122, 123, 124, 125, 126] rfl gw_wsX7_init
set_option maxRecDepth 20000 in
theorem gX10_init_X7_init_n50 : GoodIn wsX10_init (wsX7_init) := ggX10_init_X7_init
set_option maxRecDepth 20000 in
theorem ggX10_init_X1_init : GoodIn wsX10_init wsX1_init := goodIn_r _ [74, 75, 2, 3, 42, 76, 77, 78, 127, 128, 129, 130, 131, 132] rfl gw_wsX1_init
set_option maxRecDepth 20000 in
theorem gX10_init_X1_init_n57 : GoodIn wsX10_init (wsX1_init) := ggX10_init_X1_init
set_option maxRecDepth 20000 in
theorem gw_wsX0_init : wsX0_init.all goodWord = true := by decide +kernel
set_option maxRecDepth 20000 in
theorem ggX10_init_X0_init : GoodIn wsX10_init wsX0_init := goodIn_r _ [88, 89, 2, 3, 42, 90, 91, 133, 134, 135] rfl gw_wsX0_init
set_option maxRecDepth 20000 in
theorem gX10_init_X0_init_n64 : GoodIn wsX10_init (wsX0_init) := ggX10_init_X0_init
theorem dX10_init_0 : decode cX10_init 0 = .ok (.aload_n 0, 1) := by decide +kernel
theorem dX10_init_1 : decode cX10_init 1 = .ok (.invokespecial 1, 3) := by decide +kernel
theorem dX10_init_4 : decode cX10_init 4 = .ok (.aload_n 0, 1) := by decide +kernel
theorem dX10_init_5 : decode cX10_init 5 = .ok (.bipush 6, 2) := by decide +kernel
theorem dX10_init_7 : decode cX10_init 7 = .ok (.anewarray 7, 3) := by decide +kernel
theorem dX10_init_10 : decode cX10_init 10 = .ok (.dup, 1) := by decide +kernel
theorem dX10_init_11 : decode cX10_init 11 = .ok (.iconst 0, 1) := by decide +kernel
theorem dX10_init_12 : decode cX10_init 12 = .ok (.new 7, 3) := by decide +kernel
theorem dX10_init_15 : decode cX10_init 15 = .ok (.dup, 1) := by decide +kernel
theorem dX10_init_16 : decode cX10_init 16 = .ok (.invokespecial 9, 3) := by decide +kernel
theorem dX10_init_19 : decode cX10_init 19 = .ok (.aastore, 1) := by decide +kernel
theorem dX10_init_20 : decode cX10_init 20 = .ok (.dup, 1) := by decide +kernel
theorem dX10_init_21 : decode cX10_init 21 = .ok (.iconst 1, 1) := by decide +kernel
theorem dX10_init_22 : decode cX10_init 22 = .ok (.new 10, 3) := by decide +kernel
theorem dX10_init_25 : decode cX10_init 25 = .ok (.dup, 1) := by decide +kernel
theorem dX10_init_26 : decode cX10_init 26 = .ok (.invokespecial 12, 3) := by decide +kernel
theorem dX10_init_29 : decode cX10_init 29 = .ok (.aastore, 1) := by decide +kernel
theorem dX10_init_30 : decode cX10_init 30 = .ok (.dup, 1) := by decide +kernel
theorem dX10_init_31 : decode cX10_init 31 = .ok (.iconst 2, 1) := by decide +kernel
theorem dX10_init_32 : decode cX10_init 32 = .ok (.new 13, 3) := by decide +kernel
theorem dX10_init_35 : decode cX10_init 35 = .ok (.dup, 1) := by decide +kernel
theorem dX10_init_36 : decode cX10_init 36 = .ok (.invokespecial 15, 3) := by decide +kernel
theorem dX10_init_39 : decode cX10_init 39 = .ok (.aastore, 1) := by decide +kernel
theorem dX10_init_40 : decode cX10_init 40 = .ok (.dup, 1) := by decide +kernel
theorem dX10_init_41 : decode cX10_init 41 = .ok (.iconst 3, 1) := by decide +kernel
theorem dX10_init_42 : decode cX10_init 42 = .ok (.new 16, 3) := by decide +kernel
theorem dX10_init_45 : decode cX10_init 45 = .ok (.dup, 1) := by decide +kernel
theorem dX10_init_46 : decode cX10_init 46 = .ok (.invokespecial 18, 3) := by decide +kernel
theorem dX10_init_49 : decode cX10_init 49 = .ok (.aastore, 1) := by decide +kernel
theorem dX10_init_50 : decode cX10_init 50 = .ok (.dup, 1) := by decide +kernel
theorem dX10_init_51 : decode cX10_init 51 = .ok (.iconst 4, 1) := by decide +kernel
theorem dX10_init_52 : decode cX10_init 52 = .ok (.new 19, 3) := by decide +kernel
theorem dX10_init_55 : decode cX10_init 55 = .ok (.dup, 1) := by decide +kernel
theorem dX10_init_56 : decode cX10_init 56 = .ok (.invokespecial 21, 3) := by decide +kernel
theorem dX10_init_59 : decode cX10_init 59 = .ok (.aastore, 1) := by decide +kernel
theorem dX10_init_60 : decode cX10_init 60 = .ok (.dup, 1) := by decide +kernel
theorem dX10_init_61 : decode cX10_init 61 = .ok (.iconst 5, 1) := by decide +kernel
theorem dX10_init_62 : decode cX10_init 62 = .ok (.new 22, 3) := by decide +kernel
theorem dX10_init_65 : decode cX10_init 65 = .ok (.dup, 1) := by decide +kernel
theorem dX10_init_66 : decode cX10_init 66 = .ok (.invokespecial 24, 3) := by decide +kernel
theorem dX10_init_69 : decode cX10_init 69 = .ok (.aastore, 1) := by decide +kernel
theorem dX10_init_70 : decode cX10_init 70 = .ok (.putfield 25, 3) := by decide +kernel
theorem dX10_init_73 : decode cX10_init 73 = .ok (.aload_n 0, 1) := by decide +kernel
theorem dX10_init_74 : decode cX10_init 74 = .ok (.new 31, 3) := by decide +kernel
theorem dX10_init_77 : decode cX10_init 77 = .ok (.dup, 1) := by decide +kernel
theorem dX10_init_78 : decode cX10_init 78 = .ok (.aload_n 0, 1) := by decide +kernel
theorem dX10_init_79 : decode cX10_init 79 = .ok (.getfield 25, 3) := by decide +kernel
theorem dX10_init_82 : decode cX10_init 82 = .ok (.invokespecial 33, 3) := by decide +kernel
theorem dX10_init_85 : decode cX10_init 85 = .ok (.putfield 36, 3) := by decide +kernel
theorem dX10_init_88 : decode cX10_init 88 = .ok (.aload_n 0, 1) := by decide +kernel
theorem dX10_init_89 : decode cX10_init 89 = .ok (.iconst 2, 1) := by decide +kernel
theorem dX10_init_90 : decode cX10_init 90 = .ok (.anewarray 31, 3) := by decide +kernel
theorem dX10_init_93 : decode cX10_init 93 = .ok (.dup, 1) := by decide +kernel
theorem dX10_init_94 : decode cX10_init 94 = .ok (.iconst 0, 1) := by decide +kernel
theorem dX10_init_95 : decode cX10_init 95 = .ok (.new 31, 3) := by decide +kernel
theorem dX10_init_98 : decode cX10_init 98 = .ok (.dup, 1) := by decide +kernel
theorem dX10_init_99 : decode cX10_init 99 = .ok (.aload_n 0, 1) := by decide +kernel
theorem dX10_init_100 : decode cX10_init 100 = .ok (.getfield 25, 3) := by decide +kernel
theorem dX10_init_103 : decode cX10_init 103 = .ok (.invokespecial 33, 3) := by decide +kernel
theorem dX10_init_106 : decode cX10_init 106 = .ok (.aastore, 1) := by decide +kernel
theorem dX10_init_107 : decode cX10_init 107 = .ok (.dup, 1) := by decide +kernel
theorem dX10_init_108 : decode cX10_init 108 = .ok (.iconst 1, 1) := by decide +kernel
theorem dX10_init_109 : decode cX10_init 109 = .ok (.new 31, 3) := by decide +kernel
theorem dX10_init_112 : decode cX10_init 112 = .ok (.dup, 1) := by decide +kernel
theorem dX10_init_113 : decode cX10_init 113 = .ok (.aload_n 0, 1) := by decide +kernel
theorem dX10_init_114 : decode cX10_init 114 = .ok (.getfield 25, 3) := by decide +kernel
theorem dX10_init_117 : decode cX10_init 117 = .ok (.invokespecial 33, 3) := by decide +kernel
theorem dX10_init_120 : decode cX10_init 120 = .ok (.aastore, 1) := by decide +kernel
theorem dX10_init_121 : decode cX10_init 121 = .ok (.putfield 40, 3) := by decide +kernel
theorem dX10_init_124 : decode cX10_init 124 = .ok (.aload_n 0, 1) := by decide +kernel
theorem dX10_init_125 : decode cX10_init 125 = .ok (.iconst 2, 1) := by decide +kernel
theorem dX10_init_126 : decode cX10_init 126 = .ok (.newarray .boolean, 2) := by decide +kernel
theorem dX10_init_128 : decode cX10_init 128 = .ok (.putfield 44, 3) := by decide +kernel
theorem dX10_init_131 : decode cX10_init 131 = .ok (.aload_n 0, 1) := by decide +kernel
theorem dX10_init_132 : decode cX10_init 132 = .ok (.new 48, 3) := by decide +kernel
theorem dX10_init_135 : decode cX10_init 135 = .ok (.dup, 1) := by decide +kernel
theorem dX10_init_136 : decode cX10_init 136 = .ok (.invokespecial 50, 3) := by decide +kernel
theorem dX10_init_139 : decode cX10_init 139 = .ok (.putfield 51, 3) := by decide +kernel
theorem dX10_init_142 : decode cX10_init 142 = .ok (.aload_n 0, 1) := by decide +kernel
theorem dX10_init_143 : decode cX10_init 143 = .ok (.new 55, 3) := by decide +kernel
theorem dX10_init_146 : decode cX10_init 146 = .ok (.dup, 1) := by decide +kernel
theorem dX10_init_147 : decode cX10_init 147 = .ok (.invokespecial 57, 3) := by decide +kernel
theorem dX10_init_150 : decode cX10_init 150 = .ok (.putfield 58, 3) := by decide +kernel
theorem dX10_init_153 : decode cX10_init 153 = .ok (.aload_n 0, 1) := by decide +kernel
theorem dX10_init_154 : decode cX10_init 154 = .ok (.new 62, 3) := by decide +kernel
theorem dX10_init_157 : decode cX10_init 157 = .ok (.dup, 1) := by decide +kernel
theorem dX10_init_158 : decode cX10_init 158 = .ok (.invokespecial 64, 3) := by decide +kernel
theorem dX10_init_161 : decode cX10_init 161 = .ok (.putfield 65, 3) := by decide +kernel
theorem dX10_init_164 : decode cX10_init 164 = .ok (.aload_n 0, 1) := by decide +kernel
theorem dX10_init_165 : decode cX10_init 165 = .ok (.bipush 6, 2) := by decide +kernel
theorem dX10_init_167 : decode cX10_init 167 = .ok (.newarray .int, 2) := by decide +kernel
theorem dX10_init_169 : decode cX10_init 169 = .ok (.putfield 69, 3) := by decide +kernel
theorem dX10_init_172 : decode cX10_init 172 = .ok (.aload_n 0, 1) := by decide +kernel
theorem dX10_init_173 : decode cX10_init 173 = .ok (.bipush 6, 2) := by decide +kernel
theorem dX10_init_175 : decode cX10_init 175 = .ok (.newarray .int, 2) := by decide +kernel
theorem dX10_init_177 : decode cX10_init 177 = .ok (.putfield 73, 3) := by decide +kernel
theorem dX10_init_180 : decode cX10_init 180 = .ok (.aload_n 0, 1) := by decide +kernel
theorem dX10_init_181 : decode cX10_init 181 = .ok (.iconst 3, 1) := by decide +kernel
theorem dX10_init_182 : decode cX10_init 182 = .ok (.newarray .int, 2) := by decide +kernel
theorem dX10_init_184 : decode cX10_init 184 = .ok (.putfield 76, 3) := by decide +kernel
theorem dX10_init_187 : decode cX10_init 187 = .ok (.aload_n 0, 1) := by decide +kernel
theorem dX10_init_188 : decode cX10_init 188 = .ok (.iconst 0, 1) := by decide +kernel
theorem dX10_init_189 : decode cX10_init 189 = .ok (.putfield 79, 3) := by decide +kernel
theorem dX10_init_192 : decode cX10_init 192 = .ok (.aload_n 0, 1) := by decide +kernel
theorem dX10_init_193 : decode cX10_init 193 = .ok (.iconst 1, 1) := by decide +kernel
theorem dX10_init_194 : decode cX10_init 194 = .ok (.putfield 83, 3) := by decide +kernel
theorem dX10_init_197 : decode cX10_init 197 = .ok (.return_, 1) := by decide +kernel
set_option maxRecDepth 20000 in
theorem ggX10_parish_X10_isBelow : GoodIn wsX10_parish wsX10_isBelow := goodIn_r _ [6] rfl gw_wsX10_isBelow
set_option maxRecDepth 20000 in
theorem gX10_parish_X10_isBelow : GoodIn wsX10_parish (va_wsS RX10 86 yX10_isBelow wsX10_isBelow) := goodIn_app (goodIn_r _ [3, 4, 5] (by exact rfl) (by decide +kernel)) ggX10_parish_X10_isBelow
set_option maxRecDepth 20000 in
theorem gw_wsX10_refuseBad : wsX10_refuseBad.all goodWord = true := by decide +kernel
set_option maxRecDepth 20000 in
theorem ggX10_parish_X10_refuseBad : GoodIn wsX10_parish wsX10_refuseBad := goodIn_r _ [10, 11, 26, 27, 28, 29, 30, 31, 32, 33, 34, 35, 36, 37] rfl gw_wsX10_refuseBad
set_option maxRecDepth 20000 in
theorem gX10_parish_X10_refuseBad : GoodIn wsX10_parish (wsV RX10 90 RX10 yX10_refuseBad wsX10_refuseBad) := goodIn_app (goodIn_r _ [7, 8, 9, 5] (by exact rfl) (by decide +kernel)) ggX10_parish_X10_refuseBad
set_option maxRecDepth 20000 in
theorem gw_wsX4_begin : wsX4_begin.all goodWord = true := by decide +kernel
set_option maxRecDepth 20000 in
theorem ggX10_parish_X4_begin : GoodIn wsX10_parish wsX4_begin := goodIn_r _ [16, 17, 18, 19, 20, 21, 22, 23, 24, 25, 38, 39, 40, 41, 42, 43, 44, 45, 46, 47, 48, 49, 50, 51, 52, 53, 54] rfl gw_wsX4_begin
set_option maxRecDepth 20000 in
theorem gX10_parish_X4_begin : GoodIn wsX10_parish (wsV RX10 97 RX4 yX4_begin wsX4_begin) := goodIn_app (goodIn_r _ [12, 13, 14, 15] (by exact rfl) (by decide +kernel)) ggX10_parish_X4_begin
theorem dX10_parish_0 : decode cX10_parish 0 = .ok (.iload_n 1, 1) := by decide +kernel
theorem dX10_parish_1 : decode cX10_parish 1 = .ok (.bipush 10, 2) := by decide +kernel
theorem dX10_parish_3 : decode cX10_parish 3 = .ok (.invokestatic 86, 3) := by decide +kernel
theorem dX10_parish_6 : decode cX10_parish 6 = .ok (.ifCond .ne 8, 3) := by decide +kernel
theorem dX10_parish_9 : decode cX10_parish 9 = .ok (.aload_n 0, 1) := by decide +kernel
theorem dX10_parish_10 : decode cX10_parish 10 = .ok (.invokevirtual 90, 3) := by decide +kernel
theorem dX10_parish_13 : decode cX10_parish 13 = .ok (.ireturn, 1) := by decide +kernel
theorem dX10_parish_14 : decode cX10_parish 14 = .ok (.aload_n 0, 1) := by decide +kernel
theorem dX10_parish_15 : decode cX10_parish 15 = .ok (.getfield 36, 3) := by decide +kernel
theorem dX10_parish_18 : decode cX10_parish 18 = .ok (.getfield 94, 3) := by decide +kernel
theorem dX10_parish_21 : decode cX10_parish 21 = .ok (.istore_n 2, 1) := by decide +kernel
theorem dX10_parish_22 : decode cX10_parish 22 = .ok (.aload_n 0, 1) := by decide +kernel
theorem dX10_parish_23 : decode cX10_parish 23 = .ok (.getfield 36, 3) := by decide +kernel
theorem dX10_parish_26 : decode cX10_parish 26 = .ok (.iload_n 1, 1) := by decide +kernel
theorem dX10_parish_27 : decode cX10_parish 27 = .ok (.invokevirtual 97, 3) := by decide +kernel
theorem dX10_parish_30 : decode cX10_parish 30 = .ok (.iload_n 2, 1) := by decide +kernel
theorem dX10_parish_31 : decode cX10_parish 31 = .ok (.ireturn, 1) := by decide +kernel
set_option maxRecDepth 20000 in
theorem ggX10_field_X10_isBelow : GoodIn wsX10_field wsX10_isBelow := goodIn_r _ [6] rfl gw_wsX10_isBelow
set_option maxRecDepth 20000 in
theorem gX10_field_X10_isBelow : GoodIn wsX10_field (va_wsS RX10 86 yX10_isBelow wsX10_isBelow) := goodIn_app (goodIn_r _ [3, 4, 5] (by exact rfl) (by decide +kernel)) ggX10_field_X10_isBelow
set_option maxRecDepth 20000 in
theorem gw_wsX10_isLight : wsX10_isLight.all goodWord = true := by decide +kernel
set_option maxRecDepth 20000 in
theorem ggX10_field_X10_isLight : GoodIn wsX10_field wsX10_isLight := goodIn_r _ [9, 10, 11, 5, 12] rfl gw_wsX10_isLight
set_option maxRecDepth 20000 in
theorem gX10_field_X10_isLight : GoodIn wsX10_field (va_wsS RX10 101 yX10_isLight wsX10_isLight) := goodIn_app (goodIn_r _ [7, 8, 5] (by exact rfl) (by decide +kernel)) ggX10_field_X10_isLight
set_option maxRecDepth 20000 in
theorem ggX10_field_X10_refuseBad : GoodIn wsX10_field wsX10_refuseBad := goodIn_r _ [16, 17, 32, 33, 34, 35, 36, 37, 38, 39, 40, 41, 42, 43] rfl gw_wsX10_refuseBad
set_option maxRecDepth 20000 in
theorem gX10_field_X10_refuseBad : GoodIn wsX10_field (wsV RX10 90 RX10 yX10_refuseBad wsX10_refuseBad) := goodIn_app (goodIn_r _ [13, 14, 15, 5] (by exact rfl) (by decide +kernel)) ggX10_field_X10_refuseBad
set_option maxRecDepth 20000 in
theorem gw_wsX10_refuseFull : wsX10_refuseFull.all goodWord = true := by decide +kernel
set_option maxRecDepth 20000 in
theorem ggX10_field_X10_refuseFull : GoodIn wsX10_field wsX10_refuseFull := goodIn_r _ [21, 17, 32, 33, 34, 35, 36, 37, 38, 39, 40, 41, 42, 43] rfl gw_wsX10_refuseFull
set_option maxRecDepth 20000 in
theorem gX10_field_X10_refuseFull : GoodIn wsX10_field (wsV RX10 105 RX10 yX10_refuseFull wsX10_refuseFull) := goodIn_app (goodIn_r _ [18, 19, 20, 5] (by exact rfl) (by decide +kernel)) ggX10_field_X10_refuseFull
set_option maxRecDepth 20000 in
theorem gw_wsX4_addField : wsX4_addField.all goodWord = true := by decide +kernel
set_option maxRecDepth 20000 in
theorem ggX10_field_X4_addField : GoodIn wsX10_field wsX4_addField := goodIn_r _ [26, 27, 28, 29, 30, 31, 44, 45, 46, 47, 48, 49, 50, 51, 52, 53, 54, 55, 56, 57, 58, 59, 60] rfl gw_wsX4_addField
set_option maxRecDepth 20000 in
theorem gX10_field_X4_addField : GoodIn wsX10_field (wsV RX10 108 RX4 yX4_addField wsX4_addField) := goodIn_app (goodIn_r _ [22, 23, 24, 25] (by exact rfl) (by decide +kernel)) ggX10_field_X4_addField
theorem dX10_field_0 : decode cX10_field 0 = .ok (.iload_n 1, 1) := by decide +kernel
theorem dX10_field_1 : decode cX10_field 1 = .ok (.bipush 6, 2) := by decide +kernel
theorem dX10_field_3 : decode cX10_field 3 = .ok (.invokestatic 86, 3) := by decide +kernel
theorem dX10_field_6 : decode cX10_field 6 = .ok (.ifCond .eq 10, 3) := by decide +kernel
theorem dX10_field_9 : decode cX10_field 9 = .ok (.iload_n 2, 1) := by decide +kernel
theorem dX10_field_10 : decode cX10_field 10 = .ok (.invokestatic 101, 3) := by decide +kernel
theorem dX10_field_13 : decode cX10_field 13 = .ok (.ifCond .ne 8, 3) := by decide +kernel
theorem dX10_field_16 : decode cX10_field 16 = .ok (.aload_n 0, 1) := by decide +kernel
theorem dX10_field_17 : decode cX10_field 17 = .ok (.invokevirtual 90, 3) := by decide +kernel
theorem dX10_field_20 : decode cX10_field 20 = .ok (.ireturn, 1) := by decide +kernel
theorem dX10_field_21 : decode cX10_field 21 = .ok (.aload_n 0, 1) := by decide +kernel
theorem dX10_field_22 : decode cX10_field 22 = .ok (.getfield 36, 3) := by decide +kernel
theorem dX10_field_25 : decode cX10_field 25 = .ok (.getfield 94, 3) := by decide +kernel
theorem dX10_field_28 : decode cX10_field 28 = .ok (.bipush 6, 2) := by decide +kernel
theorem dX10_field_30 : decode cX10_field 30 = .ok (.if_icmp .lt 8, 3) := by decide +kernel
theorem dX10_field_33 : decode cX10_field 33 = .ok (.aload_n 0, 1) := by decide +kernel
theorem dX10_field_34 : decode cX10_field 34 = .ok (.invokevirtual 105, 3) := by decide +kernel
theorem dX10_field_37 : decode cX10_field 37 = .ok (.ireturn, 1) := by decide +kernel
theorem dX10_field_38 : decode cX10_field 38 = .ok (.aload_n 0, 1) := by decide +kernel
theorem dX10_field_39 : decode cX10_field 39 = .ok (.getfield 36, 3) := by decide +kernel
theorem dX10_field_42 : decode cX10_field 42 = .ok (.iload_n 1, 1) := by decide +kernel
theorem dX10_field_43 : decode cX10_field 43 = .ok (.iload_n 2, 1) := by decide +kernel
theorem dX10_field_44 : decode cX10_field 44 = .ok (.invokevirtual 108, 3) := by decide +kernel
theorem dX10_field_47 : decode cX10_field 47 = .ok (.ireturn, 1) := by decide +kernel
set_option maxRecDepth 20000 in
theorem gw_wsX4_hasField : wsX4_hasField.all goodWord = true := by decide +kernel
set_option maxRecDepth 20000 in
theorem ggX10_gleaner_X4_hasField : GoodIn wsX10_gleaner wsX4_hasField := goodIn_r _ [7, 8, 9, 10, 11, 42, 43, 44, 45, 46, 47, 48, 49, 50, 51, 52] rfl gw_wsX4_hasField
set_option maxRecDepth 20000 in
theorem gX10_gleaner_X4_hasField : GoodIn wsX10_gleaner (wsV RX10 112 RX4 yX4_hasField wsX4_hasField) := goodIn_app (goodIn_r _ [3, 4, 5, 6] (by exact rfl) (by decide +kernel)) ggX10_gleaner_X4_hasField
set_option maxRecDepth 20000 in
theorem ggX10_gleaner_X10_refuseBad : GoodIn wsX10_gleaner wsX10_refuseBad := goodIn_r _ [15, 16, 30, 31, 32, 33, 34, 35, 36, 37, 38, 39, 40, 41] rfl gw_wsX10_refuseBad
set_option maxRecDepth 20000 in
theorem gX10_gleaner_X10_refuseBad : GoodIn wsX10_gleaner (wsV RX10 90 RX10 yX10_refuseBad wsX10_refuseBad) := goodIn_app (goodIn_r _ [12, 13, 14, 10] (by exact rfl) (by decide +kernel)) ggX10_gleaner_X10_refuseBad
set_option maxRecDepth 20000 in
theorem ggX10_gleaner_X10_refuseFull : GoodIn wsX10_gleaner wsX10_refuseFull := goodIn_r _ [20, 16, 30, 31, 32, 33, 34, 35, 36, 37, 38, 39, 40, 41] rfl gw_wsX10_refuseFull
set_option maxRecDepth 20000 in
theorem gX10_gleaner_X10_refuseFull : GoodIn wsX10_gleaner (wsV RX10 105 RX10 yX10_refuseFull wsX10_refuseFull) := goodIn_app (goodIn_r _ [17, 18, 19, 10] (by exact rfl) (by decide +kernel)) ggX10_gleaner_X10_refuseFull
set_option maxRecDepth 20000 in
theorem gw_wsX4_addGleaner : wsX4_addGleaner.all goodWord = true := by decide +kernel
set_option maxRecDepth 20000 in
theorem ggX10_gleaner_X4_addGleaner : GoodIn wsX10_gleaner wsX4_addGleaner := goodIn_r _ [24, 25, 26, 27, 28, 29, 42, 43, 44, 45, 46, 47, 48, 49, 50, 51, 52, 53, 54, 55, 56, 57, 58] rfl gw_wsX4_addGleaner
set_option maxRecDepth 20000 in
theorem gX10_gleaner_X4_addGleaner : GoodIn wsX10_gleaner (wsV RX10 118 RX4 yX4_addGleaner wsX4_addGleaner) := goodIn_app (goodIn_r _ [21, 22, 23, 6] (by exact rfl) (by decide +kernel)) ggX10_gleaner_X4_addGleaner
theorem dX10_gleaner_0 : decode cX10_gleaner 0 = .ok (.aload_n 0, 1) := by decide +kernel
theorem dX10_gleaner_1 : decode cX10_gleaner 1 = .ok (.getfield 36, 3) := by decide +kernel
theorem dX10_gleaner_4 : decode cX10_gleaner 4 = .ok (.iload_n 1, 1) := by decide +kernel
theorem dX10_gleaner_5 : decode cX10_gleaner 5 = .ok (.invokevirtual 112, 3) := by decide +kernel
theorem dX10_gleaner_8 : decode cX10_gleaner 8 = .ok (.ifCond .ne 8, 3) := by decide +kernel
theorem dX10_gleaner_11 : decode cX10_gleaner 11 = .ok (.aload_n 0, 1) := by decide +kernel
theorem dX10_gleaner_12 : decode cX10_gleaner 12 = .ok (.invokevirtual 90, 3) := by decide +kernel
theorem dX10_gleaner_15 : decode cX10_gleaner 15 = .ok (.ireturn, 1) := by decide +kernel
theorem dX10_gleaner_16 : decode cX10_gleaner 16 = .ok (.aload_n 0, 1) := by decide +kernel
theorem dX10_gleaner_17 : decode cX10_gleaner 17 = .ok (.getfield 36, 3) := by decide +kernel
theorem dX10_gleaner_20 : decode cX10_gleaner 20 = .ok (.getfield 115, 3) := by decide +kernel
theorem dX10_gleaner_23 : decode cX10_gleaner 23 = .ok (.iconst 5, 1) := by decide +kernel
theorem dX10_gleaner_24 : decode cX10_gleaner 24 = .ok (.if_icmp .lt 8, 3) := by decide +kernel
theorem dX10_gleaner_27 : decode cX10_gleaner 27 = .ok (.aload_n 0, 1) := by decide +kernel
theorem dX10_gleaner_28 : decode cX10_gleaner 28 = .ok (.invokevirtual 105, 3) := by decide +kernel
theorem dX10_gleaner_31 : decode cX10_gleaner 31 = .ok (.ireturn, 1) := by decide +kernel
theorem dX10_gleaner_32 : decode cX10_gleaner 32 = .ok (.aload_n 0, 1) := by decide +kernel
theorem dX10_gleaner_33 : decode cX10_gleaner 33 = .ok (.getfield 36, 3) := by decide +kernel
theorem dX10_gleaner_36 : decode cX10_gleaner 36 = .ok (.iload_n 1, 1) := by decide +kernel
theorem dX10_gleaner_37 : decode cX10_gleaner 37 = .ok (.invokevirtual 118, 3) := by decide +kernel
theorem dX10_gleaner_40 : decode cX10_gleaner 40 = .ok (.ireturn, 1) := by decide +kernel
set_option maxRecDepth 20000 in
theorem ggX10_type_X10_isBelow : GoodIn wsX10_type wsX10_isBelow := goodIn_r _ [6] rfl gw_wsX10_isBelow
set_option maxRecDepth 20000 in
theorem gX10_type_X10_isBelow : GoodIn wsX10_type (va_wsS RX10 86 yX10_isBelow wsX10_isBelow) := goodIn_app (goodIn_r _ [3, 4, 5] (by exact rfl) (by decide +kernel)) ggX10_type_X10_isBelow
set_option maxRecDepth 20000 in
theorem ggX10_type_X10_refuseBad : GoodIn wsX10_type wsX10_refuseBad := goodIn_r _ [10, 11, 23, 24, 25, 26, 27, 28, 29, 30, 31, 32, 33, 34] rfl gw_wsX10_refuseBad
set_option maxRecDepth 20000 in
theorem gX10_type_X10_refuseBad : GoodIn wsX10_type (wsV RX10 90 RX10 yX10_refuseBad wsX10_refuseBad) := goodIn_app (goodIn_r _ [7, 8, 9, 5] (by exact rfl) (by decide +kernel)) ggX10_type_X10_refuseBad
set_option maxRecDepth 20000 in
theorem ggX10_type_X10_refuseFull : GoodIn wsX10_type wsX10_refuseFull := goodIn_r _ [15, 11, 23, 24, 25, 26, 27, 28, 29, 30, 31, 32, 33, 34] rfl gw_wsX10_refuseFull
set_option maxRecDepth 20000 in
theorem gX10_type_X10_refuseFull : GoodIn wsX10_type (wsV RX10 105 RX10 yX10_refuseFull wsX10_refuseFull) := goodIn_app (goodIn_r _ [12, 13, 14, 5] (by exact rfl) (by decide +kernel)) ggX10_type_X10_refuseFull
set_option maxRecDepth 20000 in
theorem gw_wsX7_append : wsX7_append.all goodWord = true := by decide +kernel
set_option maxRecDepth 20000 in
theorem ggX10_type_X7_append : GoodIn wsX10_type wsX7_append := goodIn_r _ [20, 21, 22, 35, 36, 37, 38, 39, 40, 41, 42, 43, 44, 45, 46] rfl gw_wsX7_append
set_option maxRecDepth 20000 in
theorem gX10_type_X7_append : GoodIn wsX10_type (wsV RX10 125 RX7 yX7_append wsX7_append) := goodIn_app (goodIn_r _ [16, 17, 18, 19] (by exact rfl) (by decide +kernel)) ggX10_type_X7_append
theorem dX10_type_0 : decode cX10_type 0 = .ok (.iload_n 1, 1) := by decide +kernel
theorem dX10_type_1 : decode cX10_type 1 = .ok (.sipush 128, 3) := by decide +kernel
theorem dX10_type_4 : decode cX10_type 4 = .ok (.invokestatic 86, 3) := by decide +kernel
theorem dX10_type_7 : decode cX10_type 7 = .ok (.ifCond .ne 8, 3) := by decide +kernel
theorem dX10_type_10 : decode cX10_type 10 = .ok (.aload_n 0, 1) := by decide +kernel
theorem dX10_type_11 : decode cX10_type 11 = .ok (.invokevirtual 90, 3) := by decide +kernel
theorem dX10_type_14 : decode cX10_type 14 = .ok (.ireturn, 1) := by decide +kernel
theorem dX10_type_15 : decode cX10_type 15 = .ok (.aload_n 0, 1) := by decide +kernel
theorem dX10_type_16 : decode cX10_type 16 = .ok (.getfield 51, 3) := by decide +kernel
theorem dX10_type_19 : decode cX10_type 19 = .ok (.getfield 122, 3) := by decide +kernel
theorem dX10_type_22 : decode cX10_type 22 = .ok (.sipush 150, 3) := by decide +kernel
theorem dX10_type_25 : decode cX10_type 25 = .ok (.if_icmp .lt 8, 3) := by decide +kernel
theorem dX10_type_28 : decode cX10_type 28 = .ok (.aload_n 0, 1) := by decide +kernel
theorem dX10_type_29 : decode cX10_type 29 = .ok (.invokevirtual 105, 3) := by decide +kernel
theorem dX10_type_32 : decode cX10_type 32 = .ok (.ireturn, 1) := by decide +kernel
theorem dX10_type_33 : decode cX10_type 33 = .ok (.aload_n 0, 1) := by decide +kernel
theorem dX10_type_34 : decode cX10_type 34 = .ok (.getfield 51, 3) := by decide +kernel
theorem dX10_type_37 : decode cX10_type 37 = .ok (.iload_n 1, 1) := by decide +kernel
theorem dX10_type_38 : decode cX10_type 38 = .ok (.invokevirtual 125, 3) := by decide +kernel
theorem dX10_type_41 : decode cX10_type 41 = .ok (.ireturn, 1) := by decide +kernel
theorem dX10_clear_0 : decode cX10_clear 0 = .ok (.aload_n 0, 1) := by decide +kernel
theorem dX10_clear_1 : decode cX10_clear 1 = .ok (.getfield 51, 3) := by decide +kernel
theorem dX10_clear_4 : decode cX10_clear 4 = .ok (.getfield 122, 3) := by decide +kernel
theorem dX10_clear_7 : decode cX10_clear 7 = .ok (.istore_n 1, 1) := by decide +kernel
theorem dX10_clear_8 : decode cX10_clear 8 = .ok (.aload_n 0, 1) := by decide +kernel
theorem dX10_clear_9 : decode cX10_clear 9 = .ok (.getfield 51, 3) := by decide +kernel
theorem dX10_clear_12 : decode cX10_clear 12 = .ok (.iconst 0, 1) := by decide +kernel
theorem dX10_clear_13 : decode cX10_clear 13 = .ok (.putfield 122, 3) := by decide +kernel
theorem dX10_clear_16 : decode cX10_clear 16 = .ok (.iload_n 1, 1) := by decide +kernel
theorem dX10_clear_17 : decode cX10_clear 17 = .ok (.ireturn, 1) := by decide +kernel
set_option maxRecDepth 20000 in
theorem gw_wsX7_parse : wsX7_parse.all goodWord = true := by decide +kernel
set_option maxRecDepth 20000 in
theorem ggX10_read_X7_parse : GoodIn wsX10_read wsX7_parse := goodIn_r _ [11, 12, 13, 14, 15, 16, 17, 18, 19, 20, 10, 21, 22, 23, 24, 25, 26, 27, 28, 29, 30, 31, 32, 33, 34, 35, 36, 37, 38, 39, 40, 41, 42, 43, 44, 45, 46, 47, 48, 49, 50, 51, 52, 53, 54, 55, 56, 57, 58, 59, 60, 61, 62, 63, 64, 65, 66, 67, 68, 69, 70, 71, 72, 73, 74, 75, 76, 77, 78, 79, 80, 81, 82, 83, 84, 85, 86, 87, 88, 89, 90, 91, 92, 93, 94, 95, 96, 97, 98, 99, 100, 101, 102, 103, 104, 105, 106, 107, 108, 109, 110, 111, 112, 113, 223, 224, 225, 226, 227, 228, 229, 230, 231, 232, 233, 234] rfl gw_wsX7_parse
set_option maxRecDepth 20000 in
theorem gX10_read_X7_parse : GoodIn wsX10_read (wsV RX10 128 RX7 yX7_parse wsX7_parse) := goodIn_app (goodIn_r _ [7, 8, 9, 10] (by exact rfl) (by decide +kernel)) ggX10_read_X7_parse
set_option maxRecDepth 20000 in
theorem ggX10_read_X4_begin : GoodIn wsX10_read wsX4_begin := goodIn_r _ [118, 119, 120, 121, 122, 123, 124, 125, 126, 127, 235, 236, 237, 238, 239, 240, 241, 242, 243, 244, 245, 246, 247, 248, 249, 250, 251] rfl gw_wsX4_begin
set_option maxRecDepth 20000 in
theorem gX10_read_X4_begin : GoodIn wsX10_read (wsV RX10 97 RX4 yX4_begin wsX4_begin) := goodIn_app (goodIn_r _ [114, 115, 116, 117] (by exact rfl) (by decide +kernel)) ggX10_read_X4_begin
set_option maxRecDepth 20000 in
theorem ggX10_read_X4_addField : GoodIn wsX10_read wsX4_addField := goodIn_r _ [131, 132, 119, 124, 133, 121, 235, 236, 237, 238, 239, 240, 241, 242, 243, 244, 245, 246, 247, 248, 249, 250, 251] rfl gw_wsX4_addField
set_option maxRecDepth 20000 in
theorem gX10_read_X4_addField : GoodIn wsX10_read (wsV RX10 108 RX4 yX4_addField wsX4_addField) := goodIn_app (goodIn_r _ [128, 129, 130, 117] (by exact rfl) (by decide +kernel)) ggX10_read_X4_addField
set_option maxRecDepth 20000 in
theorem ggX10_read_X4_addGleaner : GoodIn wsX10_read wsX4_addGleaner := goodIn_r _ [137, 124, 138, 120, 139, 121, 235, 236, 237, 238, 239, 240, 241, 242, 243, 244, 245, 246, 247, 248, 249, 250, 251] rfl gw_wsX4_addGleaner
set_option maxRecDepth 20000 in
theorem gX10_read_X4_addGleaner : GoodIn wsX10_read (wsV RX10 118 RX4 yX4_addGleaner wsX4_addGleaner) := goodIn_app (goodIn_r _ [134, 135, 136, 117] (by exact rfl) (by decide +kernel)) ggX10_read_X4_addGleaner
set_option maxRecDepth 20000 in
theorem gw_wsX4_gather : wsX4_gather.all goodWord = true := by decide +kernel
set_option maxRecDepth 20000 in
theorem ggX10_read_X4_gather : GoodIn wsX10_read wsX4_gather := goodIn_r _ [143, 119, 125, 144, 145, 146, 117, 147, 148, 149, 150, 151, 120, 138, 152, 153, 154, 155, 156, 132, 133, 126, 157, 158, 159, 160, 161, 162, 163, 164, 165, 166, 167, 168, 169, 170, 171, 172, 173, 174, 175, 176, 177, 178, 179, 180, 181, 182, 183, 184, 185, 186, 187, 188, 189, 190, 191, 192, 193, 194, 195, 196, 197, 198, 199, 200, 201, 202, 203, 204, 205, 206, 207, 208, 139, 209, 210, 235, 236, 237, 238, 239, 240, 241, 242, 243, 244, 245, 246, 247, 248, 249, 250, 251] rfl gw_wsX4_gather
set_option maxRecDepth 20000 in
theorem gX10_read_X4_gather : GoodIn wsX10_read (wsV RX10 143 RX4 yX4_gather wsX4_gather) := goodIn_app (goodIn_r _ [140, 141, 142, 117] (by exact rfl) (by decide +kernel)) ggX10_read_X4_gather
theorem dX10_read_0 : decode cX10_read 0 = .ok (.aload_n 0, 1) := by decide +kernel
theorem dX10_read_1 : decode cX10_read 1 = .ok (.getfield 51, 3) := by decide +kernel
theorem dX10_read_4 : decode cX10_read 4 = .ok (.invokevirtual 128, 3) := by decide +kernel
theorem dX10_read_7 : decode cX10_read 7 = .ok (.istore_n 1, 1) := by decide +kernel
theorem dX10_read_8 : decode cX10_read 8 = .ok (.iload_n 1, 1) := by decide +kernel
theorem dX10_read_9 : decode cX10_read 9 = .ok (.ifCond .ge 5, 3) := by decide +kernel
theorem dX10_read_12 : decode cX10_read 12 = .ok (.iload_n 1, 1) := by decide +kernel
theorem dX10_read_13 : decode cX10_read 13 = .ok (.ireturn, 1) := by decide +kernel
theorem dX10_read_14 : decode cX10_read 14 = .ok (.aload_n 0, 1) := by decide +kernel
theorem dX10_read_15 : decode cX10_read 15 = .ok (.getfield 36, 3) := by decide +kernel
theorem dX10_read_18 : decode cX10_read 18 = .ok (.aload_n 0, 1) := by decide +kernel
theorem dX10_read_19 : decode cX10_read 19 = .ok (.getfield 51, 3) := by decide +kernel
theorem dX10_read_22 : decode cX10_read 22 = .ok (.getfield 131, 3) := by decide +kernel
theorem dX10_read_25 : decode cX10_read 25 = .ok (.iconst 0, 1) := by decide +kernel
theorem dX10_read_26 : decode cX10_read 26 = .ok (.iaload, 1) := by decide +kernel
theorem dX10_read_27 : decode cX10_read 27 = .ok (.invokevirtual 97, 3) := by decide +kernel
theorem dX10_read_30 : decode cX10_read 30 = .ok (.iconst 1, 1) := by decide +kernel
theorem dX10_read_31 : decode cX10_read 31 = .ok (.istore_n 2, 1) := by decide +kernel
theorem dX10_read_32 : decode cX10_read 32 = .ok (.iload_n 2, 1) := by decide +kernel
theorem dX10_read_33 : decode cX10_read 33 = .ok (.iload_n 1, 1) := by decide +kernel
theorem dX10_read_34 : decode cX10_read 34 = .ok (.if_icmp .ge 108, 3) := by decide +kernel
theorem dX10_read_37 : decode cX10_read 37 = .ok (.aload_n 0, 1) := by decide +kernel
theorem dX10_read_38 : decode cX10_read 38 = .ok (.getfield 51, 3) := by decide +kernel
theorem dX10_read_41 : decode cX10_read 41 = .ok (.getfield 134, 3) := by decide +kernel
theorem dX10_read_44 : decode cX10_read 44 = .ok (.iload_n 2, 1) := by decide +kernel
theorem dX10_read_45 : decode cX10_read 45 = .ok (.iaload, 1) := by decide +kernel
theorem dX10_read_46 : decode cX10_read 46 = .ok (.iconst 1, 1) := by decide +kernel
theorem dX10_read_47 : decode cX10_read 47 = .ok (.if_icmp .ne 32, 3) := by decide +kernel
theorem dX10_read_50 : decode cX10_read 50 = .ok (.aload_n 0, 1) := by decide +kernel
theorem dX10_read_51 : decode cX10_read 51 = .ok (.getfield 36, 3) := by decide +kernel
theorem dX10_read_54 : decode cX10_read 54 = .ok (.aload_n 0, 1) := by decide +kernel
theorem dX10_read_55 : decode cX10_read 55 = .ok (.getfield 51, 3) := by decide +kernel
theorem dX10_read_58 : decode cX10_read 58 = .ok (.getfield 131, 3) := by decide +kernel
theorem dX10_read_61 : decode cX10_read 61 = .ok (.iload_n 2, 1) := by decide +kernel
theorem dX10_read_62 : decode cX10_read 62 = .ok (.iaload, 1) := by decide +kernel
theorem dX10_read_63 : decode cX10_read 63 = .ok (.aload_n 0, 1) := by decide +kernel
theorem dX10_read_64 : decode cX10_read 64 = .ok (.getfield 51, 3) := by decide +kernel
theorem dX10_read_67 : decode cX10_read 67 = .ok (.getfield 137, 3) := by decide +kernel
theorem dX10_read_70 : decode cX10_read 70 = .ok (.iload_n 2, 1) := by decide +kernel
theorem dX10_read_71 : decode cX10_read 71 = .ok (.iaload, 1) := by decide +kernel
theorem dX10_read_72 : decode cX10_read 72 = .ok (.invokevirtual 108, 3) := by decide +kernel
theorem dX10_read_75 : decode cX10_read 75 = .ok (.pop, 1) := by decide +kernel
theorem dX10_read_76 : decode cX10_read 76 = .ok (.goto 60, 3) := by decide +kernel
theorem dX10_read_79 : decode cX10_read 79 = .ok (.aload_n 0, 1) := by decide +kernel
theorem dX10_read_80 : decode cX10_read 80 = .ok (.getfield 51, 3) := by decide +kernel
theorem dX10_read_83 : decode cX10_read 83 = .ok (.getfield 134, 3) := by decide +kernel
theorem dX10_read_86 : decode cX10_read 86 = .ok (.iload_n 2, 1) := by decide +kernel
theorem dX10_read_87 : decode cX10_read 87 = .ok (.iaload, 1) := by decide +kernel
theorem dX10_read_88 : decode cX10_read 88 = .ok (.iconst 2, 1) := by decide +kernel
theorem dX10_read_89 : decode cX10_read 89 = .ok (.if_icmp .ne 23, 3) := by decide +kernel
theorem dX10_read_92 : decode cX10_read 92 = .ok (.aload_n 0, 1) := by decide +kernel
theorem dX10_read_93 : decode cX10_read 93 = .ok (.getfield 36, 3) := by decide +kernel
theorem dX10_read_96 : decode cX10_read 96 = .ok (.aload_n 0, 1) := by decide +kernel
theorem dX10_read_97 : decode cX10_read 97 = .ok (.getfield 51, 3) := by decide +kernel
theorem dX10_read_100 : decode cX10_read 100 = .ok (.getfield 131, 3) := by decide +kernel
theorem dX10_read_103 : decode cX10_read 103 = .ok (.iload_n 2, 1) := by decide +kernel
theorem dX10_read_104 : decode cX10_read 104 = .ok (.iaload, 1) := by decide +kernel
theorem dX10_read_105 : decode cX10_read 105 = .ok (.invokevirtual 118, 3) := by decide +kernel
theorem dX10_read_108 : decode cX10_read 108 = .ok (.pop, 1) := by decide +kernel
theorem dX10_read_109 : decode cX10_read 109 = .ok (.goto 27, 3) := by decide +kernel
theorem dX10_read_112 : decode cX10_read 112 = .ok (.aload_n 0, 1) := by decide +kernel
theorem dX10_read_113 : decode cX10_read 113 = .ok (.getfield 36, 3) := by decide +kernel
theorem dX10_read_116 : decode cX10_read 116 = .ok (.aload_n 0, 1) := by decide +kernel
theorem dX10_read_117 : decode cX10_read 117 = .ok (.getfield 36, 3) := by decide +kernel
theorem dX10_read_120 : decode cX10_read 120 = .ok (.getfield 140, 3) := by decide +kernel
theorem dX10_read_123 : decode cX10_read 123 = .ok (.aload_n 0, 1) := by decide +kernel
theorem dX10_read_124 : decode cX10_read 124 = .ok (.getfield 51, 3) := by decide +kernel
theorem dX10_read_127 : decode cX10_read 127 = .ok (.getfield 131, 3) := by decide +kernel
theorem dX10_read_130 : decode cX10_read 130 = .ok (.iload_n 2, 1) := by decide +kernel
theorem dX10_read_131 : decode cX10_read 131 = .ok (.iaload, 1) := by decide +kernel
theorem dX10_read_132 : decode cX10_read 132 = .ok (.invokevirtual 143, 3) := by decide +kernel
theorem dX10_read_135 : decode cX10_read 135 = .ok (.pop, 1) := by decide +kernel
theorem dX10_read_136 : decode cX10_read 136 = .ok (.iinc 2 1, 3) := by decide +kernel
theorem dX10_read_139 : decode cX10_read 139 = .ok (.goto (-107), 3) := by decide +kernel
theorem dX10_read_142 : decode cX10_read 142 = .ok (.iload_n 1, 1) := by decide +kernel
theorem dX10_read_143 : decode cX10_read 143 = .ok (.ireturn, 1) := by decide +kernel
set_option maxRecDepth 20000 in
theorem ggX10_glean_X10_isIn : GoodIn wsX10_glean wsX10_isIn := goodIn_r _ [7] rfl gw_wsX10_isIn
set_option maxRecDepth 20000 in
theorem gX10_glean_X10_isIn : GoodIn wsX10_glean (va_wsS RX10 147 yX10_isIn wsX10_isIn) := goodIn_app (goodIn_r _ [4, 5, 6] (by exact rfl) (by decide +kernel)) ggX10_glean_X10_isIn
set_option maxRecDepth 20000 in
theorem ggX10_glean_X10_refuseBad : GoodIn wsX10_glean wsX10_refuseBad := goodIn_r _ [11, 12, 123, 124, 125, 126, 127, 128, 129, 130, 131, 132, 133, 134] rfl gw_wsX10_refuseBad
set_option maxRecDepth 20000 in
theorem gX10_glean_X10_refuseBad : GoodIn wsX10_glean (wsV RX10 90 RX10 yX10_refuseBad wsX10_refuseBad) := goodIn_app (goodIn_r _ [8, 9, 10, 6] (by exact rfl) (by decide +kernel)) ggX10_glean_X10_refuseBad
set_option maxRecDepth 20000 in
theorem gw_wsX10_refuseNo : wsX10_refuseNo.all goodWord = true := by decide +kernel
set_option maxRecDepth 20000 in
theorem ggX10_glean_X10_refuseNo : GoodIn wsX10_glean wsX10_refuseNo := goodIn_r _ [16, 12, 123, 124, 125, 126, 127, 128, 129, 130, 131, 132, 133, 134] rfl gw_wsX10_refuseNo
set_option maxRecDepth 20000 in
theorem gX10_glean_X10_refuseNo : GoodIn wsX10_glean (wsV RX10 154 RX10 yX10_refuseNo wsX10_refuseNo) := goodIn_app (goodIn_r _ [13, 14, 15, 6] (by exact rfl) (by decide +kernel)) ggX10_glean_X10_refuseNo
set_option maxRecDepth 20000 in
theorem gw_wsX4_remember : wsX4_remember.all goodWord = true := by decide +kernel
set_option maxRecDepth 20000 in
theorem ggX10_glean_X4_remember : GoodIn wsX10_glean wsX4_remember := goodIn_r _ [21, 22, 23, 24, 25, 26, 27, 20, 28, 29, 30, 31, 32, 33, 34, 35, 36, 37, 38, 39, 40, 41, 42, 43, 135, 136, 137, 138, 139, 140, 141, 142, 143, 144, 145, 146, 147, 148, 149, 150, 151] rfl gw_wsX4_remember
set_option maxRecDepth 20000 in
theorem gX10_glean_X4_remember : GoodIn wsX10_glean (wsV RX10 157 RX4 yX4_remember wsX4_remember) := goodIn_app (goodIn_r _ [17, 18, 19, 20] (by exact rfl) (by decide +kernel)) ggX10_glean_X4_remember
set_option maxRecDepth 20000 in
theorem ggX10_glean_X4_gather : GoodIn wsX10_glean wsX4_gather := goodIn_r _ [47, 48, 49, 50, 51, 52, 20, 53, 54, 55, 56, 57, 58, 59, 60, 61, 62, 63, 64, 65, 66, 67, 68, 69, 70, 71, 72, 73, 74, 75, 76, 77, 78, 79, 80, 81, 82, 83, 84, 85, 86, 87, 88, 89, 90, 91, 92, 93, 94, 95, 96, 97, 98, 99, 100, 101, 102, 103, 104, 105, 106, 107, 108, 109, 110, 111, 112, 113, 114, 115, 116, 117, 118, 119, 120, 121, 122, 135, 136, 137, 138, 139, 140, 141, 142, 143, 144, 145, 146, 147, 148, 149, 150, 151] rfl gw_wsX4_gather
set_option maxRecDepth 20000 in
theorem gX10_glean_X4_gather : GoodIn wsX10_glean (wsV RX10 143 RX4 yX4_gather wsX4_gather) := goodIn_app (goodIn_r _ [44, 45, 46, 20] (by exact rfl) (by decide +kernel)) ggX10_glean_X4_gather
theorem dX10_glean_0 : decode cX10_glean 0 = .ok (.iload_n 1, 1) := by decide +kernel
theorem dX10_glean_1 : decode cX10_glean 1 = .ok (.iconst 1, 1) := by decide +kernel
theorem dX10_glean_2 : decode cX10_glean 2 = .ok (.bipush 12, 2) := by decide +kernel
theorem dX10_glean_4 : decode cX10_glean 4 = .ok (.invokestatic 147, 3) := by decide +kernel
theorem dX10_glean_7 : decode cX10_glean 7 = .ok (.ifCond .ne 8, 3) := by decide +kernel
theorem dX10_glean_10 : decode cX10_glean 10 = .ok (.aload_n 0, 1) := by decide +kernel
theorem dX10_glean_11 : decode cX10_glean 11 = .ok (.invokevirtual 90, 3) := by decide +kernel
theorem dX10_glean_14 : decode cX10_glean 14 = .ok (.ireturn, 1) := by decide +kernel
theorem dX10_glean_15 : decode cX10_glean 15 = .ok (.iload_n 1, 1) := by decide +kernel
theorem dX10_glean_16 : decode cX10_glean 16 = .ok (.bipush 12, 2) := by decide +kernel
theorem dX10_glean_18 : decode cX10_glean 18 = .ok (.aload_n 0, 1) := by decide +kernel
theorem dX10_glean_19 : decode cX10_glean 19 = .ok (.getfield 36, 3) := by decide +kernel
theorem dX10_glean_22 : decode cX10_glean 22 = .ok (.getfield 140, 3) := by decide +kernel
theorem dX10_glean_25 : decode cX10_glean 25 = .ok (.getfield 151, 3) := by decide +kernel
theorem dX10_glean_28 : decode cX10_glean 28 = .ok (.isub, 1) := by decide +kernel
theorem dX10_glean_29 : decode cX10_glean 29 = .ok (.if_icmp .le 8, 3) := by decide +kernel
theorem dX10_glean_32 : decode cX10_glean 32 = .ok (.aload_n 0, 1) := by decide +kernel
theorem dX10_glean_33 : decode cX10_glean 33 = .ok (.invokevirtual 154, 3) := by decide +kernel
theorem dX10_glean_36 : decode cX10_glean 36 = .ok (.ireturn, 1) := by decide +kernel
theorem dX10_glean_37 : decode cX10_glean 37 = .ok (.aload_n 0, 1) := by decide +kernel
theorem dX10_glean_38 : decode cX10_glean 38 = .ok (.getfield 36, 3) := by decide +kernel
theorem dX10_glean_41 : decode cX10_glean 41 = .ok (.invokevirtual 157, 3) := by decide +kernel
theorem dX10_glean_44 : decode cX10_glean 44 = .ok (.aload_n 0, 1) := by decide +kernel
theorem dX10_glean_45 : decode cX10_glean 45 = .ok (.getfield 36, 3) := by decide +kernel
theorem dX10_glean_48 : decode cX10_glean 48 = .ok (.aload_n 0, 1) := by decide +kernel
theorem dX10_glean_49 : decode cX10_glean 49 = .ok (.getfield 36, 3) := by decide +kernel
theorem dX10_glean_52 : decode cX10_glean 52 = .ok (.getfield 140, 3) := by decide +kernel
theorem dX10_glean_55 : decode cX10_glean 55 = .ok (.iload_n 1, 1) := by decide +kernel
theorem dX10_glean_56 : decode cX10_glean 56 = .ok (.invokevirtual 143, 3) := by decide +kernel
theorem dX10_glean_59 : decode cX10_glean 59 = .ok (.ireturn, 1) := by decide +kernel
set_option maxRecDepth 20000 in
theorem ggX10_night_X4_remember : GoodIn wsX10_night wsX4_remember := goodIn_r _ [8, 9, 10, 11, 12, 13, 14, 7, 15, 16, 17, 18, 19, 20, 21, 22, 23, 24, 25, 26, 27, 28, 29, 30, 60, 61, 62, 63, 64, 65, 66, 67, 68, 69, 70, 71, 72, 73, 74, 75, 76] rfl gw_wsX4_remember
set_option maxRecDepth 20000 in
theorem gX10_night_X4_remember : GoodIn wsX10_night (wsV RX10 157 RX4 yX4_remember wsX4_remember) := goodIn_app (goodIn_r _ [4, 5, 6, 7] (by exact rfl) (by decide +kernel)) ggX10_night_X4_remember
set_option maxRecDepth 20000 in
theorem gw_wsX4_fade : wsX4_fade.all goodWord = true := by decide +kernel
set_option maxRecDepth 20000 in
theorem ggX10_night_X4_fade : GoodIn wsX10_night wsX4_fade := goodIn_r _ [34, 35, 36, 37, 38, 39, 40, 41, 42, 43, 44, 45, 46, 47, 60, 61, 62, 63, 64, 65, 66, 67, 68, 69, 70, 71, 72, 73, 74, 75, 76] rfl gw_wsX4_fade
set_option maxRecDepth 20000 in
theorem gX10_night_X4_fade : GoodIn wsX10_night (wsV RX10 160 RX4 yX4_fade wsX4_fade) := goodIn_app (goodIn_r _ [31, 32, 33, 7] (by exact rfl) (by decide +kernel)) ggX10_night_X4_fade
theorem dX10_night_0 : decode cX10_night 0 = .ok (.aload_n 0, 1) := by decide +kernel
theorem dX10_night_1 : decode cX10_night 1 = .ok (.getfield 36, 3) := by decide +kernel
theorem dX10_night_4 : decode cX10_night 4 = .ok (.invokevirtual 157, 3) := by decide +kernel
theorem dX10_night_7 : decode cX10_night 7 = .ok (.aload_n 0, 1) := by decide +kernel
theorem dX10_night_8 : decode cX10_night 8 = .ok (.getfield 36, 3) := by decide +kernel
theorem dX10_night_11 : decode cX10_night 11 = .ok (.aload_n 0, 1) := by decide +kernel
theorem dX10_night_12 : decode cX10_night 12 = .ok (.getfield 36, 3) := by decide +kernel
theorem dX10_night_15 : decode cX10_night 15 = .ok (.getfield 140, 3) := by decide +kernel
theorem dX10_night_18 : decode cX10_night 18 = .ok (.invokevirtual 160, 3) := by decide +kernel
theorem dX10_night_21 : decode cX10_night 21 = .ok (.aload_n 0, 1) := by decide +kernel
theorem dX10_night_22 : decode cX10_night 22 = .ok (.getfield 36, 3) := by decide +kernel
theorem dX10_night_25 : decode cX10_night 25 = .ok (.getfield 140, 3) := by decide +kernel
theorem dX10_night_28 : decode cX10_night 28 = .ok (.getfield 164, 3) := by decide +kernel
theorem dX10_night_31 : decode cX10_night 31 = .ok (.ireturn, 1) := by decide +kernel
set_option maxRecDepth 20000 in
theorem gw_wsX4_hasGleaner : wsX4_hasGleaner.all goodWord = true := by decide +kernel
set_option maxRecDepth 20000 in
theorem ggX10_goes_X4_hasGleaner : GoodIn wsX10_goes wsX4_hasGleaner := goodIn_r _ [8, 9, 10, 11, 12, 61, 62, 63, 64, 65, 66, 67, 68, 69, 70, 71] rfl gw_wsX4_hasGleaner
set_option maxRecDepth 20000 in
theorem gX10_goes_X4_hasGleaner : GoodIn wsX10_goes (wsV RX10 167 RX4 yX4_hasGleaner wsX4_hasGleaner) := goodIn_app (goodIn_r _ [4, 5, 6, 7] (by exact rfl) (by decide +kernel)) ggX10_goes_X4_hasGleaner
set_option maxRecDepth 20000 in
theorem ggX10_goes_X4_hasField : GoodIn wsX10_goes wsX4_hasField := goodIn_r _ [16, 17, 10, 11, 12, 61, 62, 63, 64, 65, 66, 67, 68, 69, 70, 71] rfl gw_wsX4_hasField
set_option maxRecDepth 20000 in
theorem gX10_goes_X4_hasField : GoodIn wsX10_goes (wsV RX10 112 RX4 yX4_hasField wsX4_hasField) := goodIn_app (goodIn_r _ [13, 14, 15, 7] (by exact rfl) (by decide +kernel)) ggX10_goes_X4_hasField
set_option maxRecDepth 20000 in
theorem ggX10_goes_X10_refuseBad : GoodIn wsX10_goes wsX10_refuseBad := goodIn_r _ [21, 22, 49, 50, 51, 52, 53, 54, 55, 56, 57, 58, 59, 60] rfl gw_wsX10_refuseBad
set_option maxRecDepth 20000 in
theorem gX10_goes_X10_refuseBad : GoodIn wsX10_goes (wsV RX10 90 RX10 yX10_refuseBad wsX10_refuseBad) := goodIn_app (goodIn_r _ [18, 19, 20, 11] (by exact rfl) (by decide +kernel)) ggX10_goes_X10_refuseBad
set_option maxRecDepth 20000 in
theorem ggX10_goes_X4_remember : GoodIn wsX10_goes wsX4_remember := goodIn_r _ [26, 27, 28, 29, 30, 31, 32, 7, 33, 34, 35, 36, 37, 38, 39, 40, 41, 42, 43, 44, 45, 46, 47, 48, 61, 62, 63, 64, 65, 66, 67, 68, 69, 70, 71, 72, 73, 74, 75, 76, 77] rfl gw_wsX4_remember
set_option maxRecDepth 20000 in
theorem gX10_goes_X4_remember : GoodIn wsX10_goes (wsV RX10 157 RX4 yX4_remember wsX4_remember) := goodIn_app (goodIn_r _ [23, 24, 25, 7] (by exact rfl) (by decide +kernel)) ggX10_goes_X4_remember
theorem dX10_goes_0 : decode cX10_goes 0 = .ok (.aload_n 0, 1) := by decide +kernel
theorem dX10_goes_1 : decode cX10_goes 1 = .ok (.getfield 36, 3) := by decide +kernel
theorem dX10_goes_4 : decode cX10_goes 4 = .ok (.iload_n 1, 1) := by decide +kernel
theorem dX10_goes_5 : decode cX10_goes 5 = .ok (.invokevirtual 167, 3) := by decide +kernel
theorem dX10_goes_8 : decode cX10_goes 8 = .ok (.ifCond .eq 14, 3) := by decide +kernel
theorem dX10_goes_11 : decode cX10_goes 11 = .ok (.aload_n 0, 1) := by decide +kernel
theorem dX10_goes_12 : decode cX10_goes 12 = .ok (.getfield 36, 3) := by decide +kernel
theorem dX10_goes_15 : decode cX10_goes 15 = .ok (.iload_n 2, 1) := by decide +kernel
theorem dX10_goes_16 : decode cX10_goes 16 = .ok (.invokevirtual 112, 3) := by decide +kernel
theorem dX10_goes_19 : decode cX10_goes 19 = .ok (.ifCond .ne 8, 3) := by decide +kernel
theorem dX10_goes_22 : decode cX10_goes 22 = .ok (.aload_n 0, 1) := by decide +kernel
theorem dX10_goes_23 : decode cX10_goes 23 = .ok (.invokevirtual 90, 3) := by decide +kernel
theorem dX10_goes_26 : decode cX10_goes 26 = .ok (.ireturn, 1) := by decide +kernel
theorem dX10_goes_27 : decode cX10_goes 27 = .ok (.aload_n 0, 1) := by decide +kernel
theorem dX10_goes_28 : decode cX10_goes 28 = .ok (.getfield 36, 3) := by decide +kernel
theorem dX10_goes_31 : decode cX10_goes 31 = .ok (.getfield 140, 3) := by decide +kernel
theorem dX10_goes_34 : decode cX10_goes 34 = .ok (.getfield 170, 3) := by decide +kernel
theorem dX10_goes_37 : decode cX10_goes 37 = .ok (.iload_n 1, 1) := by decide +kernel
theorem dX10_goes_38 : decode cX10_goes 38 = .ok (.iaload, 1) := by decide +kernel
theorem dX10_goes_39 : decode cX10_goes 39 = .ok (.istore_n 3, 1) := by decide +kernel
theorem dX10_goes_40 : decode cX10_goes 40 = .ok (.iload_n 3, 1) := by decide +kernel
theorem dX10_goes_41 : decode cX10_goes 41 = .ok (.iload_n 2, 1) := by decide +kernel
theorem dX10_goes_42 : decode cX10_goes 42 = .ok (.if_icmp .eq 23, 3) := by decide +kernel
theorem dX10_goes_45 : decode cX10_goes 45 = .ok (.aload_n 0, 1) := by decide +kernel
theorem dX10_goes_46 : decode cX10_goes 46 = .ok (.getfield 36, 3) := by decide +kernel
theorem dX10_goes_49 : decode cX10_goes 49 = .ok (.invokevirtual 157, 3) := by decide +kernel
theorem dX10_goes_52 : decode cX10_goes 52 = .ok (.aload_n 0, 1) := by decide +kernel
theorem dX10_goes_53 : decode cX10_goes 53 = .ok (.getfield 36, 3) := by decide +kernel
theorem dX10_goes_56 : decode cX10_goes 56 = .ok (.getfield 140, 3) := by decide +kernel
theorem dX10_goes_59 : decode cX10_goes 59 = .ok (.getfield 170, 3) := by decide +kernel
theorem dX10_goes_62 : decode cX10_goes 62 = .ok (.iload_n 1, 1) := by decide +kernel
theorem dX10_goes_63 : decode cX10_goes 63 = .ok (.iload_n 2, 1) := by decide +kernel
theorem dX10_goes_64 : decode cX10_goes 64 = .ok (.iastore, 1) := by decide +kernel
theorem dX10_goes_65 : decode cX10_goes 65 = .ok (.iload_n 3, 1) := by decide +kernel
theorem dX10_goes_66 : decode cX10_goes 66 = .ok (.ireturn, 1) := by decide +kernel
set_option maxRecDepth 20000 in
theorem ggX10_cloud_X10_isBelow : GoodIn wsX10_cloud wsX10_isBelow := goodIn_r _ [7] rfl gw_wsX10_isBelow
set_option maxRecDepth 20000 in
theorem gX10_cloud_X10_isBelow : GoodIn wsX10_cloud (va_wsS RX10 86 yX10_isBelow wsX10_isBelow) := goodIn_app (goodIn_r _ [4, 5, 6] (by exact rfl) (by decide +kernel)) ggX10_cloud_X10_isBelow
set_option maxRecDepth 20000 in
theorem ggX10_cloud_X10_refuseBad : GoodIn wsX10_cloud wsX10_refuseBad := goodIn_r _ [11, 12, 40, 41, 42, 43, 44, 45, 46, 47, 48, 49, 50, 51] rfl gw_wsX10_refuseBad
set_option maxRecDepth 20000 in
theorem gX10_cloud_X10_refuseBad : GoodIn wsX10_cloud (wsV RX10 90 RX10 yX10_refuseBad wsX10_refuseBad) := goodIn_app (goodIn_r _ [8, 9, 10, 6] (by exact rfl) (by decide +kernel)) ggX10_cloud_X10_refuseBad
set_option maxRecDepth 20000 in
theorem ggX10_cloud_X4_remember : GoodIn wsX10_cloud wsX4_remember := goodIn_r _ [17, 18, 19, 20, 21, 22, 23, 16, 24, 25, 26, 27, 28, 29, 30, 31, 32, 33, 34, 35, 36, 37, 38, 39, 52, 53, 54, 55, 56, 57, 58, 59, 60, 61, 62, 63, 64, 65, 66, 67, 68] rfl gw_wsX4_remember
set_option maxRecDepth 20000 in
theorem gX10_cloud_X4_remember : GoodIn wsX10_cloud (wsV RX10 157 RX4 yX4_remember wsX4_remember) := goodIn_app (goodIn_r _ [13, 14, 15, 16] (by exact rfl) (by decide +kernel)) ggX10_cloud_X4_remember
theorem dX10_cloud_0 : decode cX10_cloud 0 = .ok (.iload_n 1, 1) := by decide +kernel
theorem dX10_cloud_1 : decode cX10_cloud 1 = .ok (.bipush 10, 2) := by decide +kernel
theorem dX10_cloud_3 : decode cX10_cloud 3 = .ok (.invokestatic 86, 3) := by decide +kernel
theorem dX10_cloud_6 : decode cX10_cloud 6 = .ok (.ifCond .ne 8, 3) := by decide +kernel
theorem dX10_cloud_9 : decode cX10_cloud 9 = .ok (.aload_n 0, 1) := by decide +kernel
theorem dX10_cloud_10 : decode cX10_cloud 10 = .ok (.invokevirtual 90, 3) := by decide +kernel
theorem dX10_cloud_13 : decode cX10_cloud 13 = .ok (.ireturn, 1) := by decide +kernel
theorem dX10_cloud_14 : decode cX10_cloud 14 = .ok (.aload_n 0, 1) := by decide +kernel
theorem dX10_cloud_15 : decode cX10_cloud 15 = .ok (.getfield 36, 3) := by decide +kernel
theorem dX10_cloud_18 : decode cX10_cloud 18 = .ok (.invokevirtual 157, 3) := by decide +kernel
theorem dX10_cloud_21 : decode cX10_cloud 21 = .ok (.aload_n 0, 1) := by decide +kernel
theorem dX10_cloud_22 : decode cX10_cloud 22 = .ok (.getfield 36, 3) := by decide +kernel
theorem dX10_cloud_25 : decode cX10_cloud 25 = .ok (.getfield 140, 3) := by decide +kernel
theorem dX10_cloud_28 : decode cX10_cloud 28 = .ok (.getfield 173, 3) := by decide +kernel
theorem dX10_cloud_31 : decode cX10_cloud 31 = .ok (.istore_n 2, 1) := by decide +kernel
theorem dX10_cloud_32 : decode cX10_cloud 32 = .ok (.aload_n 0, 1) := by decide +kernel
theorem dX10_cloud_33 : decode cX10_cloud 33 = .ok (.getfield 36, 3) := by decide +kernel
theorem dX10_cloud_36 : decode cX10_cloud 36 = .ok (.getfield 140, 3) := by decide +kernel
theorem dX10_cloud_39 : decode cX10_cloud 39 = .ok (.iload_n 1, 1) := by decide +kernel
theorem dX10_cloud_40 : decode cX10_cloud 40 = .ok (.putfield 173, 3) := by decide +kernel
theorem dX10_cloud_43 : decode cX10_cloud 43 = .ok (.iload_n 2, 1) := by decide +kernel
theorem dX10_cloud_44 : decode cX10_cloud 44 = .ok (.ireturn, 1) := by decide +kernel
set_option maxRecDepth 20000 in
theorem ggX10_undo_X10_refuseNo : GoodIn wsX10_undo wsX10_refuseNo := goodIn_r _ [9, 10, 34, 35, 36, 37, 38, 39, 40, 41, 42, 43, 44, 45] rfl gw_wsX10_refuseNo
set_option maxRecDepth 20000 in
theorem gX10_undo_X10_refuseNo : GoodIn wsX10_undo (wsV RX10 154 RX10 yX10_refuseNo wsX10_refuseNo) := goodIn_app (goodIn_r _ [5, 6, 7, 8] (by exact rfl) (by decide +kernel)) ggX10_undo_X10_refuseNo
set_option maxRecDepth 20000 in
theorem gw_wsX4_goBack : wsX4_goBack.all goodWord = true := by decide +kernel
set_option maxRecDepth 20000 in
theorem ggX10_undo_X4_goBack : GoodIn wsX10_undo wsX4_goBack := goodIn_r _ [15, 16, 17, 18, 19, 20, 21, 22, 23, 24, 25, 26, 27, 28, 29, 30, 31, 32, 33, 46, 47, 48, 49, 50, 51, 52, 53, 54, 55, 56, 57, 58, 59, 60, 61, 62] rfl gw_wsX4_goBack
set_option maxRecDepth 20000 in
theorem gX10_undo_X4_goBack : GoodIn wsX10_undo (wsV RX10 179 RX4 yX4_goBack wsX4_goBack) := goodIn_app (goodIn_r _ [11, 12, 13, 14] (by exact rfl) (by decide +kernel)) ggX10_undo_X4_goBack
theorem dX10_undo_0 : decode cX10_undo 0 = .ok (.aload_n 0, 1) := by decide +kernel
theorem dX10_undo_1 : decode cX10_undo 1 = .ok (.getfield 36, 3) := by decide +kernel
theorem dX10_undo_4 : decode cX10_undo 4 = .ok (.getfield 176, 3) := by decide +kernel
theorem dX10_undo_7 : decode cX10_undo 7 = .ok (.ifCond .ne 8, 3) := by decide +kernel
theorem dX10_undo_10 : decode cX10_undo 10 = .ok (.aload_n 0, 1) := by decide +kernel
theorem dX10_undo_11 : decode cX10_undo 11 = .ok (.invokevirtual 154, 3) := by decide +kernel
theorem dX10_undo_14 : decode cX10_undo 14 = .ok (.ireturn, 1) := by decide +kernel
theorem dX10_undo_15 : decode cX10_undo 15 = .ok (.aload_n 0, 1) := by decide +kernel
theorem dX10_undo_16 : decode cX10_undo 16 = .ok (.getfield 36, 3) := by decide +kernel
theorem dX10_undo_19 : decode cX10_undo 19 = .ok (.invokevirtual 179, 3) := by decide +kernel
theorem dX10_undo_22 : decode cX10_undo 22 = .ok (.aload_n 0, 1) := by decide +kernel
theorem dX10_undo_23 : decode cX10_undo 23 = .ok (.getfield 36, 3) := by decide +kernel
theorem dX10_undo_26 : decode cX10_undo 26 = .ok (.getfield 140, 3) := by decide +kernel
theorem dX10_undo_29 : decode cX10_undo 29 = .ok (.getfield 151, 3) := by decide +kernel
theorem dX10_undo_32 : decode cX10_undo 32 = .ok (.ireturn, 1) := by decide +kernel
set_option maxRecDepth 20000 in
theorem ggX10_of_X4_hasField : GoodIn wsX10_of wsX4_hasField := goodIn_r _ [9, 10, 11, 12, 13, 39, 40, 41, 42, 43, 44, 45, 46, 47, 48, 49] rfl gw_wsX4_hasField
set_option maxRecDepth 20000 in
theorem gX10_of_X4_hasField : GoodIn wsX10_of (wsV RX10 112 RX4 yX4_hasField wsX4_hasField) := goodIn_app (goodIn_r _ [5, 6, 7, 8] (by exact rfl) (by decide +kernel)) ggX10_of_X4_hasField
set_option maxRecDepth 20000 in
theorem ggX10_of_X10_isBelow : GoodIn wsX10_of wsX10_isBelow := goodIn_r _ [13] rfl gw_wsX10_isBelow
set_option maxRecDepth 20000 in
theorem gX10_of_X10_isBelow : GoodIn wsX10_of (va_wsS RX10 86 yX10_isBelow wsX10_isBelow) := goodIn_app (goodIn_r _ [14, 11, 12] (by exact rfl) (by decide +kernel)) ggX10_of_X10_isBelow
set_option maxRecDepth 20000 in
theorem ggX10_of_X10_refuseBad : GoodIn wsX10_of wsX10_refuseBad := goodIn_r _ [18, 19, 27, 28, 29, 30, 31, 32, 33, 34, 35, 36, 37, 38] rfl gw_wsX10_refuseBad
set_option maxRecDepth 20000 in
theorem gX10_of_X10_refuseBad : GoodIn wsX10_of (wsV RX10 90 RX10 yX10_refuseBad wsX10_refuseBad) := goodIn_app (goodIn_r _ [15, 16, 17, 12] (by exact rfl) (by decide +kernel)) ggX10_of_X10_refuseBad
set_option maxRecDepth 20000 in
theorem gw_wsX4_whoIsOn : wsX4_whoIsOn.all goodWord = true := by decide +kernel
set_option maxRecDepth 20000 in
theorem ggX10_of_X4_whoIsOn : GoodIn wsX10_of wsX4_whoIsOn := goodIn_r _ [23, 24, 25, 26, 39, 40, 41, 42, 43, 44, 45, 46, 47, 48, 49, 50, 51, 52, 53, 54, 55] rfl gw_wsX4_whoIsOn
set_option maxRecDepth 20000 in
theorem gX10_of_X4_whoIsOn : GoodIn wsX10_of (wsV RX10 188 RX4 yX4_whoIsOn wsX4_whoIsOn) := goodIn_app (goodIn_r _ [20, 21, 22, 8] (by exact rfl) (by decide +kernel)) ggX10_of_X4_whoIsOn
theorem dX10_of_0 : decode cX10_of 0 = .ok (.aload_n 0, 1) := by decide +kernel
theorem dX10_of_1 : decode cX10_of 1 = .ok (.getfield 36, 3) := by decide +kernel
theorem dX10_of_4 : decode cX10_of 4 = .ok (.iload_n 1, 1) := by decide +kernel
theorem dX10_of_5 : decode cX10_of 5 = .ok (.invokevirtual 112, 3) := by decide +kernel
theorem dX10_of_8 : decode cX10_of 8 = .ok (.ifCond .eq 11, 3) := by decide +kernel
theorem dX10_of_11 : decode cX10_of 11 = .ok (.iload_n 2, 1) := by decide +kernel
theorem dX10_of_12 : decode cX10_of 12 = .ok (.iconst 3, 1) := by decide +kernel
theorem dX10_of_13 : decode cX10_of 13 = .ok (.invokestatic 86, 3) := by decide +kernel
theorem dX10_of_16 : decode cX10_of 16 = .ok (.ifCond .ne 8, 3) := by decide +kernel
theorem dX10_of_19 : decode cX10_of 19 = .ok (.aload_n 0, 1) := by decide +kernel
theorem dX10_of_20 : decode cX10_of 20 = .ok (.invokevirtual 90, 3) := by decide +kernel
theorem dX10_of_23 : decode cX10_of 23 = .ok (.ireturn, 1) := by decide +kernel
theorem dX10_of_24 : decode cX10_of 24 = .ok (.iload_n 2, 1) := by decide +kernel
theorem dX10_of_25 : decode cX10_of 25 = .ok (.ifCond .ne 13, 3) := by decide +kernel
theorem dX10_of_28 : decode cX10_of 28 = .ok (.aload_n 0, 1) := by decide +kernel
theorem dX10_of_29 : decode cX10_of 29 = .ok (.getfield 36, 3) := by decide +kernel
theorem dX10_of_32 : decode cX10_of 32 = .ok (.getfield 182, 3) := by decide +kernel
theorem dX10_of_35 : decode cX10_of 35 = .ok (.iload_n 1, 1) := by decide +kernel
theorem dX10_of_36 : decode cX10_of 36 = .ok (.iaload, 1) := by decide +kernel
theorem dX10_of_37 : decode cX10_of 37 = .ok (.ireturn, 1) := by decide +kernel
theorem dX10_of_38 : decode cX10_of 38 = .ok (.iload_n 2, 1) := by decide +kernel
theorem dX10_of_39 : decode cX10_of 39 = .ok (.iconst 1, 1) := by decide +kernel
theorem dX10_of_40 : decode cX10_of 40 = .ok (.if_icmp .ne 16, 3) := by decide +kernel
theorem dX10_of_43 : decode cX10_of 43 = .ok (.aload_n 0, 1) := by decide +kernel
theorem dX10_of_44 : decode cX10_of 44 = .ok (.getfield 36, 3) := by decide +kernel
theorem dX10_of_47 : decode cX10_of 47 = .ok (.getfield 140, 3) := by decide +kernel
theorem dX10_of_50 : decode cX10_of 50 = .ok (.getfield 185, 3) := by decide +kernel
theorem dX10_of_53 : decode cX10_of 53 = .ok (.iload_n 1, 1) := by decide +kernel
theorem dX10_of_54 : decode cX10_of 54 = .ok (.iaload, 1) := by decide +kernel
theorem dX10_of_55 : decode cX10_of 55 = .ok (.ireturn, 1) := by decide +kernel
theorem dX10_of_56 : decode cX10_of 56 = .ok (.aload_n 0, 1) := by decide +kernel
theorem dX10_of_57 : decode cX10_of 57 = .ok (.getfield 36, 3) := by decide +kernel
theorem dX10_of_60 : decode cX10_of 60 = .ok (.iload_n 1, 1) := by decide +kernel
theorem dX10_of_61 : decode cX10_of 61 = .ok (.invokevirtual 188, 3) := by decide +kernel
theorem dX10_of_64 : decode cX10_of 64 = .ok (.ireturn, 1) := by decide +kernel
set_option maxRecDepth 20000 in
theorem ggX10_about_X4_hasGleaner : GoodIn wsX10_about wsX4_hasGleaner := goodIn_r _ [9, 10, 11, 12, 13, 98, 99, 100, 101, 102, 103, 104, 105, 106, 107, 108] rfl gw_wsX4_hasGleaner
set_option maxRecDepth 20000 in
theorem gX10_about_X4_hasGleaner : GoodIn wsX10_about (wsV RX10 167 RX4 yX4_hasGleaner wsX4_hasGleaner) := goodIn_app (goodIn_r _ [5, 6, 7, 8] (by exact rfl) (by decide +kernel)) ggX10_about_X4_hasGleaner
set_option maxRecDepth 20000 in
theorem ggX10_about_X10_isBelow : GoodIn wsX10_about wsX10_isBelow := goodIn_r _ [13] rfl gw_wsX10_isBelow
set_option maxRecDepth 20000 in
theorem gX10_about_X10_isBelow : GoodIn wsX10_about (va_wsS RX10 86 yX10_isBelow wsX10_isBelow) := goodIn_app (goodIn_r _ [14, 11, 12] (by exact rfl) (by decide +kernel)) ggX10_about_X10_isBelow
set_option maxRecDepth 20000 in
theorem ggX10_about_X10_refuseBad : GoodIn wsX10_about wsX10_refuseBad := goodIn_r _ [18, 19, 86, 87, 88, 89, 90, 91, 92, 93, 94, 95, 96, 97] rfl gw_wsX10_refuseBad
set_option maxRecDepth 20000 in
theorem gX10_about_X10_refuseBad : GoodIn wsX10_about (wsV RX10 90 RX10 yX10_refuseBad wsX10_refuseBad) := goodIn_app (goodIn_r _ [15, 16, 17, 12] (by exact rfl) (by decide +kernel)) ggX10_about_X10_refuseBad
set_option maxRecDepth 20000 in
theorem ggX10_about_X4_share : GoodIn wsX10_about wsX4_share := goodIn_r _ [23, 24, 25, 26, 27, 8, 28, 10, 29, 30, 31, 32, 33, 34, 35, 36, 37, 38, 39, 40, 41, 42, 43, 44, 45, 46, 47, 48, 49, 50, 51, 52, 53, 54, 55, 56, 57, 58, 59, 60, 61, 62, 63, 64, 65, 66, 67, 68, 69, 70, 71, 72, 73, 74, 75, 76, 77, 78, 79, 80, 81, 82, 83, 84, 85, 109, 110, 111, 112, 113, 114, 98, 99, 100, 101, 102, 103, 104, 105, 106, 107, 108] rfl gw_wsX4_share
set_option maxRecDepth 20000 in
theorem gX10_about_X4_share : GoodIn wsX10_about (wsV RX10 194 RX4 yX4_share wsX4_share) := goodIn_app (goodIn_r _ [20, 21, 22, 8] (by exact rfl) (by decide +kernel)) ggX10_about_X4_share
theorem dX10_about_0 : decode cX10_about 0 = .ok (.aload_n 0, 1) := by decide +kernel
theorem dX10_about_1 : decode cX10_about 1 = .ok (.getfield 36, 3) := by decide +kernel
theorem dX10_about_4 : decode cX10_about 4 = .ok (.iload_n 1, 1) := by decide +kernel
theorem dX10_about_5 : decode cX10_about 5 = .ok (.invokevirtual 167, 3) := by decide +kernel
theorem dX10_about_8 : decode cX10_about 8 = .ok (.ifCond .eq 11, 3) := by decide +kernel
theorem dX10_about_11 : decode cX10_about 11 = .ok (.iload_n 2, 1) := by decide +kernel
theorem dX10_about_12 : decode cX10_about 12 = .ok (.iconst 3, 1) := by decide +kernel
theorem dX10_about_13 : decode cX10_about 13 = .ok (.invokestatic 86, 3) := by decide +kernel
theorem dX10_about_16 : decode cX10_about 16 = .ok (.ifCond .ne 8, 3) := by decide +kernel
theorem dX10_about_19 : decode cX10_about 19 = .ok (.aload_n 0, 1) := by decide +kernel
theorem dX10_about_20 : decode cX10_about 20 = .ok (.invokevirtual 90, 3) := by decide +kernel
theorem dX10_about_23 : decode cX10_about 23 = .ok (.ireturn, 1) := by decide +kernel
theorem dX10_about_24 : decode cX10_about 24 = .ok (.iload_n 2, 1) := by decide +kernel
theorem dX10_about_25 : decode cX10_about 25 = .ok (.ifCond .ne 16, 3) := by decide +kernel
theorem dX10_about_28 : decode cX10_about 28 = .ok (.aload_n 0, 1) := by decide +kernel
theorem dX10_about_29 : decode cX10_about 29 = .ok (.getfield 36, 3) := by decide +kernel
theorem dX10_about_32 : decode cX10_about 32 = .ok (.getfield 140, 3) := by decide +kernel
theorem dX10_about_35 : decode cX10_about 35 = .ok (.getfield 170, 3) := by decide +kernel
theorem dX10_about_38 : decode cX10_about 38 = .ok (.iload_n 1, 1) := by decide +kernel
theorem dX10_about_39 : decode cX10_about 39 = .ok (.iaload, 1) := by decide +kernel
theorem dX10_about_40 : decode cX10_about 40 = .ok (.ireturn, 1) := by decide +kernel
theorem dX10_about_41 : decode cX10_about 41 = .ok (.iload_n 2, 1) := by decide +kernel
theorem dX10_about_42 : decode cX10_about 42 = .ok (.iconst 1, 1) := by decide +kernel
theorem dX10_about_43 : decode cX10_about 43 = .ok (.if_icmp .ne 16, 3) := by decide +kernel
theorem dX10_about_46 : decode cX10_about 46 = .ok (.aload_n 0, 1) := by decide +kernel
theorem dX10_about_47 : decode cX10_about 47 = .ok (.getfield 36, 3) := by decide +kernel
theorem dX10_about_50 : decode cX10_about 50 = .ok (.getfield 140, 3) := by decide +kernel
theorem dX10_about_53 : decode cX10_about 53 = .ok (.getfield 191, 3) := by decide +kernel
theorem dX10_about_56 : decode cX10_about 56 = .ok (.iload_n 1, 1) := by decide +kernel
theorem dX10_about_57 : decode cX10_about 57 = .ok (.iaload, 1) := by decide +kernel
theorem dX10_about_58 : decode cX10_about 58 = .ok (.ireturn, 1) := by decide +kernel
theorem dX10_about_59 : decode cX10_about 59 = .ok (.aload_n 0, 1) := by decide +kernel
theorem dX10_about_60 : decode cX10_about 60 = .ok (.getfield 36, 3) := by decide +kernel
theorem dX10_about_63 : decode cX10_about 63 = .ok (.aload_n 0, 1) := by decide +kernel
theorem dX10_about_64 : decode cX10_about 64 = .ok (.getfield 36, 3) := by decide +kernel
theorem dX10_about_67 : decode cX10_about 67 = .ok (.getfield 140, 3) := by decide +kernel
theorem dX10_about_70 : decode cX10_about 70 = .ok (.aload_n 0, 1) := by decide +kernel
theorem dX10_about_71 : decode cX10_about 71 = .ok (.getfield 36, 3) := by decide +kernel
theorem dX10_about_74 : decode cX10_about 74 = .ok (.getfield 140, 3) := by decide +kernel
theorem dX10_about_77 : decode cX10_about 77 = .ok (.getfield 170, 3) := by decide +kernel
theorem dX10_about_80 : decode cX10_about 80 = .ok (.iload_n 1, 1) := by decide +kernel
theorem dX10_about_81 : decode cX10_about 81 = .ok (.iaload, 1) := by decide +kernel
theorem dX10_about_82 : decode cX10_about 82 = .ok (.invokevirtual 194, 3) := by decide +kernel
theorem dX10_about_85 : decode cX10_about 85 = .ok (.ireturn, 1) := by decide +kernel
set_option maxRecDepth 20000 in
theorem ggX10_seen_X4_hasField : GoodIn wsX10_seen wsX4_hasField := goodIn_r _ [7, 8, 9, 10, 11, 86, 87, 88, 89, 90, 91, 92, 93, 94, 95, 96] rfl gw_wsX4_hasField
set_option maxRecDepth 20000 in
theorem gX10_seen_X4_hasField : GoodIn wsX10_seen (wsV RX10 112 RX4 yX4_hasField wsX4_hasField) := goodIn_app (goodIn_r _ [3, 4, 5, 6] (by exact rfl) (by decide +kernel)) ggX10_seen_X4_hasField
set_option maxRecDepth 20000 in
theorem ggX10_seen_X10_isBelow : GoodIn wsX10_seen wsX10_isBelow := goodIn_r _ [11] rfl gw_wsX10_isBelow
set_option maxRecDepth 20000 in
theorem gX10_seen_X10_isBelow : GoodIn wsX10_seen (va_wsS RX10 86 yX10_isBelow wsX10_isBelow) := goodIn_app (goodIn_r _ [12, 9, 10] (by exact rfl) (by decide +kernel)) ggX10_seen_X10_isBelow
set_option maxRecDepth 20000 in
theorem ggX10_seen_X10_refuseBad : GoodIn wsX10_seen wsX10_refuseBad := goodIn_r _ [16, 17, 74, 75, 76, 77, 78, 79, 80, 81, 82, 83, 84, 85] rfl gw_wsX10_refuseBad
set_option maxRecDepth 20000 in
theorem gX10_seen_X10_refuseBad : GoodIn wsX10_seen (wsV RX10 90 RX10 yX10_refuseBad wsX10_refuseBad) := goodIn_app (goodIn_r _ [13, 14, 15, 10] (by exact rfl) (by decide +kernel)) ggX10_seen_X10_refuseBad
set_option maxRecDepth 20000 in
theorem ggX10_seen_X4_shows : GoodIn wsX10_seen wsX4_shows := goodIn_r _ [21, 22, 23, 24, 25, 26, 27, 28, 29, 30, 31, 32, 33, 34, 35, 36, 37, 38, 39, 40, 41, 42, 43, 44, 45, 46, 47, 48, 49, 50, 51, 52, 53, 54, 55, 56, 57, 58, 59, 60, 61, 62, 63, 64, 65, 66, 67, 68, 69, 70, 71, 72, 73, 86, 87, 88, 89, 90, 91, 92, 93, 94, 95, 96, 97, 98, 99, 100, 101, 102] rfl gw_wsX4_shows
set_option maxRecDepth 20000 in
theorem gX10_seen_X4_shows : GoodIn wsX10_seen (wsV RX10 197 RX4 yX4_shows wsX4_shows) := goodIn_app (goodIn_r _ [18, 19, 20, 6] (by exact rfl) (by decide +kernel)) ggX10_seen_X4_shows
theorem dX10_seen_0 : decode cX10_seen 0 = .ok (.aload_n 0, 1) := by decide +kernel
theorem dX10_seen_1 : decode cX10_seen 1 = .ok (.getfield 36, 3) := by decide +kernel
theorem dX10_seen_4 : decode cX10_seen 4 = .ok (.iload_n 1, 1) := by decide +kernel
theorem dX10_seen_5 : decode cX10_seen 5 = .ok (.invokevirtual 112, 3) := by decide +kernel
theorem dX10_seen_8 : decode cX10_seen 8 = .ok (.ifCond .eq 12, 3) := by decide +kernel
theorem dX10_seen_11 : decode cX10_seen 11 = .ok (.iload_n 2, 1) := by decide +kernel
theorem dX10_seen_12 : decode cX10_seen 12 = .ok (.bipush 12, 2) := by decide +kernel
theorem dX10_seen_14 : decode cX10_seen 14 = .ok (.invokestatic 86, 3) := by decide +kernel
theorem dX10_seen_17 : decode cX10_seen 17 = .ok (.ifCond .ne 8, 3) := by decide +kernel
theorem dX10_seen_20 : decode cX10_seen 20 = .ok (.aload_n 0, 1) := by decide +kernel
theorem dX10_seen_21 : decode cX10_seen 21 = .ok (.invokevirtual 90, 3) := by decide +kernel
theorem dX10_seen_24 : decode cX10_seen 24 = .ok (.ireturn, 1) := by decide +kernel
theorem dX10_seen_25 : decode cX10_seen 25 = .ok (.aload_n 0, 1) := by decide +kernel
theorem dX10_seen_26 : decode cX10_seen 26 = .ok (.getfield 36, 3) := by decide +kernel
theorem dX10_seen_29 : decode cX10_seen 29 = .ok (.aload_n 0, 1) := by decide +kernel
theorem dX10_seen_30 : decode cX10_seen 30 = .ok (.getfield 36, 3) := by decide +kernel
theorem dX10_seen_33 : decode cX10_seen 33 = .ok (.getfield 140, 3) := by decide +kernel
theorem dX10_seen_36 : decode cX10_seen 36 = .ok (.iload_n 1, 1) := by decide +kernel
theorem dX10_seen_37 : decode cX10_seen 37 = .ok (.iload_n 2, 1) := by decide +kernel
theorem dX10_seen_38 : decode cX10_seen 38 = .ok (.invokevirtual 197, 3) := by decide +kernel
theorem dX10_seen_41 : decode cX10_seen 41 = .ok (.ireturn, 1) := by decide +kernel
set_option maxRecDepth 20000 in
theorem ggX10_then_X4_hasGleaner : GoodIn wsX10_then wsX4_hasGleaner := goodIn_r _ [14, 15, 16, 17, 18, 129, 130, 131, 132, 133, 134, 135, 136, 137, 138, 139] rfl gw_wsX4_hasGleaner
set_option maxRecDepth 20000 in
theorem gX10_then_X4_hasGleaner : GoodIn wsX10_then (wsV RX10 167 RX4 yX4_hasGleaner wsX4_hasGleaner) := goodIn_app (goodIn_r _ [10, 11, 12, 13] (by exact rfl) (by decide +kernel)) ggX10_then_X4_hasGleaner
set_option maxRecDepth 20000 in
theorem ggX10_then_X10_isIn : GoodIn wsX10_then wsX10_isIn := goodIn_r _ [21] rfl gw_wsX10_isIn
set_option maxRecDepth 20000 in
theorem gX10_then_X10_isIn : GoodIn wsX10_then (va_wsS RX10 147 yX10_isIn wsX10_isIn) := goodIn_app (goodIn_r _ [19, 20, 17] (by exact rfl) (by decide +kernel)) ggX10_then_X10_isIn
set_option maxRecDepth 20000 in
theorem ggX10_then_X10_refuseBad : GoodIn wsX10_then wsX10_refuseBad := goodIn_r _ [25, 26, 117, 118, 119, 120, 121, 122, 123, 124, 125, 126, 127, 128] rfl gw_wsX10_refuseBad
set_option maxRecDepth 20000 in
theorem gX10_then_X10_refuseBad : GoodIn wsX10_then (wsV RX10 90 RX10 yX10_refuseBad wsX10_refuseBad) := goodIn_app (goodIn_r _ [22, 23, 24, 17] (by exact rfl) (by decide +kernel)) ggX10_then_X10_refuseBad
set_option maxRecDepth 20000 in
theorem ggX10_then_X1_become : GoodIn wsX10_then wsX1_become := goodIn_r _ [31, 32, 33, 34, 35, 36, 37, 38, 39, 40, 41, 140, 141, 142, 143, 144, 145] rfl gw_wsX1_become
set_option maxRecDepth 20000 in
theorem gX10_then_X1_become : GoodIn wsX10_then (wsV RX10 201 RX1 yX1_become wsX1_become) := goodIn_app (goodIn_r _ [27, 28, 29, 30] (by exact rfl) (by decide +kernel)) ggX10_then_X1_become
set_option maxRecDepth 20000 in
theorem ggX10_then_X4_gather : GoodIn wsX10_then wsX4_gather := goodIn_r _ [45, 46, 47, 48, 49, 50, 13, 51, 52, 53, 54, 55, 15, 56, 57, 58, 59, 60, 61, 62, 63, 64, 65, 66, 67, 68, 69, 70, 71, 72, 73, 7, 74, 75, 76, 77, 78, 79, 80, 81, 82, 83, 84, 85, 86, 87, 88, 89, 90, 91, 92, 93, 94, 95, 96, 97, 98, 99, 100, 101, 102, 103, 104, 105, 6, 8, 106, 107, 108, 109, 110, 111, 112, 113, 114, 115, 116, 129, 130, 131, 132, 133, 134, 135, 136, 137, 138, 139, 140, 141, 142, 143, 144, 145] rfl gw_wsX4_gather
set_option maxRecDepth 20000 in
theorem gX10_then_X4_gather : GoodIn wsX10_then (wsV RX10 143 RX4 yX4_gather wsX4_gather) := goodIn_app (goodIn_r _ [42, 43, 44, 13] (by exact rfl) (by decide +kernel)) ggX10_then_X4_gather
theorem dX10_then_0 : decode cX10_then 0 = .ok (.aload_n 0, 1) := by decide +kernel
theorem dX10_then_1 : decode cX10_then 1 = .ok (.getfield 36, 3) := by decide +kernel
theorem dX10_then_4 : decode cX10_then 4 = .ok (.iload_n 1, 1) := by decide +kernel
theorem dX10_then_5 : decode cX10_then 5 = .ok (.invokevirtual 167, 3) := by decide +kernel
theorem dX10_then_8 : decode cX10_then 8 = .ok (.ifCond .eq 13, 3) := by decide +kernel
theorem dX10_then_11 : decode cX10_then 11 = .ok (.iload_n 2, 1) := by decide +kernel
theorem dX10_then_12 : decode cX10_then 12 = .ok (.iconst 0, 1) := by decide +kernel
theorem dX10_then_13 : decode cX10_then 13 = .ok (.bipush 12, 2) := by decide +kernel
theorem dX10_then_15 : decode cX10_then 15 = .ok (.invokestatic 147, 3) := by decide +kernel
theorem dX10_then_18 : decode cX10_then 18 = .ok (.ifCond .ne 8, 3) := by decide +kernel
theorem dX10_then_21 : decode cX10_then 21 = .ok (.aload_n 0, 1) := by decide +kernel
theorem dX10_then_22 : decode cX10_then 22 = .ok (.invokevirtual 90, 3) := by decide +kernel
theorem dX10_then_25 : decode cX10_then 25 = .ok (.ireturn, 1) := by decide +kernel
theorem dX10_then_26 : decode cX10_then 26 = .ok (.aload_n 0, 1) := by decide +kernel
theorem dX10_then_27 : decode cX10_then 27 = .ok (.getfield 58, 3) := by decide +kernel
theorem dX10_then_30 : decode cX10_then 30 = .ok (.aload_n 0, 1) := by decide +kernel
theorem dX10_then_31 : decode cX10_then 31 = .ok (.getfield 36, 3) := by decide +kernel
theorem dX10_then_34 : decode cX10_then 34 = .ok (.getfield 140, 3) := by decide +kernel
theorem dX10_then_37 : decode cX10_then 37 = .ok (.invokevirtual 201, 3) := by decide +kernel
theorem dX10_then_40 : decode cX10_then 40 = .ok (.aload_n 0, 1) := by decide +kernel
theorem dX10_then_41 : decode cX10_then 41 = .ok (.getfield 36, 3) := by decide +kernel
theorem dX10_then_44 : decode cX10_then 44 = .ok (.aload_n 0, 1) := by decide +kernel
theorem dX10_then_45 : decode cX10_then 45 = .ok (.getfield 58, 3) := by decide +kernel
theorem dX10_then_48 : decode cX10_then 48 = .ok (.iload_n 2, 1) := by decide +kernel
theorem dX10_then_49 : decode cX10_then 49 = .ok (.bipush 12, 2) := by decide +kernel
theorem dX10_then_51 : decode cX10_then 51 = .ok (.aload_n 0, 1) := by decide +kernel
theorem dX10_then_52 : decode cX10_then 52 = .ok (.getfield 58, 3) := by decide +kernel
theorem dX10_then_55 : decode cX10_then 55 = .ok (.getfield 151, 3) := by decide +kernel
theorem dX10_then_58 : decode cX10_then 58 = .ok (.isub, 1) := by decide +kernel
theorem dX10_then_59 : decode cX10_then 59 = .ok (.invokestatic 204, 3) := by decide +kernel
theorem dX10_then_62 : decode cX10_then 62 = .ok (.invokevirtual 143, 3) := by decide +kernel
theorem dX10_then_65 : decode cX10_then 65 = .ok (.pop, 1) := by decide +kernel
theorem dX10_then_66 : decode cX10_then 66 = .ok (.aload_n 0, 1) := by decide +kernel
theorem dX10_then_67 : decode cX10_then 67 = .ok (.getfield 58, 3) := by decide +kernel
theorem dX10_then_70 : decode cX10_then 70 = .ok (.getfield 191, 3) := by decide +kernel
theorem dX10_then_73 : decode cX10_then 73 = .ok (.iload_n 1, 1) := by decide +kernel
theorem dX10_then_74 : decode cX10_then 74 = .ok (.iaload, 1) := by decide +kernel
theorem dX10_then_75 : decode cX10_then 75 = .ok (.ireturn, 1) := by decide +kernel
set_option maxRecDepth 20000 in
theorem ggX10_round_X4_hasGleaner : GoodIn wsX10_round wsX4_hasGleaner := goodIn_r _ [12, 13, 14, 15, 16, 139, 140, 141, 142, 143, 144, 145, 146, 147, 148, 149] rfl gw_wsX4_hasGleaner
set_option maxRecDepth 20000 in
theorem gX10_round_X4_hasGleaner : GoodIn wsX10_round (wsV RX10 167 RX4 yX4_hasGleaner wsX4_hasGleaner) := goodIn_app (goodIn_r _ [8, 9, 10, 11] (by exact rfl) (by decide +kernel)) ggX10_round_X4_hasGleaner
set_option maxRecDepth 20000 in
theorem ggX10_round_X10_isIn : GoodIn wsX10_round wsX10_isIn := goodIn_r _ [19] rfl gw_wsX10_isIn
set_option maxRecDepth 20000 in
theorem gX10_round_X10_isIn : GoodIn wsX10_round (va_wsS RX10 147 yX10_isIn wsX10_isIn) := goodIn_app (goodIn_r _ [17, 18, 15] (by exact rfl) (by decide +kernel)) ggX10_round_X10_isIn
set_option maxRecDepth 20000 in
theorem gw_wsX10_refuseTen : wsX10_refuseTen.all goodWord = true := by decide +kernel
set_option maxRecDepth 20000 in
theorem ggX10_round_X10_refuseTen : GoodIn wsX10_round wsX10_refuseTen := goodIn_r _ [23, 24, 127, 128, 129, 130, 131, 132, 133, 134, 135, 136, 137, 138] rfl gw_wsX10_refuseTen
set_option maxRecDepth 20000 in
theorem gX10_round_X10_refuseTen : GoodIn wsX10_round (wsV RX10 209 RX10 yX10_refuseTen wsX10_refuseTen) := goodIn_app (goodIn_r _ [20, 21, 22, 15] (by exact rfl) (by decide +kernel)) ggX10_round_X10_refuseTen
set_option maxRecDepth 20000 in
theorem ggX10_round_X1_become : GoodIn wsX10_round wsX1_become := goodIn_r _ [29, 30, 31, 32, 33, 34, 35, 36, 37, 38, 39, 150, 151, 152, 153, 154, 155] rfl gw_wsX1_become
set_option maxRecDepth 20000 in
theorem gX10_round_X1_become : GoodIn wsX10_round (wsV RX10 201 RX1 yX1_become wsX1_become) := goodIn_app (goodIn_r _ [25, 26, 27, 28] (by exact rfl) (by decide +kernel)) ggX10_round_X1_become
set_option maxRecDepth 20000 in
theorem gw_wsX0_begin : wsX0_begin.all goodWord = true := by decide +kernel
set_option maxRecDepth 20000 in
theorem ggX10_round_X0_begin : GoodIn wsX10_round wsX0_begin := goodIn_r _ [44, 45, 156, 157, 158] rfl gw_wsX0_begin
set_option maxRecDepth 20000 in
theorem gX10_round_X0_begin : GoodIn wsX10_round (wsV RX10 212 RX0 yX0_begin wsX0_begin) := goodIn_app (goodIn_r _ [40, 41, 42, 43] (by exact rfl) (by decide +kernel)) ggX10_round_X0_begin
set_option maxRecDepth 20000 in
theorem gw_wsX10_roam : wsX10_roam.all goodWord = true := by decide +kernel
set_option maxRecDepth 20000 in
theorem ggX10_round_X10_roam : GoodIn wsX10_round wsX10_roam := goodIn_r _ [49, 4, 1, 50, 51, 52, 53, 43, 54, 45, 55, 56, 57, 58, 59, 60, 61, 32, 33, 34, 62, 63, 64, 11, 65, 66, 14, 15, 16, 67, 68, 69, 46, 47, 48, 70, 2, 71, 72, 73, 74, 75, 76, 77, 78, 79, 80, 81, 82, 83, 84, 85, 86, 87, 88, 89, 90, 91, 92, 93, 94, 95, 96, 97, 98, 99, 100, 101, 102, 103, 104, 105, 106, 107, 108, 109, 110, 111, 112, 113, 114, 115, 116, 117, 118, 119, 120, 121, 122, 123, 124, 125, 126, 127, 128, 129, 130, 131, 132, 133, 134, 135, 136, 137, 138, 156, 157, 158, 139, 140, 141, 142, 143, 144, 145, 146, 147, 148, 149, 150, 151, 152, 153, 154, 155] rfl gw_wsX10_roam
set_option maxRecDepth 20000 in
theorem gX10_round_X10_roam : GoodIn wsX10_round (wsV RX10 214 RX10 yX10_roam wsX10_roam) := goodIn_app (goodIn_r _ [46, 47, 48, 15] (by exact rfl) (by decide +kernel)) ggX10_round_X10_roam
theorem dX10_round_0 : decode cX10_round 0 = .ok (.aload_n 0, 1) := by decide +kernel
theorem dX10_round_1 : decode cX10_round 1 = .ok (.getfield 36, 3) := by decide +kernel
theorem dX10_round_4 : decode cX10_round 4 = .ok (.iload_n 1, 1) := by decide +kernel
theorem dX10_round_5 : decode cX10_round 5 = .ok (.invokevirtual 167, 3) := by decide +kernel
theorem dX10_round_8 : decode cX10_round 8 = .ok (.ifCond .eq 18, 3) := by decide +kernel
theorem dX10_round_11 : decode cX10_round 11 = .ok (.iload_n 2, 1) := by decide +kernel
theorem dX10_round_12 : decode cX10_round 12 = .ok (.iconst 1, 1) := by decide +kernel
theorem dX10_round_13 : decode cX10_round 13 = .ok (.bipush 6, 2) := by decide +kernel
theorem dX10_round_15 : decode cX10_round 15 = .ok (.invokestatic 147, 3) := by decide +kernel
theorem dX10_round_18 : decode cX10_round 18 = .ok (.ifCond .eq 8, 3) := by decide +kernel
theorem dX10_round_21 : decode cX10_round 21 = .ok (.iload_n 3, 1) := by decide +kernel
theorem dX10_round_22 : decode cX10_round 22 = .ok (.iconst (-1), 1) := by decide +kernel
theorem dX10_round_23 : decode cX10_round 23 = .ok (.if_icmp .ge 8, 3) := by decide +kernel
theorem dX10_round_26 : decode cX10_round 26 = .ok (.aload_n 0, 1) := by decide +kernel
theorem dX10_round_27 : decode cX10_round 27 = .ok (.invokevirtual 209, 3) := by decide +kernel
theorem dX10_round_30 : decode cX10_round 30 = .ok (.ireturn, 1) := by decide +kernel
theorem dX10_round_31 : decode cX10_round 31 = .ok (.iload_n 3, 1) := by decide +kernel
theorem dX10_round_32 : decode cX10_round 32 = .ok (.iload_n 2, 1) := by decide +kernel
theorem dX10_round_33 : decode cX10_round 33 = .ok (.if_icmp .lt 6, 3) := by decide +kernel
theorem dX10_round_36 : decode cX10_round 36 = .ok (.bipush (-5), 2) := by decide +kernel
theorem dX10_round_38 : decode cX10_round 38 = .ok (.ireturn, 1) := by decide +kernel
theorem dX10_round_39 : decode cX10_round 39 = .ok (.aload_n 0, 1) := by decide +kernel
theorem dX10_round_40 : decode cX10_round 40 = .ok (.getfield 58, 3) := by decide +kernel
theorem dX10_round_43 : decode cX10_round 43 = .ok (.aload_n 0, 1) := by decide +kernel
theorem dX10_round_44 : decode cX10_round 44 = .ok (.getfield 36, 3) := by decide +kernel
theorem dX10_round_47 : decode cX10_round 47 = .ok (.getfield 140, 3) := by decide +kernel
theorem dX10_round_50 : decode cX10_round 50 = .ok (.invokevirtual 201, 3) := by decide +kernel
theorem dX10_round_53 : decode cX10_round 53 = .ok (.aload_n 0, 1) := by decide +kernel
theorem dX10_round_54 : decode cX10_round 54 = .ok (.getfield 65, 3) := by decide +kernel
theorem dX10_round_57 : decode cX10_round 57 = .ok (.invokevirtual 212, 3) := by decide +kernel
theorem dX10_round_60 : decode cX10_round 60 = .ok (.aload_n 0, 1) := by decide +kernel
theorem dX10_round_61 : decode cX10_round 61 = .ok (.aload_n 0, 1) := by decide +kernel
theorem dX10_round_62 : decode cX10_round 62 = .ok (.getfield 36, 3) := by decide +kernel
theorem dX10_round_65 : decode cX10_round 65 = .ok (.getfield 140, 3) := by decide +kernel
theorem dX10_round_68 : decode cX10_round 68 = .ok (.getfield 170, 3) := by decide +kernel
theorem dX10_round_71 : decode cX10_round 71 = .ok (.iload_n 1, 1) := by decide +kernel
theorem dX10_round_72 : decode cX10_round 72 = .ok (.iaload, 1) := by decide +kernel
theorem dX10_round_73 : decode cX10_round 73 = .ok (.iconst 0, 1) := by decide +kernel
theorem dX10_round_74 : decode cX10_round 74 = .ok (.iload_n 2, 1) := by decide +kernel
theorem dX10_round_75 : decode cX10_round 75 = .ok (.iconst 0, 1) := by decide +kernel
theorem dX10_round_76 : decode cX10_round 76 = .ok (.invokevirtual 214, 3) := by decide +kernel
theorem dX10_round_79 : decode cX10_round 79 = .ok (.iload_n 3, 1) := by decide +kernel
theorem dX10_round_80 : decode cX10_round 80 = .ok (.iconst (-1), 1) := by decide +kernel
theorem dX10_round_81 : decode cX10_round 81 = .ok (.if_icmp .ne 13, 3) := by decide +kernel
theorem dX10_round_84 : decode cX10_round 84 = .ok (.aload_n 0, 1) := by decide +kernel
theorem dX10_round_85 : decode cX10_round 85 = .ok (.getfield 65, 3) := by decide +kernel
theorem dX10_round_88 : decode cX10_round 88 = .ok (.getfield 218, 3) := by decide +kernel
theorem dX10_round_91 : decode cX10_round 91 = .ok (.goto 12, 3) := by decide +kernel
theorem dX10_round_94 : decode cX10_round 94 = .ok (.aload_n 0, 1) := by decide +kernel
theorem dX10_round_95 : decode cX10_round 95 = .ok (.getfield 65, 3) := by decide +kernel
theorem dX10_round_98 : decode cX10_round 98 = .ok (.getfield 221, 3) := by decide +kernel
theorem dX10_round_101 : decode cX10_round 101 = .ok (.iload_n 3, 1) := by decide +kernel
theorem dX10_round_102 : decode cX10_round 102 = .ok (.iaload, 1) := by decide +kernel
theorem dX10_round_103 : decode cX10_round 103 = .ok (.ireturn, 1) := by decide +kernel
set_option maxRecDepth 20000 in
theorem ggX10_places_X10_isBelow : GoodIn wsX10_places wsX10_isBelow := goodIn_r _ [11] rfl gw_wsX10_isBelow
set_option maxRecDepth 20000 in
theorem gX10_places_X10_isBelow : GoodIn wsX10_places (va_wsS RX10 86 yX10_isBelow wsX10_isBelow) := goodIn_app (goodIn_r _ [8, 9, 10] (by exact rfl) (by decide +kernel)) ggX10_places_X10_isBelow
set_option maxRecDepth 20000 in
theorem ggX10_places_X4_hasGleaner : GoodIn wsX10_places wsX4_hasGleaner := goodIn_r _ [16, 17, 9, 10, 11, 130, 131, 132, 133, 134, 135, 136, 137, 138, 139, 140] rfl gw_wsX4_hasGleaner
set_option maxRecDepth 20000 in
theorem gX10_places_X4_hasGleaner : GoodIn wsX10_places (wsV RX10 167 RX4 yX4_hasGleaner wsX4_hasGleaner) := goodIn_app (goodIn_r _ [12, 13, 14, 15] (by exact rfl) (by decide +kernel)) ggX10_places_X4_hasGleaner
set_option maxRecDepth 20000 in
theorem ggX10_places_X10_refuseTen : GoodIn wsX10_places wsX10_refuseTen := goodIn_r _ [21, 22, 118, 119, 120, 121, 122, 123, 124, 125, 126, 127, 128, 129] rfl gw_wsX10_refuseTen
set_option maxRecDepth 20000 in
theorem gX10_places_X10_refuseTen : GoodIn wsX10_places (wsV RX10 209 RX10 yX10_refuseTen wsX10_refuseTen) := goodIn_app (goodIn_r _ [18, 19, 20, 10] (by exact rfl) (by decide +kernel)) ggX10_places_X10_refuseTen
set_option maxRecDepth 20000 in
theorem gw_wsX10_showAll : wsX10_showAll.all goodWord = true := by decide +kernel
set_option maxRecDepth 20000 in
theorem ggX10_places_X10_showAll : GoodIn wsX10_places wsX10_showAll := goodIn_r _ [26, 1, 27, 28, 3, 29, 30, 31, 15, 32, 33, 34, 35, 36, 37, 38, 39, 40, 41, 42, 43, 44, 45, 46, 47, 48, 49, 50, 51, 52, 53, 54, 55, 56, 57, 58, 59, 60, 61, 62, 63, 64, 65, 66, 67, 68, 69, 70, 71, 72, 73, 74, 75, 76, 77, 78, 79, 80, 81, 82, 83, 84, 118, 119, 120, 121, 122, 123, 124, 125, 126, 127, 128, 129, 130, 131, 132, 133, 134, 135, 136, 137, 138, 139, 140, 141, 142, 143, 144, 145, 146] rfl gw_wsX10_showAll
set_option maxRecDepth 20000 in
theorem gX10_places_X10_showAll : GoodIn wsX10_places (wsV RX10 222 RX10 yX10_showAll wsX10_showAll) := goodIn_app (goodIn_r _ [23, 24, 25, 10] (by exact rfl) (by decide +kernel)) ggX10_places_X10_showAll
set_option maxRecDepth 20000 in
theorem ggX10_places_X0_begin : GoodIn wsX10_places wsX0_begin := goodIn_r _ [89, 90, 147, 148, 149] rfl gw_wsX0_begin
set_option maxRecDepth 20000 in
theorem gX10_places_X0_begin : GoodIn wsX10_places (wsV RX10 212 RX0 yX0_begin wsX0_begin) := goodIn_app (goodIn_r _ [85, 86, 87, 88] (by exact rfl) (by decide +kernel)) ggX10_places_X0_begin
set_option maxRecDepth 20000 in
theorem gw_wsX10_settle : wsX10_settle.all goodWord = true := by decide +kernel
set_option maxRecDepth 20000 in
theorem ggX10_places_X10_settle : GoodIn wsX10_places wsX10_settle := goodIn_r _ [94, 1, 2, 5, 27, 95, 96, 97, 98, 99, 10, 100, 28, 101, 102, 103, 104, 105, 106, 79, 46, 80, 107, 108, 109, 88, 110, 90, 111, 112, 113, 114, 115, 116, 117, 91, 92, 93, 118, 119, 120, 121, 122, 123, 124, 125, 126, 127, 128, 129, 130, 131, 132, 133, 134, 135, 136, 137, 138, 139, 140, 147, 148, 149] rfl gw_wsX10_settle
set_option maxRecDepth 20000 in
theorem gX10_places_X10_settle : GoodIn wsX10_places (wsV RX10 225 RX10 yX10_settle wsX10_settle) := goodIn_app (goodIn_r _ [91, 92, 93, 10] (by exact rfl) (by decide +kernel)) ggX10_places_X10_settle
theorem dX10_places_0 : decode cX10_places 0 = .ok (.iload_n 1, 1) := by decide +kernel
theorem dX10_places_1 : decode cX10_places 1 = .ok (.iconst 2, 1) := by decide +kernel
theorem dX10_places_2 : decode cX10_places 2 = .ok (.invokestatic 86, 3) := by decide +kernel
theorem dX10_places_5 : decode cX10_places 5 = .ok (.ifCond .eq 19, 3) := by decide +kernel
theorem dX10_places_8 : decode cX10_places 8 = .ok (.iload_n 2, 1) := by decide +kernel
theorem dX10_places_9 : decode cX10_places 9 = .ok (.iconst (-1), 1) := by decide +kernel
theorem dX10_places_10 : decode cX10_places 10 = .ok (.if_icmp .eq 19, 3) := by decide +kernel
theorem dX10_places_13 : decode cX10_places 13 = .ok (.aload_n 0, 1) := by decide +kernel
theorem dX10_places_14 : decode cX10_places 14 = .ok (.getfield 36, 3) := by decide +kernel
theorem dX10_places_17 : decode cX10_places 17 = .ok (.iload_n 2, 1) := by decide +kernel
theorem dX10_places_18 : decode cX10_places 18 = .ok (.invokevirtual 167, 3) := by decide +kernel
theorem dX10_places_21 : decode cX10_places 21 = .ok (.ifCond .ne 8, 3) := by decide +kernel
theorem dX10_places_24 : decode cX10_places 24 = .ok (.aload_n 0, 1) := by decide +kernel
theorem dX10_places_25 : decode cX10_places 25 = .ok (.invokevirtual 209, 3) := by decide +kernel
theorem dX10_places_28 : decode cX10_places 28 = .ok (.ireturn, 1) := by decide +kernel
theorem dX10_places_29 : decode cX10_places 29 = .ok (.aload_n 0, 1) := by decide +kernel
theorem dX10_places_30 : decode cX10_places 30 = .ok (.getfield 36, 3) := by decide +kernel
theorem dX10_places_33 : decode cX10_places 33 = .ok (.getfield 115, 3) := by decide +kernel
theorem dX10_places_36 : decode cX10_places 36 = .ok (.ifCond .ne 5, 3) := by decide +kernel
theorem dX10_places_39 : decode cX10_places 39 = .ok (.iconst 0, 1) := by decide +kernel
theorem dX10_places_40 : decode cX10_places 40 = .ok (.ireturn, 1) := by decide +kernel
theorem dX10_places_41 : decode cX10_places 41 = .ok (.aload_n 0, 1) := by decide +kernel
theorem dX10_places_42 : decode cX10_places 42 = .ok (.aload_n 0, 1) := by decide +kernel
theorem dX10_places_43 : decode cX10_places 43 = .ok (.getfield 36, 3) := by decide +kernel
theorem dX10_places_46 : decode cX10_places 46 = .ok (.getfield 140, 3) := by decide +kernel
theorem dX10_places_49 : decode cX10_places 49 = .ok (.getfield 151, 3) := by decide +kernel
theorem dX10_places_52 : decode cX10_places 52 = .ok (.invokevirtual 222, 3) := by decide +kernel
theorem dX10_places_55 : decode cX10_places 55 = .ok (.aload_n 0, 1) := by decide +kernel
theorem dX10_places_56 : decode cX10_places 56 = .ok (.getfield 65, 3) := by decide +kernel
theorem dX10_places_59 : decode cX10_places 59 = .ok (.invokevirtual 212, 3) := by decide +kernel
theorem dX10_places_62 : decode cX10_places 62 = .ok (.aload_n 0, 1) := by decide +kernel
theorem dX10_places_63 : decode cX10_places 63 = .ok (.iload_n 1, 1) := by decide +kernel
theorem dX10_places_64 : decode cX10_places 64 = .ok (.iconst 0, 1) := by decide +kernel
theorem dX10_places_65 : decode cX10_places 65 = .ok (.iconst 0, 1) := by decide +kernel
theorem dX10_places_66 : decode cX10_places 66 = .ok (.invokevirtual 225, 3) := by decide +kernel
theorem dX10_places_69 : decode cX10_places 69 = .ok (.iload_n 2, 1) := by decide +kernel
theorem dX10_places_70 : decode cX10_places 70 = .ok (.iconst (-1), 1) := by decide +kernel
theorem dX10_places_71 : decode cX10_places 71 = .ok (.if_icmp .ne 13, 3) := by decide +kernel
theorem dX10_places_74 : decode cX10_places 74 = .ok (.aload_n 0, 1) := by decide +kernel
theorem dX10_places_75 : decode cX10_places 75 = .ok (.getfield 65, 3) := by decide +kernel
theorem dX10_places_78 : decode cX10_places 78 = .ok (.getfield 218, 3) := by decide +kernel
theorem dX10_places_81 : decode cX10_places 81 = .ok (.goto 12, 3) := by decide +kernel
theorem dX10_places_84 : decode cX10_places 84 = .ok (.aload_n 0, 1) := by decide +kernel
theorem dX10_places_85 : decode cX10_places 85 = .ok (.getfield 65, 3) := by decide +kernel
theorem dX10_places_88 : decode cX10_places 88 = .ok (.getfield 221, 3) := by decide +kernel
theorem dX10_places_91 : decode cX10_places 91 = .ok (.iload_n 2, 1) := by decide +kernel
theorem dX10_places_92 : decode cX10_places 92 = .ok (.iaload, 1) := by decide +kernel
theorem dX10_places_93 : decode cX10_places 93 = .ok (.ireturn, 1) := by decide +kernel
set_option maxRecDepth 20000 in
theorem ggX10_which_X10_isBelow : GoodIn wsX10_which wsX10_isBelow := goodIn_r _ [7] rfl gw_wsX10_isBelow
set_option maxRecDepth 20000 in
theorem gX10_which_X10_isBelow : GoodIn wsX10_which (va_wsS RX10 86 yX10_isBelow wsX10_isBelow) := goodIn_app (goodIn_r _ [4, 5, 6] (by exact rfl) (by decide +kernel)) ggX10_which_X10_isBelow
set_option maxRecDepth 20000 in
theorem ggX10_which_X10_refuseBad : GoodIn wsX10_which wsX10_refuseBad := goodIn_r _ [11, 12, 75, 76, 77, 78, 79, 80, 81, 82, 83, 84, 85, 86] rfl gw_wsX10_refuseBad
set_option maxRecDepth 20000 in
theorem gX10_which_X10_refuseBad : GoodIn wsX10_which (wsV RX10 90 RX10 yX10_refuseBad wsX10_refuseBad) := goodIn_app (goodIn_r _ [8, 9, 10, 6] (by exact rfl) (by decide +kernel)) ggX10_which_X10_refuseBad
set_option maxRecDepth 20000 in
theorem ggX10_which_X10_showAll : GoodIn wsX10_which wsX10_showAll := goodIn_r _ [16, 1, 2, 3, 17, 18, 19, 20, 21, 22, 23, 24, 25, 26, 27, 28, 29, 30, 31, 32, 33, 34, 35, 36, 37, 38, 39, 40, 41, 42, 43, 44, 45, 46, 47, 48, 49, 50, 51, 52, 53, 54, 55, 56, 57, 58, 59, 60, 61, 62, 63, 64, 65, 66, 67, 68, 69, 70, 71, 72, 73, 74, 75, 76, 77, 78, 79, 80, 81, 82, 83, 84, 85, 86, 87, 88, 89, 90, 91, 92, 93, 94, 95, 96, 97, 98, 99, 100, 101, 102, 103] rfl gw_wsX10_showAll
set_option maxRecDepth 20000 in
theorem gX10_which_X10_showAll : GoodIn wsX10_which (wsV RX10 222 RX10 yX10_showAll wsX10_showAll) := goodIn_app (goodIn_r _ [13, 14, 15, 6] (by exact rfl) (by decide +kernel)) ggX10_which_X10_showAll
theorem dX10_which_0 : decode cX10_which 0 = .ok (.iload_n 1, 1) := by decide +kernel
theorem dX10_which_1 : decode cX10_which 1 = .ok (.bipush 12, 2) := by decide +kernel
theorem dX10_which_3 : decode cX10_which 3 = .ok (.invokestatic 86, 3) := by decide +kernel
theorem dX10_which_6 : decode cX10_which 6 = .ok (.ifCond .ne 8, 3) := by decide +kernel
theorem dX10_which_9 : decode cX10_which 9 = .ok (.aload_n 0, 1) := by decide +kernel
theorem dX10_which_10 : decode cX10_which 10 = .ok (.invokevirtual 90, 3) := by decide +kernel
theorem dX10_which_13 : decode cX10_which 13 = .ok (.ireturn, 1) := by decide +kernel
theorem dX10_which_14 : decode cX10_which 14 = .ok (.aload_n 0, 1) := by decide +kernel
theorem dX10_which_15 : decode cX10_which 15 = .ok (.iload_n 1, 1) := by decide +kernel
theorem dX10_which_16 : decode cX10_which 16 = .ok (.invokevirtual 222, 3) := by decide +kernel
theorem dX10_which_19 : decode cX10_which 19 = .ok (.iconst (-1), 1) := by decide +kernel
theorem dX10_which_20 : decode cX10_which 20 = .ok (.istore_n 2, 1) := by decide +kernel
theorem dX10_which_21 : decode cX10_which 21 = .ok (.iconst 0, 1) := by decide +kernel
theorem dX10_which_22 : decode cX10_which 22 = .ok (.istore_n 3, 1) := by decide +kernel
theorem dX10_which_23 : decode cX10_which 23 = .ok (.iload_n 3, 1) := by decide +kernel
theorem dX10_which_24 : decode cX10_which 24 = .ok (.aload_n 0, 1) := by decide +kernel
theorem dX10_which_25 : decode cX10_which 25 = .ok (.getfield 36, 3) := by decide +kernel
theorem dX10_which_28 : decode cX10_which 28 = .ok (.getfield 94, 3) := by decide +kernel
theorem dX10_which_31 : decode cX10_which 31 = .ok (.if_icmp .ge 31, 3) := by decide +kernel
theorem dX10_which_34 : decode cX10_which 34 = .ok (.iload_n 2, 1) := by decide +kernel
theorem dX10_which_35 : decode cX10_which 35 = .ok (.iconst (-1), 1) := by decide +kernel
theorem dX10_which_36 : decode cX10_which 36 = .ok (.if_icmp .eq 18, 3) := by decide +kernel
theorem dX10_which_39 : decode cX10_which 39 = .ok (.aload_n 0, 1) := by decide +kernel
theorem dX10_which_40 : decode cX10_which 40 = .ok (.getfield 69, 3) := by decide +kernel
theorem dX10_which_43 : decode cX10_which 43 = .ok (.iload_n 3, 1) := by decide +kernel
theorem dX10_which_44 : decode cX10_which 44 = .ok (.iaload, 1) := by decide +kernel
theorem dX10_which_45 : decode cX10_which 45 = .ok (.aload_n 0, 1) := by decide +kernel
theorem dX10_which_46 : decode cX10_which 46 = .ok (.getfield 69, 3) := by decide +kernel
theorem dX10_which_49 : decode cX10_which 49 = .ok (.iload_n 2, 1) := by decide +kernel
theorem dX10_which_50 : decode cX10_which 50 = .ok (.iaload, 1) := by decide +kernel
theorem dX10_which_51 : decode cX10_which 51 = .ok (.if_icmp .le 5, 3) := by decide +kernel
theorem dX10_which_54 : decode cX10_which 54 = .ok (.iload_n 3, 1) := by decide +kernel
theorem dX10_which_55 : decode cX10_which 55 = .ok (.istore_n 2, 1) := by decide +kernel
theorem dX10_which_56 : decode cX10_which 56 = .ok (.iinc 3 1, 3) := by decide +kernel
theorem dX10_which_59 : decode cX10_which 59 = .ok (.goto (-36), 3) := by decide +kernel
theorem dX10_which_62 : decode cX10_which 62 = .ok (.iload_n 2, 1) := by decide +kernel
theorem dX10_which_63 : decode cX10_which 63 = .ok (.ireturn, 1) := by decide +kernel
set_option maxRecDepth 20000 in
theorem ggX10_lasts_X4_hasGleaner : GoodIn wsX10_lasts wsX4_hasGleaner := goodIn_r _ [8, 9, 10, 11, 12, 36, 37, 38, 39, 40, 41, 42, 43, 44, 45, 46] rfl gw_wsX4_hasGleaner
set_option maxRecDepth 20000 in
theorem gX10_lasts_X4_hasGleaner : GoodIn wsX10_lasts (wsV RX10 167 RX4 yX4_hasGleaner wsX4_hasGleaner) := goodIn_app (goodIn_r _ [4, 5, 6, 7] (by exact rfl) (by decide +kernel)) ggX10_lasts_X4_hasGleaner
set_option maxRecDepth 20000 in
theorem ggX10_lasts_X10_isIn : GoodIn wsX10_lasts wsX10_isIn := goodIn_r _ [15] rfl gw_wsX10_isIn
set_option maxRecDepth 20000 in
theorem gX10_lasts_X10_isIn : GoodIn wsX10_lasts (va_wsS RX10 147 yX10_isIn wsX10_isIn) := goodIn_app (goodIn_r _ [13, 14, 11] (by exact rfl) (by decide +kernel)) ggX10_lasts_X10_isIn
set_option maxRecDepth 20000 in
theorem ggX10_lasts_X10_refuseBad : GoodIn wsX10_lasts wsX10_refuseBad := goodIn_r _ [19, 20, 24, 25, 26, 27, 28, 29, 30, 31, 32, 33, 34, 35] rfl gw_wsX10_refuseBad
set_option maxRecDepth 20000 in
theorem gX10_lasts_X10_refuseBad : GoodIn wsX10_lasts (wsV RX10 90 RX10 yX10_refuseBad wsX10_refuseBad) := goodIn_app (goodIn_r _ [16, 17, 18, 11] (by exact rfl) (by decide +kernel)) ggX10_lasts_X10_refuseBad
set_option maxRecDepth 20000 in
theorem ggX10_lasts_X10_faded : GoodIn wsX10_lasts wsX10_faded := goodIn_r _ [23] rfl gw_wsX10_faded
set_option maxRecDepth 20000 in
theorem gX10_lasts_X10_faded : GoodIn wsX10_lasts (va_wsS RX10 229 yX10_faded wsX10_faded) := goodIn_app (goodIn_r _ [21, 22, 11] (by exact rfl) (by decide +kernel)) ggX10_lasts_X10_faded
theorem dX10_lasts_0 : decode cX10_lasts 0 = .ok (.aload_n 0, 1) := by decide +kernel
theorem dX10_lasts_1 : decode cX10_lasts 1 = .ok (.getfield 36, 3) := by decide +kernel
theorem dX10_lasts_4 : decode cX10_lasts 4 = .ok (.iload_n 1, 1) := by decide +kernel
theorem dX10_lasts_5 : decode cX10_lasts 5 = .ok (.invokevirtual 167, 3) := by decide +kernel
theorem dX10_lasts_8 : decode cX10_lasts 8 = .ok (.ifCond .eq 14, 3) := by decide +kernel
theorem dX10_lasts_11 : decode cX10_lasts 11 = .ok (.iload_n 2, 1) := by decide +kernel
theorem dX10_lasts_12 : decode cX10_lasts 12 = .ok (.iconst 1, 1) := by decide +kernel
theorem dX10_lasts_13 : decode cX10_lasts 13 = .ok (.sipush 999, 3) := by decide +kernel
theorem dX10_lasts_16 : decode cX10_lasts 16 = .ok (.invokestatic 147, 3) := by decide +kernel
theorem dX10_lasts_19 : decode cX10_lasts 19 = .ok (.ifCond .ne 8, 3) := by decide +kernel
theorem dX10_lasts_22 : decode cX10_lasts 22 = .ok (.aload_n 0, 1) := by decide +kernel
theorem dX10_lasts_23 : decode cX10_lasts 23 = .ok (.invokevirtual 90, 3) := by decide +kernel
theorem dX10_lasts_26 : decode cX10_lasts 26 = .ok (.ireturn, 1) := by decide +kernel
theorem dX10_lasts_27 : decode cX10_lasts 27 = .ok (.aload_n 0, 1) := by decide +kernel
theorem dX10_lasts_28 : decode cX10_lasts 28 = .ok (.getfield 36, 3) := by decide +kernel
theorem dX10_lasts_31 : decode cX10_lasts 31 = .ok (.getfield 140, 3) := by decide +kernel
theorem dX10_lasts_34 : decode cX10_lasts 34 = .ok (.getfield 191, 3) := by decide +kernel
theorem dX10_lasts_37 : decode cX10_lasts 37 = .ok (.iload_n 1, 1) := by decide +kernel
theorem dX10_lasts_38 : decode cX10_lasts 38 = .ok (.iaload, 1) := by decide +kernel
theorem dX10_lasts_39 : decode cX10_lasts 39 = .ok (.istore_n 3, 1) := by decide +kernel
theorem dX10_lasts_40 : decode cX10_lasts 40 = .ok (.iconst 0, 1) := by decide +kernel
theorem dX10_lasts_41 : decode cX10_lasts 41 = .ok (.istore 4, 2) := by decide +kernel
theorem dX10_lasts_43 : decode cX10_lasts 43 = .ok (.iload 4, 2) := by decide +kernel
theorem dX10_lasts_45 : decode cX10_lasts 45 = .ok (.sipush 999, 3) := by decide +kernel
theorem dX10_lasts_48 : decode cX10_lasts 48 = .ok (.if_icmp .gt 19, 3) := by decide +kernel
theorem dX10_lasts_51 : decode cX10_lasts 51 = .ok (.iload_n 3, 1) := by decide +kernel
theorem dX10_lasts_52 : decode cX10_lasts 52 = .ok (.iload_n 2, 1) := by decide +kernel
theorem dX10_lasts_53 : decode cX10_lasts 53 = .ok (.if_icmp .lt 14, 3) := by decide +kernel
theorem dX10_lasts_56 : decode cX10_lasts 56 = .ok (.iload_n 3, 1) := by decide +kernel
theorem dX10_lasts_57 : decode cX10_lasts 57 = .ok (.invokestatic 229, 3) := by decide +kernel
theorem dX10_lasts_60 : decode cX10_lasts 60 = .ok (.istore_n 3, 1) := by decide +kernel
theorem dX10_lasts_61 : decode cX10_lasts 61 = .ok (.iinc 4 1, 3) := by decide +kernel
theorem dX10_lasts_64 : decode cX10_lasts 64 = .ok (.goto (-21), 3) := by decide +kernel
theorem dX10_lasts_67 : decode cX10_lasts 67 = .ok (.iload 4, 2) := by decide +kernel
theorem dX10_lasts_69 : decode cX10_lasts 69 = .ok (.ireturn, 1) := by decide +kernel
set_option maxRecDepth 20000 in
theorem ggX10_enough_X10_isIn : GoodIn wsX10_enough wsX10_isIn := goodIn_r _ [6] rfl gw_wsX10_isIn
set_option maxRecDepth 20000 in
theorem gX10_enough_X10_isIn : GoodIn wsX10_enough (va_wsS RX10 147 yX10_isIn wsX10_isIn) := goodIn_app (goodIn_r _ [3, 4, 5] (by exact rfl) (by decide +kernel)) ggX10_enough_X10_isIn
set_option maxRecDepth 20000 in
theorem ggX10_enough_X10_refuseBad : GoodIn wsX10_enough wsX10_refuseBad := goodIn_r _ [10, 11, 27, 28, 29, 30, 31, 32, 33, 34, 35, 36, 37, 38] rfl gw_wsX10_refuseBad
set_option maxRecDepth 20000 in
theorem gX10_enough_X10_refuseBad : GoodIn wsX10_enough (wsV RX10 90 RX10 yX10_refuseBad wsX10_refuseBad) := goodIn_app (goodIn_r _ [7, 8, 9, 5] (by exact rfl) (by decide +kernel)) ggX10_enough_X10_refuseBad
set_option maxRecDepth 20000 in
theorem gw_wsJ6_bitCount_0f7a4 : wsJ6_bitCount_0f7a4.all goodWord = true := by decide +kernel
set_option maxRecDepth 20000 in
theorem ggX10_enough_J6_bitCount_0f7a4 : GoodIn wsX10_enough wsJ6_bitCount_0f7a4 := goodIn_r _ [15, 16, 17, 18] rfl gw_wsJ6_bitCount_0f7a4
set_option maxRecDepth 20000 in
theorem gX10_enough_J6_bitCount_0f7a4 : GoodIn wsX10_enough (va_wsS RX10 232 yJ6_bitCount_0f7a4 wsJ6_bitCount_0f7a4) := goodIn_app (goodIn_r _ [12, 13, 14] (by exact rfl) (by decide +kernel)) ggX10_enough_J6_bitCount_0f7a4
set_option maxRecDepth 20000 in
theorem gw_wsX4_storesOf : wsX4_storesOf.all goodWord = true := by decide +kernel
set_option maxRecDepth 20000 in
theorem ggX10_enough_X4_storesOf : GoodIn wsX10_enough wsX4_storesOf := goodIn_r _ [23, 24, 25, 26, 39, 40, 41, 42, 43, 44, 45, 46, 47, 48, 49, 50, 51, 52, 53, 54, 55] rfl gw_wsX4_storesOf
set_option maxRecDepth 20000 in
theorem gX10_enough_X4_storesOf : GoodIn wsX10_enough (wsV RX10 237 RX4 yX4_storesOf wsX4_storesOf) := goodIn_app (goodIn_r _ [19, 20, 21, 22] (by exact rfl) (by decide +kernel)) ggX10_enough_X4_storesOf
theorem dX10_enough_0 : decode cX10_enough 0 = .ok (.iload_n 1, 1) := by decide +kernel
theorem dX10_enough_1 : decode cX10_enough 1 = .ok (.iconst 0, 1) := by decide +kernel
theorem dX10_enough_2 : decode cX10_enough 2 = .ok (.sipush 999, 3) := by decide +kernel
theorem dX10_enough_5 : decode cX10_enough 5 = .ok (.invokestatic 147, 3) := by decide +kernel
theorem dX10_enough_8 : decode cX10_enough 8 = .ok (.ifCond .ne 8, 3) := by decide +kernel
theorem dX10_enough_11 : decode cX10_enough 11 = .ok (.aload_n 0, 1) := by decide +kernel
theorem dX10_enough_12 : decode cX10_enough 12 = .ok (.invokevirtual 90, 3) := by decide +kernel
theorem dX10_enough_15 : decode cX10_enough 15 = .ok (.ireturn, 1) := by decide +kernel
theorem dX10_enough_16 : decode cX10_enough 16 = .ok (.iconst (-1), 1) := by decide +kernel
theorem dX10_enough_17 : decode cX10_enough 17 = .ok (.istore_n 2, 1) := by decide +kernel
theorem dX10_enough_18 : decode cX10_enough 18 = .ok (.iconst 0, 1) := by decide +kernel
theorem dX10_enough_19 : decode cX10_enough 19 = .ok (.istore_n 3, 1) := by decide +kernel
theorem dX10_enough_20 : decode cX10_enough 20 = .ok (.iload_n 3, 1) := by decide +kernel
theorem dX10_enough_21 : decode cX10_enough 21 = .ok (.iconst 1, 1) := by decide +kernel
theorem dX10_enough_22 : decode cX10_enough 22 = .ok (.aload_n 0, 1) := by decide +kernel
theorem dX10_enough_23 : decode cX10_enough 23 = .ok (.getfield 36, 3) := by decide +kernel
theorem dX10_enough_26 : decode cX10_enough 26 = .ok (.getfield 115, 3) := by decide +kernel
theorem dX10_enough_29 : decode cX10_enough 29 = .ok (.ishl, 1) := by decide +kernel
theorem dX10_enough_30 : decode cX10_enough 30 = .ok (.if_icmp .ge 51, 3) := by decide +kernel
theorem dX10_enough_33 : decode cX10_enough 33 = .ok (.iload_n 2, 1) := by decide +kernel
theorem dX10_enough_34 : decode cX10_enough 34 = .ok (.iconst (-1), 1) := by decide +kernel
theorem dX10_enough_35 : decode cX10_enough 35 = .ok (.if_icmp .eq 14, 3) := by decide +kernel
theorem dX10_enough_38 : decode cX10_enough 38 = .ok (.iload_n 3, 1) := by decide +kernel
theorem dX10_enough_39 : decode cX10_enough 39 = .ok (.invokestatic 232, 3) := by decide +kernel
theorem dX10_enough_42 : decode cX10_enough 42 = .ok (.iload_n 2, 1) := by decide +kernel
theorem dX10_enough_43 : decode cX10_enough 43 = .ok (.invokestatic 232, 3) := by decide +kernel
theorem dX10_enough_46 : decode cX10_enough 46 = .ok (.if_icmp .ge 7, 3) := by decide +kernel
theorem dX10_enough_49 : decode cX10_enough 49 = .ok (.iconst 1, 1) := by decide +kernel
theorem dX10_enough_50 : decode cX10_enough 50 = .ok (.goto 4, 3) := by decide +kernel
theorem dX10_enough_53 : decode cX10_enough 53 = .ok (.iconst 0, 1) := by decide +kernel
theorem dX10_enough_54 : decode cX10_enough 54 = .ok (.istore 4, 2) := by decide +kernel
theorem dX10_enough_56 : decode cX10_enough 56 = .ok (.iload 4, 2) := by decide +kernel
theorem dX10_enough_58 : decode cX10_enough 58 = .ok (.ifCond .eq 17, 3) := by decide +kernel
theorem dX10_enough_61 : decode cX10_enough 61 = .ok (.aload_n 0, 1) := by decide +kernel
theorem dX10_enough_62 : decode cX10_enough 62 = .ok (.getfield 36, 3) := by decide +kernel
theorem dX10_enough_65 : decode cX10_enough 65 = .ok (.iload_n 3, 1) := by decide +kernel
theorem dX10_enough_66 : decode cX10_enough 66 = .ok (.invokevirtual 237, 3) := by decide +kernel
theorem dX10_enough_69 : decode cX10_enough 69 = .ok (.iload_n 1, 1) := by decide +kernel
theorem dX10_enough_70 : decode cX10_enough 70 = .ok (.if_icmp .lt 5, 3) := by decide +kernel
theorem dX10_enough_73 : decode cX10_enough 73 = .ok (.iload_n 3, 1) := by decide +kernel
theorem dX10_enough_74 : decode cX10_enough 74 = .ok (.istore_n 2, 1) := by decide +kernel
theorem dX10_enough_75 : decode cX10_enough 75 = .ok (.iinc 3 1, 3) := by decide +kernel
theorem dX10_enough_78 : decode cX10_enough 78 = .ok (.goto (-58), 3) := by decide +kernel
theorem dX10_enough_81 : decode cX10_enough 81 = .ok (.iload_n 2, 1) := by decide +kernel
theorem dX10_enough_82 : decode cX10_enough 82 = .ok (.ireturn, 1) := by decide +kernel
set_option maxRecDepth 20000 in
theorem ggX10_missed_X4_hasField : GoodIn wsX10_missed wsX4_hasField := goodIn_r _ [7, 8, 9, 10, 11, 46, 47, 48, 49, 50, 51, 52, 53, 54, 55, 56] rfl gw_wsX4_hasField
set_option maxRecDepth 20000 in
theorem gX10_missed_X4_hasField : GoodIn wsX10_missed (wsV RX10 112 RX4 yX4_hasField wsX4_hasField) := goodIn_app (goodIn_r _ [3, 4, 5, 6] (by exact rfl) (by decide +kernel)) ggX10_missed_X4_hasField
set_option maxRecDepth 20000 in
theorem ggX10_missed_X10_isBelow : GoodIn wsX10_missed wsX10_isBelow := goodIn_r _ [11] rfl gw_wsX10_isBelow
set_option maxRecDepth 20000 in
theorem gX10_missed_X10_isBelow : GoodIn wsX10_missed (va_wsS RX10 86 yX10_isBelow wsX10_isBelow) := goodIn_app (goodIn_r _ [12, 9, 10] (by exact rfl) (by decide +kernel)) ggX10_missed_X10_isBelow
set_option maxRecDepth 20000 in
theorem ggX10_missed_X10_isLight : GoodIn wsX10_missed wsX10_isLight := goodIn_r _ [15, 16, 17, 10, 18] rfl gw_wsX10_isLight
set_option maxRecDepth 20000 in
theorem gX10_missed_X10_isLight : GoodIn wsX10_missed (va_wsS RX10 101 yX10_isLight wsX10_isLight) := goodIn_app (goodIn_r _ [13, 14, 10] (by exact rfl) (by decide +kernel)) ggX10_missed_X10_isLight
set_option maxRecDepth 20000 in
theorem ggX10_missed_X10_isIn : GoodIn wsX10_missed wsX10_isIn := goodIn_r _ [18] rfl gw_wsX10_isIn
set_option maxRecDepth 20000 in
theorem gX10_missed_X10_isIn : GoodIn wsX10_missed (va_wsS RX10 147 yX10_isIn wsX10_isIn) := goodIn_app (goodIn_r _ [16, 17, 10] (by exact rfl) (by decide +kernel)) ggX10_missed_X10_isIn
set_option maxRecDepth 20000 in
theorem ggX10_missed_X10_refuseBad : GoodIn wsX10_missed wsX10_refuseBad := goodIn_r _ [22, 23, 34, 35, 36, 37, 38, 39, 40, 41, 42, 43, 44, 45] rfl gw_wsX10_refuseBad
set_option maxRecDepth 20000 in
theorem gX10_missed_X10_refuseBad : GoodIn wsX10_missed (wsV RX10 90 RX10 yX10_refuseBad wsX10_refuseBad) := goodIn_app (goodIn_r _ [19, 20, 21, 10] (by exact rfl) (by decide +kernel)) ggX10_missed_X10_refuseBad
set_option maxRecDepth 20000 in
theorem ggX10_missed_X10_refuseFull : GoodIn wsX10_missed wsX10_refuseFull := goodIn_r _ [27, 23, 34, 35, 36, 37, 38, 39, 40, 41, 42, 43, 44, 45] rfl gw_wsX10_refuseFull
set_option maxRecDepth 20000 in
theorem gX10_missed_X10_refuseFull : GoodIn wsX10_missed (wsV RX10 105 RX10 yX10_refuseFull wsX10_refuseFull) := goodIn_app (goodIn_r _ [24, 25, 26, 10] (by exact rfl) (by decide +kernel)) ggX10_missed_X10_refuseFull
set_option maxRecDepth 20000 in
theorem gw_wsX4_addMissed : wsX4_addMissed.all goodWord = true := by decide +kernel
set_option maxRecDepth 20000 in
theorem ggX10_missed_X4_addMissed : GoodIn wsX10_missed wsX4_addMissed := goodIn_r _ [31, 32, 33, 46, 47, 48, 49, 50, 51, 52, 53, 54, 55, 56] rfl gw_wsX4_addMissed
set_option maxRecDepth 20000 in
theorem gX10_missed_X4_addMissed : GoodIn wsX10_missed (wsV RX10 243 RX4 yX4_addMissed wsX4_addMissed) := goodIn_app (goodIn_r _ [28, 29, 30, 6] (by exact rfl) (by decide +kernel)) ggX10_missed_X4_addMissed
theorem dX10_missed_0 : decode cX10_missed 0 = .ok (.aload_n 0, 1) := by decide +kernel
theorem dX10_missed_1 : decode cX10_missed 1 = .ok (.getfield 36, 3) := by decide +kernel
theorem dX10_missed_4 : decode cX10_missed 4 = .ok (.iload_n 1, 1) := by decide +kernel
theorem dX10_missed_5 : decode cX10_missed 5 = .ok (.invokevirtual 112, 3) := by decide +kernel
theorem dX10_missed_8 : decode cX10_missed 8 = .ok (.ifCond .eq 30, 3) := by decide +kernel
theorem dX10_missed_11 : decode cX10_missed 11 = .ok (.iload_n 2, 1) := by decide +kernel
theorem dX10_missed_12 : decode cX10_missed 12 = .ok (.bipush 12, 2) := by decide +kernel
theorem dX10_missed_14 : decode cX10_missed 14 = .ok (.invokestatic 86, 3) := by decide +kernel
theorem dX10_missed_17 : decode cX10_missed 17 = .ok (.ifCond .eq 21, 3) := by decide +kernel
theorem dX10_missed_20 : decode cX10_missed 20 = .ok (.iload_n 3, 1) := by decide +kernel
theorem dX10_missed_21 : decode cX10_missed 21 = .ok (.invokestatic 101, 3) := by decide +kernel
theorem dX10_missed_24 : decode cX10_missed 24 = .ok (.ifCond .eq 14, 3) := by decide +kernel
theorem dX10_missed_27 : decode cX10_missed 27 = .ok (.iload 4, 2) := by decide +kernel
theorem dX10_missed_29 : decode cX10_missed 29 = .ok (.iconst 0, 1) := by decide +kernel
theorem dX10_missed_30 : decode cX10_missed 30 = .ok (.bipush 60, 2) := by decide +kernel
theorem dX10_missed_32 : decode cX10_missed 32 = .ok (.invokestatic 147, 3) := by decide +kernel
theorem dX10_missed_35 : decode cX10_missed 35 = .ok (.ifCond .ne 8, 3) := by decide +kernel
theorem dX10_missed_38 : decode cX10_missed 38 = .ok (.aload_n 0, 1) := by decide +kernel
theorem dX10_missed_39 : decode cX10_missed 39 = .ok (.invokevirtual 90, 3) := by decide +kernel
theorem dX10_missed_42 : decode cX10_missed 42 = .ok (.ireturn, 1) := by decide +kernel
theorem dX10_missed_43 : decode cX10_missed 43 = .ok (.aload_n 0, 1) := by decide +kernel
theorem dX10_missed_44 : decode cX10_missed 44 = .ok (.getfield 36, 3) := by decide +kernel
theorem dX10_missed_47 : decode cX10_missed 47 = .ok (.getfield 240, 3) := by decide +kernel
theorem dX10_missed_50 : decode cX10_missed 50 = .ok (.iconst 4, 1) := by decide +kernel
theorem dX10_missed_51 : decode cX10_missed 51 = .ok (.if_icmp .lt 8, 3) := by decide +kernel
theorem dX10_missed_54 : decode cX10_missed 54 = .ok (.aload_n 0, 1) := by decide +kernel
theorem dX10_missed_55 : decode cX10_missed 55 = .ok (.invokevirtual 105, 3) := by decide +kernel
theorem dX10_missed_58 : decode cX10_missed 58 = .ok (.ireturn, 1) := by decide +kernel
theorem dX10_missed_59 : decode cX10_missed 59 = .ok (.aload_n 0, 1) := by decide +kernel
theorem dX10_missed_60 : decode cX10_missed 60 = .ok (.getfield 36, 3) := by decide +kernel
theorem dX10_missed_63 : decode cX10_missed 63 = .ok (.iload_n 1, 1) := by decide +kernel
theorem dX10_missed_64 : decode cX10_missed 64 = .ok (.iload_n 2, 1) := by decide +kernel
theorem dX10_missed_65 : decode cX10_missed 65 = .ok (.iload_n 3, 1) := by decide +kernel
theorem dX10_missed_66 : decode cX10_missed 66 = .ok (.iload 4, 2) := by decide +kernel
theorem dX10_missed_68 : decode cX10_missed 68 = .ok (.invokevirtual 243, 3) := by decide +kernel
theorem dX10_missed_71 : decode cX10_missed 71 = .ok (.ireturn, 1) := by decide +kernel
set_option maxRecDepth 20000 in
theorem gw_wsX4_missedFit : wsX4_missedFit.all goodWord = true := by decide +kernel
set_option maxRecDepth 20000 in
theorem ggX10_clouds_X4_missedFit : GoodIn wsX10_clouds wsX4_missedFit := goodIn_r _ [6, 7, 8, 9, 10, 11, 12, 13, 14, 15, 16, 17, 18, 19, 20, 21, 22, 23, 24, 25, 26, 27, 28, 29, 30, 31, 32, 33, 34, 35, 36, 37, 38, 39, 40, 41, 42, 43, 44, 45, 46, 47, 48, 49, 50, 51, 52, 53, 54, 55, 56, 57, 58, 71, 72, 73, 74, 75, 76, 77, 78, 79, 80, 81] rfl gw_wsX4_missedFit
set_option maxRecDepth 20000 in
theorem gX10_clouds_X4_missedFit : GoodIn wsX10_clouds (wsV RX10 247 RX4 yX4_missedFit wsX4_missedFit) := goodIn_app (goodIn_r _ [2, 3, 4, 5] (by exact rfl) (by decide +kernel)) ggX10_clouds_X4_missedFit
theorem dX10_clouds_0 : decode cX10_clouds 0 = .ok (.iconst 0, 1) := by decide +kernel
theorem dX10_clouds_1 : decode cX10_clouds 1 = .ok (.istore_n 1, 1) := by decide +kernel
theorem dX10_clouds_2 : decode cX10_clouds 2 = .ok (.iconst 0, 1) := by decide +kernel
theorem dX10_clouds_3 : decode cX10_clouds 3 = .ok (.istore_n 2, 1) := by decide +kernel
theorem dX10_clouds_4 : decode cX10_clouds 4 = .ok (.iload_n 2, 1) := by decide +kernel
theorem dX10_clouds_5 : decode cX10_clouds 5 = .ok (.bipush 10, 2) := by decide +kernel
theorem dX10_clouds_7 : decode cX10_clouds 7 = .ok (.if_icmp .ge 26, 3) := by decide +kernel
theorem dX10_clouds_10 : decode cX10_clouds 10 = .ok (.aload_n 0, 1) := by decide +kernel
theorem dX10_clouds_11 : decode cX10_clouds 11 = .ok (.getfield 36, 3) := by decide +kernel
theorem dX10_clouds_14 : decode cX10_clouds 14 = .ok (.iload_n 2, 1) := by decide +kernel
theorem dX10_clouds_15 : decode cX10_clouds 15 = .ok (.invokevirtual 247, 3) := by decide +kernel
theorem dX10_clouds_18 : decode cX10_clouds 18 = .ok (.ifCond .eq 9, 3) := by decide +kernel
theorem dX10_clouds_21 : decode cX10_clouds 21 = .ok (.iload_n 1, 1) := by decide +kernel
theorem dX10_clouds_22 : decode cX10_clouds 22 = .ok (.iconst 1, 1) := by decide +kernel
theorem dX10_clouds_23 : decode cX10_clouds 23 = .ok (.iload_n 2, 1) := by decide +kernel
theorem dX10_clouds_24 : decode cX10_clouds 24 = .ok (.ishl, 1) := by decide +kernel
theorem dX10_clouds_25 : decode cX10_clouds 25 = .ok (.ior, 1) := by decide +kernel
theorem dX10_clouds_26 : decode cX10_clouds 26 = .ok (.istore_n 1, 1) := by decide +kernel
theorem dX10_clouds_27 : decode cX10_clouds 27 = .ok (.iinc 2 1, 3) := by decide +kernel
theorem dX10_clouds_30 : decode cX10_clouds 30 = .ok (.goto (-26), 3) := by decide +kernel
theorem dX10_clouds_33 : decode cX10_clouds 33 = .ok (.iload_n 1, 1) := by decide +kernel
theorem dX10_clouds_34 : decode cX10_clouds 34 = .ok (.ireturn, 1) := by decide +kernel
set_option maxRecDepth 20000 in
theorem ggX10_note_X4_hasField : GoodIn wsX10_note wsX4_hasField := goodIn_r _ [7, 8, 9, 10, 11, 46, 47, 48, 49, 50, 51, 52, 53, 54, 55, 56] rfl gw_wsX4_hasField
set_option maxRecDepth 20000 in
theorem gX10_note_X4_hasField : GoodIn wsX10_note (wsV RX10 112 RX4 yX4_hasField wsX4_hasField) := goodIn_app (goodIn_r _ [3, 4, 5, 6] (by exact rfl) (by decide +kernel)) ggX10_note_X4_hasField
set_option maxRecDepth 20000 in
theorem ggX10_note_X10_isBelow : GoodIn wsX10_note wsX10_isBelow := goodIn_r _ [11] rfl gw_wsX10_isBelow
set_option maxRecDepth 20000 in
theorem gX10_note_X10_isBelow : GoodIn wsX10_note (va_wsS RX10 86 yX10_isBelow wsX10_isBelow) := goodIn_app (goodIn_r _ [12, 9, 10] (by exact rfl) (by decide +kernel)) ggX10_note_X10_isBelow
set_option maxRecDepth 20000 in
theorem ggX10_note_X10_isLight : GoodIn wsX10_note wsX10_isLight := goodIn_r _ [15, 16, 17, 10, 18] rfl gw_wsX10_isLight
set_option maxRecDepth 20000 in
theorem gX10_note_X10_isLight : GoodIn wsX10_note (va_wsS RX10 101 yX10_isLight wsX10_isLight) := goodIn_app (goodIn_r _ [13, 14, 10] (by exact rfl) (by decide +kernel)) ggX10_note_X10_isLight
set_option maxRecDepth 20000 in
theorem ggX10_note_X10_refuseBad : GoodIn wsX10_note wsX10_refuseBad := goodIn_r _ [22, 23, 34, 35, 36, 37, 38, 39, 40, 41, 42, 43, 44, 45] rfl gw_wsX10_refuseBad
set_option maxRecDepth 20000 in
theorem gX10_note_X10_refuseBad : GoodIn wsX10_note (wsV RX10 90 RX10 yX10_refuseBad wsX10_refuseBad) := goodIn_app (goodIn_r _ [19, 20, 21, 10] (by exact rfl) (by decide +kernel)) ggX10_note_X10_refuseBad
set_option maxRecDepth 20000 in
theorem ggX10_note_X10_isIn : GoodIn wsX10_note wsX10_isIn := goodIn_r _ [18] rfl gw_wsX10_isIn
set_option maxRecDepth 20000 in
theorem gX10_note_X10_isIn : GoodIn wsX10_note (va_wsS RX10 147 yX10_isIn wsX10_isIn) := goodIn_app (goodIn_r _ [16, 17, 10] (by exact rfl) (by decide +kernel)) ggX10_note_X10_isIn
set_option maxRecDepth 20000 in
theorem ggX10_note_X10_refuseFull : GoodIn wsX10_note wsX10_refuseFull := goodIn_r _ [27, 23, 34, 35, 36, 37, 38, 39, 40, 41, 42, 43, 44, 45] rfl gw_wsX10_refuseFull
set_option maxRecDepth 20000 in
theorem gX10_note_X10_refuseFull : GoodIn wsX10_note (wsV RX10 105 RX10 yX10_refuseFull wsX10_refuseFull) := goodIn_app (goodIn_r _ [24, 25, 26, 10] (by exact rfl) (by decide +kernel)) ggX10_note_X10_refuseFull
set_option maxRecDepth 20000 in
theorem gw_wsX4_addNote : wsX4_addNote.all goodWord = true := by decide +kernel
set_option maxRecDepth 20000 in
theorem ggX10_note_X4_addNote : GoodIn wsX10_note wsX4_addNote := goodIn_r _ [31, 32, 33, 46, 47, 48, 49, 50, 51, 52, 53, 54, 55, 56] rfl gw_wsX4_addNote
set_option maxRecDepth 20000 in
theorem gX10_note_X4_addNote : GoodIn wsX10_note (wsV RX10 253 RX4 yX4_addNote wsX4_addNote) := goodIn_app (goodIn_r _ [28, 29, 30, 6] (by exact rfl) (by decide +kernel)) ggX10_note_X4_addNote
theorem dX10_note_0 : decode cX10_note 0 = .ok (.aload_n 0, 1) := by decide +kernel
theorem dX10_note_1 : decode cX10_note 1 = .ok (.getfield 36, 3) := by decide +kernel
theorem dX10_note_4 : decode cX10_note 4 = .ok (.iload_n 1, 1) := by decide +kernel
theorem dX10_note_5 : decode cX10_note 5 = .ok (.invokevirtual 112, 3) := by decide +kernel
theorem dX10_note_8 : decode cX10_note 8 = .ok (.ifCond .eq 19, 3) := by decide +kernel
theorem dX10_note_11 : decode cX10_note 11 = .ok (.iload_n 2, 1) := by decide +kernel
theorem dX10_note_12 : decode cX10_note 12 = .ok (.bipush 12, 2) := by decide +kernel
theorem dX10_note_14 : decode cX10_note 14 = .ok (.invokestatic 86, 3) := by decide +kernel
theorem dX10_note_17 : decode cX10_note 17 = .ok (.ifCond .eq 10, 3) := by decide +kernel
theorem dX10_note_20 : decode cX10_note 20 = .ok (.iload_n 3, 1) := by decide +kernel
theorem dX10_note_21 : decode cX10_note 21 = .ok (.invokestatic 101, 3) := by decide +kernel
theorem dX10_note_24 : decode cX10_note 24 = .ok (.ifCond .ne 8, 3) := by decide +kernel
theorem dX10_note_27 : decode cX10_note 27 = .ok (.aload_n 0, 1) := by decide +kernel
theorem dX10_note_28 : decode cX10_note 28 = .ok (.invokevirtual 90, 3) := by decide +kernel
theorem dX10_note_31 : decode cX10_note 31 = .ok (.ireturn, 1) := by decide +kernel
theorem dX10_note_32 : decode cX10_note 32 = .ok (.iload 4, 2) := by decide +kernel
theorem dX10_note_34 : decode cX10_note 34 = .ok (.bipush 10, 2) := by decide +kernel
theorem dX10_note_36 : decode cX10_note 36 = .ok (.invokestatic 86, 3) := by decide +kernel
theorem dX10_note_39 : decode cX10_note 39 = .ok (.ifCond .eq 14, 3) := by decide +kernel
theorem dX10_note_42 : decode cX10_note 42 = .ok (.iload 5, 2) := by decide +kernel
theorem dX10_note_44 : decode cX10_note 44 = .ok (.iconst 0, 1) := by decide +kernel
theorem dX10_note_45 : decode cX10_note 45 = .ok (.bipush 99, 2) := by decide +kernel
theorem dX10_note_47 : decode cX10_note 47 = .ok (.invokestatic 147, 3) := by decide +kernel
theorem dX10_note_50 : decode cX10_note 50 = .ok (.ifCond .ne 8, 3) := by decide +kernel
theorem dX10_note_53 : decode cX10_note 53 = .ok (.aload_n 0, 1) := by decide +kernel
theorem dX10_note_54 : decode cX10_note 54 = .ok (.invokevirtual 90, 3) := by decide +kernel
theorem dX10_note_57 : decode cX10_note 57 = .ok (.ireturn, 1) := by decide +kernel
theorem dX10_note_58 : decode cX10_note 58 = .ok (.aload_n 0, 1) := by decide +kernel
theorem dX10_note_59 : decode cX10_note 59 = .ok (.getfield 36, 3) := by decide +kernel
theorem dX10_note_62 : decode cX10_note 62 = .ok (.getfield 250, 3) := by decide +kernel
theorem dX10_note_65 : decode cX10_note 65 = .ok (.bipush 6, 2) := by decide +kernel
theorem dX10_note_67 : decode cX10_note 67 = .ok (.if_icmp .lt 8, 3) := by decide +kernel
theorem dX10_note_70 : decode cX10_note 70 = .ok (.aload_n 0, 1) := by decide +kernel
theorem dX10_note_71 : decode cX10_note 71 = .ok (.invokevirtual 105, 3) := by decide +kernel
theorem dX10_note_74 : decode cX10_note 74 = .ok (.ireturn, 1) := by decide +kernel
theorem dX10_note_75 : decode cX10_note 75 = .ok (.aload_n 0, 1) := by decide +kernel
theorem dX10_note_76 : decode cX10_note 76 = .ok (.getfield 36, 3) := by decide +kernel
theorem dX10_note_79 : decode cX10_note 79 = .ok (.iload_n 1, 1) := by decide +kernel
theorem dX10_note_80 : decode cX10_note 80 = .ok (.iload_n 2, 1) := by decide +kernel
theorem dX10_note_81 : decode cX10_note 81 = .ok (.iload_n 3, 1) := by decide +kernel
theorem dX10_note_82 : decode cX10_note 82 = .ok (.iload 4, 2) := by decide +kernel
theorem dX10_note_84 : decode cX10_note 84 = .ok (.iload 5, 2) := by decide +kernel
theorem dX10_note_86 : decode cX10_note 86 = .ok (.invokevirtual 253, 3) := by decide +kernel
theorem dX10_note_89 : decode cX10_note 89 = .ok (.ireturn, 1) := by decide +kernel
set_option maxRecDepth 20000 in
theorem ggX10_forget_X10_isBelow : GoodIn wsX10_forget wsX10_isBelow := goodIn_r _ [7] rfl gw_wsX10_isBelow
set_option maxRecDepth 20000 in
theorem gX10_forget_X10_isBelow : GoodIn wsX10_forget (va_wsS RX10 86 yX10_isBelow wsX10_isBelow) := goodIn_app (goodIn_r _ [4, 5, 6] (by exact rfl) (by decide +kernel)) ggX10_forget_X10_isBelow
set_option maxRecDepth 20000 in
theorem ggX10_forget_X10_refuseBad : GoodIn wsX10_forget wsX10_refuseBad := goodIn_r _ [11, 12, 13, 14, 15, 16, 17, 18, 19, 20, 21, 22, 23, 24] rfl gw_wsX10_refuseBad
set_option maxRecDepth 20000 in
theorem gX10_forget_X10_refuseBad : GoodIn wsX10_forget (wsV RX10 90 RX10 yX10_refuseBad wsX10_refuseBad) := goodIn_app (goodIn_r _ [8, 9, 10, 6] (by exact rfl) (by decide +kernel)) ggX10_forget_X10_refuseBad
theorem dX10_forget_0 : decode cX10_forget 0 = .ok (.iload_n 1, 1) := by decide +kernel
theorem dX10_forget_1 : decode cX10_forget 1 = .ok (.iconst 2, 1) := by decide +kernel
theorem dX10_forget_2 : decode cX10_forget 2 = .ok (.invokestatic 86, 3) := by decide +kernel
theorem dX10_forget_5 : decode cX10_forget 5 = .ok (.ifCond .ne 8, 3) := by decide +kernel
theorem dX10_forget_8 : decode cX10_forget 8 = .ok (.aload_n 0, 1) := by decide +kernel
theorem dX10_forget_9 : decode cX10_forget 9 = .ok (.invokevirtual 90, 3) := by decide +kernel
theorem dX10_forget_12 : decode cX10_forget 12 = .ok (.ireturn, 1) := by decide +kernel
theorem dX10_forget_13 : decode cX10_forget 13 = .ok (.iload_n 1, 1) := by decide +kernel
theorem dX10_forget_14 : decode cX10_forget 14 = .ok (.ifCond .ne 13, 3) := by decide +kernel
theorem dX10_forget_17 : decode cX10_forget 17 = .ok (.aload_n 0, 1) := by decide +kernel
theorem dX10_forget_18 : decode cX10_forget 18 = .ok (.getfield 36, 3) := by decide +kernel
theorem dX10_forget_21 : decode cX10_forget 21 = .ok (.getfield 240, 3) := by decide +kernel
theorem dX10_forget_24 : decode cX10_forget 24 = .ok (.goto 10, 3) := by decide +kernel
theorem dX10_forget_27 : decode cX10_forget 27 = .ok (.aload_n 0, 1) := by decide +kernel
theorem dX10_forget_28 : decode cX10_forget 28 = .ok (.getfield 36, 3) := by decide +kernel
