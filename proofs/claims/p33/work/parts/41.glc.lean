set_option maxRecDepth 20000 in
theorem gw_wsX10_which : wsX10_which.all goodWord = true := by decide +kernel
set_option maxRecDepth 20000 in
theorem ggL_law_X10_which : GoodIn wsL_law wsX10_which := goodIn_r _ [734, 34, 123, 51, 124, 125, 2, 126, 127, 128, 129, 130, 53, 704, 705, 706, 707, 258, 634, 370, 371, 33, 372, 80, 73, 180, 141, 373, 374, 375, 376, 377, 26, 378, 379, 380, 381, 382, 383, 384, 385, 386, 17, 387, 388, 389, 390, 14, 391, 392, 393, 394, 29, 395, 396, 397, 398, 399, 20, 400, 401, 402, 403, 404, 405, 406, 23, 407, 408, 409, 410, 411, 412, 413, 414, 999, 1000, 1001, 1002, 1003, 1004, 1005, 1006, 1007, 1008, 1009, 1010, 1029, 1030, 1031, 1032, 1033, 1034, 1035, 1036, 1037, 1038, 1039, 1052, 1053, 1054, 1055, 1056, 1057] rfl gw_wsX10_which
set_option maxRecDepth 20000 in
theorem gL_law_X10_which : GoodIn wsL_law (wsV RL 85 RX10 yX10_which wsX10_which) := goodIn_app (goodIn_of _ (by decide +kernel)) ggL_law_X10_which
set_option maxRecDepth 20000 in
theorem gw_wsX11_which : wsX11_which.all goodWord = true := by decide +kernel
set_option maxRecDepth 20000 in
theorem ggL_law_X11_which : GoodIn wsL_law wsX11_which := goodIn_r _ [738, 104, 639, 640, 5, 641, 642, 151, 152, 153, 154, 155, 156, 157, 107, 158, 159, 160, 161, 477, 478, 479, 480, 481, 482, 483, 484, 485, 486, 487, 488, 1011, 1012, 1013, 1014, 1015, 1016, 1017, 1018, 1019, 1020, 1021, 1022, 1023, 1024, 1025, 1026, 1027, 1028] rfl gw_wsX11_which
set_option maxRecDepth 20000 in
theorem gL_law_X11_which : GoodIn wsL_law (wsV RL 88 RX11 yX11_which wsX11_which) := goodIn_app (goodIn_of _ (by decide +kernel)) ggL_law_X11_which
set_option maxRecDepth 20000 in
theorem gw_wsX10_lasts : wsX10_lasts.all goodWord = true := by decide +kernel
set_option maxRecDepth 20000 in
theorem ggL_law_X10_lasts : GoodIn wsL_law wsX10_lasts := goodIn_r _ [742, 34, 258, 621, 564, 565, 566, 33, 567, 136, 125, 2, 126, 169, 170, 171, 127, 128, 129, 130, 53, 743, 547, 548, 999, 1000, 1001, 1002, 1003, 1004, 1005, 1006, 1007, 1008, 1009, 1010, 1029, 1030, 1031, 1032, 1033, 1034, 1035, 1036, 1037, 1038, 1039, 1052, 1053, 1054, 1055, 1056, 1057] rfl gw_wsX10_lasts
set_option maxRecDepth 20000 in
theorem gL_law_X10_lasts : GoodIn wsL_law (wsV RL 89 RX10 yX10_lasts wsX10_lasts) := goodIn_app (goodIn_of _ (by decide +kernel)) ggL_law_X10_lasts
set_option maxRecDepth 20000 in
theorem gw_wsX11_lasts : wsX11_lasts.all goodWord = true := by decide +kernel
set_option maxRecDepth 20000 in
theorem ggL_law_X11_lasts : GoodIn wsL_law wsX11_lasts := goodIn_r _ [747, 748, 104, 572, 573, 574, 5, 575, 220, 221, 222, 223, 151, 152, 153, 154, 155, 156, 157, 107, 556, 557, 558, 1011, 1012, 1013, 1014, 1015, 1016, 1017, 1018, 1019, 1020, 1021, 1022, 1023, 1024, 1025, 1026, 1027, 1028] rfl gw_wsX11_lasts
set_option maxRecDepth 20000 in
theorem gL_law_X11_lasts : GoodIn wsL_law (wsV RL 92 RX11 yX11_lasts wsX11_lasts) := goodIn_app (goodIn_of _ (by decide +kernel)) ggL_law_X11_lasts
set_option maxRecDepth 20000 in
theorem gw_wsX10_enough : wsX10_enough.all goodWord = true := by decide +kernel
set_option maxRecDepth 20000 in
theorem ggL_law_X10_enough : GoodIn wsL_law wsX10_enough := goodIn_r _ [752, 34, 201, 169, 170, 2, 171, 127, 128, 129, 130, 53, 753, 754, 755, 756, 757, 758, 759, 760, 761, 762, 33, 763, 136, 75, 211, 999, 1000, 1001, 1002, 1003, 1004, 1005, 1006, 1007, 1008, 1009, 1010, 1029, 1030, 1031, 1032, 1033, 1034, 1035, 1036, 1037, 1038, 1039, 1052, 1053, 1054, 1055, 1056, 1057] rfl gw_wsX10_enough
set_option maxRecDepth 20000 in
theorem gL_law_X10_enough : GoodIn wsL_law (wsV RL 93 RX10 yX10_enough wsX10_enough) := goodIn_app (goodIn_of _ (by decide +kernel)) ggL_law_X10_enough
set_option maxRecDepth 20000 in
theorem gw_wsX11_enough : wsX11_enough.all goodWord = true := by decide +kernel
set_option maxRecDepth 20000 in
theorem ggL_law_X11_enough : GoodIn wsL_law wsX11_enough := goodIn_r _ [767, 748, 104, 151, 152, 5, 153, 154, 155, 156, 157, 107, 220, 221, 222, 223, 768, 769, 770, 771, 772, 773, 1011, 1012, 1013, 1014, 1015, 1016, 1017, 1018, 1019, 1020, 1021, 1022, 1023, 1024, 1025, 1026, 1027, 1028] rfl gw_wsX11_enough
set_option maxRecDepth 20000 in
theorem gL_law_X11_enough : GoodIn wsL_law (wsV RL 96 RX11 yX11_enough wsX11_enough) := goodIn_app (goodIn_of _ (by decide +kernel)) ggL_law_X11_enough
set_option maxRecDepth 20000 in
theorem gw_wsX10_missed : wsX10_missed.all goodWord = true := by decide +kernel
set_option maxRecDepth 20000 in
theorem ggL_law_X10_missed : GoodIn wsL_law wsX10_missed := goodIn_r _ [777, 34, 778, 202, 203, 204, 33, 205, 135, 125, 2, 126, 124, 166, 167, 168, 169, 170, 171, 127, 128, 129, 130, 53, 172, 173, 174, 175, 779, 780, 781, 782, 78, 138, 999, 1000, 1001, 1002, 1003, 1004, 1005, 1006, 1007, 1008, 1009, 1010, 1029, 1030, 1031, 1032, 1033, 1034, 1035, 1036, 1037, 1038, 1039] rfl gw_wsX10_missed
set_option maxRecDepth 20000 in
theorem gL_law_X10_missed : GoodIn wsL_law (wsV RL 97 RX10 yX10_missed wsX10_missed) := goodIn_app (goodIn_of _ (by decide +kernel)) ggL_law_X10_missed
set_option maxRecDepth 20000 in
theorem gw_wsX11_missed : wsX11_missed.all goodWord = true := by decide +kernel
set_option maxRecDepth 20000 in
theorem ggL_law_X11_missed : GoodIn wsL_law wsX11_missed := goodIn_r _ [786, 104, 216, 217, 218, 5, 219, 158, 159, 160, 161, 151, 152, 153, 639, 640, 641, 642, 186, 187, 188, 189, 154, 155, 156, 157, 107, 190, 191, 192, 193, 1011, 1012, 1013, 1014, 1015, 1016, 1017, 1018, 1019, 1020, 1021, 1022, 1023, 1024, 1025, 1026, 1027, 1028] rfl gw_wsX11_missed
set_option maxRecDepth 20000 in
theorem gL_law_X11_missed : GoodIn wsL_law (wsV RL 101 RX11 yX11_missed wsX11_missed) := goodIn_app (goodIn_of _ (by decide +kernel)) ggL_law_X11_missed
set_option maxRecDepth 20000 in
theorem gw_wsX10_clouds : wsX10_clouds.all goodWord = true := by decide +kernel
set_option maxRecDepth 20000 in
theorem ggL_law_X10_clouds : GoodIn wsL_law wsX10_clouds := goodIn_r _ [790, 34, 791, 792, 793, 33, 794, 138, 78, 80, 73, 373, 374, 375, 376, 377, 26, 378, 379, 380, 381, 382, 383, 384, 385, 386, 17, 387, 388, 389, 390, 14, 391, 392, 393, 394, 29, 395, 396, 397, 398, 399, 20, 400, 401, 402, 403, 404, 405, 406, 23, 407, 408, 409, 410, 411, 412, 413, 414, 999, 1000, 1001, 1002, 1003, 1004, 1005, 1006, 1007, 1008, 1009, 1010, 1029, 1030, 1031, 1032, 1033, 1034, 1035, 1036, 1037, 1038, 1039] rfl gw_wsX10_clouds
set_option maxRecDepth 20000 in
theorem gL_law_X10_clouds : GoodIn wsL_law (wsV RL 102 RX10 yX10_clouds wsX10_clouds) := goodIn_app (goodIn_of _ (by decide +kernel)) ggL_law_X10_clouds
set_option maxRecDepth 20000 in
theorem gw_wsX11_clouds : wsX11_clouds.all goodWord = true := by decide +kernel
set_option maxRecDepth 20000 in
theorem ggL_law_X11_clouds : GoodIn wsL_law wsX11_clouds := goodIn_r _ [798, 104, 480, 481, 5, 482, 483, 484, 485, 486, 487, 488, 1011, 1012, 1013, 1014, 1015, 1016, 1017, 1018, 1019, 1020, 1021, 1022, 1023, 1024, 1025, 1026, 1027, 1028] rfl gw_wsX11_clouds
set_option maxRecDepth 20000 in
theorem gL_law_X11_clouds : GoodIn wsL_law (wsV RL 105 RX11 yX11_clouds wsX11_clouds) := goodIn_app (goodIn_of _ (by decide +kernel)) ggL_law_X11_clouds
set_option maxRecDepth 20000 in
theorem gw_wsX10_note : wsX10_note.all goodWord = true := by decide +kernel
set_option maxRecDepth 20000 in
theorem ggL_law_X10_note : GoodIn wsL_law wsX10_note := goodIn_r _ [802, 34, 803, 202, 203, 204, 33, 205, 135, 125, 2, 126, 124, 166, 167, 168, 169, 170, 171, 127, 128, 129, 130, 53, 172, 173, 174, 175, 804, 805, 806, 807, 79, 139, 999, 1000, 1001, 1002, 1003, 1004, 1005, 1006, 1007, 1008, 1009, 1010, 1029, 1030, 1031, 1032, 1033, 1034, 1035, 1036, 1037, 1038, 1039] rfl gw_wsX10_note
set_option maxRecDepth 20000 in
theorem gL_law_X10_note : GoodIn wsL_law (wsV RL 106 RX10 yX10_note wsX10_note) := goodIn_app (goodIn_of _ (by decide +kernel)) ggL_law_X10_note
set_option maxRecDepth 20000 in
theorem gw_wsX11_note : wsX11_note.all goodWord = true := by decide +kernel
set_option maxRecDepth 20000 in
theorem ggL_law_X11_note : GoodIn wsL_law wsX11_note := goodIn_r _ [811, 812, 104, 216, 217, 218, 5, 219, 158, 159, 160, 161, 151, 152, 153, 639, 640, 641, 642, 186, 187, 188, 189, 147, 148, 149, 150, 154, 155, 156, 157, 107, 190, 191, 192, 193, 1011, 1012, 1013, 1014, 1015, 1016, 1017, 1018, 1019, 1020, 1021, 1022, 1023, 1024, 1025, 1026, 1027, 1028] rfl gw_wsX11_note
set_option maxRecDepth 20000 in
theorem gL_law_X11_note : GoodIn wsL_law (wsV RL 110 RX11 yX11_note wsX11_note) := goodIn_app (goodIn_of _ (by decide +kernel)) ggL_law_X11_note
set_option maxRecDepth 20000 in
theorem gw_wsX10_forget : wsX10_forget.all goodWord = true := by decide +kernel
set_option maxRecDepth 20000 in
theorem ggL_law_X10_forget : GoodIn wsL_law wsX10_forget := goodIn_r _ [816, 34, 778, 803, 124, 125, 2, 126, 127, 128, 129, 130, 53, 999, 1000, 1001, 1002, 1003, 1004, 1005, 1006, 1007, 1008, 1009, 1010, 1029, 1030, 1031, 1032, 1033, 1034, 1035, 1036, 1037, 1038, 1039] rfl gw_wsX10_forget
set_option maxRecDepth 20000 in
theorem gL_law_X10_forget : GoodIn wsL_law (wsV RL 111 RX10 yX10_forget wsX10_forget) := goodIn_app (goodIn_of _ (by decide +kernel)) ggL_law_X10_forget
set_option maxRecDepth 20000 in
theorem gw_wsX11_forget : wsX11_forget.all goodWord = true := by decide +kernel
set_option maxRecDepth 20000 in
theorem ggL_law_X11_forget : GoodIn wsL_law wsX11_forget := goodIn_r _ [820, 104, 151, 152, 5, 153, 154, 155, 156, 157, 107, 1011, 1012, 1013, 1014, 1015, 1016, 1017, 1018, 1019, 1020, 1021, 1022, 1023, 1024, 1025, 1026, 1027, 1028] rfl gw_wsX11_forget
set_option maxRecDepth 20000 in
theorem gL_law_X11_forget : GoodIn wsL_law (wsV RL 114 RX11 yX11_forget wsX11_forget) := goodIn_app (goodIn_of _ (by decide +kernel)) ggL_law_X11_forget
set_option maxRecDepth 20000 in
theorem gw_wsX10_is : wsX10_is.all goodWord = true := by decide +kernel
set_option maxRecDepth 20000 in
theorem ggL_law_X10_is : GoodIn wsL_law wsX10_is := goodIn_r _ [824, 34, 202, 203, 204, 33, 205, 135, 125, 2, 126, 127, 128, 129, 130, 53, 825, 826, 827, 828, 80, 829, 830, 831, 832, 139, 79, 373, 374, 375, 376, 377, 26, 378, 379, 380, 381, 382, 383, 384, 385, 386, 17, 387, 388, 389, 390, 14, 391, 392, 393, 394, 29, 395, 396, 397, 398, 399, 20, 400, 401, 402, 403, 404, 405, 406, 23, 407, 408, 409, 410, 411, 412, 413, 414, 999, 1000, 1001, 1002, 1003, 1004, 1005, 1006, 1007, 1008, 1009, 1010, 1029, 1030, 1031, 1032, 1033, 1034, 1035, 1036, 1037, 1038, 1039] rfl gw_wsX10_is
set_option maxRecDepth 20000 in
theorem gL_law_X10_is : GoodIn wsL_law (wsV RL 115 RX10 yX10_is wsX10_is) := goodIn_app (goodIn_of _ (by decide +kernel)) ggL_law_X10_is
set_option maxRecDepth 20000 in
theorem gw_wsX11_is : wsX11_is.all goodWord = true := by decide +kernel
set_option maxRecDepth 20000 in
theorem ggL_law_X11_is : GoodIn wsL_law wsX11_is := goodIn_r _ [836, 216, 217, 218, 5, 219, 158, 159, 160, 161, 104, 151, 152, 153, 837, 838, 839, 840, 480, 481, 482, 483, 484, 485, 486, 487, 488, 154, 155, 156, 157, 107, 1011, 1012, 1013, 1014, 1015, 1016, 1017, 1018, 1019, 1020, 1021, 1022, 1023, 1024, 1025, 1026, 1027, 1028] rfl gw_wsX11_is
set_option maxRecDepth 20000 in
theorem gL_law_X11_is : GoodIn wsL_law (wsV RL 118 RX11 yX11_is wsX11_is) := goodIn_app (goodIn_of _ (by decide +kernel)) ggL_law_X11_is
set_option maxRecDepth 20000 in
theorem gw_wsX10_look : wsX10_look.all goodWord = true := by decide +kernel
set_option maxRecDepth 20000 in
theorem ggL_law_X10_look : GoodIn wsL_law wsX10_look := goodIn_r _ [844, 34, 258, 603, 202, 203, 204, 33, 205, 135, 125, 2, 126, 127, 128, 129, 130, 53, 825, 826, 827, 828, 80, 829, 830, 831, 832, 139, 79, 373, 374, 375, 376, 377, 26, 378, 379, 380, 381, 382, 383, 384, 385, 386, 17, 387, 388, 389, 390, 14, 391, 392, 393, 394, 29, 395, 396, 397, 398, 399, 20, 400, 401, 402, 403, 404, 405, 406, 23, 407, 408, 409, 410, 411, 412, 413, 414, 845, 846, 847, 848, 30, 687, 849, 850, 999, 1000, 1001, 1002, 1003, 1004, 1005, 1006, 1007, 1008, 1009, 1010, 1029, 1030, 1031, 1032, 1033, 1034, 1035, 1036, 1037, 1038, 1039, 1052, 1053, 1054, 1055, 1056, 1057] rfl gw_wsX10_look
set_option maxRecDepth 20000 in
theorem gL_law_X10_look : GoodIn wsL_law (wsV RL 119 RX10 yX10_look wsX10_look) := goodIn_app (goodIn_of _ (by decide +kernel)) ggL_law_X10_look
set_option maxRecDepth 20000 in
theorem gw_wsX11_look : wsX11_look.all goodWord = true := by decide +kernel
set_option maxRecDepth 20000 in
theorem ggL_law_X11_look : GoodIn wsL_law wsX11_look := goodIn_r _ [854, 730, 104, 216, 217, 218, 5, 219, 158, 159, 160, 161, 151, 152, 153, 154, 155, 156, 157, 107, 837, 838, 839, 840, 480, 481, 482, 483, 484, 485, 486, 487, 488, 768, 769, 770, 1011, 1012, 1013, 1014, 1015, 1016, 1017, 1018, 1019, 1020, 1021, 1022, 1023, 1024, 1025, 1026, 1027, 1028] rfl gw_wsX11_look
set_option maxRecDepth 20000 in
theorem gL_law_X11_look : GoodIn wsL_law (wsV RL 122 RX11 yX11_look wsX11_look) := goodIn_app (goodIn_of _ (by decide +kernel)) ggL_law_X11_look
