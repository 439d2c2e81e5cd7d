set_option maxRecDepth 20000 in
theorem ggL_law_X11_clouds : GoodIn wsL_law wsX11_clouds := goodIn_r _ [798, 104, 480, 481, 5, 482, 483, 484, 485, 486, 487, 488, 1011, 1012, 1013, 1014, 1015, 1016, 1017, 1018, 1019, 1020, 1021, 1022, 1023, 1024, 1025, 1026, 1027, 1028] rfl (by decide +kernel)
set_option maxRecDepth 20000 in
theorem gL_law_X11_clouds : GoodIn wsL_law (wsV RL 105 RX11 yX11_clouds wsX11_clouds) := goodIn_app (goodIn_of _ (by decide +kernel)) ggL_law_X11_clouds
set_option maxRecDepth 20000 in
theorem ggL_law_X10_note : GoodIn wsL_law wsX10_note := goodIn_r _ [802, 34, 803, 202, 203, 204, 33, 205, 135, 125, 2, 126, 124, 166, 167, 168, 169, 170, 171, 127, 128, 129, 130, 53, 172, 173, 174, 175, 804, 805, 806, 807, 79, 139, 999, 1000, 1001, 1002, 1003, 1004, 1005, 1006, 1007, 1008, 1009, 1010, 1029, 1030, 1031, 1032, 1033, 1034, 1035, 1036, 1037, 1038, 1039] rfl (by decide +kernel)
set_option maxRecDepth 20000 in
theorem gL_law_X10_note : GoodIn wsL_law (wsV RL 106 RX10 yX10_note wsX10_note) := goodIn_app (goodIn_of _ (by decide +kernel)) ggL_law_X10_note
set_option maxRecDepth 20000 in
theorem ggL_law_X11_note : GoodIn wsL_law wsX11_note := goodIn_r _ [811, 812, 104, 216, 217, 218, 5, 219, 158, 159, 160, 161, 151, 152, 153, 639, 640, 641, 642, 186, 187, 188, 189, 147, 148, 149, 150, 154, 155, 156, 157, 107, 190, 191, 192, 193, 1011, 1012, 1013, 1014, 1015, 1016, 1017, 1018, 1019, 1020, 1021, 1022, 1023, 1024, 1025, 1026, 1027, 1028] rfl (by decide +kernel)
set_option maxRecDepth 20000 in
theorem gL_law_X11_note : GoodIn wsL_law (wsV RL 110 RX11 yX11_note wsX11_note) := goodIn_app (goodIn_of _ (by decide +kernel)) ggL_law_X11_note
set_option maxRecDepth 20000 in
theorem ggL_law_X10_forget : GoodIn wsL_law wsX10_forget := goodIn_r _ [816, 34, 778, 803, 124, 125, 2, 126, 127, 128, 129, 130, 53, 999, 1000, 1001, 1002, 1003, 1004, 1005, 1006, 1007, 1008, 1009, 1010, 1029, 1030, 1031, 1032, 1033, 1034, 1035, 1036, 1037, 1038, 1039] rfl (by decide +kernel)
set_option maxRecDepth 20000 in
theorem gL_law_X10_forget : GoodIn wsL_law (wsV RL 111 RX10 yX10_forget wsX10_forget) := goodIn_app (goodIn_of _ (by decide +kernel)) ggL_law_X10_forget
set_option maxRecDepth 20000 in
theorem ggL_law_X11_forget : GoodIn wsL_law wsX11_forget := goodIn_r _ [820, 104, 151, 152, 5, 153, 154, 155, 156, 157, 107, 1011, 1012, 1013, 1014, 1015, 1016, 1017, 1018, 1019, 1020, 1021, 1022, 1023, 1024, 1025, 1026, 1027, 1028] rfl (by decide +kernel)
set_option maxRecDepth 20000 in
theorem gL_law_X11_forget : GoodIn wsL_law (wsV RL 114 RX11 yX11_forget wsX11_forget) := goodIn_app (goodIn_of _ (by decide +kernel)) ggL_law_X11_forget
set_option maxRecDepth 20000 in
theorem ggL_law_X10_is : GoodIn wsL_law wsX10_is := goodIn_r _ [824, 34, 202, 203, 204, 33, 205, 135, 125, 2, 126, 127, 128, 129, 130, 53, 825, 826, 827, 828, 80, 829, 830, 831, 832, 139, 79, 373, 374, 375, 376, 377, 26, 378, 379, 380, 381, 382, 383, 384, 385, 386, 17, 387, 388, 389, 390, 14, 391, 392, 393, 394, 29, 395, 396, 397, 398, 399, 20, 400, 401, 402, 403, 404, 405, 406, 23, 407, 408, 409, 410, 411, 412, 413, 414, 999, 1000, 1001, 1002, 1003, 1004, 1005, 1006, 1007, 1008, 1009, 1010, 1029, 1030, 1031, 1032, 1033, 1034, 1035, 1036, 1037, 1038, 1039] rfl (by decide +kernel)
set_option maxRecDepth 20000 in
theorem gL_law_X10_is : GoodIn wsL_law (wsV RL 115 RX10 yX10_is wsX10_is) := goodIn_app (goodIn_of _ (by decide +kernel)) ggL_law_X10_is
set_option maxRecDepth 20000 in
theorem ggL_law_X11_is : GoodIn wsL_law wsX11_is := goodIn_r _ [836, 216, 217, 218, 5, 219, 158, 159, 160, 161, 104, 151, 152, 153, 837, 838, 839, 840, 480, 481, 482, 483, 484, 485, 486, 487, 488, 154, 155, 156, 157, 107, 1011, 1012, 1013, 1014, 1015, 1016, 1017, 1018, 1019, 1020, 1021, 1022, 1023, 1024, 1025, 1026, 1027, 1028] rfl (by decide +kernel)
set_option maxRecDepth 20000 in
theorem gL_law_X11_is : GoodIn wsL_law (wsV RL 118 RX11 yX11_is wsX11_is) := goodIn_app (goodIn_of _ (by decide +kernel)) ggL_law_X11_is
set_option maxRecDepth 20000 in
theorem ggL_law_X10_look : GoodIn wsL_law wsX10_look := goodIn_r _ [844, 34, 258, 603, 202, 203, 204, 33, 205, 135, 125, 2, 126, 127, 128, 129, 130, 53, 825, 826, 827, 828, 80, 829, 830, 831, 832, 139, 79, 373, 374, 375, 376, 377, 26, 378, 379, 380, 381, 382, 383, 384, 385, 386, 17, 387, 388, 389, 390, 14, 391, 392, 393, 394, 29, 395, 396, 397, 398, 399, 20, 400, 401, 402, 403, 404, 405, 406, 23, 407, 408, 409, 410, 411, 412, 413, 414, 845, 846, 847, 848, 30, 687, 849, 850, 999, 1000, 1001, 1002, 1003, 1004, 1005, 1006, 1007, 1008, 1009, 1010, 1029, 1030, 1031, 1032, 1033, 1034, 1035, 1036, 1037, 1038, 1039, 1052, 1053, 1054, 1055, 1056, 1057] rfl (by decide +kernel)
set_option maxRecDepth 20000 in
theorem gL_law_X10_look : GoodIn wsL_law (wsV RL 119 RX10 yX10_look wsX10_look) := goodIn_app (goodIn_of _ (by decide +kernel)) ggL_law_X10_look
set_option maxRecDepth 20000 in
theorem ggL_law_X11_look : GoodIn wsL_law wsX11_look := goodIn_r _ [854, 730, 104, 216, 217, 218, 5, 219, 158, 159, 160, 161, 151, 152, 153, 154, 155, 156, 157, 107, 837, 838, 839, 840, 480, 481, 482, 483, 484, 485, 486, 487, 488, 768, 769, 770, 1011, 1012, 1013, 1014, 1015, 1016, 1017, 1018, 1019, 1020, 1021, 1022, 1023, 1024, 1025, 1026, 1027, 1028] rfl (by decide +kernel)
set_option maxRecDepth 20000 in
theorem gL_law_X11_look : GoodIn wsL_law (wsV RL 122 RX11 yX11_look wsX11_look) := goodIn_app (goodIn_of _ (by decide +kernel)) ggL_law_X11_look
set_option maxRecDepth 20000 in
theorem ggL_law_X10_two : GoodIn wsL_law wsX10_two := goodIn_r _ [858, 34, 258, 501, 123, 563, 564, 565, 566, 33, 567, 136, 125, 2, 126, 663, 664, 665, 666, 53, 704, 705, 706, 707, 51, 634, 370, 371, 372, 80, 73, 180, 141, 373, 374, 375, 376, 377, 26, 378, 379, 380, 381, 382, 383, 384, 385, 386, 17, 387, 388, 389, 390, 14, 391, 392, 393, 394, 29, 395, 396, 397, 398, 399, 20, 400, 401, 402, 403, 404, 405, 406, 23, 407, 408, 409, 410, 411, 412, 413, 414, 859, 860, 861, 862, 863, 864, 865, 866, 867, 868, 869, 999, 1000, 1001, 1002, 1003, 1004, 1005, 1006, 1007, 1008, 1009, 1010, 1029, 1030, 1031, 1032, 1033, 1034, 1035, 1036, 1037, 1038, 1039, 1052, 1053, 1054, 1055, 1056, 1057] rfl (by decide +kernel)
set_option maxRecDepth 20000 in
theorem gL_law_X10_two : GoodIn wsL_law (wsV RL 123 RX10 yX10_two wsX10_two) := goodIn_app (goodIn_of _ (by decide +kernel)) ggL_law_X10_two
set_option maxRecDepth 20000 in
theorem ggL_law_X11_two : GoodIn wsL_law wsX11_two := goodIn_r _ [873, 572, 573, 574, 5, 575, 220, 221, 222, 223, 104, 151, 152, 153, 154, 155, 156, 157, 107, 158, 159, 160, 161, 874, 875, 876, 877, 878, 879, 880, 881, 477, 478, 479, 480, 481, 482, 483, 484, 485, 486, 487, 488, 882, 883, 884, 1011, 1012, 1013, 1014, 1015, 1016, 1017, 1018, 1019, 1020, 1021, 1022, 1023, 1024, 1025, 1026, 1027, 1028] rfl (by decide +kernel)
set_option maxRecDepth 20000 in
theorem gL_law_X11_two : GoodIn wsL_law (wsV RL 126 RX11 yX11_two wsX11_two) := goodIn_app (goodIn_of _ (by decide +kernel)) ggL_law_X11_two
set_option maxRecDepth 20000 in
theorem ggL_law_X10_rains : GoodIn wsL_law wsX10_rains := goodIn_r _ [888, 34, 258, 501, 45, 580, 647, 409, 381, 410, 54, 55, 202, 203, 204, 33, 205, 135, 125, 2, 126, 169, 170, 171, 127, 128, 129, 130, 53, 634, 370, 371, 372, 80, 73, 180, 141, 373, 374, 375, 376, 377, 26, 378, 379, 380, 382, 383, 384, 385, 386, 17, 387, 388, 389, 390, 14, 391, 392, 393, 394, 29, 395, 396, 397, 398, 399, 20, 400, 401, 402, 403, 404, 405, 406, 23, 407, 408, 411, 412, 413, 414, 648, 515, 516, 44, 517, 84, 518, 519, 520, 521, 85, 86, 522, 523, 524, 889, 890, 891, 999, 1000, 1001, 1002, 1003, 1004, 1005, 1006, 1007, 1008, 1009, 1010, 1029, 1030, 1031, 1032, 1033, 1034, 1035, 1036, 1037, 1038, 1039, 1052, 1053, 1054, 1055, 1056, 1057] rfl (by decide +kernel)
set_option maxRecDepth 20000 in
theorem gL_law_X10_rains : GoodIn wsL_law (wsV RL 127 RX10 yX10_rains wsX10_rains) := goodIn_app (goodIn_of _ (by decide +kernel)) ggL_law_X10_rains
set_option maxRecDepth 20000 in
theorem ggL_law_X11_rains : GoodIn wsL_law wsX11_rains := goodIn_r _ [895, 896, 109, 104, 216, 217, 218, 5, 219, 158, 159, 160, 161, 151, 152, 153, 154, 155, 156, 157, 107, 653, 654, 655, 656, 477, 478, 479, 480, 481, 482, 483, 484, 485, 486, 487, 488, 897, 898, 899, 900, 901, 108, 1011, 1012, 1013, 1014, 1015, 1016, 1017, 1018, 1019, 1020, 1021, 1022, 1023, 1024, 1025, 1026, 1027, 1028] rfl (by decide +kernel)
set_option maxRecDepth 20000 in
theorem gL_law_X11_rains : GoodIn wsL_law (wsV RL 130 RX11 yX11_rains wsX11_rains) := goodIn_app (goodIn_of _ (by decide +kernel)) ggL_law_X11_rains
set_option maxRecDepth 20000 in
theorem ggL_law_X10_summers : GoodIn wsL_law wsX10_summers := goodIn_r _ [905, 906, 45, 34, 258, 907, 908, 909, 501, 910, 911, 580, 124, 125, 2, 126, 169, 170, 171, 127, 128, 129, 130, 53, 648, 515, 516, 44, 517, 84, 518, 519, 520, 521, 85, 86, 522, 523, 524, 543, 544, 545, 33, 546, 136, 211, 135, 180, 419, 409, 381, 410, 142, 140, 547, 548, 357, 358, 359, 360, 361, 362, 363, 364, 365, 366, 367, 368, 210, 369, 370, 371, 372, 80, 73, 141, 373, 374, 375, 376, 377, 26, 378, 379, 380, 382, 383, 384, 385, 386, 17, 387, 388, 389, 390, 14, 391, 392, 393, 394, 29, 395, 396, 397, 398, 399, 20, 400, 401, 402, 403, 404, 405, 406, 23, 407, 408, 411, 412, 413, 414, 415, 416, 417, 418, 420, 999, 1000, 1001, 1002, 1003, 1004, 1005, 1006, 1007, 1008, 1009, 1010, 1029, 1030, 1031, 1032, 1033, 1034, 1035, 1036, 1037, 1038, 1039, 1052, 1053, 1054, 1055, 1056, 1057] rfl (by decide +kernel)
set_option maxRecDepth 20000 in
theorem gL_law_X10_summers : GoodIn wsL_law (wsV RL 131 RX10 yX10_summers wsX10_summers) := goodIn_app (goodIn_of _ (by decide +kernel)) ggL_law_X10_summers
set_option maxRecDepth 20000 in
theorem ggL_law_X11_summers : GoodIn wsL_law wsX11_summers := goodIn_r _ [915, 916, 189, 917, 918, 919, 109, 920, 896, 151, 152, 5, 153, 154, 155, 156, 157, 107, 653, 654, 655, 656, 104, 553, 554, 555, 556, 557, 558, 471, 472, 473, 474, 475, 476, 477, 478, 479, 480, 481, 482, 483, 484, 485, 486, 487, 488, 1011, 1012, 1013, 1014, 1015, 1016, 1017, 1018, 1019, 1020, 1021, 1022, 1023, 1024, 1025, 1026, 1027, 1028] rfl (by decide +kernel)
set_option maxRecDepth 20000 in
theorem gL_law_X11_summers : GoodIn wsL_law (wsV RL 134 RX11 yX11_summers wsX11_summers) := goodIn_app (goodIn_of _ (by decide +kernel)) ggL_law_X11_summers
