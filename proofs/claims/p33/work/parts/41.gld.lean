set_option maxRecDepth 20000 in
theorem gw_wsX10_two : wsX10_two.all goodWord = true := by decide +kernel
set_option maxRecDepth 20000 in
theorem ggL_law_X10_two : GoodIn wsL_law wsX10_two := goodIn_r _ [858, 34, 258, 501, 123, 563, 564, 565, 566, 33, 567, 136, 125, 2, 126, 663, 664, 665, 666, 53, 704, 705, 706, 707, 51, 634, 370, 371, 372, 80, 73, 180, 141, 373, 374, 375, 376, 377, 26, 378, 379, 380, 381, 382, 383, 384, 385, 386, 17, 387, 388, 389, 390, 14, 391, 392, 393, 394, 29, 395, 396, 397, 398, 399, 20, 400, 401, 402, 403, 404, 405, 406, 23, 407, 408, 409, 410, 411, 412, 413, 414, 859, 860, 861, 862, 863, 864, 865, 866, 867, 868, 869, 999, 1000, 1001, 1002, 1003, 1004, 1005, 1006, 1007, 1008, 1009, 1010, 1029, 1030, 1031, 1032, 1033, 1034, 1035, 1036, 1037, 1038, 1039, 1052, 1053, 1054, 1055, 1056, 1057] rfl gw_wsX10_two
set_option maxRecDepth 20000 in
theorem gL_law_X10_two : GoodIn wsL_law (wsV RL 123 RX10 yX10_two wsX10_two) := goodIn_app (goodIn_of _ (by decide +kernel)) ggL_law_X10_two
set_option maxRecDepth 20000 in
theorem gw_wsX11_two : wsX11_two.all goodWord = true := by decide +kernel
set_option maxRecDepth 20000 in
theorem ggL_law_X11_two : GoodIn wsL_law wsX11_two := goodIn_r _ [873, 572, 573, 574, 5, 575, 220, 221, 222, 223, 104, 151, 152, 153, 154, 155, 156, 157, 107, 158, 159, 160, 161, 874, 875, 876, 877, 878, 879, 880, 881, 477, 478, 479, 480, 481, 482, 483, 484, 485, 486, 487, 488, 882, 883, 884, 1011, 1012, 1013, 1014, 1015, 1016, 1017, 1018, 1019, 1020, 1021, 1022, 1023, 1024, 1025, 1026, 1027, 1028] rfl gw_wsX11_two
set_option maxRecDepth 20000 in
theorem gL_law_X11_two : GoodIn wsL_law (wsV RL 126 RX11 yX11_two wsX11_two) := goodIn_app (goodIn_of _ (by decide +kernel)) ggL_law_X11_two
set_option maxRecDepth 20000 in
theorem gw_wsX10_rains : wsX10_rains.all goodWord = true := by decide +kernel
set_option maxRecDepth 20000 in
theorem ggL_law_X10_rains : GoodIn wsL_law wsX10_rains := goodIn_r _ [888, 34, 258, 501, 45, 580, 647, 409, 381, 410, 54, 55, 202, 203, 204, 33, 205, 135, 125, 2, 126, 169, 170, 171, 127, 128, 129, 130, 53, 634, 370, 371, 372, 80, 73, 180, 141, 373, 374, 375, 376, 377, 26, 378, 379, 380, 382, 383, 384, 385, 386, 17, 387, 388, 389, 390, 14, 391, 392, 393, 394, 29, 395, 396, 397, 398, 399, 20, 400, 401, 402, 403, 404, 405, 406, 23, 407, 408, 411, 412, 413, 414, 648, 515, 516, 44, 517, 84, 518, 519, 520, 521, 85, 86, 522, 523, 524, 889, 890, 891, 999, 1000, 1001, 1002, 1003, 1004, 1005, 1006, 1007, 1008, 1009, 1010, 1029, 1030, 1031, 1032, 1033, 1034, 1035, 1036, 1037, 1038, 1039, 1052, 1053, 1054, 1055, 1056, 1057] rfl gw_wsX10_rains
set_option maxRecDepth 20000 in
theorem gL_law_X10_rains : GoodIn wsL_law (wsV RL 127 RX10 yX10_rains wsX10_rains) := goodIn_app (goodIn_of _ (by decide +kernel)) ggL_law_X10_rains
set_option maxRecDepth 20000 in
theorem gw_wsX11_rains : wsX11_rains.all goodWord = true := by decide +kernel
set_option maxRecDepth 20000 in
theorem ggL_law_X11_rains : GoodIn wsL_law wsX11_rains := goodIn_r _ [895, 896, 109, 104, 216, 217, 218, 5, 219, 158, 159, 160, 161, 151, 152, 153, 154, 155, 156, 157, 107, 653, 654, 655, 656, 477, 478, 479, 480, 481, 482, 483, 484, 485, 486, 487, 488, 897, 898, 899, 900, 901, 108, 1011, 1012, 1013, 1014, 1015, 1016, 1017, 1018, 1019, 1020, 1021, 1022, 1023, 1024, 1025, 1026, 1027, 1028] rfl gw_wsX11_rains
set_option maxRecDepth 20000 in
theorem gL_law_X11_rains : GoodIn wsL_law (wsV RL 130 RX11 yX11_rains wsX11_rains) := goodIn_app (goodIn_of _ (by decide +kernel)) ggL_law_X11_rains
set_option maxRecDepth 20000 in
theorem gw_wsX10_summers : wsX10_summers.all goodWord = true := by decide +kernel
set_option maxRecDepth 20000 in
theorem ggL_law_X10_summers : GoodIn wsL_law wsX10_summers := goodIn_r _ [905, 906, 45, 34, 258, 907, 908, 909, 501, 910, 911, 580, 124, 125, 2, 126, 169, 170, 171, 127, 128, 129, 130, 53, 648, 515, 516, 44, 517, 84, 518, 519, 520, 521, 85, 86, 522, 523, 524, 543, 544, 545, 33, 546, 136, 211, 135, 180, 419, 409, 381, 410, 142, 140, 547, 548, 357, 358, 359, 360, 361, 362, 363, 364, 365, 366, 367, 368, 210, 369, 370, 371, 372, 80, 73, 141, 373, 374, 375, 376, 377, 26, 378, 379, 380, 382, 383, 384, 385, 386, 17, 387, 388, 389, 390, 14, 391, 392, 393, 394, 29, 395, 396, 397, 398, 399, 20, 400, 401, 402, 403, 404, 405, 406, 23, 407, 408, 411, 412, 413, 414, 415, 416, 417, 418, 420, 999, 1000, 1001, 1002, 1003, 1004, 1005, 1006, 1007, 1008, 1009, 1010, 1029, 1030, 1031, 1032, 1033, 1034, 1035, 1036, 1037, 1038, 1039, 1052, 1053, 1054, 1055, 1056, 1057] rfl gw_wsX10_summers
set_option maxRecDepth 20000 in
theorem gL_law_X10_summers : GoodIn wsL_law (wsV RL 131 RX10 yX10_summers wsX10_summers) := goodIn_app (goodIn_of _ (by decide +kernel)) ggL_law_X10_summers
set_option maxRecDepth 20000 in
theorem gw_wsX11_summers : wsX11_summers.all goodWord = true := by decide +kernel
set_option maxRecDepth 20000 in
theorem ggL_law_X11_summers : GoodIn wsL_law wsX11_summers := goodIn_r _ [915, 916, 189, 917, 918, 919, 109, 920, 896, 151, 152, 5, 153, 154, 155, 156, 157, 107, 653, 654, 655, 656, 104, 553, 554, 555, 556, 557, 558, 471, 472, 473, 474, 475, 476, 477, 478, 479, 480, 481, 482, 483, 484, 485, 486, 487, 488, 1011, 1012, 1013, 1014, 1015, 1016, 1017, 1018, 1019, 1020, 1021, 1022, 1023, 1024, 1025, 1026, 1027, 1028] rfl gw_wsX11_summers
set_option maxRecDepth 20000 in
theorem gL_law_X11_summers : GoodIn wsL_law (wsV RL 134 RX11 yX11_summers wsX11_summers) := goodIn_app (goodIn_of _ (by decide +kernel)) ggL_law_X11_summers
set_option maxRecDepth 20000 in
theorem gw_wsX10_part : wsX10_part.all goodWord = true := by decide +kernel
set_option maxRecDepth 20000 in
theorem ggL_law_X10_part : GoodIn wsL_law wsX10_part := goodIn_r _ [924, 54, 55, 124, 125, 2, 126, 127, 128, 129, 130, 53, 999, 1000, 1001, 1002, 1003, 1004, 1005, 1006, 1007, 1008, 1009, 1010] rfl gw_wsX10_part
set_option maxRecDepth 20000 in
theorem gL_law_X10_part : GoodIn wsL_law (wsV RL 135 RX10 yX10_part wsX10_part) := goodIn_app (goodIn_of _ (by decide +kernel)) ggL_law_X10_part
set_option maxRecDepth 20000 in
theorem gw_wsX11_part : wsX11_part.all goodWord = true := by decide +kernel
set_option maxRecDepth 20000 in
theorem ggL_law_X11_part : GoodIn wsL_law wsX11_part := goodIn_r _ [928, 901, 108, 154, 155, 156, 5, 157, 107, 1011, 1012, 1013, 1014, 1015, 1016, 1017, 1018, 1019, 1020, 1021, 1022, 1023, 1024, 1025, 1026, 1027, 1028] rfl gw_wsX11_part
set_option maxRecDepth 20000 in
theorem gL_law_X11_part : GoodIn wsL_law (wsV RL 139 RX11 yX11_part wsX11_part) := goodIn_app (goodIn_of _ (by decide +kernel)) ggL_law_X11_part
set_option maxRecDepth 20000 in
theorem gw_wsX10_image : wsX10_image.all goodWord = true := by decide +kernel
set_option maxRecDepth 20000 in
theorem ggL_law_X10_image : GoodIn wsL_law wsX10_image := goodIn_r _ [932, 35, 34, 37, 124, 125, 2, 126, 127, 128, 129, 130, 53, 933, 934, 935, 33, 936, 73, 937, 519, 520, 521, 75, 137, 76, 138, 78, 139, 79, 135, 136, 514, 515, 516, 44, 517, 84, 518, 85, 86, 522, 523, 524, 999, 1000, 1001, 1002, 1003, 1004, 1005, 1006, 1007, 1008, 1009, 1010, 1029, 1030, 1031, 1032, 1033, 1034, 1035, 1036, 1037, 1038, 1039, 1052, 1053, 1054, 1055, 1056, 1057] rfl gw_wsX10_image
set_option maxRecDepth 20000 in
theorem gL_law_X10_image : GoodIn wsL_law (wsV RL 140 RX10 yX10_image wsX10_image) := goodIn_app (goodIn_of _ (by decide +kernel)) ggL_law_X10_image
set_option maxRecDepth 20000 in
theorem gw_wsX11_image : wsX11_image.all goodWord = true := by decide +kernel
set_option maxRecDepth 20000 in
theorem ggL_law_X11_image : GoodIn wsL_law wsX11_image := goodIn_r _ [941, 105, 104, 106, 151, 152, 5, 153, 154, 155, 156, 157, 107, 1011, 1012, 1013, 1014, 1015, 1016, 1017, 1018, 1019, 1020, 1021, 1022, 1023, 1024, 1025, 1026, 1027, 1028] rfl gw_wsX11_image
set_option maxRecDepth 20000 in
theorem gL_law_X11_image : GoodIn wsL_law (wsV RL 143 RX11 yX11_image wsX11_image) := goodIn_app (goodIn_of _ (by decide +kernel)) ggL_law_X11_image
set_option maxRecDepth 20000 in
theorem gw_wsX10_from : wsX10_from.all goodWord = true := by decide +kernel
set_option maxRecDepth 20000 in
theorem ggL_law_X10_from : GoodIn wsL_law wsX10_from := goodIn_r _ [945, 37, 34, 35, 124, 125, 2, 126, 127, 128, 129, 130, 53, 502, 503, 504, 505, 933, 934, 935, 33, 936, 73, 937, 519, 520, 521, 75, 137, 76, 138, 78, 139, 79, 135, 136, 514, 515, 516, 44, 517, 84, 518, 85, 86, 522, 523, 524, 999, 1000, 1001, 1002, 1003, 1004, 1005, 1006, 1007, 1008, 1009, 1010, 1029, 1030, 1031, 1032, 1033, 1034, 1035, 1036, 1037, 1038, 1039, 1052, 1053, 1054, 1055, 1056, 1057] rfl gw_wsX10_from
set_option maxRecDepth 20000 in
theorem gL_law_X10_from : GoodIn wsL_law (wsV RL 144 RX10 yX10_from wsX10_from) := goodIn_app (goodIn_of _ (by decide +kernel)) ggL_law_X10_from
set_option maxRecDepth 20000 in
theorem gw_wsX11_from : wsX11_from.all goodWord = true := by decide +kernel
set_option maxRecDepth 20000 in
theorem ggL_law_X11_from : GoodIn wsL_law wsX11_from := goodIn_r _ [949, 106, 104, 105, 151, 152, 5, 153, 154, 155, 156, 157, 107, 530, 531, 532, 533, 1011, 1012, 1013, 1014, 1015, 1016, 1017, 1018, 1019, 1020, 1021, 1022, 1023, 1024, 1025, 1026, 1027, 1028] rfl gw_wsX11_from
set_option maxRecDepth 20000 in
theorem gL_law_X11_from : GoodIn wsL_law (wsV RL 147 RX11 yX11_from wsX11_from) := goodIn_app (goodIn_of _ (by decide +kernel)) ggL_law_X11_from
set_option maxRecDepth 20000 in
theorem gw_wsX10_status : wsX10_status.all goodWord = true := by decide +kernel
set_option maxRecDepth 20000 in
theorem ggL_law_X10_status : GoodIn wsL_law wsX10_status := goodIn_r _ [953, 53, 124, 125, 2, 126, 127, 128, 129, 130, 999, 1000, 1001, 1002, 1003, 1004, 1005, 1006, 1007, 1008, 1009, 1010] rfl gw_wsX10_status
set_option maxRecDepth 20000 in
theorem gL_law_X10_status : GoodIn wsL_law (wsV RL 148 RX10 yX10_status wsX10_status) := goodIn_app (goodIn_of _ (by decide +kernel)) ggL_law_X10_status
set_option maxRecDepth 20000 in
theorem gw_wsX11_status : wsX11_status.all goodWord = true := by decide +kernel
set_option maxRecDepth 20000 in
theorem ggL_law_X11_status : GoodIn wsL_law wsX11_status := goodIn_r _ [957, 612, 107, 151, 152, 5, 153, 154, 155, 156, 157, 1011, 1012, 1013, 1014, 1015, 1016, 1017, 1018, 1019, 1020, 1021, 1022, 1023, 1024, 1025, 1026, 1027, 1028] rfl gw_wsX11_status
set_option maxRecDepth 20000 in
theorem gL_law_X11_status : GoodIn wsL_law (wsV RL 151 RX11 yX11_status wsX11_status) := goodIn_app (goodIn_of _ (by decide +kernel)) ggL_law_X11_status
set_option maxRecDepth 20000 in
theorem gw_wsX10_count : wsX10_count.all goodWord = true := by decide +kernel
set_option maxRecDepth 20000 in
theorem ggL_law_X10_count : GoodIn wsL_law wsX10_count := goodIn_r _ [961, 124, 125, 2, 126, 127, 128, 129, 130, 53, 962, 963, 964, 965, 34, 123, 201, 258, 501, 580, 542, 778, 803, 589, 41, 231, 999, 1000, 1001, 1002, 1003, 1004, 1005, 1006, 1007, 1008, 1009, 1010, 1029, 1030, 1031, 1032, 1033, 1034, 1035, 1036, 1037, 1038, 1039, 1052, 1053, 1054, 1055, 1056, 1057, 1040, 1041, 1042, 1043, 1044, 1045, 1046, 1047, 1048, 1049, 1050, 1051] rfl gw_wsX10_count
set_option maxRecDepth 20000 in
theorem gL_law_X10_count : GoodIn wsL_law (wsV RL 152 RX10 yX10_count wsX10_count) := goodIn_app (goodIn_of _ (by decide +kernel)) ggL_law_X10_count
set_option maxRecDepth 20000 in
theorem gw_wsX11_count : wsX11_count.all goodWord = true := by decide +kernel
set_option maxRecDepth 20000 in
theorem ggL_law_X11_count : GoodIn wsL_law wsX11_count := goodIn_r _ [969, 970, 151, 152, 5, 153, 971, 972, 973, 974, 104, 242, 158, 159, 160, 161, 220, 221, 222, 223, 154, 155, 156, 157, 107, 1011, 1012, 1013, 1014, 1015, 1016, 1017, 1018, 1019, 1020, 1021, 1022, 1023, 1024, 1025, 1026, 1027, 1028] rfl gw_wsX11_count
set_option maxRecDepth 20000 in
theorem gL_law_X11_count : GoodIn wsL_law (wsV RL 155 RX11 yX11_count wsX11_count) := goodIn_app (goodIn_of _ (by decide +kernel)) ggL_law_X11_count
set_option maxRecDepth 20000 in
theorem gw_wsX10_digest : wsX10_digest.all goodWord = true := by decide +kernel
set_option maxRecDepth 20000 in
theorem ggL_law_X10_digest : GoodIn wsL_law wsX10_digest := goodIn_r _ [978, 979, 34, 123, 602, 258, 603, 201, 563, 621, 778, 980, 803, 981, 54, 55, 962, 963, 964, 2, 965, 501, 580, 542, 589, 41, 231, 982, 983, 984, 985, 986, 987, 988, 999, 1000, 1001, 1002, 1003, 1004, 1005, 1006, 1007, 1008, 1009, 1010, 1029, 1030, 1031, 1032, 1033, 1034, 1035, 1036, 1037, 1038, 1039, 1052, 1053, 1054, 1055, 1056, 1057, 1040, 1041, 1042, 1043, 1044, 1045, 1046, 1047, 1048, 1049, 1050, 1051] rfl gw_wsX10_digest
set_option maxRecDepth 20000 in
theorem gL_law_X10_digest : GoodIn wsL_law (wsV RL 156 RX10 yX10_digest wsX10_digest) := goodIn_app (goodIn_of _ (by decide +kernel)) ggL_law_X10_digest
set_option maxRecDepth 20000 in
theorem gw_wsX11_digest : wsX11_digest.all goodWord = true := by decide +kernel
set_option maxRecDepth 20000 in
theorem ggL_law_X11_digest : GoodIn wsL_law wsX11_digest := goodIn_r _ [992, 993, 994, 104, 901, 108, 971, 972, 973, 5, 974, 242, 158, 159, 160, 161, 220, 221, 222, 223, 995, 996, 997, 998, 1011, 1012, 1013, 1014, 1015, 1016, 1017, 1018, 1019, 1020, 1021, 1022, 1023, 1024, 1025, 1026, 1027, 1028] rfl gw_wsX11_digest
set_option maxRecDepth 20000 in
theorem gL_law_X11_digest : GoodIn wsL_law (wsV RL 160 RX11 yX11_digest wsX11_digest) := goodIn_app (goodIn_of _ (by decide +kernel)) ggL_law_X11_digest
