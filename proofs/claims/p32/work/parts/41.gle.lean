set_option maxRecDepth 20000 in
theorem ggL_law_X10_part : GoodIn wsL_law wsX10_part := goodIn_r _ [924, 54, 55, 124, 125, 2, 126, 127, 128, 129, 130, 53, 999, 1000, 1001, 1002, 1003, 1004, 1005, 1006, 1007, 1008, 1009, 1010] rfl (by decide +kernel)
set_option maxRecDepth 20000 in
theorem gL_law_X10_part : GoodIn wsL_law (wsV RL 135 RX10 yX10_part wsX10_part) := goodIn_app (goodIn_of _ (by decide +kernel)) ggL_law_X10_part
set_option maxRecDepth 20000 in
theorem ggL_law_X11_part : GoodIn wsL_law wsX11_part := goodIn_r _ [928, 901, 108, 154, 155, 156, 5, 157, 107, 1011, 1012, 1013, 1014, 1015, 1016, 1017, 1018, 1019, 1020, 1021, 1022, 1023, 1024, 1025, 1026, 1027, 1028] rfl (by decide +kernel)
set_option maxRecDepth 20000 in
theorem gL_law_X11_part : GoodIn wsL_law (wsV RL 139 RX11 yX11_part wsX11_part) := goodIn_app (goodIn_of _ (by decide +kernel)) ggL_law_X11_part
set_option maxRecDepth 20000 in
theorem ggL_law_X10_image : GoodIn wsL_law wsX10_image := goodIn_r _ [932, 35, 34, 37, 124, 125, 2, 126, 127, 128, 129, 130, 53, 933, 934, 935, 33, 936, 73, 937, 519, 520, 521, 75, 137, 76, 138, 78, 139, 79, 135, 136, 514, 515, 516, 44, 517, 84, 518, 85, 86, 522, 523, 524, 999, 1000, 1001, 1002, 1003, 1004, 1005, 1006, 1007, 1008, 1009, 1010, 1029, 1030, 1031, 1032, 1033, 1034, 1035, 1036, 1037, 1038, 1039, 1052, 1053, 1054, 1055, 1056, 1057] rfl (by decide +kernel)
set_option maxRecDepth 20000 in
theorem gL_law_X10_image : GoodIn wsL_law (wsV RL 140 RX10 yX10_image wsX10_image) := goodIn_app (goodIn_of _ (by decide +kernel)) ggL_law_X10_image
set_option maxRecDepth 20000 in
theorem ggL_law_X11_image : GoodIn wsL_law wsX11_image := goodIn_r _ [941, 105, 104, 106, 151, 152, 5, 153, 154, 155, 156, 157, 107, 1011, 1012, 1013, 1014, 1015, 1016, 1017, 1018, 1019, 1020, 1021, 1022, 1023, 1024, 1025, 1026, 1027, 1028] rfl (by decide +kernel)
set_option maxRecDepth 20000 in
theorem gL_law_X11_image : GoodIn wsL_law (wsV RL 143 RX11 yX11_image wsX11_image) := goodIn_app (goodIn_of _ (by decide +kernel)) ggL_law_X11_image
set_option maxRecDepth 20000 in
theorem ggL_law_X10_from : GoodIn wsL_law wsX10_from := goodIn_r _ [945, 37, 34, 35, 124, 125, 2, 126, 127, 128, 129, 130, 53, 502, 503, 504, 505, 933, 934, 935, 33, 936, 73, 937, 519, 520, 521, 75, 137, 76, 138, 78, 139, 79, 135, 136, 514, 515, 516, 44, 517, 84, 518, 85, 86, 522, 523, 524, 999, 1000, 1001, 1002, 1003, 1004, 1005, 1006, 1007, 1008, 1009, 1010, 1029, 1030, 1031, 1032, 1033, 1034, 1035, 1036, 1037, 1038, 1039, 1052, 1053, 1054, 1055, 1056, 1057] rfl (by decide +kernel)
set_option maxRecDepth 20000 in
theorem gL_law_X10_from : GoodIn wsL_law (wsV RL 144 RX10 yX10_from wsX10_from) := goodIn_app (goodIn_of _ (by decide +kernel)) ggL_law_X10_from
set_option maxRecDepth 20000 in
theorem ggL_law_X11_from : GoodIn wsL_law wsX11_from := goodIn_r _ [949, 106, 104, 105, 151, 152, 5, 153, 154, 155, 156, 157, 107, 530, 531, 532, 533, 1011, 1012, 1013, 1014, 1015, 1016, 1017, 1018, 1019, 1020, 1021, 1022, 1023, 1024, 1025, 1026, 1027, 1028] rfl (by decide +kernel)
set_option maxRecDepth 20000 in
theorem gL_law_X11_from : GoodIn wsL_law (wsV RL 147 RX11 yX11_from wsX11_from) := goodIn_app (goodIn_of _ (by decide +kernel)) ggL_law_X11_from
set_option maxRecDepth 20000 in
theorem ggL_law_X10_status : GoodIn wsL_law wsX10_status := goodIn_r _ [953, 53, 124, 125, 2, 126, 127, 128, 129, 130, 999, 1000, 1001, 1002, 1003, 1004, 1005, 1006, 1007, 1008, 1009, 1010] rfl (by decide +kernel)
set_option maxRecDepth 20000 in
theorem gL_law_X10_status : GoodIn wsL_law (wsV RL 148 RX10 yX10_status wsX10_status) := goodIn_app (goodIn_of _ (by decide +kernel)) ggL_law_X10_status
set_option maxRecDepth 20000 in
theorem ggL_law_X11_status : GoodIn wsL_law wsX11_status := goodIn_r _ [957, 612, 107, 151, 152, 5, 153, 154, 155, 156, 157, 1011, 1012, 1013, 1014, 1015, 1016, 1017, 1018, 1019, 1020, 1021, 1022, 1023, 1024, 1025, 1026, 1027, 1028] rfl (by decide +kernel)
set_option maxRecDepth 20000 in
theorem gL_law_X11_status : GoodIn wsL_law (wsV RL 151 RX11 yX11_status wsX11_status) := goodIn_app (goodIn_of _ (by decide +kernel)) ggL_law_X11_status
set_option maxRecDepth 20000 in
theorem ggL_law_X10_count : GoodIn wsL_law wsX10_count := goodIn_r _ [961, 124, 125, 2, 126, 127, 128, 129, 130, 53, 962, 963, 964, 965, 34, 123, 201, 258, 501, 580, 542, 778, 803, 589, 41, 231, 999, 1000, 1001, 1002, 1003, 1004, 1005, 1006, 1007, 1008, 1009, 1010, 1029, 1030, 1031, 1032, 1033, 1034, 1035, 1036, 1037, 1038, 1039, 1052, 1053, 1054, 1055, 1056, 1057, 1040, 1041, 1042, 1043, 1044, 1045, 1046, 1047, 1048, 1049, 1050, 1051] rfl (by decide +kernel)
set_option maxRecDepth 20000 in
theorem gL_law_X10_count : GoodIn wsL_law (wsV RL 152 RX10 yX10_count wsX10_count) := goodIn_app (goodIn_of _ (by decide +kernel)) ggL_law_X10_count
set_option maxRecDepth 20000 in
theorem ggL_law_X11_count : GoodIn wsL_law wsX11_count := goodIn_r _ [969, 970, 151, 152, 5, 153, 971, 972, 973, 974, 104, 242, 158, 159, 160, 161, 220, 221, 222, 223, 154, 155, 156, 157, 107, 1011, 1012, 1013, 1014, 1015, 1016, 1017, 1018, 1019, 1020, 1021, 1022, 1023, 1024, 1025, 1026, 1027, 1028] rfl (by decide +kernel)
set_option maxRecDepth 20000 in
theorem gL_law_X11_count : GoodIn wsL_law (wsV RL 155 RX11 yX11_count wsX11_count) := goodIn_app (goodIn_of _ (by decide +kernel)) ggL_law_X11_count
set_option maxRecDepth 20000 in
theorem ggL_law_X10_digest : GoodIn wsL_law wsX10_digest := goodIn_r _ [978, 979, 34, 123, 602, 258, 603, 201, 563, 621, 778, 980, 803, 981, 54, 55, 962, 963, 964, 2, 965, 501, 580, 542, 589, 41, 231, 982, 983, 984, 985, 986, 987, 988, 999, 1000, 1001, 1002, 1003, 1004, 1005, 1006, 1007, 1008, 1009, 1010, 1029, 1030, 1031, 1032, 1033, 1034, 1035, 1036, 1037, 1038, 1039, 1052, 1053, 1054, 1055, 1056, 1057, 1040, 1041, 1042, 1043, 1044, 1045, 1046, 1047, 1048, 1049, 1050, 1051] rfl (by decide +kernel)
set_option maxRecDepth 20000 in
theorem gL_law_X10_digest : GoodIn wsL_law (wsV RL 156 RX10 yX10_digest wsX10_digest) := goodIn_app (goodIn_of _ (by decide +kernel)) ggL_law_X10_digest
set_option maxRecDepth 20000 in
theorem ggL_law_X11_digest : GoodIn wsL_law wsX11_digest := goodIn_r _ [992, 993, 994, 104, 901, 108, 971, 972, 973, 5, 974, 242, 158, 159, 160, 161, 220, 221, 222, 223, 995, 996, 997, 998, 1011, 1012, 1013, 1014, 1015, 1016, 1017, 1018, 1019, 1020, 1021, 1022, 1023, 1024, 1025, 1026, 1027, 1028] rfl (by decide +kernel)
set_option maxRecDepth 20000 in
theorem gL_law_X11_digest : GoodIn wsL_law (wsV RL 160 RX11 yX11_digest wsX11_digest) := goodIn_app (goodIn_of _ (by decide +kernel)) ggL_law_X11_digest
