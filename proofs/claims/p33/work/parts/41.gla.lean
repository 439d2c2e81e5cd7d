set_option maxRecDepth 20000 in
theorem gw_wsX10_init : wsX10_init.all goodWord = true := by decide +kernel
set_option maxRecDepth 20000 in
theorem ggL_law_X10_init : GoodIn wsL_law wsX10_init := goodIn_r _ [8, 9, 10, 11, 12, 13, 14, 15, 16, 17, 18, 19, 20, 21, 22, 23, 24, 25, 26, 27, 28, 29, 30, 31, 32, 33, 34, 35, 36, 37, 38, 39, 40, 41, 42, 43, 44, 45, 46, 47, 48, 49, 50, 51, 52, 53, 54, 55, 56, 57, 58, 59, 60, 61, 62, 63, 64, 65, 66, 67, 68, 69, 70, 71, 72, 73, 74, 75, 76, 77, 78, 79, 80, 81, 82, 83, 84, 85, 86, 87, 88, 89, 90, 91, 92, 93, 94, 95, 96, 97, 98, 99, 999, 1000, 1001, 1002, 1003, 1004, 1005, 1006, 1007, 1008, 1009, 1010, 1029, 1030, 1031, 1032, 1033, 1034, 1035, 1036, 1037, 1038, 1039, 1040, 1041, 1042, 1043, 1044, 1045, 1046, 1047, 1048, 1049, 1050, 1051, 1052, 1053, 1054, 1055, 1056, 1057, 1058, 1059, 1060] rfl gw_wsX10_init
set_option maxRecDepth 20000 in
theorem gL_law_X10_init : GoodIn wsL_law (wsX10_init) := ggL_law_X10_init
set_option maxRecDepth 20000 in
theorem gw_wsX11_init : wsX11_init.all goodWord = true := by decide +kernel
set_option maxRecDepth 20000 in
theorem ggL_law_X11_init : GoodIn wsL_law wsX11_init := goodIn_r _ [102, 103, 10, 11, 50, 104, 105, 36, 106, 107, 108, 109, 110, 111, 112, 113, 114, 115, 116, 117, 5, 118, 1011, 1012, 1013, 1014, 1015, 1016, 1017, 1018, 1019, 1020, 1021, 1022, 1023, 1024, 1025, 1026, 1027, 1028] rfl gw_wsX11_init
set_option maxRecDepth 20000 in
theorem gL_law_X11_init : GoodIn wsL_law (wsX11_init) := ggL_law_X11_init
set_option maxRecDepth 20000 in
theorem gw_wsX10_parish : wsX10_parish.all goodWord = true := by decide +kernel
set_option maxRecDepth 20000 in
theorem ggL_law_X10_parish : GoodIn wsL_law wsX10_parish := goodIn_r _ [122, 34, 123, 124, 125, 2, 126, 127, 128, 129, 130, 53, 131, 132, 133, 33, 134, 135, 136, 137, 138, 139, 75, 140, 141, 142, 999, 1000, 1001, 1002, 1003, 1004, 1005, 1006, 1007, 1008, 1009, 1010, 1029, 1030, 1031, 1032, 1033, 1034, 1035, 1036, 1037, 1038, 1039, 1052, 1053, 1054, 1055, 1056, 1057] rfl gw_wsX10_parish
set_option maxRecDepth 20000 in
theorem gL_law_X10_parish : GoodIn wsL_law (wsV RL 13 RX10 yX10_parish wsX10_parish) := goodIn_app (goodIn_of _ (by decide +kernel)) ggL_law_X10_parish
set_option maxRecDepth 20000 in
theorem gw_wsX11_parish : wsX11_parish.all goodWord = true := by decide +kernel
set_option maxRecDepth 20000 in
theorem ggL_law_X11_parish : GoodIn wsL_law wsX11_parish := goodIn_r _ [146, 104, 147, 148, 5, 149, 150, 151, 152, 153, 154, 155, 156, 157, 107, 158, 159, 160, 161, 116, 117, 118, 1011, 1012, 1013, 1014, 1015, 1016, 1017, 1018, 1019, 1020, 1021, 1022, 1023, 1024, 1025, 1026, 1027, 1028] rfl gw_wsX11_parish
set_option maxRecDepth 20000 in
theorem gL_law_X11_parish : GoodIn wsL_law (wsV RL 17 RX11 yX11_parish wsX11_parish) := goodIn_app (goodIn_of _ (by decide +kernel)) ggL_law_X11_parish
set_option maxRecDepth 20000 in
theorem gw_wsX10_field : wsX10_field.all goodWord = true := by decide +kernel
set_option maxRecDepth 20000 in
theorem ggL_law_X10_field : GoodIn wsL_law wsX10_field := goodIn_r _ [165, 34, 123, 124, 125, 2, 126, 166, 167, 168, 169, 170, 171, 127, 128, 129, 130, 53, 172, 173, 174, 175, 176, 177, 178, 33, 179, 73, 135, 75, 180, 137, 999, 1000, 1001, 1002, 1003, 1004, 1005, 1006, 1007, 1008, 1009, 1010, 1029, 1030, 1031, 1032, 1033, 1034, 1035, 1036, 1037, 1038, 1039, 1052, 1053, 1054, 1055, 1056, 1057] rfl gw_wsX10_field
set_option maxRecDepth 20000 in
theorem gL_law_X10_field : GoodIn wsL_law (wsV RL 18 RX10 yX10_field wsX10_field) := goodIn_app (goodIn_of _ (by decide +kernel)) ggL_law_X10_field
set_option maxRecDepth 20000 in
theorem gw_wsX11_field : wsX11_field.all goodWord = true := by decide +kernel
set_option maxRecDepth 20000 in
theorem ggL_law_X11_field : GoodIn wsL_law wsX11_field := goodIn_r _ [184, 185, 104, 151, 152, 5, 153, 186, 187, 188, 189, 154, 155, 156, 157, 107, 158, 159, 160, 161, 190, 191, 192, 193, 194, 195, 196, 1011, 1012, 1013, 1014, 1015, 1016, 1017, 1018, 1019, 1020, 1021, 1022, 1023, 1024, 1025, 1026, 1027, 1028] rfl gw_wsX11_field
set_option maxRecDepth 20000 in
theorem gL_law_X11_field : GoodIn wsL_law (wsV RL 22 RX11 yX11_field wsX11_field) := goodIn_app (goodIn_of _ (by decide +kernel)) ggL_law_X11_field
set_option maxRecDepth 20000 in
theorem gw_wsX10_gleaner : wsX10_gleaner.all goodWord = true := by decide +kernel
set_option maxRecDepth 20000 in
theorem ggL_law_X10_gleaner : GoodIn wsL_law wsX10_gleaner := goodIn_r _ [200, 34, 201, 202, 203, 204, 33, 205, 135, 125, 2, 126, 127, 128, 129, 130, 53, 172, 173, 174, 175, 206, 207, 208, 209, 75, 210, 136, 211, 137, 999, 1000, 1001, 1002, 1003, 1004, 1005, 1006, 1007, 1008, 1009, 1010, 1029, 1030, 1031, 1032, 1033, 1034, 1035, 1036, 1037, 1038, 1039, 1052, 1053, 1054, 1055, 1056, 1057] rfl gw_wsX10_gleaner
set_option maxRecDepth 20000 in
theorem gL_law_X10_gleaner : GoodIn wsL_law (wsV RL 23 RX10 yX10_gleaner wsX10_gleaner) := goodIn_app (goodIn_of _ (by decide +kernel)) ggL_law_X10_gleaner
set_option maxRecDepth 20000 in
theorem gw_wsX11_gleaner : wsX11_gleaner.all goodWord = true := by decide +kernel
set_option maxRecDepth 20000 in
theorem ggL_law_X11_gleaner : GoodIn wsL_law wsX11_gleaner := goodIn_r _ [215, 104, 216, 217, 218, 5, 219, 158, 159, 160, 161, 151, 152, 153, 154, 155, 156, 157, 107, 220, 221, 222, 223, 190, 191, 192, 193, 224, 225, 226, 1011, 1012, 1013, 1014, 1015, 1016, 1017, 1018, 1019, 1020, 1021, 1022, 1023, 1024, 1025, 1026, 1027, 1028] rfl gw_wsX11_gleaner
set_option maxRecDepth 20000 in
theorem gL_law_X11_gleaner : GoodIn wsL_law (wsV RL 26 RX11 yX11_gleaner wsX11_gleaner) := goodIn_app (goodIn_of _ (by decide +kernel)) ggL_law_X11_gleaner
set_option maxRecDepth 20000 in
theorem gw_wsX10_type : wsX10_type.all goodWord = true := by decide +kernel
set_option maxRecDepth 20000 in
theorem ggL_law_X10_type : GoodIn wsL_law wsX10_type := goodIn_r _ [230, 41, 231, 124, 125, 2, 126, 127, 128, 129, 130, 53, 172, 173, 174, 175, 232, 233, 234, 40, 235, 91, 236, 999, 1000, 1001, 1002, 1003, 1004, 1005, 1006, 1007, 1008, 1009, 1010, 1040, 1041, 1042, 1043, 1044, 1045, 1046, 1047, 1048, 1049, 1050, 1051] rfl gw_wsX10_type
set_option maxRecDepth 20000 in
theorem gL_law_X10_type : GoodIn wsL_law (wsV RL 27 RX10 yX10_type wsX10_type) := goodIn_app (goodIn_of _ (by decide +kernel)) ggL_law_X10_type
set_option maxRecDepth 20000 in
theorem gw_wsX11_type : wsX11_type.all goodWord = true := by decide +kernel
set_option maxRecDepth 20000 in
theorem ggL_law_X11_type : GoodIn wsL_law wsX11_type := goodIn_r _ [240, 241, 242, 113, 151, 152, 5, 153, 154, 155, 156, 157, 107, 190, 191, 192, 193, 1011, 1012, 1013, 1014, 1015, 1016, 1017, 1018, 1019, 1020, 1021, 1022, 1023, 1024, 1025, 1026, 1027, 1028] rfl gw_wsX11_type
set_option maxRecDepth 20000 in
theorem gL_law_X11_type : GoodIn wsL_law (wsV RL 30 RX11 yX11_type wsX11_type) := goodIn_app (goodIn_of _ (by decide +kernel)) ggL_law_X11_type
set_option maxRecDepth 20000 in
theorem gw_wsX10_clear : wsX10_clear.all goodWord = true := by decide +kernel
set_option maxRecDepth 20000 in
theorem ggL_law_X10_clear : GoodIn wsL_law wsX10_clear := goodIn_r _ [246, 41, 231, 999, 1000, 1001, 1002, 1003, 1004, 1005, 1006, 1007, 1008, 1009, 1010, 1040, 1041, 1042, 1043, 1044, 1045, 1046, 1047, 1048, 1049, 1050, 1051] rfl gw_wsX10_clear
set_option maxRecDepth 20000 in
theorem gL_law_X10_clear : GoodIn wsL_law (wsV RL 31 RX10 yX10_clear wsX10_clear) := goodIn_app (goodIn_of _ (by decide +kernel)) ggL_law_X10_clear
set_option maxRecDepth 20000 in
theorem gw_wsX11_clear : wsX11_clear.all goodWord = true := by decide +kernel
set_option maxRecDepth 20000 in
theorem ggL_law_X11_clear : GoodIn wsL_law wsX11_clear := goodIn_r _ [250, 242, 1011, 1012, 1013, 1014, 1015, 1016, 1017, 1018, 1019, 1020, 1021, 1022, 1023, 1024, 1025, 1026, 1027, 1028] rfl gw_wsX11_clear
set_option maxRecDepth 20000 in
theorem gL_law_X11_clear : GoodIn wsL_law (wsV RL 35 RX11 yX11_clear wsX11_clear) := goodIn_app (goodIn_of _ (by decide +kernel)) ggL_law_X11_clear
set_option maxRecDepth 20000 in
theorem gw_wsX10_read : wsX10_read.all goodWord = true := by decide +kernel
set_option maxRecDepth 20000 in
theorem ggL_law_X10_read : GoodIn wsL_law wsX10_read := goodIn_r _ [254, 41, 34, 255, 256, 257, 258, 259, 260, 261, 40, 262, 263, 264, 265, 266, 267, 268, 269, 270, 271, 272, 236, 91, 273, 274, 275, 276, 277, 278, 279, 280, 281, 282, 283, 284, 285, 286, 287, 288, 289, 290, 291, 292, 293, 294, 295, 92, 93, 94, 296, 297, 298, 299, 300, 301, 302, 303, 304, 305, 306, 307, 308, 309, 310, 311, 312, 313, 314, 315, 316, 317, 318, 319, 320, 321, 322, 323, 324, 325, 326, 327, 328, 329, 330, 331, 332, 333, 334, 335, 336, 337, 338, 339, 340, 341, 342, 343, 344, 345, 346, 347, 348, 349, 350, 351, 352, 353, 354, 355, 356, 170, 2, 171, 131, 132, 133, 33, 134, 135, 136, 137, 138, 139, 75, 140, 141, 142, 176, 177, 178, 179, 73, 180, 206, 207, 208, 209, 210, 211, 357, 358, 359, 360, 361, 362, 363, 364, 365, 366, 367, 368, 369, 370, 371, 372, 80, 373, 374, 375, 376, 377, 26, 378, 379, 380, 381, 382, 383, 384, 385, 386, 17, 387, 388, 389, 390, 14, 391, 392, 393, 394, 29, 395, 396, 397, 398, 399, 20, 400, 401, 402, 403, 404, 405, 406, 23, 407, 408, 409, 410, 411, 412, 413, 414, 415, 416, 417, 418, 419, 420, 999, 1000, 1001, 1002, 1003, 1004, 1005, 1006, 1007, 1008, 1009, 1010, 1040, 1041, 1042, 1043, 1044, 1045, 1046, 1047, 1048, 1049, 1050, 1051, 1029, 1030, 1031, 1032, 1033, 1034, 1035, 1036, 1037, 1038, 1039, 1052, 1053, 1054, 1055, 1056, 1057] rfl gw_wsX10_read
set_option maxRecDepth 20000 in
theorem gL_law_X10_read : GoodIn wsL_law (wsV RL 36 RX10 yX10_read wsX10_read) := goodIn_app (goodIn_of _ (by decide +kernel)) ggL_law_X10_read
set_option maxRecDepth 20000 in
theorem gw_wsX11_read : wsX11_read.all goodWord = true := by decide +kernel
set_option maxRecDepth 20000 in
theorem ggL_law_X11_read : GoodIn wsL_law wsX11_read := goodIn_r _ [424, 425, 426, 104, 114, 427, 428, 429, 5, 430, 242, 113, 431, 432, 433, 434, 435, 436, 437, 151, 152, 153, 438, 439, 440, 441, 442, 443, 444, 445, 446, 115, 447, 448, 449, 450, 451, 452, 453, 454, 455, 456, 457, 458, 116, 117, 118, 459, 460, 461, 462, 463, 464, 465, 466, 194, 195, 196, 467, 468, 469, 470, 471, 472, 473, 474, 475, 476, 477, 478, 479, 480, 481, 482, 483, 484, 485, 486, 487, 488, 489, 490, 491, 492, 493, 494, 495, 496, 224, 225, 226, 1011, 1012, 1013, 1014, 1015, 1016, 1017, 1018, 1019, 1020, 1021, 1022, 1023, 1024, 1025, 1026, 1027, 1028] rfl gw_wsX11_read
set_option maxRecDepth 20000 in
theorem gL_law_X11_read : GoodIn wsL_law (wsV RL 39 RX11 yX11_read wsX11_read) := goodIn_app (goodIn_of _ (by decide +kernel)) ggL_law_X11_read
set_option maxRecDepth 20000 in
theorem gw_wsX10_glean : wsX10_glean.all goodWord = true := by decide +kernel
set_option maxRecDepth 20000 in
theorem ggL_law_X10_glean : GoodIn wsL_law wsX10_glean := goodIn_r _ [500, 34, 258, 501, 169, 170, 2, 171, 127, 128, 129, 130, 53, 502, 503, 504, 505, 506, 507, 508, 33, 509, 137, 76, 75, 510, 511, 512, 513, 514, 515, 516, 44, 517, 84, 518, 519, 520, 521, 85, 86, 522, 523, 524, 357, 358, 359, 360, 135, 140, 361, 362, 363, 364, 365, 366, 367, 368, 136, 210, 369, 370, 371, 372, 80, 73, 180, 141, 373, 374, 375, 376, 377, 26, 378, 379, 380, 381, 382, 383, 384, 385, 386, 17, 387, 388, 389, 390, 14, 391, 392, 393, 394, 29, 395, 396, 397, 398, 399, 20, 400, 401, 402, 403, 404, 405, 406, 23, 407, 408, 409, 410, 411, 412, 413, 414, 415, 416, 417, 418, 211, 419, 420, 999, 1000, 1001, 1002, 1003, 1004, 1005, 1006, 1007, 1008, 1009, 1010, 1029, 1030, 1031, 1032, 1033, 1034, 1035, 1036, 1037, 1038, 1039, 1052, 1053, 1054, 1055, 1056, 1057] rfl gw_wsX10_glean
set_option maxRecDepth 20000 in
theorem gL_law_X10_glean : GoodIn wsL_law (wsV RL 40 RX10 yX10_glean wsX10_glean) := goodIn_app (goodIn_of _ (by decide +kernel)) ggL_law_X10_glean
set_option maxRecDepth 20000 in
theorem gw_wsX11_glean : wsX11_glean.all goodWord = true := by decide +kernel
set_option maxRecDepth 20000 in
theorem ggL_law_X11_glean : GoodIn wsL_law wsX11_glean := goodIn_r _ [528, 529, 104, 151, 152, 5, 153, 154, 155, 156, 157, 107, 530, 531, 532, 533, 534, 535, 536, 537, 471, 472, 473, 474, 475, 476, 477, 478, 479, 480, 481, 482, 483, 484, 485, 486, 487, 488, 1011, 1012, 1013, 1014, 1015, 1016, 1017, 1018, 1019, 1020, 1021, 1022, 1023, 1024, 1025, 1026, 1027, 1028] rfl gw_wsX11_glean
set_option maxRecDepth 20000 in
theorem gL_law_X11_glean : GoodIn wsL_law (wsV RL 43 RX11 yX11_glean wsX11_glean) := goodIn_app (goodIn_of _ (by decide +kernel)) ggL_law_X11_glean
set_option maxRecDepth 20000 in
theorem gw_wsX10_night : wsX10_night.all goodWord = true := by decide +kernel
set_option maxRecDepth 20000 in
theorem ggL_law_X10_night : GoodIn wsL_law wsX10_night := goodIn_r _ [541, 34, 258, 542, 506, 507, 508, 33, 509, 137, 76, 75, 510, 511, 512, 513, 514, 515, 516, 44, 517, 84, 518, 519, 520, 521, 85, 86, 522, 523, 524, 543, 544, 545, 546, 136, 211, 135, 180, 419, 409, 381, 410, 142, 140, 547, 2, 548, 999, 1000, 1001, 1002, 1003, 1004, 1005, 1006, 1007, 1008, 1009, 1010, 1029, 1030, 1031, 1032, 1033, 1034, 1035, 1036, 1037, 1038, 1039, 1052, 1053, 1054, 1055, 1056, 1057] rfl gw_wsX10_night
set_option maxRecDepth 20000 in
theorem gL_law_X10_night : GoodIn wsL_law (wsV RL 44 RX10 yX10_night wsX10_night) := goodIn_app (goodIn_of _ (by decide +kernel)) ggL_law_X10_night
set_option maxRecDepth 20000 in
theorem gw_wsX11_night : wsX11_night.all goodWord = true := by decide +kernel
set_option maxRecDepth 20000 in
theorem ggL_law_X11_night : GoodIn wsL_law wsX11_night := goodIn_r _ [552, 104, 534, 535, 536, 5, 537, 553, 554, 555, 556, 557, 558, 1011, 1012, 1013, 1014, 1015, 1016, 1017, 1018, 1019, 1020, 1021, 1022, 1023, 1024, 1025, 1026, 1027, 1028] rfl gw_wsX11_night
set_option maxRecDepth 20000 in
theorem gL_law_X11_night : GoodIn wsL_law (wsV RL 47 RX11 yX11_night wsX11_night) := goodIn_app (goodIn_of _ (by decide +kernel)) ggL_law_X11_night
