set_option maxRecDepth 20000 in
theorem gw_wsX10_goes : wsX10_goes.all goodWord = true := by decide +kernel
set_option maxRecDepth 20000 in
theorem ggL_law_X10_goes : GoodIn wsL_law wsX10_goes := goodIn_r _ [562, 34, 258, 563, 564, 565, 566, 33, 567, 136, 125, 2, 126, 202, 203, 204, 205, 135, 127, 128, 129, 130, 53, 506, 507, 508, 509, 137, 76, 75, 510, 511, 512, 513, 514, 515, 516, 44, 517, 84, 518, 519, 520, 521, 85, 86, 522, 523, 524, 999, 1000, 1001, 1002, 1003, 1004, 1005, 1006, 1007, 1008, 1009, 1010, 1029, 1030, 1031, 1032, 1033, 1034, 1035, 1036, 1037, 1038, 1039, 1052, 1053, 1054, 1055, 1056, 1057] rfl gw_wsX10_goes
set_option maxRecDepth 20000 in
theorem gL_law_X10_goes : GoodIn wsL_law (wsV RL 48 RX10 yX10_goes wsX10_goes) := goodIn_app (goodIn_of _ (by decide +kernel)) ggL_law_X10_goes
set_option maxRecDepth 20000 in
theorem gw_wsX11_goes : wsX11_goes.all goodWord = true := by decide +kernel
set_option maxRecDepth 20000 in
theorem ggL_law_X11_goes : GoodIn wsL_law wsX11_goes := goodIn_r _ [571, 104, 572, 573, 574, 5, 575, 220, 221, 222, 223, 151, 152, 153, 216, 217, 218, 219, 158, 159, 160, 161, 154, 155, 156, 157, 107, 534, 535, 536, 537, 1011, 1012, 1013, 1014, 1015, 1016, 1017, 1018, 1019, 1020, 1021, 1022, 1023, 1024, 1025, 1026, 1027, 1028] rfl gw_wsX11_goes
set_option maxRecDepth 20000 in
theorem gL_law_X11_goes : GoodIn wsL_law (wsV RL 51 RX11 yX11_goes wsX11_goes) := goodIn_app (goodIn_of _ (by decide +kernel)) ggL_law_X11_goes
set_option maxRecDepth 20000 in
theorem gw_wsX10_cloud : wsX10_cloud.all goodWord = true := by decide +kernel
set_option maxRecDepth 20000 in
theorem ggL_law_X10_cloud : GoodIn wsL_law wsX10_cloud := goodIn_r _ [579, 34, 258, 580, 124, 125, 2, 126, 127, 128, 129, 130, 53, 506, 507, 508, 33, 509, 137, 76, 75, 510, 511, 512, 513, 514, 515, 516, 44, 517, 84, 518, 519, 520, 521, 85, 86, 522, 523, 524, 999, 1000, 1001, 1002, 1003, 1004, 1005, 1006, 1007, 1008, 1009, 1010, 1029, 1030, 1031, 1032, 1033, 1034, 1035, 1036, 1037, 1038, 1039, 1052, 1053, 1054, 1055, 1056, 1057] rfl gw_wsX10_cloud
set_option maxRecDepth 20000 in
theorem gL_law_X10_cloud : GoodIn wsL_law (wsV RL 52 RX10 yX10_cloud wsX10_cloud) := goodIn_app (goodIn_of _ (by decide +kernel)) ggL_law_X10_cloud
set_option maxRecDepth 20000 in
theorem gw_wsX11_cloud : wsX11_cloud.all goodWord = true := by decide +kernel
set_option maxRecDepth 20000 in
theorem ggL_law_X11_cloud : GoodIn wsL_law wsX11_cloud := goodIn_r _ [584, 104, 147, 148, 5, 149, 150, 151, 152, 153, 154, 155, 156, 157, 107, 534, 535, 536, 537, 1011, 1012, 1013, 1014, 1015, 1016, 1017, 1018, 1019, 1020, 1021, 1022, 1023, 1024, 1025, 1026, 1027, 1028] rfl gw_wsX11_cloud
set_option maxRecDepth 20000 in
theorem gL_law_X11_cloud : GoodIn wsL_law (wsV RL 55 RX11 yX11_cloud wsX11_cloud) := goodIn_app (goodIn_of _ (by decide +kernel)) ggL_law_X11_cloud
set_option maxRecDepth 20000 in
theorem gw_wsX10_undo : wsX10_undo.all goodWord = true := by decide +kernel
set_option maxRecDepth 20000 in
theorem ggL_law_X10_undo : GoodIn wsL_law wsX10_undo := goodIn_r _ [588, 34, 589, 258, 501, 502, 503, 504, 2, 505, 53, 590, 591, 592, 33, 593, 137, 75, 76, 514, 515, 516, 44, 517, 84, 518, 519, 520, 521, 85, 86, 522, 523, 524, 999, 1000, 1001, 1002, 1003, 1004, 1005, 1006, 1007, 1008, 1009, 1010, 1029, 1030, 1031, 1032, 1033, 1034, 1035, 1036, 1037, 1038, 1039, 1052, 1053, 1054, 1055, 1056, 1057] rfl gw_wsX10_undo
set_option maxRecDepth 20000 in
theorem gL_law_X10_undo : GoodIn wsL_law (wsV RL 56 RX10 yX10_undo wsX10_undo) := goodIn_app (goodIn_of _ (by decide +kernel)) ggL_law_X10_undo
set_option maxRecDepth 20000 in
theorem gw_wsX11_undo : wsX11_undo.all goodWord = true := by decide +kernel
set_option maxRecDepth 20000 in
theorem ggL_law_X11_undo : GoodIn wsL_law wsX11_undo := goodIn_r _ [597, 104, 530, 531, 532, 5, 533, 107, 1011, 1012, 1013, 1014, 1015, 1016, 1017, 1018, 1019, 1020, 1021, 1022, 1023, 1024, 1025, 1026, 1027, 1028] rfl gw_wsX11_undo
set_option maxRecDepth 20000 in
theorem gL_law_X11_undo : GoodIn wsL_law (wsV RL 59 RX11 yX11_undo wsX11_undo) := goodIn_app (goodIn_of _ (by decide +kernel)) ggL_law_X11_undo
set_option maxRecDepth 20000 in
theorem gw_wsX10_of : wsX10_of.all goodWord = true := by decide +kernel
set_option maxRecDepth 20000 in
theorem ggL_law_X10_of : GoodIn wsL_law wsX10_of := goodIn_r _ [601, 34, 602, 258, 603, 202, 203, 204, 33, 205, 135, 125, 2, 126, 124, 127, 128, 129, 130, 53, 604, 605, 606, 607, 136, 75, 210, 999, 1000, 1001, 1002, 1003, 1004, 1005, 1006, 1007, 1008, 1009, 1010, 1029, 1030, 1031, 1032, 1033, 1034, 1035, 1036, 1037, 1038, 1039, 1052, 1053, 1054, 1055, 1056, 1057] rfl gw_wsX10_of
set_option maxRecDepth 20000 in
theorem gL_law_X10_of : GoodIn wsL_law (wsV RL 60 RX10 yX10_of wsX10_of) := goodIn_app (goodIn_of _ (by decide +kernel)) ggL_law_X10_of
set_option maxRecDepth 20000 in
theorem gw_wsX11_of : wsX11_of.all goodWord = true := by decide +kernel
set_option maxRecDepth 20000 in
theorem ggL_law_X11_of : GoodIn wsL_law wsX11_of := goodIn_r _ [611, 612, 104, 216, 217, 218, 5, 219, 158, 159, 160, 161, 151, 152, 153, 154, 155, 156, 157, 107, 613, 614, 615, 616, 220, 221, 222, 223, 1011, 1012, 1013, 1014, 1015, 1016, 1017, 1018, 1019, 1020, 1021, 1022, 1023, 1024, 1025, 1026, 1027, 1028] rfl gw_wsX11_of
set_option maxRecDepth 20000 in
theorem gL_law_X11_of : GoodIn wsL_law (wsV RL 63 RX11 yX11_of wsX11_of) := goodIn_app (goodIn_of _ (by decide +kernel)) ggL_law_X11_of
set_option maxRecDepth 20000 in
theorem gw_wsX10_about : wsX10_about.all goodWord = true := by decide +kernel
set_option maxRecDepth 20000 in
theorem ggL_law_X10_about : GoodIn wsL_law wsX10_about := goodIn_r _ [620, 34, 258, 563, 621, 564, 565, 566, 33, 567, 136, 125, 2, 126, 124, 127, 128, 129, 130, 53, 622, 362, 363, 364, 140, 365, 366, 367, 368, 210, 369, 370, 371, 372, 80, 73, 180, 141, 373, 374, 375, 376, 377, 26, 378, 379, 380, 381, 382, 383, 384, 385, 386, 17, 387, 388, 389, 390, 14, 391, 392, 393, 394, 29, 395, 396, 397, 398, 399, 20, 400, 401, 402, 403, 404, 405, 406, 23, 407, 408, 409, 410, 411, 412, 413, 414, 999, 1000, 1001, 1002, 1003, 1004, 1005, 1006, 1007, 1008, 1009, 1010, 1029, 1030, 1031, 1032, 1033, 1034, 1035, 1036, 1037, 1038, 1039, 1052, 1053, 1054, 1055, 1056, 1057] rfl gw_wsX10_about
set_option maxRecDepth 20000 in
theorem gL_law_X10_about : GoodIn wsL_law (wsV RL 64 RX10 yX10_about wsX10_about) := goodIn_app (goodIn_of _ (by decide +kernel)) ggL_law_X10_about
set_option maxRecDepth 20000 in
theorem gw_wsX11_about : wsX11_about.all goodWord = true := by decide +kernel
set_option maxRecDepth 20000 in
theorem ggL_law_X11_about : GoodIn wsL_law wsX11_about := goodIn_r _ [626, 612, 104, 572, 573, 574, 5, 575, 220, 221, 222, 223, 151, 152, 153, 154, 155, 156, 157, 107, 627, 628, 629, 477, 478, 479, 480, 481, 482, 483, 484, 485, 486, 487, 488, 474, 475, 476, 1011, 1012, 1013, 1014, 1015, 1016, 1017, 1018, 1019, 1020, 1021, 1022, 1023, 1024, 1025, 1026, 1027, 1028] rfl gw_wsX11_about
set_option maxRecDepth 20000 in
theorem gL_law_X11_about : GoodIn wsL_law (wsV RL 67 RX11 yX11_about wsX11_about) := goodIn_app (goodIn_of _ (by decide +kernel)) ggL_law_X11_about
set_option maxRecDepth 20000 in
theorem gw_wsX10_seen : wsX10_seen.all goodWord = true := by decide +kernel
set_option maxRecDepth 20000 in
theorem ggL_law_X10_seen : GoodIn wsL_law wsX10_seen := goodIn_r _ [633, 34, 258, 202, 203, 204, 33, 205, 135, 125, 2, 126, 124, 127, 128, 129, 130, 53, 634, 370, 371, 372, 80, 73, 180, 141, 373, 374, 375, 376, 377, 26, 378, 379, 380, 381, 382, 383, 384, 385, 386, 17, 387, 388, 389, 390, 14, 391, 392, 393, 394, 29, 395, 396, 397, 398, 399, 20, 400, 401, 402, 403, 404, 405, 406, 23, 407, 408, 409, 410, 411, 412, 413, 414, 999, 1000, 1001, 1002, 1003, 1004, 1005, 1006, 1007, 1008, 1009, 1010, 1029, 1030, 1031, 1032, 1033, 1034, 1035, 1036, 1037, 1038, 1039, 1052, 1053, 1054, 1055, 1056, 1057] rfl gw_wsX10_seen
set_option maxRecDepth 20000 in
theorem gL_law_X10_seen : GoodIn wsL_law (wsV RL 68 RX10 yX10_seen wsX10_seen) := goodIn_app (goodIn_of _ (by decide +kernel)) ggL_law_X10_seen
set_option maxRecDepth 20000 in
theorem gw_wsX11_seen : wsX11_seen.all goodWord = true := by decide +kernel
set_option maxRecDepth 20000 in
theorem ggL_law_X11_seen : GoodIn wsL_law wsX11_seen := goodIn_r _ [638, 104, 216, 217, 218, 5, 219, 158, 159, 160, 161, 151, 152, 153, 639, 640, 641, 642, 477, 478, 479, 480, 481, 482, 483, 484, 485, 486, 487, 488, 154, 155, 156, 157, 107, 1011, 1012, 1013, 1014, 1015, 1016, 1017, 1018, 1019, 1020, 1021, 1022, 1023, 1024, 1025, 1026, 1027, 1028] rfl gw_wsX11_seen
set_option maxRecDepth 20000 in
theorem gL_law_X11_seen : GoodIn wsL_law (wsV RL 71 RX11 yX11_seen wsX11_seen) := goodIn_app (goodIn_of _ (by decide +kernel)) ggL_law_X11_seen
set_option maxRecDepth 20000 in
theorem gw_wsX10_then : wsX10_then.all goodWord = true := by decide +kernel
set_option maxRecDepth 20000 in
theorem ggL_law_X10_then : GoodIn wsL_law wsX10_then := goodIn_r _ [646, 34, 45, 258, 501, 647, 409, 381, 410, 621, 564, 565, 566, 33, 567, 136, 125, 2, 126, 169, 170, 171, 127, 128, 129, 130, 53, 648, 515, 516, 44, 517, 84, 518, 519, 520, 521, 85, 86, 522, 523, 524, 357, 358, 359, 360, 135, 140, 361, 362, 363, 364, 365, 366, 367, 368, 210, 369, 370, 371, 372, 80, 73, 180, 141, 373, 374, 375, 376, 377, 26, 378, 379, 380, 382, 383, 384, 385, 386, 17, 387, 388, 389, 390, 14, 391, 392, 393, 394, 29, 395, 396, 397, 398, 399, 20, 400, 401, 402, 403, 404, 405, 406, 23, 407, 408, 411, 412, 413, 414, 415, 416, 417, 418, 211, 419, 420, 999, 1000, 1001, 1002, 1003, 1004, 1005, 1006, 1007, 1008, 1009, 1010, 1029, 1030, 1031, 1032, 1033, 1034, 1035, 1036, 1037, 1038, 1039, 1052, 1053, 1054, 1055, 1056, 1057] rfl gw_wsX10_then
set_option maxRecDepth 20000 in
theorem gL_law_X10_then : GoodIn wsL_law (wsV RL 72 RX10 yX10_then wsX10_then) := goodIn_app (goodIn_of _ (by decide +kernel)) ggL_law_X10_then
set_option maxRecDepth 20000 in
theorem gw_wsX11_then : wsX11_then.all goodWord = true := by decide +kernel
set_option maxRecDepth 20000 in
theorem ggL_law_X11_then : GoodIn wsL_law wsX11_then := goodIn_r _ [652, 529, 109, 572, 573, 574, 5, 575, 220, 221, 222, 223, 104, 151, 152, 153, 154, 155, 156, 157, 107, 653, 654, 655, 656, 471, 472, 473, 474, 475, 476, 477, 478, 479, 480, 481, 482, 483, 484, 485, 486, 487, 488, 1011, 1012, 1013, 1014, 1015, 1016, 1017, 1018, 1019, 1020, 1021, 1022, 1023, 1024, 1025, 1026, 1027, 1028] rfl gw_wsX11_then
set_option maxRecDepth 20000 in
theorem gL_law_X11_then : GoodIn wsL_law (wsV RL 75 RX11 yX11_then wsX11_then) := goodIn_app (goodIn_of _ (by decide +kernel)) ggL_law_X11_then
set_option maxRecDepth 20000 in
theorem gw_wsX10_round : wsX10_round.all goodWord = true := by decide +kernel
set_option maxRecDepth 20000 in
theorem ggL_law_X10_round : GoodIn wsL_law wsX10_round := goodIn_r _ [660, 34, 45, 258, 49, 563, 661, 662, 564, 565, 566, 33, 567, 136, 125, 2, 126, 169, 170, 171, 663, 664, 665, 666, 53, 648, 515, 516, 44, 517, 84, 518, 519, 520, 521, 85, 86, 522, 523, 524, 667, 668, 669, 48, 670, 671, 672, 673, 674, 675, 676, 677, 678, 679, 680, 98, 99, 681, 409, 381, 410, 682, 202, 203, 204, 205, 135, 683, 684, 685, 686, 603, 501, 687, 380, 382, 634, 370, 371, 372, 80, 73, 180, 141, 373, 374, 375, 376, 377, 26, 378, 379, 383, 384, 385, 386, 17, 387, 388, 389, 390, 14, 391, 392, 393, 394, 29, 395, 396, 397, 398, 399, 20, 400, 401, 402, 403, 404, 405, 406, 23, 407, 408, 411, 412, 413, 414, 999, 1000, 1001, 1002, 1003, 1004, 1005, 1006, 1007, 1008, 1009, 1010, 1029, 1030, 1031, 1032, 1033, 1034, 1035, 1036, 1037, 1038, 1039, 1052, 1053, 1054, 1055, 1056, 1057, 1058, 1059, 1060] rfl gw_wsX10_round
set_option maxRecDepth 20000 in
theorem gL_law_X10_round : GoodIn wsL_law (wsV RL 76 RX10 yX10_round wsX10_round) := goodIn_app (goodIn_of _ (by decide +kernel)) ggL_law_X10_round
set_option maxRecDepth 20000 in
theorem gw_wsX11_round : wsX11_round.all goodWord = true := by decide +kernel
set_option maxRecDepth 20000 in
theorem ggL_law_X11_round : GoodIn wsL_law wsX11_round := goodIn_r _ [691, 692, 111, 110, 572, 573, 574, 5, 575, 220, 221, 222, 223, 104, 151, 152, 153, 154, 155, 156, 157, 107, 693, 694, 695, 696, 697, 698, 699, 109, 653, 654, 655, 656, 477, 478, 479, 480, 481, 482, 483, 484, 485, 486, 487, 488, 216, 217, 218, 219, 158, 159, 160, 161, 1011, 1012, 1013, 1014, 1015, 1016, 1017, 1018, 1019, 1020, 1021, 1022, 1023, 1024, 1025, 1026, 1027, 1028] rfl gw_wsX11_round
set_option maxRecDepth 20000 in
theorem gL_law_X11_round : GoodIn wsL_law (wsV RL 80 RX11 yX11_round wsX11_round) := goodIn_app (goodIn_of _ (by decide +kernel)) ggL_law_X11_round
set_option maxRecDepth 20000 in
theorem gw_wsX10_places : wsX10_places.all goodWord = true := by decide +kernel
set_option maxRecDepth 20000 in
theorem ggL_law_X10_places : GoodIn wsL_law wsX10_places := goodIn_r _ [703, 34, 201, 258, 501, 49, 661, 662, 124, 125, 2, 126, 564, 565, 566, 33, 567, 136, 663, 664, 665, 666, 53, 704, 705, 706, 707, 123, 51, 634, 370, 371, 372, 80, 73, 180, 141, 373, 374, 375, 376, 377, 26, 378, 379, 380, 381, 382, 383, 384, 385, 386, 17, 387, 388, 389, 390, 14, 391, 392, 393, 394, 29, 395, 396, 397, 398, 399, 20, 400, 401, 402, 403, 404, 405, 406, 23, 407, 408, 409, 410, 411, 412, 413, 414, 667, 668, 669, 48, 670, 671, 708, 709, 710, 711, 676, 52, 712, 713, 714, 715, 716, 717, 718, 719, 720, 647, 677, 678, 679, 680, 98, 99, 681, 682, 519, 520, 521, 999, 1000, 1001, 1002, 1003, 1004, 1005, 1006, 1007, 1008, 1009, 1010, 1029, 1030, 1031, 1032, 1033, 1034, 1035, 1036, 1037, 1038, 1039, 1052, 1053, 1054, 1055, 1056, 1057, 1058, 1059, 1060] rfl gw_wsX10_places
set_option maxRecDepth 20000 in
theorem gL_law_X10_places : GoodIn wsL_law (wsV RL 81 RX10 yX10_places wsX10_places) := goodIn_app (goodIn_of _ (by decide +kernel)) ggL_law_X10_places
set_option maxRecDepth 20000 in
theorem gw_wsX11_places : wsX11_places.all goodWord = true := by decide +kernel
set_option maxRecDepth 20000 in
theorem ggL_law_X11_places : GoodIn wsL_law wsX11_places := goodIn_r _ [724, 725, 112, 109, 151, 152, 5, 153, 220, 221, 222, 223, 104, 154, 155, 156, 157, 107, 653, 654, 655, 656, 158, 159, 160, 161, 726, 727, 728, 729, 730, 627, 628, 629, 477, 478, 479, 480, 481, 482, 483, 484, 485, 486, 487, 488, 474, 475, 476, 1011, 1012, 1013, 1014, 1015, 1016, 1017, 1018, 1019, 1020, 1021, 1022, 1023, 1024, 1025, 1026, 1027, 1028] rfl gw_wsX11_places
set_option maxRecDepth 20000 in
theorem gL_law_X11_places : GoodIn wsL_law (wsV RL 84 RX11 yX11_places wsX11_places) := goodIn_app (goodIn_of _ (by decide +kernel)) ggL_law_X11_places
