set_option maxRecDepth 20000 in
theorem gw_wsX10_which : wsX10_which.all goodWord = true := by decide +kernel
set_option maxRecDepth 20000 in
theorem ggL_law_X10_which : GoodIn wsL_law wsX10_which := goodIn_c kw_chE _ [(30, 14), (1, 10), (5, 3), (2, 3), (5, 4), (5, 5), (0, 2), (5, 6), (5, 7), (5, 8), (5, 9), (5, 10), (2, 5), (29, 8), (29, 9), (29, 10), (29, 11), (10, 18), (26, 10), (15, 10), (15, 11), (1, 9), (15, 12), (3, 8), (3, 1), (7, 12), (5, 21), (15, 13), (15, 14), (15, 15), (15, 16), (15, 17), (1, 2), (15, 18), (15, 19), (15, 20), (15, 21), (15, 22), (15, 23), (16, 0), (16, 1), (16, 2), (0, 17), (16, 3), (16, 4), (16, 5), (16, 6), (0, 14), (16, 7), (16, 8), (16, 9), (16, 10), (1, 5), (16, 11), (16, 12), (16, 13), (16, 14), (16, 15), (0, 20), (16, 16), (16, 17), (16, 18), (16, 19), (16, 20), (16, 21), (16, 22), (0, 23), (16, 23), (17, 0), (17, 1), (17, 2), (17, 3), (17, 4), (17, 5), (17, 6), (42, 0), (42, 1), (42, 2), (42, 3), (42, 4), (42, 5), (42, 6), (42, 7), (42, 8), (42, 9), (42, 10), (42, 11), (50, 0), (50, 1), (50, 2), (50, 3), (50, 4), (50, 5), (50, 6), (50, 7), (50, 8), (50, 9), (50, 10), (52, 0), (52, 1), (52, 2), (52, 3), (52, 4), (52, 5)] rfl gw_wsX10_which
set_option maxRecDepth 20000 in
theorem gL_law_X10_which : GoodIn wsL_law (wsV RL 85 RX10 yX10_which wsX10_which) := goodIn_app (goodIn_c kw_chE _ [(30, 11), (30, 12), (30, 13), (0, 2)] (by exact rfl) (by decide +kernel)) ggL_law_X10_which
set_option maxRecDepth 20000 in
theorem gw_wsX11_which : wsX11_which.all goodWord = true := by decide +kernel
set_option maxRecDepth 20000 in
theorem ggL_law_X11_which : GoodIn wsL_law wsX11_which := goodIn_c kw_chE _ [(30, 18), (4, 8), (26, 15), (26, 16), (0, 5), (26, 17), (26, 18), (6, 7), (6, 8), (6, 9), (6, 10), (6, 11), (6, 12), (6, 13), (4, 11), (6, 14), (6, 15), (6, 16), (6, 17), (19, 21), (19, 22), (19, 23), (20, 0), (20, 1), (20, 2), (20, 3), (20, 4), (20, 5), (20, 6), (20, 7), (20, 8), (43, 0), (43, 1), (43, 2), (43, 3), (43, 4), (43, 5), (43, 6), (43, 7), (43, 8), (43, 9), (43, 10), (43, 11), (43, 12), (43, 13), (43, 14), (43, 15), (43, 16), (43, 17)] rfl gw_wsX11_which
set_option maxRecDepth 20000 in
theorem gL_law_X11_which : GoodIn wsL_law (wsV RL 88 RX11 yX11_which wsX11_which) := goodIn_app (goodIn_c kw_chE _ [(30, 15), (30, 16), (30, 17), (0, 5)] (by exact rfl) (by decide +kernel)) ggL_law_X11_which
set_option maxRecDepth 20000 in
theorem gw_wsX10_lasts : wsX10_lasts.all goodWord = true := by decide +kernel
set_option maxRecDepth 20000 in
theorem ggL_law_X10_lasts : GoodIn wsL_law wsX10_lasts := goodIn_c kw_chE _ [(30, 22), (1, 10), (10, 18), (25, 21), (23, 12), (23, 13), (23, 14), (1, 9), (23, 15), (5, 16), (5, 5), (0, 2), (5, 6), (7, 1), (7, 2), (7, 3), (5, 7), (5, 8), (5, 9), (5, 10), (2, 5), (30, 23), (22, 19), (22, 20), (42, 0), (42, 1), (42, 2), (42, 3), (42, 4), (42, 5), (42, 6), (42, 7), (42, 8), (42, 9), (42, 10), (42, 11), (50, 0), (50, 1), (50, 2), (50, 3), (50, 4), (50, 5), (50, 6), (50, 7), (50, 8), (50, 9), (50, 10), (52, 0), (52, 1), (52, 2), (52, 3), (52, 4), (52, 5)] rfl gw_wsX10_lasts
set_option maxRecDepth 20000 in
theorem gL_law_X10_lasts : GoodIn wsL_law (wsV RL 89 RX10 yX10_lasts wsX10_lasts) := goodIn_app (goodIn_c kw_chE _ [(30, 19), (30, 20), (30, 21), (0, 2)] (by exact rfl) (by decide +kernel)) ggL_law_X10_lasts
set_option maxRecDepth 20000 in
theorem gw_wsX11_lasts : wsX11_lasts.all goodWord = true := by decide +kernel
set_option maxRecDepth 20000 in
theorem ggL_law_X11_lasts : GoodIn wsL_law wsX11_lasts := goodIn_c kw_chE _ [(31, 3), (31, 4), (4, 8), (23, 20), (23, 21), (23, 22), (0, 5), (23, 23), (9, 4), (9, 5), (9, 6), (9, 7), (6, 7), (6, 8), (6, 9), (6, 10), (6, 11), (6, 12), (6, 13), (4, 11), (23, 4), (23, 5), (23, 6), (43, 0), (43, 1), (43, 2), (43, 3), (43, 4), (43, 5), (43, 6), (43, 7), (43, 8), (43, 9), (43, 10), (43, 11), (43, 12), (43, 13), (43, 14), (43, 15), (43, 16), (43, 17)] rfl gw_wsX11_lasts
set_option maxRecDepth 20000 in
theorem gL_law_X11_lasts : GoodIn wsL_law (wsV RL 92 RX11 yX11_lasts wsX11_lasts) := goodIn_app (goodIn_c kw_chE _ [(31, 0), (31, 1), (31, 2), (0, 5)] (by exact rfl) (by decide +kernel)) ggL_law_X11_lasts
set_option maxRecDepth 20000 in
theorem gw_wsX10_enough : wsX10_enough.all goodWord = true := by decide +kernel
set_option maxRecDepth 20000 in
theorem ggL_law_X10_enough : GoodIn wsL_law wsX10_enough := goodIn_c kw_chE _ [(31, 8), (1, 10), (8, 9), (7, 1), (7, 2), (0, 2), (7, 3), (5, 7), (5, 8), (5, 9), (5, 10), (2, 5), (31, 9), (31, 10), (31, 11), (31, 12), (31, 13), (31, 14), (31, 15), (31, 16), (31, 17), (31, 18), (1, 9), (31, 19), (5, 16), (3, 3), (8, 19), (42, 0), (42, 1), (42, 2), (42, 3), (42, 4), (42, 5), (42, 6), (42, 7), (42, 8), (42, 9), (42, 10), (42, 11), (50, 0), (50, 1), (50, 2), (50, 3), (50, 4), (50, 5), (50, 6), (50, 7), (50, 8), (50, 9), (50, 10), (52, 0), (52, 1), (52, 2), (52, 3), (52, 4), (52, 5)] rfl gw_wsX10_enough
set_option maxRecDepth 20000 in
theorem gL_law_X10_enough : GoodIn wsL_law (wsV RL 93 RX10 yX10_enough wsX10_enough) := goodIn_app (goodIn_c kw_chE _ [(31, 5), (31, 6), (31, 7), (0, 2)] (by exact rfl) (by decide +kernel)) ggL_law_X10_enough
set_option maxRecDepth 20000 in
theorem gw_wsX11_enough : wsX11_enough.all goodWord = true := by decide +kernel
set_option maxRecDepth 20000 in
theorem ggL_law_X11_enough : GoodIn wsL_law wsX11_enough := goodIn_c kw_chE _ [(31, 23), (31, 4), (4, 8), (6, 7), (6, 8), (0, 5), (6, 9), (6, 10), (6, 11), (6, 12), (6, 13), (4, 11), (9, 4), (9, 5), (9, 6), (9, 7), (32, 0), (32, 1), (32, 2), (32, 3), (32, 4), (32, 5), (43, 0), (43, 1), (43, 2), (43, 3), (43, 4), (43, 5), (43, 6), (43, 7), (43, 8), (43, 9), (43, 10), (43, 11), (43, 12), (43, 13), (43, 14), (43, 15), (43, 16), (43, 17)] rfl gw_wsX11_enough
set_option maxRecDepth 20000 in
theorem gL_law_X11_enough : GoodIn wsL_law (wsV RL 96 RX11 yX11_enough wsX11_enough) := goodIn_app (goodIn_c kw_chE _ [(31, 20), (31, 21), (31, 22), (0, 5)] (by exact rfl) (by decide +kernel)) ggL_law_X11_enough
set_option maxRecDepth 20000 in
theorem gw_wsX10_missed : wsX10_missed.all goodWord = true := by decide +kernel
set_option maxRecDepth 20000 in
theorem ggL_law_X10_missed : GoodIn wsL_law wsX10_missed := goodIn_c kw_chE _ [(32, 9), (1, 10), (32, 10), (8, 10), (8, 11), (8, 12), (1, 9), (8, 13), (5, 15), (5, 5), (0, 2), (5, 6), (5, 4), (6, 22), (6, 23), (7, 0), (7, 1), (7, 2), (7, 3), (5, 7), (5, 8), (5, 9), (5, 10), (2, 5), (7, 4), (7, 5), (7, 6), (7, 7), (32, 11), (32, 12), (32, 13), (32, 14), (3, 6), (5, 18), (42, 0), (42, 1), (42, 2), (42, 3), (42, 4), (42, 5), (42, 6), (42, 7), (42, 8), (42, 9), (42, 10), (42, 11), (50, 0), (50, 1), (50, 2), (50, 3), (50, 4), (50, 5), (50, 6), (50, 7), (50, 8), (50, 9), (50, 10)] rfl gw_wsX10_missed
set_option maxRecDepth 20000 in
theorem gL_law_X10_missed : GoodIn wsL_law (wsV RL 97 RX10 yX10_missed wsX10_missed) := goodIn_app (goodIn_c kw_chE _ [(32, 6), (32, 7), (32, 8), (0, 2)] (by exact rfl) (by decide +kernel)) ggL_law_X10_missed
set_option maxRecDepth 20000 in
theorem gw_wsX11_missed : wsX11_missed.all goodWord = true := by decide +kernel
set_option maxRecDepth 20000 in
theorem ggL_law_X11_missed : GoodIn wsL_law wsX11_missed := goodIn_c kw_chE _ [(32, 18), (4, 8), (9, 0), (9, 1), (9, 2), (0, 5), (9, 3), (6, 14), (6, 15), (6, 16), (6, 17), (6, 7), (6, 8), (6, 9), (26, 15), (26, 16), (26, 17), (26, 18), (7, 18), (7, 19), (7, 20), (7, 21), (6, 10), (6, 11), (6, 12), (6, 13), (4, 11), (7, 22), (7, 23), (8, 0), (8, 1), (43, 0), (43, 1), (43, 2), (43, 3), (43, 4), (43, 5), (43, 6), (43, 7), (43, 8), (43, 9), (43, 10), (43, 11), (43, 12), (43, 13), (43, 14), (43, 15), (43, 16), (43, 17)] rfl gw_wsX11_missed
set_option maxRecDepth 20000 in
theorem gL_law_X11_missed : GoodIn wsL_law (wsV RL 101 RX11 yX11_missed wsX11_missed) := goodIn_app (goodIn_c kw_chE _ [(32, 15), (32, 16), (32, 17), (0, 5)] (by exact rfl) (by decide +kernel)) ggL_law_X11_missed
set_option maxRecDepth 20000 in
theorem gw_wsX10_clouds : wsX10_clouds.all goodWord = true := by decide +kernel
set_option maxRecDepth 20000 in
theorem ggL_law_X10_clouds : GoodIn wsL_law wsX10_clouds := goodIn_c kw_chE _ [(32, 22), (1, 10), (32, 23), (33, 0), (33, 1), (1, 9), (33, 2), (5, 18), (3, 6), (3, 8), (3, 1), (15, 13), (15, 14), (15, 15), (15, 16), (15, 17), (1, 2), (15, 18), (15, 19), (15, 20), (15, 21), (15, 22), (15, 23), (16, 0), (16, 1), (16, 2), (0, 17), (16, 3), (16, 4), (16, 5), (16, 6), (0, 14), (16, 7), (16, 8), (16, 9), (16, 10), (1, 5), (16, 11), (16, 12), (16, 13), (16, 14), (16, 15), (0, 20), (16, 16), (16, 17), (16, 18), (16, 19), (16, 20), (16, 21), (16, 22), (0, 23), (16, 23), (17, 0), (17, 1), (17, 2), (17, 3), (17, 4), (17, 5), (17, 6), (42, 0), (42, 1), (42, 2), (42, 3), (42, 4), (42, 5), (42, 6), (42, 7), (42, 8), (42, 9), (42, 10), (42, 11), (50, 0), (50, 1), (50, 2), (50, 3), (50, 4), (50, 5), (50, 6), (50, 7), (50, 8), (50, 9), (50, 10)] rfl gw_wsX10_clouds
set_option maxRecDepth 20000 in
theorem gL_law_X10_clouds : GoodIn wsL_law (wsV RL 102 RX10 yX10_clouds wsX10_clouds) := goodIn_app (goodIn_c kw_chE _ [(32, 19), (32, 20), (32, 21), (0, 2)] (by exact rfl) (by decide +kernel)) ggL_law_X10_clouds
set_option maxRecDepth 20000 in
theorem gw_wsX11_clouds : wsX11_clouds.all goodWord = true := by decide +kernel
set_option maxRecDepth 20000 in
theorem ggL_law_X11_clouds : GoodIn wsL_law wsX11_clouds := goodIn_c kw_chE _ [(33, 6), (4, 8), (20, 0), (20, 1), (0, 5), (20, 2), (20, 3), (20, 4), (20, 5), (20, 6), (20, 7), (20, 8), (43, 0), (43, 1), (43, 2), (43, 3), (43, 4), (43, 5), (43, 6), (43, 7), (43, 8), (43, 9), (43, 10), (43, 11), (43, 12), (43, 13), (43, 14), (43, 15), (43, 16), (43, 17)] rfl gw_wsX11_clouds
set_option maxRecDepth 20000 in
theorem gL_law_X11_clouds : GoodIn wsL_law (wsV RL 105 RX11 yX11_clouds wsX11_clouds) := goodIn_app (goodIn_c kw_chE _ [(33, 3), (33, 4), (33, 5), (0, 5)] (by exact rfl) (by decide +kernel)) ggL_law_X11_clouds
set_option maxRecDepth 20000 in
theorem gw_wsX10_note : wsX10_note.all goodWord = true := by decide +kernel
set_option maxRecDepth 20000 in
theorem ggL_law_X10_note : GoodIn wsL_law wsX10_note := goodIn_c kw_chE _ [(33, 10), (1, 10), (33, 11), (8, 10), (8, 11), (8, 12), (1, 9), (8, 13), (5, 15), (5, 5), (0, 2), (5, 6), (5, 4), (6, 22), (6, 23), (7, 0), (7, 1), (7, 2), (7, 3), (5, 7), (5, 8), (5, 9), (5, 10), (2, 5), (7, 4), (7, 5), (7, 6), (7, 7), (33, 12), (33, 13), (33, 14), (33, 15), (3, 7), (5, 19), (42, 0), (42, 1), (42, 2), (42, 3), (42, 4), (42, 5), (42, 6), (42, 7), (42, 8), (42, 9), (42, 10), (42, 11), (50, 0), (50, 1), (50, 2), (50, 3), (50, 4), (50, 5), (50, 6), (50, 7), (50, 8), (50, 9), (50, 10)] rfl gw_wsX10_note
set_option maxRecDepth 20000 in
theorem gL_law_X10_note : GoodIn wsL_law (wsV RL 106 RX10 yX10_note wsX10_note) := goodIn_app (goodIn_c kw_chE _ [(33, 7), (33, 8), (33, 9), (0, 2)] (by exact rfl) (by decide +kernel)) ggL_law_X10_note
set_option maxRecDepth 20000 in
theorem gw_wsX11_note : wsX11_note.all goodWord = true := by decide +kernel
set_option maxRecDepth 20000 in
theorem ggL_law_X11_note : GoodIn wsL_law wsX11_note := goodIn_c kw_chE _ [(33, 19), (33, 20), (4, 8), (9, 0), (9, 1), (9, 2), (0, 5), (9, 3), (6, 14), (6, 15), (6, 16), (6, 17), (6, 7), (6, 8), (6, 9), (26, 15), (26, 16), (26, 17), (26, 18), (7, 18), (7, 19), (7, 20), (7, 21), (6, 3), (6, 4), (6, 5), (6, 6), (6, 10), (6, 11), (6, 12), (6, 13), (4, 11), (7, 22), (7, 23), (8, 0), (8, 1), (43, 0), (43, 1), (43, 2), (43, 3), (43, 4), (43, 5), (43, 6), (43, 7), (43, 8), (43, 9), (43, 10), (43, 11), (43, 12), (43, 13), (43, 14), (43, 15), (43, 16), (43, 17)] rfl gw_wsX11_note
set_option maxRecDepth 20000 in
theorem gL_law_X11_note : GoodIn wsL_law (wsV RL 110 RX11 yX11_note wsX11_note) := goodIn_app (goodIn_c kw_chE _ [(33, 16), (33, 17), (33, 18), (0, 5)] (by exact rfl) (by decide +kernel)) ggL_law_X11_note
set_option maxRecDepth 20000 in
theorem gw_wsX10_forget : wsX10_forget.all goodWord = true := by decide +kernel
set_option maxRecDepth 20000 in
theorem ggL_law_X10_forget : GoodIn wsL_law wsX10_forget := goodIn_c kw_chE _ [(34, 0), (1, 10), (32, 10), (33, 11), (5, 4), (5, 5), (0, 2), (5, 6), (5, 7), (5, 8), (5, 9), (5, 10), (2, 5), (42, 0), (42, 1), (42, 2), (42, 3), (42, 4), (42, 5), (42, 6), (42, 7), (42, 8), (42, 9), (42, 10), (42, 11), (50, 0), (50, 1), (50, 2), (50, 3), (50, 4), (50, 5), (50, 6), (50, 7), (50, 8), (50, 9), (50, 10)] rfl gw_wsX10_forget
set_option maxRecDepth 20000 in
theorem gL_law_X10_forget : GoodIn wsL_law (wsV RL 111 RX10 yX10_forget wsX10_forget) := goodIn_app (goodIn_c kw_chE _ [(33, 21), (33, 22), (33, 23), (0, 2)] (by exact rfl) (by decide +kernel)) ggL_law_X10_forget
set_option maxRecDepth 20000 in
theorem gw_wsX11_forget : wsX11_forget.all goodWord = true := by decide +kernel
set_option maxRecDepth 20000 in
theorem ggL_law_X11_forget : GoodIn wsL_law wsX11_forget := goodIn_c kw_chE _ [(34, 4), (4, 8), (6, 7), (6, 8), (0, 5), (6, 9), (6, 10), (6, 11), (6, 12), (6, 13), (4, 11), (43, 0), (43, 1), (43, 2), (43, 3), (43, 4), (43, 5), (43, 6), (43, 7), (43, 8), (43, 9), (43, 10), (43, 11), (43, 12), (43, 13), (43, 14), (43, 15), (43, 16), (43, 17)] rfl gw_wsX11_forget
set_option maxRecDepth 20000 in
theorem gL_law_X11_forget : GoodIn wsL_law (wsV RL 114 RX11 yX11_forget wsX11_forget) := goodIn_app (goodIn_c kw_chE _ [(34, 1), (34, 2), (34, 3), (0, 5)] (by exact rfl) (by decide +kernel)) ggL_law_X11_forget
set_option maxRecDepth 20000 in
theorem gw_wsX10_is : wsX10_is.all goodWord = true := by decide +kernel
set_option maxRecDepth 20000 in
theorem ggL_law_X10_is : GoodIn wsL_law wsX10_is := goodIn_c kw_chE _ [(34, 8), (1, 10), (8, 10), (8, 11), (8, 12), (1, 9), (8, 13), (5, 15), (5, 5), (0, 2), (5, 6), (5, 7), (5, 8), (5, 9), (5, 10), (2, 5), (34, 9), (34, 10), (34, 11), (34, 12), (3, 8), (34, 13), (34, 14), (34, 15), (34, 16), (5, 19), (3, 7), (15, 13), (15, 14), (15, 15), (15, 16), (15, 17), (1, 2), (15, 18), (15, 19), (15, 20), (15, 21), (15, 22), (15, 23), (16, 0), (16, 1), (16, 2), (0, 17), (16, 3), (16, 4), (16, 5), (16, 6), (0, 14), (16, 7), (16, 8), (16, 9), (16, 10), (1, 5), (16, 11), (16, 12), (16, 13), (16, 14), (16, 15), (0, 20), (16, 16), (16, 17), (16, 18), (16, 19), (16, 20), (16, 21), (16, 22), (0, 23), (16, 23), (17, 0), (17, 1), (17, 2), (17, 3), (17, 4), (17, 5), (17, 6), (42, 0), (42, 1), (42, 2), (42, 3), (42, 4), (42, 5), (42, 6), (42, 7), (42, 8), (42, 9), (42, 10), (42, 11), (50, 0), (50, 1), (50, 2), (50, 3), (50, 4), (50, 5), (50, 6), (50, 7), (50, 8), (50, 9), (50, 10)] rfl gw_wsX10_is
set_option maxRecDepth 20000 in
theorem gL_law_X10_is : GoodIn wsL_law (wsV RL 115 RX10 yX10_is wsX10_is) := goodIn_app (goodIn_c kw_chE _ [(34, 5), (34, 6), (34, 7), (0, 2)] (by exact rfl) (by decide +kernel)) ggL_law_X10_is
set_option maxRecDepth 20000 in
theorem gw_wsX11_is : wsX11_is.all goodWord = true := by decide +kernel
set_option maxRecDepth 20000 in
theorem ggL_law_X11_is : GoodIn wsL_law wsX11_is := goodIn_c kw_chE _ [(34, 20), (9, 0), (9, 1), (9, 2), (0, 5), (9, 3), (6, 14), (6, 15), (6, 16), (6, 17), (4, 8), (6, 7), (6, 8), (6, 9), (34, 21), (34, 22), (34, 23), (35, 0), (20, 0), (20, 1), (20, 2), (20, 3), (20, 4), (20, 5), (20, 6), (20, 7), (20, 8), (6, 10), (6, 11), (6, 12), (6, 13), (4, 11), (43, 0), (43, 1), (43, 2), (43, 3), (43, 4), (43, 5), (43, 6), (43, 7), (43, 8), (43, 9), (43, 10), (43, 11), (43, 12), (43, 13), (43, 14), (43, 15), (43, 16), (43, 17)] rfl gw_wsX11_is
set_option maxRecDepth 20000 in
theorem gL_law_X11_is : GoodIn wsL_law (wsV RL 118 RX11 yX11_is wsX11_is) := goodIn_app (goodIn_c kw_chE _ [(34, 17), (34, 18), (34, 19), (0, 5)] (by exact rfl) (by decide +kernel)) ggL_law_X11_is
set_option maxRecDepth 20000 in
theorem gw_wsX10_look : wsX10_look.all goodWord = true := by decide +kernel
set_option maxRecDepth 20000 in
theorem ggL_law_X10_look : GoodIn wsL_law wsX10_look := goodIn_c kw_chE _ [(35, 4), (1, 10), (10, 18), (25, 3), (8, 10), (8, 11), (8, 12), (1, 9), (8, 13), (5, 15), (5, 5), (0, 2), (5, 6), (5, 7), (5, 8), (5, 9), (5, 10), (2, 5), (34, 9), (34, 10), (34, 11), (34, 12), (3, 8), (34, 13), (34, 14), (34, 15), (34, 16), (5, 19), (3, 7), (15, 13), (15, 14), (15, 15), (15, 16), (15, 17), (1, 2), (15, 18), (15, 19), (15, 20), (15, 21), (15, 22), (15, 23), (16, 0), (16, 1), (16, 2), (0, 17), (16, 3), (16, 4), (16, 5), (16, 6), (0, 14), (16, 7), (16, 8), (16, 9), (16, 10), (1, 5), (16, 11), (16, 12), (16, 13), (16, 14), (16, 15), (0, 20), (16, 16), (16, 17), (16, 18), (16, 19), (16, 20), (16, 21), (16, 22), (0, 23), (16, 23), (17, 0), (17, 1), (17, 2), (17, 3), (17, 4), (17, 5), (17, 6), (35, 5), (35, 6), (35, 7), (35, 8), (1, 6), (28, 15), (35, 9), (35, 10), (42, 0), (42, 1), (42, 2), (42, 3), (42, 4), (42, 5), (42, 6), (42, 7), (42, 8), (42, 9), (42, 10), (42, 11), (50, 0), (50, 1), (50, 2), (50, 3), (50, 4), (50, 5), (50, 6), (50, 7), (50, 8), (50, 9), (50, 10), (52, 0), (52, 1), (52, 2), (52, 3), (52, 4), (52, 5)] rfl gw_wsX10_look
set_option maxRecDepth 20000 in
theorem gL_law_X10_look : GoodIn wsL_law (wsV RL 119 RX10 yX10_look wsX10_look) := goodIn_app (goodIn_c kw_chE _ [(35, 1), (35, 2), (35, 3), (0, 2)] (by exact rfl) (by decide +kernel)) ggL_law_X10_look
set_option maxRecDepth 20000 in
theorem gw_wsX11_look : wsX11_look.all goodWord = true := by decide +kernel
set_option maxRecDepth 20000 in
theorem ggL_law_X11_look : GoodIn wsL_law wsX11_look := goodIn_c kw_chE _ [(35, 14), (30, 10), (4, 8), (9, 0), (9, 1), (9, 2), (0, 5), (9, 3), (6, 14), (6, 15), (6, 16), (6, 17), (6, 7), (6, 8), (6, 9), (6, 10), (6, 11), (6, 12), (6, 13), (4, 11), (34, 21), (34, 22), (34, 23), (35, 0), (20, 0), (20, 1), (20, 2), (20, 3), (20, 4), (20, 5), (20, 6), (20, 7), (20, 8), (32, 0), (32, 1), (32, 2), (43, 0), (43, 1), (43, 2), (43, 3), (43, 4), (43, 5), (43, 6), (43, 7), (43, 8), (43, 9), (43, 10), (43, 11), (43, 12), (43, 13), (43, 14), (43, 15), (43, 16), (43, 17)] rfl gw_wsX11_look
set_option maxRecDepth 20000 in
theorem gL_law_X11_look : GoodIn wsL_law (wsV RL 122 RX11 yX11_look wsX11_look) := goodIn_app (goodIn_c kw_chE _ [(35, 11), (35, 12), (35, 13), (0, 5)] (by exact rfl) (by decide +kernel)) ggL_law_X11_look
