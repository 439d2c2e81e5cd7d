set_option maxRecDepth 20000 in
theorem gw_wsX10_init : wsX10_init.all goodWord = true := by decide +kernel
set_option maxRecDepth 20000 in
theorem ggL_law_X10_init : GoodIn wsL_law wsX10_init := goodIn_c kw_chE _ [(0, 8), (0, 9), (0, 10), (0, 11), (0, 12), (0, 13), (0, 14), (0, 15), (0, 16), (0, 17), (0, 18), (0, 19), (0, 20), (0, 21), (0, 22), (0, 23), (1, 0), (1, 1), (1, 2), (1, 3), (1, 4), (1, 5), (1, 6), (1, 7), (1, 8), (1, 9), (1, 10), (1, 11), (1, 12), (1, 13), (1, 14), (1, 15), (1, 16), (1, 17), (1, 18), (1, 19), (1, 20), (1, 21), (1, 22), (1, 23), (2, 0), (2, 1), (2, 2), (2, 3), (2, 4), (2, 5), (2, 6), (2, 7), (2, 8), (2, 9), (2, 10), (2, 11), (2, 12), (2, 13), (2, 14), (2, 15), (2, 16), (2, 17), (2, 18), (2, 19), (2, 20), (2, 21), (2, 22), (2, 23), (3, 0), (3, 1), (3, 2), (3, 3), (3, 4), (3, 5), (3, 6), (3, 7), (3, 8), (3, 9), (3, 10), (3, 11), (3, 12), (3, 13), (3, 14), (3, 15), (3, 16), (3, 17), (3, 18), (3, 19), (3, 20), (3, 21), (3, 22), (3, 23), (4, 0), (4, 1), (4, 2), (4, 3), (42, 0), (42, 1), (42, 2), (42, 3), (42, 4), (42, 5), (42, 6), (42, 7), (42, 8), (42, 9), (42, 10), (42, 11), (50, 0), (50, 1), (50, 2), (50, 3), (50, 4), (50, 5), (50, 6), (50, 7), (50, 8), (50, 9), (50, 10), (51, 0), (51, 1), (51, 2), (51, 3), (51, 4), (51, 5), (51, 6), (51, 7), (51, 8), (51, 9), (51, 10), (51, 11), (52, 0), (52, 1), (52, 2), (52, 3), (52, 4), (52, 5), (53, 0), (53, 1), (53, 2)] rfl gw_wsX10_init
set_option maxRecDepth 20000 in
theorem gL_law_X10_init : GoodIn wsL_law (wsX10_init) := ggL_law_X10_init
set_option maxRecDepth 20000 in
theorem gw_wsX11_init : wsX11_init.all goodWord = true := by decide +kernel
set_option maxRecDepth 20000 in
theorem ggL_law_X11_init : GoodIn wsL_law wsX11_init := goodIn_c kw_chE _ [(4, 6), (4, 7), (0, 10), (0, 11), (2, 2), (4, 8), (4, 9), (1, 12), (4, 10), (4, 11), (4, 12), (4, 13), (4, 14), (4, 15), (4, 16), (4, 17), (4, 18), (4, 19), (4, 20), (4, 21), (0, 5), (4, 22), (43, 0), (43, 1), (43, 2), (43, 3), (43, 4), (43, 5), (43, 6), (43, 7), (43, 8), (43, 9), (43, 10), (43, 11), (43, 12), (43, 13), (43, 14), (43, 15), (43, 16), (43, 17)] rfl gw_wsX11_init
set_option maxRecDepth 20000 in
theorem gL_law_X11_init : GoodIn wsL_law (wsX11_init) := ggL_law_X11_init
set_option maxRecDepth 20000 in
theorem gw_wsX10_parish : wsX10_parish.all goodWord = true := by decide +kernel
set_option maxRecDepth 20000 in
theorem ggL_law_X10_parish : GoodIn wsL_law wsX10_parish := goodIn_c kw_chE _ [(5, 2), (1, 10), (5, 3), (5, 4), (5, 5), (0, 2), (5, 6), (5, 7), (5, 8), (5, 9), (5, 10), (2, 5), (5, 11), (5, 12), (5, 13), (1, 9), (5, 14), (5, 15), (5, 16), (5, 17), (5, 18), (5, 19), (3, 3), (5, 20), (5, 21), (5, 22), (42, 0), (42, 1), (42, 2), (42, 3), (42, 4), (42, 5), (42, 6), (42, 7), (42, 8), (42, 9), (42, 10), (42, 11), (50, 0), (50, 1), (50, 2), (50, 3), (50, 4), (50, 5), (50, 6), (50, 7), (50, 8), (50, 9), (50, 10), (52, 0), (52, 1), (52, 2), (52, 3), (52, 4), (52, 5)] rfl gw_wsX10_parish
set_option maxRecDepth 20000 in
theorem gL_law_X10_parish : GoodIn wsL_law (wsV RL 13 RX10 yX10_parish wsX10_parish) := goodIn_app (goodIn_c kw_chE _ [(4, 23), (5, 0), (5, 1), (0, 2)] (by exact rfl) (by decide +kernel)) ggL_law_X10_parish
set_option maxRecDepth 20000 in
theorem gw_wsX11_parish : wsX11_parish.all goodWord = true := by decide +kernel
set_option maxRecDepth 20000 in
theorem ggL_law_X11_parish : GoodIn wsL_law wsX11_parish := goodIn_c kw_chE _ [(6, 2), (4, 8), (6, 3), (6, 4), (0, 5), (6, 5), (6, 6), (6, 7), (6, 8), (6, 9), (6, 10), (6, 11), (6, 12), (6, 13), (4, 11), (6, 14), (6, 15), (6, 16), (6, 17), (4, 20), (4, 21), (4, 22), (43, 0), (43, 1), (43, 2), (43, 3), (43, 4), (43, 5), (43, 6), (43, 7), (43, 8), (43, 9), (43, 10), (43, 11), (43, 12), (43, 13), (43, 14), (43, 15), (43, 16), (43, 17)] rfl gw_wsX11_parish
set_option maxRecDepth 20000 in
theorem gL_law_X11_parish : GoodIn wsL_law (wsV RL 17 RX11 yX11_parish wsX11_parish) := goodIn_app (goodIn_c kw_chE _ [(5, 23), (6, 0), (6, 1), (0, 5)] (by exact rfl) (by decide +kernel)) ggL_law_X11_parish
set_option maxRecDepth 20000 in
theorem gw_wsX10_field : wsX10_field.all goodWord = true := by decide +kernel
set_option maxRecDepth 20000 in
theorem ggL_law_X10_field : GoodIn wsL_law wsX10_field := goodIn_c kw_chE _ [(6, 21), (1, 10), (5, 3), (5, 4), (5, 5), (0, 2), (5, 6), (6, 22), (6, 23), (7, 0), (7, 1), (7, 2), (7, 3), (5, 7), (5, 8), (5, 9), (5, 10), (2, 5), (7, 4), (7, 5), (7, 6), (7, 7), (7, 8), (7, 9), (7, 10), (1, 9), (7, 11), (3, 1), (5, 15), (3, 3), (7, 12), (5, 17), (42, 0), (42, 1), (42, 2), (42, 3), (42, 4), (42, 5), (42, 6), (42, 7), (42, 8), (42, 9), (42, 10), (42, 11), (50, 0), (50, 1), (50, 2), (50, 3), (50, 4), (50, 5), (50, 6), (50, 7), (50, 8), (50, 9), (50, 10), (52, 0), (52, 1), (52, 2), (52, 3), (52, 4), (52, 5)] rfl gw_wsX10_field
set_option maxRecDepth 20000 in
theorem gL_law_X10_field : GoodIn wsL_law (wsV RL 18 RX10 yX10_field wsX10_field) := goodIn_app (goodIn_c kw_chE _ [(6, 18), (6, 19), (6, 20), (0, 2)] (by exact rfl) (by decide +kernel)) ggL_law_X10_field
set_option maxRecDepth 20000 in
theorem gw_wsX11_field : wsX11_field.all goodWord = true := by decide +kernel
set_option maxRecDepth 20000 in
theorem ggL_law_X11_field : GoodIn wsL_law wsX11_field := goodIn_c kw_chE _ [(7, 16), (7, 17), (4, 8), (6, 7), (6, 8), (0, 5), (6, 9), (7, 18), (7, 19), (7, 20), (7, 21), (6, 10), (6, 11), (6, 12), (6, 13), (4, 11), (6, 14), (6, 15), (6, 16), (6, 17), (7, 22), (7, 23), (8, 0), (8, 1), (8, 2), (8, 3), (8, 4), (43, 0), (43, 1), (43, 2), (43, 3), (43, 4), (43, 5), (43, 6), (43, 7), (43, 8), (43, 9), (43, 10), (43, 11), (43, 12), (43, 13), (43, 14), (43, 15), (43, 16), (43, 17)] rfl gw_wsX11_field
set_option maxRecDepth 20000 in
theorem gL_law_X11_field : GoodIn wsL_law (wsV RL 22 RX11 yX11_field wsX11_field) := goodIn_app (goodIn_c kw_chE _ [(7, 13), (7, 14), (7, 15), (0, 5)] (by exact rfl) (by decide +kernel)) ggL_law_X11_field
set_option maxRecDepth 20000 in
theorem gw_wsX10_gleaner : wsX10_gleaner.all goodWord = true := by decide +kernel
set_option maxRecDepth 20000 in
theorem ggL_law_X10_gleaner : GoodIn wsL_law wsX10_gleaner := goodIn_c kw_chE _ [(8, 8), (1, 10), (8, 9), (8, 10), (8, 11), (8, 12), (1, 9), (8, 13), (5, 15), (5, 5), (0, 2), (5, 6), (5, 7), (5, 8), (5, 9), (5, 10), (2, 5), (7, 4), (7, 5), (7, 6), (7, 7), (8, 14), (8, 15), (8, 16), (8, 17), (3, 3), (8, 18), (5, 16), (8, 19), (5, 17), (42, 0), (42, 1), (42, 2), (42, 3), (42, 4), (42, 5), (42, 6), (42, 7), (42, 8), (42, 9), (42, 10), (42, 11), (50, 0), (50, 1), (50, 2), (50, 3), (50, 4), (50, 5), (50, 6), (50, 7), (50, 8), (50, 9), (50, 10), (52, 0), (52, 1), (52, 2), (52, 3), (52, 4), (52, 5)] rfl gw_wsX10_gleaner
set_option maxRecDepth 20000 in
theorem gL_law_X10_gleaner : GoodIn wsL_law (wsV RL 23 RX10 yX10_gleaner wsX10_gleaner) := goodIn_app (goodIn_c kw_chE _ [(8, 5), (8, 6), (8, 7), (0, 2)] (by exact rfl) (by decide +kernel)) ggL_law_X10_gleaner
set_option maxRecDepth 20000 in
theorem gw_wsX11_gleaner : wsX11_gleaner.all goodWord = true := by decide +kernel
set_option maxRecDepth 20000 in
theorem ggL_law_X11_gleaner : GoodIn wsL_law wsX11_gleaner := goodIn_c kw_chE _ [(8, 23), (4, 8), (9, 0), (9, 1), (9, 2), (0, 5), (9, 3), (6, 14), (6, 15), (6, 16), (6, 17), (6, 7), (6, 8), (6, 9), (6, 10), (6, 11), (6, 12), (6, 13), (4, 11), (9, 4), (9, 5), (9, 6), (9, 7), (7, 22), (7, 23), (8, 0), (8, 1), (9, 8), (9, 9), (9, 10), (43, 0), (43, 1), (43, 2), (43, 3), (43, 4), (43, 5), (43, 6), (43, 7), (43, 8), (43, 9), (43, 10), (43, 11), (43, 12), (43, 13), (43, 14), (43, 15), (43, 16), (43, 17)] rfl gw_wsX11_gleaner
set_option maxRecDepth 20000 in
theorem gL_law_X11_gleaner : GoodIn wsL_law (wsV RL 26 RX11 yX11_gleaner wsX11_gleaner) := goodIn_app (goodIn_c kw_chE _ [(8, 20), (8, 21), (8, 22), (0, 5)] (by exact rfl) (by decide +kernel)) ggL_law_X11_gleaner
set_option maxRecDepth 20000 in
theorem gw_wsX10_type : wsX10_type.all goodWord = true := by decide +kernel
set_option maxRecDepth 20000 in
theorem ggL_law_X10_type : GoodIn wsL_law wsX10_type := goodIn_c kw_chE _ [(9, 14), (1, 17), (9, 15), (5, 4), (5, 5), (0, 2), (5, 6), (5, 7), (5, 8), (5, 9), (5, 10), (2, 5), (7, 4), (7, 5), (7, 6), (7, 7), (9, 16), (9, 17), (9, 18), (1, 16), (9, 19), (3, 19), (9, 20), (42, 0), (42, 1), (42, 2), (42, 3), (42, 4), (42, 5), (42, 6), (42, 7), (42, 8), (42, 9), (42, 10), (42, 11), (51, 0), (51, 1), (51, 2), (51, 3), (51, 4), (51, 5), (51, 6), (51, 7), (51, 8), (51, 9), (51, 10), (51, 11)] rfl gw_wsX10_type
set_option maxRecDepth 20000 in
theorem gL_law_X10_type : GoodIn wsL_law (wsV RL 27 RX10 yX10_type wsX10_type) := goodIn_app (goodIn_c kw_chE _ [(9, 11), (9, 12), (9, 13), (0, 2)] (by exact rfl) (by decide +kernel)) ggL_law_X10_type
set_option maxRecDepth 20000 in
theorem gw_wsX11_type : wsX11_type.all goodWord = true := by decide +kernel
set_option maxRecDepth 20000 in
theorem ggL_law_X11_type : GoodIn wsL_law wsX11_type := goodIn_c kw_chE _ [(10, 0), (10, 1), (10, 2), (4, 17), (6, 7), (6, 8), (0, 5), (6, 9), (6, 10), (6, 11), (6, 12), (6, 13), (4, 11), (7, 22), (7, 23), (8, 0), (8, 1), (43, 0), (43, 1), (43, 2), (43, 3), (43, 4), (43, 5), (43, 6), (43, 7), (43, 8), (43, 9), (43, 10), (43, 11), (43, 12), (43, 13), (43, 14), (43, 15), (43, 16), (43, 17)] rfl gw_wsX11_type
set_option maxRecDepth 20000 in
theorem gL_law_X11_type : GoodIn wsL_law (wsV RL 30 RX11 yX11_type wsX11_type) := goodIn_app (goodIn_c kw_chE _ [(9, 21), (9, 22), (9, 23), (0, 5)] (by exact rfl) (by decide +kernel)) ggL_law_X11_type
set_option maxRecDepth 20000 in
theorem gw_wsX10_clear : wsX10_clear.all goodWord = true := by decide +kernel
set_option maxRecDepth 20000 in
theorem ggL_law_X10_clear : GoodIn wsL_law wsX10_clear := goodIn_c kw_chE _ [(10, 6), (1, 17), (9, 15), (42, 0), (42, 1), (42, 2), (42, 3), (42, 4), (42, 5), (42, 6), (42, 7), (42, 8), (42, 9), (42, 10), (42, 11), (51, 0), (51, 1), (51, 2), (51, 3), (51, 4), (51, 5), (51, 6), (51, 7), (51, 8), (51, 9), (51, 10), (51, 11)] rfl gw_wsX10_clear
set_option maxRecDepth 20000 in
theorem gL_law_X10_clear : GoodIn wsL_law (wsV RL 31 RX10 yX10_clear wsX10_clear) := goodIn_app (goodIn_c kw_chE _ [(10, 3), (10, 4), (10, 5), (0, 2)] (by exact rfl) (by decide +kernel)) ggL_law_X10_clear
set_option maxRecDepth 20000 in
theorem gw_wsX11_clear : wsX11_clear.all goodWord = true := by decide +kernel
set_option maxRecDepth 20000 in
theorem ggL_law_X11_clear : GoodIn wsL_law wsX11_clear := goodIn_c kw_chE _ [(10, 10), (10, 2), (43, 0), (43, 1), (43, 2), (43, 3), (43, 4), (43, 5), (43, 6), (43, 7), (43, 8), (43, 9), (43, 10), (43, 11), (43, 12), (43, 13), (43, 14), (43, 15), (43, 16), (43, 17)] rfl gw_wsX11_clear
set_option maxRecDepth 20000 in
theorem gL_law_X11_clear : GoodIn wsL_law (wsV RL 35 RX11 yX11_clear wsX11_clear) := goodIn_app (goodIn_c kw_chE _ [(10, 7), (10, 8), (10, 9), (0, 5)] (by exact rfl) (by decide +kernel)) ggL_law_X11_clear
set_option maxRecDepth 20000 in
theorem gw_wsX10_read : wsX10_read.all goodWord = true := by decide +kernel
set_option maxRecDepth 20000 in
theorem ggL_law_X10_read : GoodIn wsL_law wsX10_read := goodIn_c kw_chE _ [(10, 14), (1, 17), (1, 10), (10, 15), (10, 16), (10, 17), (10, 18), (10, 19), (10, 20), (10, 21), (1, 16), (10, 22), (10, 23), (11, 0), (11, 1), (11, 2), (11, 3), (11, 4), (11, 5), (11, 6), (11, 7), (11, 8), (9, 20), (3, 19), (11, 9), (11, 10), (11, 11), (11, 12), (11, 13), (11, 14), (11, 15), (11, 16), (11, 17), (11, 18), (11, 19), (11, 20), (11, 21), (11, 22), (11, 23), (12, 0), (12, 1), (12, 2), (12, 3), (12, 4), (12, 5), (12, 6), (12, 7), (3, 20), (3, 21), (3, 22), (12, 8), (12, 9), (12, 10), (12, 11), (12, 12), (12, 13), (12, 14), (12, 15), (12, 16), (12, 17), (12, 18), (12, 19), (12, 20), (12, 21), (12, 22), (12, 23), (13, 0), (13, 1), (13, 2), (13, 3), (13, 4), (13, 5), (13, 6), (13, 7), (13, 8), (13, 9), (13, 10), (13, 11), (13, 12), (13, 13), (13, 14), (13, 15), (13, 16), (13, 17), (13, 18), (13, 19), (13, 20), (13, 21), (13, 22), (13, 23), (14, 0), (14, 1), (14, 2), (14, 3), (14, 4), (14, 5), (14, 6), (14, 7), (14, 8), (14, 9), (14, 10), (14, 11), (14, 12), (14, 13), (14, 14), (14, 15), (14, 16), (14, 17), (14, 18), (14, 19), (14, 20), (7, 2), (0, 2), (7, 3), (5, 11), (5, 12), (5, 13), (1, 9), (5, 14), (5, 15), (5, 16), (5, 17), (5, 18), (5, 19), (3, 3), (5, 20), (5, 21), (5, 22), (7, 8), (7, 9), (7, 10), (7, 11), (3, 1), (7, 12), (8, 14), (8, 15), (8, 16), (8, 17), (8, 18), (8, 19), (14, 21), (14, 22), (14, 23), (15, 0), (15, 1), (15, 2), (15, 3), (15, 4), (15, 5), (15, 6), (15, 7), (15, 8), (15, 9), (15, 10), (15, 11), (15, 12), (3, 8), (15, 13), (15, 14), (15, 15), (15, 16), (15, 17), (1, 2), (15, 18), (15, 19), (15, 20), (15, 21), (15, 22), (15, 23), (16, 0), (16, 1), (16, 2), (0, 17), (16, 3), (16, 4), (16, 5), (16, 6), (0, 14), (16, 7), (16, 8), (16, 9), (16, 10), (1, 5), (16, 11), (16, 12), (16, 13), (16, 14), (16, 15), (0, 20), (16, 16), (16, 17), (16, 18), (16, 19), (16, 20), (16, 21), (16, 22), (0, 23), (16, 23), (17, 0), (17, 1), (17, 2), (17, 3), (17, 4), (17, 5), (17, 6), (17, 7), (17, 8), (17, 9), (17, 10), (17, 11), (17, 12), (42, 0), (42, 1), (42, 2), (42, 3), (42, 4), (42, 5), (42, 6), (42, 7), (42, 8), (42, 9), (42, 10), (42, 11), (51, 0), (51, 1), (51, 2), (51, 3), (51, 4), (51, 5), (51, 6), (51, 7), (51, 8), (51, 9), (51, 10), (51, 11), (50, 0), (50, 1), (50, 2), (50, 3), (50, 4), (50, 5), (50, 6), (50, 7), (50, 8), (50, 9), (50, 10), (52, 0), (52, 1), (52, 2), (52, 3), (52, 4), (52, 5)] rfl gw_wsX10_read
set_option maxRecDepth 20000 in
theorem gL_law_X10_read : GoodIn wsL_law (wsV RL 36 RX10 yX10_read wsX10_read) := goodIn_app (goodIn_c kw_chE _ [(10, 11), (10, 12), (10, 13), (0, 2)] (by exact rfl) (by decide +kernel)) ggL_law_X10_read
set_option maxRecDepth 20000 in
theorem gw_wsX11_read : wsX11_read.all goodWord = true := by decide +kernel
set_option maxRecDepth 20000 in
theorem ggL_law_X11_read : GoodIn wsL_law wsX11_read := goodIn_c kw_chE _ [(17, 16), (17, 17), (17, 18), (4, 8), (4, 18), (17, 19), (17, 20), (17, 21), (0, 5), (17, 22), (10, 2), (4, 17), (17, 23), (18, 0), (18, 1), (18, 2), (18, 3), (18, 4), (18, 5), (6, 7), (6, 8), (6, 9), (18, 6), (18, 7), (18, 8), (18, 9), (18, 10), (18, 11), (18, 12), (18, 13), (18, 14), (4, 19), (18, 15), (18, 16), (18, 17), (18, 18), (18, 19), (18, 20), (18, 21), (18, 22), (18, 23), (19, 0), (19, 1), (19, 2), (4, 20), (4, 21), (4, 22), (19, 3), (19, 4), (19, 5), (19, 6), (19, 7), (19, 8), (19, 9), (19, 10), (8, 2), (8, 3), (8, 4), (19, 11), (19, 12), (19, 13), (19, 14), (19, 15), (19, 16), (19, 17), (19, 18), (19, 19), (19, 20), (19, 21), (19, 22), (19, 23), (20, 0), (20, 1), (20, 2), (20, 3), (20, 4), (20, 5), (20, 6), (20, 7), (20, 8), (20, 9), (20, 10), (20, 11), (20, 12), (20, 13), (20, 14), (20, 15), (20, 16), (9, 8), (9, 9), (9, 10), (43, 0), (43, 1), (43, 2), (43, 3), (43, 4), (43, 5), (43, 6), (43, 7), (43, 8), (43, 9), (43, 10), (43, 11), (43, 12), (43, 13), (43, 14), (43, 15), (43, 16), (43, 17)] rfl gw_wsX11_read
set_option maxRecDepth 20000 in
theorem gL_law_X11_read : GoodIn wsL_law (wsV RL 39 RX11 yX11_read wsX11_read) := goodIn_app (goodIn_c kw_chE _ [(17, 13), (17, 14), (17, 15), (0, 5)] (by exact rfl) (by decide +kernel)) ggL_law_X11_read
set_option maxRecDepth 20000 in
theorem gw_wsX10_glean : wsX10_glean.all goodWord = true := by decide +kernel
set_option maxRecDepth 20000 in
theorem ggL_law_X10_glean : GoodIn wsL_law wsX10_glean := goodIn_c kw_chE _ [(20, 20), (1, 10), (10, 18), (20, 21), (7, 1), (7, 2), (0, 2), (7, 3), (5, 7), (5, 8), (5, 9), (5, 10), (2, 5), (20, 22), (20, 23), (21, 0), (21, 1), (21, 2), (21, 3), (21, 4), (1, 9), (21, 5), (5, 17), (3, 4), (3, 3), (21, 6), (21, 7), (21, 8), (21, 9), (21, 10), (21, 11), (21, 12), (1, 20), (21, 13), (3, 12), (21, 14), (21, 15), (21, 16), (21, 17), (3, 13), (3, 14), (21, 18), (21, 19), (21, 20), (14, 21), (14, 22), (14, 23), (15, 0), (5, 15), (5, 20), (15, 1), (15, 2), (15, 3), (15, 4), (15, 5), (15, 6), (15, 7), (15, 8), (5, 16), (8, 18), (15, 9), (15, 10), (15, 11), (15, 12), (3, 8), (3, 1), (7, 12), (5, 21), (15, 13), (15, 14), (15, 15), (15, 16), (15, 17), (1, 2), (15, 18), (15, 19), (15, 20), (15, 21), (15, 22), (15, 23), (16, 0), (16, 1), (16, 2), (0, 17), (16, 3), (16, 4), (16, 5), (16, 6), (0, 14), (16, 7), (16, 8), (16, 9), (16, 10), (1, 5), (16, 11), (16, 12), (16, 13), (16, 14), (16, 15), (0, 20), (16, 16), (16, 17), (16, 18), (16, 19), (16, 20), (16, 21), (16, 22), (0, 23), (16, 23), (17, 0), (17, 1), (17, 2), (17, 3), (17, 4), (17, 5), (17, 6), (17, 7), (17, 8), (17, 9), (17, 10), (8, 19), (17, 11), (17, 12), (42, 0), (42, 1), (42, 2), (42, 3), (42, 4), (42, 5), (42, 6), (42, 7), (42, 8), (42, 9), (42, 10), (42, 11), (50, 0), (50, 1), (50, 2), (50, 3), (50, 4), (50, 5), (50, 6), (50, 7), (50, 8), (50, 9), (50, 10), (52, 0), (52, 1), (52, 2), (52, 3), (52, 4), (52, 5)] rfl gw_wsX10_glean
set_option maxRecDepth 20000 in
theorem gL_law_X10_glean : GoodIn wsL_law (wsV RL 40 RX10 yX10_glean wsX10_glean) := goodIn_app (goodIn_c kw_chE _ [(20, 17), (20, 18), (20, 19), (0, 2)] (by exact rfl) (by decide +kernel)) ggL_law_X10_glean
set_option maxRecDepth 20000 in
theorem gw_wsX11_glean : wsX11_glean.all goodWord = true := by decide +kernel
set_option maxRecDepth 20000 in
theorem ggL_law_X11_glean : GoodIn wsL_law wsX11_glean := goodIn_c kw_chE _ [(22, 0), (22, 1), (4, 8), (6, 7), (6, 8), (0, 5), (6, 9), (6, 10), (6, 11), (6, 12), (6, 13), (4, 11), (22, 2), (22, 3), (22, 4), (22, 5), (22, 6), (22, 7), (22, 8), (22, 9), (19, 15), (19, 16), (19, 17), (19, 18), (19, 19), (19, 20), (19, 21), (19, 22), (19, 23), (20, 0), (20, 1), (20, 2), (20, 3), (20, 4), (20, 5), (20, 6), (20, 7), (20, 8), (43, 0), (43, 1), (43, 2), (43, 3), (43, 4), (43, 5), (43, 6), (43, 7), (43, 8), (43, 9), (43, 10), (43, 11), (43, 12), (43, 13), (43, 14), (43, 15), (43, 16), (43, 17)] rfl gw_wsX11_glean
set_option maxRecDepth 20000 in
theorem gL_law_X11_glean : GoodIn wsL_law (wsV RL 43 RX11 yX11_glean wsX11_glean) := goodIn_app (goodIn_c kw_chE _ [(21, 21), (21, 22), (21, 23), (0, 5)] (by exact rfl) (by decide +kernel)) ggL_law_X11_glean
set_option maxRecDepth 20000 in
theorem gw_wsX10_night : wsX10_night.all goodWord = true := by decide +kernel
set_option maxRecDepth 20000 in
theorem ggL_law_X10_night : GoodIn wsL_law wsX10_night := goodIn_c kw_chE _ [(22, 13), (1, 10), (10, 18), (22, 14), (21, 2), (21, 3), (21, 4), (1, 9), (21, 5), (5, 17), (3, 4), (3, 3), (21, 6), (21, 7), (21, 8), (21, 9), (21, 10), (21, 11), (21, 12), (1, 20), (21, 13), (3, 12), (21, 14), (21, 15), (21, 16), (21, 17), (3, 13), (3, 14), (21, 18), (21, 19), (21, 20), (22, 15), (22, 16), (22, 17), (22, 18), (5, 16), (8, 19), (5, 15), (7, 12), (17, 11), (17, 1), (15, 21), (17, 2), (5, 22), (5, 20), (22, 19), (0, 2), (22, 20), (42, 0), (42, 1), (42, 2), (42, 3), (42, 4), (42, 5), (42, 6), (42, 7), (42, 8), (42, 9), (42, 10), (42, 11), (50, 0), (50, 1), (50, 2), (50, 3), (50, 4), (50, 5), (50, 6), (50, 7), (50, 8), (50, 9), (50, 10), (52, 0), (52, 1), (52, 2), (52, 3), (52, 4), (52, 5)] rfl gw_wsX10_night
set_option maxRecDepth 20000 in
theorem gL_law_X10_night : GoodIn wsL_law (wsV RL 44 RX10 yX10_night wsX10_night) := goodIn_app (goodIn_c kw_chE _ [(22, 10), (22, 11), (22, 12), (0, 2)] (by exact rfl) (by decide +kernel)) ggL_law_X10_night
set_option maxRecDepth 20000 in
theorem gw_wsX11_night : wsX11_night.all goodWord = true := by decide +kernel
set_option maxRecDepth 20000 in
theorem ggL_law_X11_night : GoodIn wsL_law wsX11_night := goodIn_c kw_chE _ [(23, 0), (4, 8), (22, 6), (22, 7), (22, 8), (0, 5), (22, 9), (23, 1), (23, 2), (23, 3), (23, 4), (23, 5), (23, 6), (43, 0), (43, 1), (43, 2), (43, 3), (43, 4), (43, 5), (43, 6), (43, 7), (43, 8), (43, 9), (43, 10), (43, 11), (43, 12), (43, 13), (43, 14), (43, 15), (43, 16), (43, 17)] rfl gw_wsX11_night
set_option maxRecDepth 20000 in
theorem gL_law_X11_night : GoodIn wsL_law (wsV RL 47 RX11 yX11_night wsX11_night) := goodIn_app (goodIn_c kw_chE _ [(22, 21), (22, 22), (22, 23), (0, 5)] (by exact rfl) (by decide +kernel)) ggL_law_X11_night
