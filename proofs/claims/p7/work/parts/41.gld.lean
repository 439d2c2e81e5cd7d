set_option maxRecDepth 20000 in
theorem gw_wsX10_two : wsX10_two.all goodWord = true := by decide +kernel
set_option maxRecDepth 20000 in
theorem ggL_law_X10_two : GoodIn wsL_law wsX10_two := goodIn_c kw_chE _ [(35, 18), (1, 10), (10, 18), (20, 21), (5, 3), (23, 11), (23, 12), (23, 13), (23, 14), (1, 9), (23, 15), (5, 16), (5, 5), (0, 2), (5, 6), (27, 15), (27, 16), (27, 17), (27, 18), (2, 5), (29, 8), (29, 9), (29, 10), (29, 11), (2, 3), (26, 10), (15, 10), (15, 11), (15, 12), (3, 8), (3, 1), (7, 12), (5, 21), (15, 13), (15, 14), (15, 15), (15, 16), (15, 17), (1, 2), (15, 18), (15, 19), (15, 20), (15, 21), (15, 22), (15, 23), (16, 0), (16, 1), (16, 2), (0, 17), (16, 3), (16, 4), (16, 5), (16, 6), (0, 14), (16, 7), (16, 8), (16, 9), (16, 10), (1, 5), (16, 11), (16, 12), (16, 13), (16, 14), (16, 15), (0, 20), (16, 16), (16, 17), (16, 18), (16, 19), (16, 20), (16, 21), (16, 22), (0, 23), (16, 23), (17, 0), (17, 1), (17, 2), (17, 3), (17, 4), (17, 5), (17, 6), (35, 19), (35, 20), (35, 21), (35, 22), (35, 23), (36, 0), (36, 1), (36, 2), (36, 3), (36, 4), (36, 5), (42, 0), (42, 1), (42, 2), (42, 3), (42, 4), (42, 5), (42, 6), (42, 7), (42, 8), (42, 9), (42, 10), (42, 11), (50, 0), (50, 1), (50, 2), (50, 3), (50, 4), (50, 5), (50, 6), (50, 7), (50, 8), (50, 9), (50, 10), (52, 0), (52, 1), (52, 2), (52, 3), (52, 4), (52, 5)] rfl gw_wsX10_two
set_option maxRecDepth 20000 in
theorem gL_law_X10_two : GoodIn wsL_law (wsV RL 123 RX10 yX10_two wsX10_two) := goodIn_app (goodIn_c kw_chE _ [(35, 15), (35, 16), (35, 17), (0, 2)] (by exact rfl) (by decide +kernel)) ggL_law_X10_two
set_option maxRecDepth 20000 in
theorem gw_wsX11_two : wsX11_two.all goodWord = true := by decide +kernel
set_option maxRecDepth 20000 in
theorem ggL_law_X11_two : GoodIn wsL_law wsX11_two := goodIn_c kw_chE _ [(36, 9), (23, 20), (23, 21), (23, 22), (0, 5), (23, 23), (9, 4), (9, 5), (9, 6), (9, 7), (4, 8), (6, 7), (6, 8), (6, 9), (6, 10), (6, 11), (6, 12), (6, 13), (4, 11), (6, 14), (6, 15), (6, 16), (6, 17), (36, 10), (36, 11), (36, 12), (36, 13), (36, 14), (36, 15), (36, 16), (36, 17), (19, 21), (19, 22), (19, 23), (20, 0), (20, 1), (20, 2), (20, 3), (20, 4), (20, 5), (20, 6), (20, 7), (20, 8), (36, 18), (36, 19), (36, 20), (43, 0), (43, 1), (43, 2), (43, 3), (43, 4), (43, 5), (43, 6), (43, 7), (43, 8), (43, 9), (43, 10), (43, 11), (43, 12), (43, 13), (43, 14), (43, 15), (43, 16), (43, 17)] rfl gw_wsX11_two
set_option maxRecDepth 20000 in
theorem gL_law_X11_two : GoodIn wsL_law (wsV RL 126 RX11 yX11_two wsX11_two) := goodIn_app (goodIn_c kw_chE _ [(36, 6), (36, 7), (36, 8), (0, 5)] (by exact rfl) (by decide +kernel)) ggL_law_X11_two
set_option maxRecDepth 20000 in
theorem gw_wsX10_rains : wsX10_rains.all goodWord = true := by decide +kernel
set_option maxRecDepth 20000 in
theorem ggL_law_X10_rains : GoodIn wsL_law wsX10_rains := goodIn_c kw_chE _ [(37, 0), (1, 10), (10, 18), (20, 21), (1, 21), (24, 4), (26, 23), (17, 1), (15, 21), (17, 2), (2, 6), (2, 7), (8, 10), (8, 11), (8, 12), (1, 9), (8, 13), (5, 15), (5, 5), (0, 2), (5, 6), (7, 1), (7, 2), (7, 3), (5, 7), (5, 8), (5, 9), (5, 10), (2, 5), (26, 10), (15, 10), (15, 11), (15, 12), (3, 8), (3, 1), (7, 12), (5, 21), (15, 13), (15, 14), (15, 15), (15, 16), (15, 17), (1, 2), (15, 18), (15, 19), (15, 20), (15, 22), (15, 23), (16, 0), (16, 1), (16, 2), (0, 17), (16, 3), (16, 4), (16, 5), (16, 6), (0, 14), (16, 7), (16, 8), (16, 9), (16, 10), (1, 5), (16, 11), (16, 12), (16, 13), (16, 14), (16, 15), (0, 20), (16, 16), (16, 17), (16, 18), (16, 19), (16, 20), (16, 21), (16, 22), (0, 23), (16, 23), (17, 0), (17, 3), (17, 4), (17, 5), (17, 6), (27, 0), (21, 11), (21, 12), (1, 20), (21, 13), (3, 12), (21, 14), (21, 15), (21, 16), (21, 17), (3, 13), (3, 14), (21, 18), (21, 19), (21, 20), (37, 1), (37, 2), (37, 3), (42, 0), (42, 1), (42, 2), (42, 3), (42, 4), (42, 5), (42, 6), (42, 7), (42, 8), (42, 9), (42, 10), (42, 11), (50, 0), (50, 1), (50, 2), (50, 3), (50, 4), (50, 5), (50, 6), (50, 7), (50, 8), (50, 9), (50, 10), (52, 0), (52, 1), (52, 2), (52, 3), (52, 4), (52, 5)] rfl gw_wsX10_rains
set_option maxRecDepth 20000 in
theorem gL_law_X10_rains : GoodIn wsL_law (wsV RL 127 RX10 yX10_rains wsX10_rains) := goodIn_app (goodIn_c kw_chE _ [(36, 21), (36, 22), (36, 23), (0, 2)] (by exact rfl) (by decide +kernel)) ggL_law_X10_rains
set_option maxRecDepth 20000 in
theorem gw_wsX11_rains : wsX11_rains.all goodWord = true := by decide +kernel
set_option maxRecDepth 20000 in
theorem ggL_law_X11_rains : GoodIn wsL_law wsX11_rains := goodIn_c kw_chE _ [(37, 7), (37, 8), (4, 13), (4, 8), (9, 0), (9, 1), (9, 2), (0, 5), (9, 3), (6, 14), (6, 15), (6, 16), (6, 17), (6, 7), (6, 8), (6, 9), (6, 10), (6, 11), (6, 12), (6, 13), (4, 11), (27, 5), (27, 6), (27, 7), (27, 8), (19, 21), (19, 22), (19, 23), (20, 0), (20, 1), (20, 2), (20, 3), (20, 4), (20, 5), (20, 6), (20, 7), (20, 8), (37, 9), (37, 10), (37, 11), (37, 12), (37, 13), (4, 12), (43, 0), (43, 1), (43, 2), (43, 3), (43, 4), (43, 5), (43, 6), (43, 7), (43, 8), (43, 9), (43, 10), (43, 11), (43, 12), (43, 13), (43, 14), (43, 15), (43, 16), (43, 17)] rfl gw_wsX11_rains
set_option maxRecDepth 20000 in
theorem gL_law_X11_rains : GoodIn wsL_law (wsV RL 130 RX11 yX11_rains wsX11_rains) := goodIn_app (goodIn_c kw_chE _ [(37, 4), (37, 5), (37, 6), (0, 5)] (by exact rfl) (by decide +kernel)) ggL_law_X11_rains
set_option maxRecDepth 20000 in
theorem gw_wsX10_summers : wsX10_summers.all goodWord = true := by decide +kernel
set_option maxRecDepth 20000 in
theorem ggL_law_X10_summers : GoodIn wsL_law wsX10_summers := goodIn_c kw_chE _ [(37, 17), (37, 18), (1, 21), (1, 10), (10, 18), (37, 19), (37, 20), (37, 21), (20, 21), (37, 22), (37, 23), (24, 4), (5, 4), (5, 5), (0, 2), (5, 6), (7, 1), (7, 2), (7, 3), (5, 7), (5, 8), (5, 9), (5, 10), (2, 5), (27, 0), (21, 11), (21, 12), (1, 20), (21, 13), (3, 12), (21, 14), (21, 15), (21, 16), (21, 17), (3, 13), (3, 14), (21, 18), (21, 19), (21, 20), (22, 15), (22, 16), (22, 17), (1, 9), (22, 18), (5, 16), (8, 19), (5, 15), (7, 12), (17, 11), (17, 1), (15, 21), (17, 2), (5, 22), (5, 20), (22, 19), (22, 20), (14, 21), (14, 22), (14, 23), (15, 0), (15, 1), (15, 2), (15, 3), (15, 4), (15, 5), (15, 6), (15, 7), (15, 8), (8, 18), (15, 9), (15, 10), (15, 11), (15, 12), (3, 8), (3, 1), (5, 21), (15, 13), (15, 14), (15, 15), (15, 16), (15, 17), (1, 2), (15, 18), (15, 19), (15, 20), (15, 22), (15, 23), (16, 0), (16, 1), (16, 2), (0, 17), (16, 3), (16, 4), (16, 5), (16, 6), (0, 14), (16, 7), (16, 8), (16, 9), (16, 10), (1, 5), (16, 11), (16, 12), (16, 13), (16, 14), (16, 15), (0, 20), (16, 16), (16, 17), (16, 18), (16, 19), (16, 20), (16, 21), (16, 22), (0, 23), (16, 23), (17, 0), (17, 3), (17, 4), (17, 5), (17, 6), (17, 7), (17, 8), (17, 9), (17, 10), (17, 12), (42, 0), (42, 1), (42, 2), (42, 3), (42, 4), (42, 5), (42, 6), (42, 7), (42, 8), (42, 9), (42, 10), (42, 11), (50, 0), (50, 1), (50, 2), (50, 3), (50, 4), (50, 5), (50, 6), (50, 7), (50, 8), (50, 9), (50, 10), (52, 0), (52, 1), (52, 2), (52, 3), (52, 4), (52, 5)] rfl gw_wsX10_summers
set_option maxRecDepth 20000 in
theorem gL_law_X10_summers : GoodIn wsL_law (wsV RL 131 RX10 yX10_summers wsX10_summers) := goodIn_app (goodIn_c kw_chE _ [(37, 14), (37, 15), (37, 16), (0, 2)] (by exact rfl) (by decide +kernel)) ggL_law_X10_summers
set_option maxRecDepth 20000 in
theorem gw_wsX11_summers : wsX11_summers.all goodWord = true := by decide +kernel
set_option maxRecDepth 20000 in
theorem ggL_law_X11_summers : GoodIn wsL_law wsX11_summers := goodIn_c kw_chE _ [(38, 3), (38, 4), (7, 21), (38, 5), (38, 6), (38, 7), (4, 13), (38, 8), (37, 8), (6, 7), (6, 8), (0, 5), (6, 9), (6, 10), (6, 11), (6, 12), (6, 13), (4, 11), (27, 5), (27, 6), (27, 7), (27, 8), (4, 8), (23, 1), (23, 2), (23, 3), (23, 4), (23, 5), (23, 6), (19, 15), (19, 16), (19, 17), (19, 18), (19, 19), (19, 20), (19, 21), (19, 22), (19, 23), (20, 0), (20, 1), (20, 2), (20, 3), (20, 4), (20, 5), (20, 6), (20, 7), (20, 8), (43, 0), (43, 1), (43, 2), (43, 3), (43, 4), (43, 5), (43, 6), (43, 7), (43, 8), (43, 9), (43, 10), (43, 11), (43, 12), (43, 13), (43, 14), (43, 15), (43, 16), (43, 17)] rfl gw_wsX11_summers
set_option maxRecDepth 20000 in
theorem gL_law_X11_summers : GoodIn wsL_law (wsV RL 134 RX11 yX11_summers wsX11_summers) := goodIn_app (goodIn_c kw_chE _ [(38, 0), (38, 1), (38, 2), (0, 5)] (by exact rfl) (by decide +kernel)) ggL_law_X11_summers
set_option maxRecDepth 20000 in
theorem gw_wsX10_part : wsX10_part.all goodWord = true := by decide +kernel
set_option maxRecDepth 20000 in
theorem ggL_law_X10_part : GoodIn wsL_law wsX10_part := goodIn_c kw_chE _ [(38, 12), (2, 6), (2, 7), (5, 4), (5, 5), (0, 2), (5, 6), (5, 7), (5, 8), (5, 9), (5, 10), (2, 5), (42, 0), (42, 1), (42, 2), (42, 3), (42, 4), (42, 5), (42, 6), (42, 7), (42, 8), (42, 9), (42, 10), (42, 11)] rfl gw_wsX10_part
set_option maxRecDepth 20000 in
theorem gL_law_X10_part : GoodIn wsL_law (wsV RL 135 RX10 yX10_part wsX10_part) := goodIn_app (goodIn_c kw_chE _ [(38, 9), (38, 10), (38, 11), (0, 2)] (by exact rfl) (by decide +kernel)) ggL_law_X10_part
set_option maxRecDepth 20000 in
theorem gw_wsX11_part : wsX11_part.all goodWord = true := by decide +kernel
set_option maxRecDepth 20000 in
theorem ggL_law_X11_part : GoodIn wsL_law wsX11_part := goodIn_c kw_chE _ [(38, 16), (37, 13), (4, 12), (6, 10), (6, 11), (6, 12), (0, 5), (6, 13), (4, 11), (43, 0), (43, 1), (43, 2), (43, 3), (43, 4), (43, 5), (43, 6), (43, 7), (43, 8), (43, 9), (43, 10), (43, 11), (43, 12), (43, 13), (43, 14), (43, 15), (43, 16), (43, 17)] rfl gw_wsX11_part
set_option maxRecDepth 20000 in
theorem gL_law_X11_part : GoodIn wsL_law (wsV RL 139 RX11 yX11_part wsX11_part) := goodIn_app (goodIn_c kw_chE _ [(38, 13), (38, 14), (38, 15), (0, 5)] (by exact rfl) (by decide +kernel)) ggL_law_X11_part
set_option maxRecDepth 20000 in
theorem gw_wsX10_image : wsX10_image.all goodWord = true := by decide +kernel
set_option maxRecDepth 20000 in
theorem ggL_law_X10_image : GoodIn wsL_law wsX10_image := goodIn_c kw_chE _ [(38, 20), (1, 11), (1, 10), (1, 13), (5, 4), (5, 5), (0, 2), (5, 6), (5, 7), (5, 8), (5, 9), (5, 10), (2, 5), (38, 21), (38, 22), (38, 23), (1, 9), (39, 0), (3, 1), (39, 1), (21, 15), (21, 16), (21, 17), (3, 3), (5, 17), (3, 4), (5, 18), (3, 6), (5, 19), (3, 7), (5, 15), (5, 16), (21, 10), (21, 11), (21, 12), (1, 20), (21, 13), (3, 12), (21, 14), (3, 13), (3, 14), (21, 18), (21, 19), (21, 20), (42, 0), (42, 1), (42, 2), (42, 3), (42, 4), (42, 5), (42, 6), (42, 7), (42, 8), (42, 9), (42, 10), (42, 11), (50, 0), (50, 1), (50, 2), (50, 3), (50, 4), (50, 5), (50, 6), (50, 7), (50, 8), (50, 9), (50, 10), (52, 0), (52, 1), (52, 2), (52, 3), (52, 4), (52, 5)] rfl gw_wsX10_image
set_option maxRecDepth 20000 in
theorem gL_law_X10_image : GoodIn wsL_law (wsV RL 140 RX10 yX10_image wsX10_image) := goodIn_app (goodIn_c kw_chE _ [(38, 17), (38, 18), (38, 19), (0, 2)] (by exact rfl) (by decide +kernel)) ggL_law_X10_image
set_option maxRecDepth 20000 in
theorem gw_wsX11_image : wsX11_image.all goodWord = true := by decide +kernel
set_option maxRecDepth 20000 in
theorem ggL_law_X11_image : GoodIn wsL_law wsX11_image := goodIn_c kw_chE _ [(39, 5), (4, 9), (4, 8), (4, 10), (6, 7), (6, 8), (0, 5), (6, 9), (6, 10), (6, 11), (6, 12), (6, 13), (4, 11), (43, 0), (43, 1), (43, 2), (43, 3), (43, 4), (43, 5), (43, 6), (43, 7), (43, 8), (43, 9), (43, 10), (43, 11), (43, 12), (43, 13), (43, 14), (43, 15), (43, 16), (43, 17)] rfl gw_wsX11_image
set_option maxRecDepth 20000 in
theorem gL_law_X11_image : GoodIn wsL_law (wsV RL 143 RX11 yX11_image wsX11_image) := goodIn_app (goodIn_c kw_chE _ [(39, 2), (39, 3), (39, 4), (0, 5)] (by exact rfl) (by decide +kernel)) ggL_law_X11_image
set_option maxRecDepth 20000 in
theorem gw_wsX10_from : wsX10_from.all goodWord = true := by decide +kernel
set_option maxRecDepth 20000 in
theorem ggL_law_X10_from : GoodIn wsL_law wsX10_from := goodIn_c kw_chE _ [(39, 9), (1, 13), (1, 10), (1, 11), (5, 4), (5, 5), (0, 2), (5, 6), (5, 7), (5, 8), (5, 9), (5, 10), (2, 5), (20, 22), (20, 23), (21, 0), (21, 1), (38, 21), (38, 22), (38, 23), (1, 9), (39, 0), (3, 1), (39, 1), (21, 15), (21, 16), (21, 17), (3, 3), (5, 17), (3, 4), (5, 18), (3, 6), (5, 19), (3, 7), (5, 15), (5, 16), (21, 10), (21, 11), (21, 12), (1, 20), (21, 13), (3, 12), (21, 14), (3, 13), (3, 14), (21, 18), (21, 19), (21, 20), (42, 0), (42, 1), (42, 2), (42, 3), (42, 4), (42, 5), (42, 6), (42, 7), (42, 8), (42, 9), (42, 10), (42, 11), (50, 0), (50, 1), (50, 2), (50, 3), (50, 4), (50, 5), (50, 6), (50, 7), (50, 8), (50, 9), (50, 10), (52, 0), (52, 1), (52, 2), (52, 3), (52, 4), (52, 5)] rfl gw_wsX10_from
set_option maxRecDepth 20000 in
theorem gL_law_X10_from : GoodIn wsL_law (wsV RL 144 RX10 yX10_from wsX10_from) := goodIn_app (goodIn_c kw_chE _ [(39, 6), (39, 7), (39, 8), (0, 2)] (by exact rfl) (by decide +kernel)) ggL_law_X10_from
set_option maxRecDepth 20000 in
theorem gw_wsX11_from : wsX11_from.all goodWord = true := by decide +kernel
set_option maxRecDepth 20000 in
theorem ggL_law_X11_from : GoodIn wsL_law wsX11_from := goodIn_c kw_chE _ [(39, 13), (4, 10), (4, 8), (4, 9), (6, 7), (6, 8), (0, 5), (6, 9), (6, 10), (6, 11), (6, 12), (6, 13), (4, 11), (22, 2), (22, 3), (22, 4), (22, 5), (43, 0), (43, 1), (43, 2), (43, 3), (43, 4), (43, 5), (43, 6), (43, 7), (43, 8), (43, 9), (43, 10), (43, 11), (43, 12), (43, 13), (43, 14), (43, 15), (43, 16), (43, 17)] rfl gw_wsX11_from
set_option maxRecDepth 20000 in
theorem gL_law_X11_from : GoodIn wsL_law (wsV RL 147 RX11 yX11_from wsX11_from) := goodIn_app (goodIn_c kw_chE _ [(39, 10), (39, 11), (39, 12), (0, 5)] (by exact rfl) (by decide +kernel)) ggL_law_X11_from
set_option maxRecDepth 20000 in
theorem gw_wsX10_status : wsX10_status.all goodWord = true := by decide +kernel
set_option maxRecDepth 20000 in
theorem ggL_law_X10_status : GoodIn wsL_law wsX10_status := goodIn_c kw_chE _ [(39, 17), (2, 5), (5, 4), (5, 5), (0, 2), (5, 6), (5, 7), (5, 8), (5, 9), (5, 10), (42, 0), (42, 1), (42, 2), (42, 3), (42, 4), (42, 5), (42, 6), (42, 7), (42, 8), (42, 9), (42, 10), (42, 11)] rfl gw_wsX10_status
set_option maxRecDepth 20000 in
theorem gL_law_X10_status : GoodIn wsL_law (wsV RL 148 RX10 yX10_status wsX10_status) := goodIn_app (goodIn_c kw_chE _ [(39, 14), (39, 15), (39, 16), (0, 2)] (by exact rfl) (by decide +kernel)) ggL_law_X10_status
set_option maxRecDepth 20000 in
theorem gw_wsX11_status : wsX11_status.all goodWord = true := by decide +kernel
set_option maxRecDepth 20000 in
theorem ggL_law_X11_status : GoodIn wsL_law wsX11_status := goodIn_c kw_chE _ [(39, 21), (25, 12), (4, 11), (6, 7), (6, 8), (0, 5), (6, 9), (6, 10), (6, 11), (6, 12), (6, 13), (43, 0), (43, 1), (43, 2), (43, 3), (43, 4), (43, 5), (43, 6), (43, 7), (43, 8), (43, 9), (43, 10), (43, 11), (43, 12), (43, 13), (43, 14), (43, 15), (43, 16), (43, 17)] rfl gw_wsX11_status
set_option maxRecDepth 20000 in
theorem gL_law_X11_status : GoodIn wsL_law (wsV RL 151 RX11 yX11_status wsX11_status) := goodIn_app (goodIn_c kw_chE _ [(39, 18), (39, 19), (39, 20), (0, 5)] (by exact rfl) (by decide +kernel)) ggL_law_X11_status
set_option maxRecDepth 20000 in
theorem gw_wsX10_count : wsX10_count.all goodWord = true := by decide +kernel
set_option maxRecDepth 20000 in
theorem ggL_law_X10_count : GoodIn wsL_law wsX10_count := goodIn_c kw_chE _ [(40, 1), (5, 4), (5, 5), (0, 2), (5, 6), (5, 7), (5, 8), (5, 9), (5, 10), (2, 5), (40, 2), (40, 3), (40, 4), (40, 5), (1, 10), (5, 3), (8, 9), (10, 18), (20, 21), (24, 4), (22, 14), (32, 10), (33, 11), (24, 13), (1, 17), (9, 15), (42, 0), (42, 1), (42, 2), (42, 3), (42, 4), (42, 5), (42, 6), (42, 7), (42, 8), (42, 9), (42, 10), (42, 11), (50, 0), (50, 1), (50, 2), (50, 3), (50, 4), (50, 5), (50, 6), (50, 7), (50, 8), (50, 9), (50, 10), (52, 0), (52, 1), (52, 2), (52, 3), (52, 4), (52, 5), (51, 0), (51, 1), (51, 2), (51, 3), (51, 4), (51, 5), (51, 6), (51, 7), (51, 8), (51, 9), (51, 10), (51, 11)] rfl gw_wsX10_count
set_option maxRecDepth 20000 in
theorem gL_law_X10_count : GoodIn wsL_law (wsV RL 152 RX10 yX10_count wsX10_count) := goodIn_app (goodIn_c kw_chE _ [(39, 22), (39, 23), (40, 0), (0, 2)] (by exact rfl) (by decide +kernel)) ggL_law_X10_count
set_option maxRecDepth 20000 in
theorem gw_wsX11_count : wsX11_count.all goodWord = true := by decide +kernel
set_option maxRecDepth 20000 in
theorem ggL_law_X11_count : GoodIn wsL_law wsX11_count := goodIn_c kw_chE _ [(40, 9), (40, 10), (6, 7), (6, 8), (0, 5), (6, 9), (40, 11), (40, 12), (40, 13), (40, 14), (4, 8), (10, 2), (6, 14), (6, 15), (6, 16), (6, 17), (9, 4), (9, 5), (9, 6), (9, 7), (6, 10), (6, 11), (6, 12), (6, 13), (4, 11), (43, 0), (43, 1), (43, 2), (43, 3), (43, 4), (43, 5), (43, 6), (43, 7), (43, 8), (43, 9), (43, 10), (43, 11), (43, 12), (43, 13), (43, 14), (43, 15), (43, 16), (43, 17)] rfl gw_wsX11_count
set_option maxRecDepth 20000 in
theorem gL_law_X11_count : GoodIn wsL_law (wsV RL 155 RX11 yX11_count wsX11_count) := goodIn_app (goodIn_c kw_chE _ [(40, 6), (40, 7), (40, 8), (0, 5)] (by exact rfl) (by decide +kernel)) ggL_law_X11_count
set_option maxRecDepth 20000 in
theorem gw_wsX10_digest : wsX10_digest.all goodWord = true := by decide +kernel
set_option maxRecDepth 20000 in
theorem ggL_law_X10_digest : GoodIn wsL_law wsX10_digest := goodIn_c kw_chE _ [(40, 18), (40, 19), (1, 10), (5, 3), (25, 2), (10, 18), (25, 3), (8, 9), (23, 11), (25, 21), (32, 10), (40, 20), (33, 11), (40, 21), (2, 6), (2, 7), (40, 2), (40, 3), (40, 4), (0, 2), (40, 5), (20, 21), (24, 4), (22, 14), (24, 13), (1, 17), (9, 15), (40, 22), (40, 23), (41, 0), (41, 1), (41, 2), (41, 3), (41, 4), (42, 0), (42, 1), (42, 2), (42, 3), (42, 4), (42, 5), (42, 6), (42, 7), (42, 8), (42, 9), (42, 10), (42, 11), (50, 0), (50, 1), (50, 2), (50, 3), (50, 4), (50, 5), (50, 6), (50, 7), (50, 8), (50, 9), (50, 10), (52, 0), (52, 1), (52, 2), (52, 3), (52, 4), (52, 5), (51, 0), (51, 1), (51, 2), (51, 3), (51, 4), (51, 5), (51, 6), (51, 7), (51, 8), (51, 9), (51, 10), (51, 11)] rfl gw_wsX10_digest
set_option maxRecDepth 20000 in
theorem gL_law_X10_digest : GoodIn wsL_law (wsV RL 156 RX10 yX10_digest wsX10_digest) := goodIn_app (goodIn_c kw_chE _ [(40, 15), (40, 16), (40, 17), (0, 2)] (by exact rfl) (by decide +kernel)) ggL_law_X10_digest
set_option maxRecDepth 20000 in
theorem gw_wsX11_digest : wsX11_digest.all goodWord = true := by decide +kernel
set_option maxRecDepth 20000 in
theorem ggL_law_X11_digest : GoodIn wsL_law wsX11_digest := goodIn_c kw_chE _ [(41, 8), (41, 9), (41, 10), (4, 8), (37, 13), (4, 12), (40, 11), (40, 12), (40, 13), (0, 5), (40, 14), (10, 2), (6, 14), (6, 15), (6, 16), (6, 17), (9, 4), (9, 5), (9, 6), (9, 7), (41, 11), (41, 12), (41, 13), (41, 14), (43, 0), (43, 1), (43, 2), (43, 3), (43, 4), (43, 5), (43, 6), (43, 7), (43, 8), (43, 9), (43, 10), (43, 11), (43, 12), (43, 13), (43, 14), (43, 15), (43, 16), (43, 17)] rfl gw_wsX11_digest
set_option maxRecDepth 20000 in
theorem gL_law_X11_digest : GoodIn wsL_law (wsV RL 160 RX11 yX11_digest wsX11_digest) := goodIn_app (goodIn_c kw_chE _ [(41, 5), (41, 6), (41, 7), (0, 5)] (by exact rfl) (by decide +kernel)) ggL_law_X11_digest
