set_option maxHeartbeats 4000000 in
set_option maxRecDepth 20000 in
theorem ggL_law_L_hasRead : GoodIn wsL_law wsL_hasRead := goodIn_ca (goodIn_r2 _ [(44, 15), (7, 8), (44, 16), (44, 17), (44, 18), (0, 2), (44, 19), (18, 22), (18, 23), (16, 18), (16, 19), (16, 20), (16, 21), (7, 21), (7, 22), (0, 20), (11, 22), (16, 22), (55, 0), (55, 1), (55, 2), (55, 3), (57, 0), (57, 1), (57, 2), (57, 3), (50, 0), (50, 1), (50, 2), (50, 3), (53, 0), (53, 1), (53, 2), (53, 3), (53, 4), (53, 5)] rfl (by decide +kernel)) (goodIn_sub (fun _ h => List.mem_append_right _ h) (by decide +kernel))
set_option maxRecDepth 20000 in
theorem gL_law_L_hasRead : GoodIn wsL_law (va_wsS RL 276 yL_hasRead wsL_hasRead) := goodIn_app (goodIn_r2 _ [(44, 13), (44, 14), (4, 23)] rfl (by decide +kernel)) ggL_law_L_hasRead
set_option maxHeartbeats 4000000 in
set_option maxRecDepth 20000 in
theorem ggL_law_X11_hasRead : GoodIn wsL_law wsX11_hasRead := goodIn_r2 _ [(44, 23), (35, 11), (35, 12), (35, 13), (0, 5), (35, 14), (6, 6), (3, 20), (17, 8), (17, 9), (17, 10), (17, 11), (8, 23), (9, 0), (9, 1), (6, 8), (6, 9), (6, 10), (6, 11), (51, 0), (51, 1), (51, 2), (51, 3), (51, 4), (51, 5), (51, 6), (51, 7), (51, 8), (51, 9), (59, 0), (59, 1), (59, 2), (59, 3), (59, 4), (59, 5), (59, 6), (59, 7), (59, 8), (59, 9), (59, 10), (59, 11), (59, 12)] rfl (by decide +kernel)
set_option maxRecDepth 20000 in
theorem gL_law_X11_hasRead : GoodIn wsL_law (wsV RL 278 RX11 yX11_hasRead wsX11_hasRead) := goodIn_app (goodIn_r2 _ [(44, 20), (44, 21), (44, 22), (0, 5)] rfl (by decide +kernel)) ggL_law_X11_hasRead
set_option maxHeartbeats 4000000 in
set_option maxRecDepth 20000 in
theorem ggL_law_X8_meanWindow : GoodIn wsL_law wsX8_meanWindow := goodIn_r2 _ [(45, 3), (0, 20), (11, 22), (16, 22), (16, 17), (17, 2), (37, 8), (50, 0), (50, 1), (50, 2), (50, 3), (53, 0), (53, 1), (53, 2), (53, 3), (53, 4), (53, 5), (55, 0), (55, 1), (55, 2), (55, 3), (56, 0), (56, 1), (56, 2), (56, 3), (56, 4), (56, 5), (56, 6), (56, 7), (56, 8), (56, 9), (56, 10), (56, 11), (56, 12), (56, 13)] rfl (by decide +kernel)
set_option maxRecDepth 20000 in
theorem gL_law_X8_meanWindow : GoodIn wsL_law (wsV RL 279 RX8 yX8_meanWindow wsX8_meanWindow) := goodIn_app (goodIn_r2 _ [(45, 0), (45, 1), (45, 2), (0, 2)] rfl (by decide +kernel)) ggL_law_X8_meanWindow
set_option maxHeartbeats 4000000 in
set_option maxRecDepth 20000 in
theorem ggL_law_X11_meanWindow : GoodIn wsL_law wsX11_meanWindow := goodIn_r2 _ [(45, 7), (6, 6), (3, 20), (51, 0), (51, 1), (51, 2), (51, 3), (51, 4), (51, 5), (51, 6), (51, 7), (51, 8), (51, 9), (59, 0), (59, 1), (59, 2), (59, 3), (59, 4), (59, 5), (59, 6), (59, 7), (59, 8), (59, 9), (59, 10), (59, 11), (59, 12)] rfl (by decide +kernel)
set_option maxRecDepth 20000 in
theorem gL_law_X11_meanWindow : GoodIn wsL_law (wsV RL 283 RX11 yX11_meanWindow wsX11_meanWindow) := goodIn_app (goodIn_r2 _ [(45, 4), (45, 5), (45, 6), (0, 5)] rfl (by decide +kernel)) ggL_law_X11_meanWindow
set_option maxHeartbeats 4000000 in
set_option maxRecDepth 20000 in
theorem ggL_law_L_ticksUntil : GoodIn wsL_law wsL_ticksUntil := goodIn_ca (goodIn_ca (goodIn_r2 _ [(45, 10), (7, 8), (7, 9), (45, 11), (45, 12), (45, 13), (0, 2), (45, 14), (17, 23), (0, 21), (0, 20), (16, 22), (16, 17), (16, 13), (16, 14), (16, 15), (16, 16), (16, 18), (16, 19), (16, 20), (16, 21), (7, 21), (7, 22), (11, 22), (7, 23), (8, 0), (8, 1), (7, 14), (7, 15), (45, 15), (45, 16), (45, 17), (0, 19), (45, 18), (1, 21), (21, 10), (1, 18), (12, 3), (1, 20), (12, 9), (10, 2), (45, 19), (45, 20), (45, 21), (1, 23), (45, 22), (2, 6), (45, 23), (15, 10), (15, 11), (15, 12), (14, 7), (10, 7), (2, 7), (10, 8), (26, 14), (26, 12), (46, 0), (46, 1), (46, 2), (2, 1), (46, 3), (46, 4), (46, 5), (2, 14), (2, 18), (46, 6), (46, 7), (46, 8), (2, 13), (46, 9), (12, 14), (18, 5), (18, 4), (22, 17), (22, 18), (12, 15), (12, 16), (12, 17), (22, 23), (12, 18), (12, 20), (22, 16), (24, 3), (3, 1), (46, 10), (46, 11), (46, 12), (3, 0), (46, 13), (13, 1), (13, 2), (13, 3), (13, 4), (13, 5), (46, 14), (46, 15), (46, 16), (2, 17), (46, 17), (19, 13), (19, 14), (19, 12), (3, 8), (46, 18), (21, 2), (21, 3), (21, 4), (21, 5), (21, 6), (21, 7), (21, 8), (21, 9), (21, 11), (13, 18), (21, 12), (21, 13), (21, 14), (21, 15), (21, 16), (21, 17), (21, 18), (21, 19), (21, 20), (21, 21), (21, 22), (21, 23), (12, 4), (12, 5), (12, 8), (12, 6), (22, 0), (22, 1), (13, 12), (22, 2), (22, 3), (22, 4), (22, 5), (13, 14), (13, 15), (13, 16), (13, 17), (13, 19), (13, 20), (13, 21), (13, 22), (0, 15), (13, 23), (1, 11), (5, 22), (1, 9), (1, 6), (8, 6), (8, 7), (8, 8), (8, 9), (1, 4), (1, 5), (14, 0), (14, 1), (14, 2), (14, 3), (14, 4), (14, 5), (14, 6), (22, 6), (22, 7), (22, 8), (22, 9), (22, 10), (22, 11), (22, 12), (22, 13), (22, 14), (22, 15), (22, 19), (22, 20), (22, 21), (22, 22), (12, 19), (23, 0), (23, 1), (23, 2), (23, 3), (23, 4), (23, 5), (6, 19), (23, 6), (23, 7), (19, 16), (19, 17), (23, 8), (6, 18), (6, 20), (23, 9), (23, 10), (23, 11), (23, 12), (23, 13), (23, 14), (23, 15), (23, 16), (23, 17), (23, 18), (23, 19), (23, 20), (23, 21), (23, 22), (23, 23), (24, 0), (24, 1), (24, 2), (24, 4), (24, 5), (24, 6), (24, 7), (24, 8), (24, 9), (24, 10), (24, 11), (24, 12), (13, 10), (13, 11), (13, 13), (24, 13), (24, 14), (24, 15), (24, 16), (24, 17), (19, 19), (19, 20), (19, 21), (19, 22), (19, 23), (19, 9), (19, 10), (19, 11), (19, 15), (24, 18), (24, 19), (24, 20), (24, 21), (24, 22), (24, 23), (25, 0), (25, 1), (25, 2), (25, 3), (25, 4), (25, 5), (25, 6), (25, 7), (13, 6), (13, 7), (13, 8), (13, 9), (25, 8), (25, 9), (25, 10), (25, 11), (25, 12), (25, 13), (25, 14), (25, 15), (25, 16), (25, 17), (18, 1), (18, 2), (18, 3), (25, 18), (25, 19), (25, 20), (25, 21), (25, 22), (25, 23), (26, 0), (26, 1), (26, 2), (26, 3), (26, 4), (26, 5), (26, 6), (26, 7), (26, 8), (26, 9), (26, 10), (26, 11), (26, 13), (56, 0), (56, 1), (56, 2), (56, 3), (56, 4), (56, 5), (56, 6), (56, 7), (56, 8), (56, 9), (56, 10), (56, 11), (56, 12), (56, 13), (50, 0), (50, 1), (50, 2), (50, 3), (53, 0), (53, 1), (53, 2), (53, 3), (53, 4), (53, 5), (55, 0), (55, 1), (55, 2), (55, 3), (52, 0), (52, 1), (52, 2), (52, 3), (52, 4), (52, 5), (52, 6), (52, 7), (52, 8), (54, 0), (54, 1), (54, 2), (54, 3), (54, 4), (54, 5), (54, 6), (58, 0), (58, 1), (58, 2), (58, 3), (58, 4), (57, 0), (57, 1), (57, 2), (57, 3)] rfl (by decide +kernel)) (goodIn_sub (fun _ h => List.mem_append_right _ h) (by decide +kernel))) (goodIn_sub (fun _ h => List.mem_append_left _ (List.mem_append_right _ h)) (by decide +kernel))
set_option maxRecDepth 20000 in
theorem gL_law_L_ticksUntil : GoodIn wsL_law (va_wsS RL 284 yL_ticksUntil wsL_ticksUntil) := goodIn_app (goodIn_r2 _ [(45, 8), (45, 9), (4, 23)] rfl (by decide +kernel)) ggL_law_L_ticksUntil
set_option maxHeartbeats 4000000 in
set_option maxRecDepth 20000 in
theorem ggL_law_X11_ticksUntil : GoodIn wsL_law wsX11_ticksUntil := goodIn_r2 _ [(46, 22), (6, 6), (3, 21), (3, 20), (17, 8), (17, 9), (17, 10), (0, 5), (17, 11), (8, 23), (9, 0), (9, 1), (6, 8), (6, 9), (6, 10), (6, 11), (46, 23), (47, 0), (47, 1), (3, 19), (47, 2), (16, 4), (10, 21), (26, 23), (4, 3), (47, 3), (15, 10), (15, 11), (15, 12), (4, 9), (4, 10), (4, 5), (4, 7), (4, 8), (4, 11), (4, 12), (4, 14), (47, 4), (47, 5), (47, 6), (4, 16), (47, 7), (4, 20), (15, 8), (0, 23), (15, 9), (26, 19), (26, 20), (26, 21), (26, 22), (4, 1), (27, 0), (27, 1), (27, 2), (27, 3), (27, 4), (27, 5), (27, 6), (27, 7), (15, 13), (15, 14), (6, 23), (15, 15), (15, 16), (15, 17), (15, 18), (15, 19), (15, 20), (15, 21), (15, 22), (6, 18), (6, 19), (6, 20), (15, 23), (14, 20), (14, 21), (14, 22), (14, 23), (15, 0), (15, 1), (15, 2), (15, 3), (6, 16), (15, 4), (15, 5), (15, 6), (15, 7), (27, 8), (27, 9), (27, 10), (27, 11), (27, 12), (27, 13), (27, 14), (27, 15), (20, 13), (19, 16), (19, 17), (6, 17), (27, 16), (27, 17), (27, 18), (27, 19), (27, 20), (23, 5), (23, 6), (27, 21), (27, 22), (27, 23), (28, 0), (28, 1), (28, 2), (28, 3), (28, 4), (14, 16), (14, 17), (14, 18), (14, 19), (16, 0), (16, 1), (16, 2), (16, 3), (28, 5), (28, 6), (28, 7), (28, 8), (28, 9), (28, 10), (28, 11), (28, 12), (28, 13), (28, 14), (28, 15), (28, 16), (28, 17), (20, 14), (20, 15), (20, 16), (20, 17), (20, 10), (20, 11), (20, 12), (28, 18), (28, 19), (28, 20), (28, 21), (28, 22), (28, 23), (29, 0), (29, 1), (29, 2), (29, 3), (29, 4), (29, 5), (29, 6), (18, 11), (18, 12), (18, 13), (29, 7), (29, 8), (29, 9), (29, 10), (51, 0), (51, 1), (51, 2), (51, 3), (51, 4), (51, 5), (51, 6), (51, 7), (51, 8), (51, 9), (59, 0), (59, 1), (59, 2), (59, 3), (59, 4), (59, 5), (59, 6), (59, 7), (59, 8), (59, 9), (59, 10), (59, 11), (59, 12), (60, 0), (60, 1)] rfl (by decide +kernel)
set_option maxRecDepth 20000 in
theorem gL_law_X11_ticksUntil : GoodIn wsL_law (wsV RL 286 RX11 yX11_ticksUntil wsX11_ticksUntil) := goodIn_app (goodIn_r2 _ [(46, 19), (46, 20), (46, 21), (0, 5)] rfl (by decide +kernel)) ggL_law_X11_ticksUntil
set_option maxHeartbeats 4000000 in
set_option maxRecDepth 20000 in
theorem ggL_law_L_lostIn : GoodIn wsL_law wsL_lostIn := goodIn_ca (goodIn_r2 _ [(47, 10), (7, 9), (47, 11), (47, 12), (47, 13), (0, 2), (47, 14), (0, 21), (0, 20), (33, 23), (7, 23), (8, 0), (8, 1), (7, 14), (7, 15), (45, 15), (45, 16), (45, 17), (0, 19), (45, 18), (1, 21), (21, 10), (1, 18), (12, 3), (1, 20), (12, 9), (10, 2), (45, 19), (45, 20), (45, 21), (1, 23), (45, 22), (2, 6), (45, 23), (15, 10), (15, 11), (15, 12), (14, 7), (10, 7), (2, 7), (10, 8), (26, 14), (26, 12), (46, 0), (46, 1), (46, 2), (2, 1), (46, 3), (46, 4), (46, 5), (2, 14), (2, 18), (46, 6), (46, 7), (46, 8), (2, 13), (46, 9), (12, 14), (18, 5), (18, 4), (22, 17), (22, 18), (12, 15), (12, 16), (12, 17), (22, 23), (12, 18), (12, 20), (22, 16), (24, 3), (3, 1), (46, 10), (46, 11), (46, 12), (3, 0), (46, 13), (13, 1), (13, 2), (13, 3), (13, 4), (13, 5), (46, 14), (46, 15), (46, 16), (2, 17), (46, 17), (19, 13), (19, 14), (19, 12), (3, 8), (46, 18), (21, 2), (21, 3), (21, 4), (21, 5), (21, 6), (21, 7), (21, 8), (21, 9), (21, 11), (13, 18), (21, 12), (21, 13), (21, 14), (21, 15), (21, 16), (21, 17), (21, 18), (21, 19), (21, 20), (21, 21), (21, 22), (21, 23), (12, 4), (12, 5), (12, 8), (12, 6), (22, 0), (22, 1), (13, 12), (22, 2), (22, 3), (22, 4), (22, 5), (13, 14), (13, 15), (13, 16), (13, 17), (13, 19), (13, 20), (13, 21), (13, 22), (0, 15), (13, 23), (1, 11), (5, 22), (1, 9), (1, 6), (8, 6), (8, 7), (8, 8), (8, 9), (1, 4), (1, 5), (14, 0), (14, 1), (14, 2), (14, 3), (14, 4), (14, 5), (14, 6), (22, 6), (22, 7), (22, 8), (22, 9), (22, 10), (22, 11), (22, 12), (22, 13), (22, 14), (22, 15), (22, 19), (22, 20), (22, 21), (22, 22), (12, 19), (23, 0), (23, 1), (23, 2), (23, 3), (23, 4), (23, 5), (6, 19), (23, 6), (23, 7), (19, 16), (19, 17), (23, 8), (6, 18), (6, 20), (23, 9), (23, 10), (23, 11), (23, 12), (23, 13), (23, 14), (23, 15), (23, 16), (23, 17), (23, 18), (23, 19), (23, 20), (23, 21), (23, 22), (23, 23), (24, 0), (24, 1), (24, 2), (24, 4), (24, 5), (24, 6), (24, 7), (24, 8), (24, 9), (24, 10), (24, 11), (24, 12), (13, 10), (13, 11), (13, 13), (24, 13), (24, 14), (24, 15), (24, 16), (24, 17), (19, 19), (19, 20), (19, 21), (19, 22), (19, 23), (19, 9), (19, 10), (19, 11), (19, 15), (24, 18), (24, 19), (24, 20), (24, 21), (24, 22), (24, 23), (25, 0), (25, 1), (25, 2), (25, 3), (25, 4), (25, 5), (25, 6), (25, 7), (13, 6), (13, 7), (13, 8), (13, 9), (25, 8), (25, 9), (25, 10), (25, 11), (25, 12), (25, 13), (25, 14), (25, 15), (25, 16), (25, 17), (18, 1), (18, 2), (18, 3), (25, 18), (25, 19), (25, 20), (25, 21), (25, 22), (25, 23), (26, 0), (26, 1), (26, 2), (26, 3), (26, 4), (26, 5), (26, 6), (26, 7), (26, 8), (26, 9), (26, 10), (26, 11), (26, 13), (50, 0), (50, 1), (50, 2), (50, 3), (53, 0), (53, 1), (53, 2), (53, 3), (53, 4), (53, 5), (52, 0), (52, 1), (52, 2), (52, 3), (52, 4), (52, 5), (52, 6), (52, 7), (52, 8), (54, 0), (54, 1), (54, 2), (54, 3), (54, 4), (54, 5), (54, 6), (55, 0), (55, 1), (55, 2), (55, 3), (56, 0), (56, 1), (56, 2), (56, 3), (56, 4), (56, 5), (56, 6), (56, 7), (56, 8), (56, 9), (56, 10), (56, 11), (56, 12), (56, 13), (58, 0), (58, 1), (58, 2), (58, 3), (58, 4), (57, 0), (57, 1), (57, 2), (57, 3)] rfl (by decide +kernel)) (goodIn_sub (fun _ h => List.mem_append_left _ (List.mem_append_right _ h)) (by decide +kernel))
set_option maxRecDepth 20000 in
theorem gL_law_L_lostIn : GoodIn wsL_law (va_wsS RL 287 yL_lostIn wsL_lostIn) := goodIn_app (goodIn_r2 _ [(47, 8), (47, 9), (4, 23)] rfl (by decide +kernel)) ggL_law_L_lostIn
set_option maxHeartbeats 4000000 in
set_option maxRecDepth 20000 in
theorem ggL_law_X11_lostIn : GoodIn wsL_law wsX11_lostIn := goodIn_r2 _ [(47, 18), (6, 6), (3, 21), (3, 20), (8, 23), (9, 0), (0, 5), (9, 1), (6, 8), (6, 9), (6, 10), (6, 11), (46, 23), (47, 0), (47, 1), (3, 19), (47, 2), (16, 4), (10, 21), (26, 23), (4, 3), (47, 3), (15, 10), (15, 11), (15, 12), (4, 9), (4, 10), (4, 5), (4, 7), (4, 8), (4, 11), (4, 12), (4, 14), (47, 4), (47, 5), (47, 6), (4, 16), (47, 7), (4, 20), (15, 8), (0, 23), (15, 9), (26, 19), (26, 20), (26, 21), (26, 22), (4, 1), (27, 0), (27, 1), (27, 2), (27, 3), (27, 4), (27, 5), (27, 6), (27, 7), (15, 13), (15, 14), (6, 23), (15, 15), (15, 16), (15, 17), (15, 18), (15, 19), (15, 20), (15, 21), (15, 22), (6, 18), (6, 19), (6, 20), (15, 23), (14, 20), (14, 21), (14, 22), (14, 23), (15, 0), (15, 1), (15, 2), (15, 3), (6, 16), (15, 4), (15, 5), (15, 6), (15, 7), (27, 8), (27, 9), (27, 10), (27, 11), (27, 12), (27, 13), (27, 14), (27, 15), (20, 13), (19, 16), (19, 17), (6, 17), (27, 16), (27, 17), (27, 18), (27, 19), (27, 20), (23, 5), (23, 6), (27, 21), (27, 22), (27, 23), (28, 0), (28, 1), (28, 2), (28, 3), (28, 4), (14, 16), (14, 17), (14, 18), (14, 19), (16, 0), (16, 1), (16, 2), (16, 3), (28, 5), (28, 6), (28, 7), (28, 8), (28, 9), (28, 10), (28, 11), (28, 12), (28, 13), (28, 14), (28, 15), (28, 16), (28, 17), (20, 14), (20, 15), (20, 16), (20, 17), (20, 10), (20, 11), (20, 12), (28, 18), (28, 19), (28, 20), (28, 21), (28, 22), (28, 23), (29, 0), (29, 1), (29, 2), (29, 3), (29, 4), (29, 5), (29, 6), (18, 11), (18, 12), (18, 13), (29, 7), (29, 8), (29, 9), (29, 10), (51, 0), (51, 1), (51, 2), (51, 3), (51, 4), (51, 5), (51, 6), (51, 7), (51, 8), (51, 9), (59, 0), (59, 1), (59, 2), (59, 3), (59, 4), (59, 5), (59, 6), (59, 7), (59, 8), (59, 9), (59, 10), (59, 11), (59, 12), (60, 0), (60, 1)] rfl (by decide +kernel)
set_option maxRecDepth 20000 in
theorem gL_law_X11_lostIn : GoodIn wsL_law (wsV RL 289 RX11 yX11_lostIn wsX11_lostIn) := goodIn_app (goodIn_r2 _ [(47, 15), (47, 16), (47, 17), (0, 5)] rfl (by decide +kernel)) ggL_law_X11_lostIn
set_option maxHeartbeats 4000000 in
set_option maxRecDepth 20000 in
theorem ggL_law_L_distanceWithout : GoodIn wsL_law wsL_distanceWithout := goodIn_ca (goodIn_r2 _ [(47, 21), (7, 8), (47, 22), (47, 23), (48, 0), (0, 2), (48, 1), (0, 16), (48, 2), (9, 14), (9, 15), (9, 16), (9, 17), (7, 21), (7, 22), (7, 16), (7, 17), (7, 18), (7, 19), (7, 20), (5, 8), (48, 3), (5, 19), (5, 20), (0, 15), (5, 21), (5, 13), (5, 22), (1, 9), (1, 4), (1, 5), (1, 6), (5, 23), (6, 0), (6, 1), (50, 0), (50, 1), (50, 2), (50, 3), (52, 0), (52, 1), (52, 2), (52, 3), (52, 4), (52, 5), (52, 6), (52, 7), (52, 8)] rfl (by decide +kernel)) (goodIn_sub (fun _ h => List.mem_append_right _ h) (by decide +kernel))
set_option maxRecDepth 20000 in
theorem gL_law_L_distanceWithout : GoodIn wsL_law (va_wsS RL 290 yL_distanceWithout wsL_distanceWithout) := goodIn_app (goodIn_r2 _ [(47, 19), (47, 20), (4, 23)] rfl (by decide +kernel)) ggL_law_L_distanceWithout
set_option maxHeartbeats 4000000 in
set_option maxRecDepth 20000 in
theorem ggL_law_X11_distanceWithout : GoodIn wsL_law wsX11_distanceWithout := goodIn_r2 _ [(48, 7), (6, 6), (3, 21), (3, 20), (10, 13), (10, 14), (10, 15), (0, 5), (10, 16), (8, 18), (8, 23), (9, 0), (9, 1), (8, 19), (8, 20), (8, 21), (8, 22), (6, 7), (6, 8), (6, 9), (6, 10), (6, 11), (46, 23), (47, 0), (47, 1), (3, 19), (47, 2), (16, 4), (10, 21), (26, 23), (4, 3), (47, 3), (15, 10), (15, 11), (15, 12), (4, 9), (4, 10), (4, 5), (4, 7), (4, 8), (4, 11), (4, 12), (4, 14), (47, 4), (47, 5), (47, 6), (4, 16), (47, 7), (4, 20), (15, 8), (0, 23), (15, 9), (6, 12), (6, 13), (6, 14), (6, 15), (6, 16), (4, 1), (6, 17), (6, 18), (6, 19), (6, 20), (6, 21), (6, 22), (6, 23), (7, 0), (31, 10), (31, 11), (31, 12), (31, 13), (51, 0), (51, 1), (51, 2), (51, 3), (51, 4), (51, 5), (51, 6), (51, 7), (51, 8), (51, 9), (59, 0), (59, 1), (59, 2), (59, 3), (59, 4), (59, 5), (59, 6), (59, 7), (59, 8), (59, 9), (59, 10), (59, 11), (59, 12), (60, 0), (60, 1)] rfl (by decide +kernel)
set_option maxRecDepth 20000 in
theorem gL_law_X11_distanceWithout : GoodIn wsL_law (wsV RL 292 RX11 yX11_distanceWithout wsX11_distanceWithout) := goodIn_app (goodIn_r2 _ [(48, 4), (48, 5), (48, 6), (0, 5)] rfl (by decide +kernel)) ggL_law_X11_distanceWithout
set_option maxHeartbeats 4000000 in
set_option maxRecDepth 20000 in
theorem ggL_law_X8_digest : GoodIn wsL_law wsX8_digest := goodIn_r2 _ [(48, 11), (48, 12), (48, 13), (0, 16), (7, 16), (0, 20), (11, 22), (16, 22), (16, 17), (5, 8), (31, 5), (48, 14), (29, 12), (29, 13), (0, 2), (29, 14), (21, 1), (48, 15), (29, 20), (29, 21), (29, 22), (48, 16), (30, 4), (30, 5), (30, 6), (48, 17), (33, 20), (33, 21), (33, 22), (33, 23), (48, 18), (34, 5), (34, 6), (34, 7), (11, 10), (32, 10), (33, 2), (48, 19), (34, 17), (34, 18), (34, 19), (48, 20), (48, 21), (48, 22), (48, 23), (9, 13), (33, 14), (49, 0), (49, 1), (49, 2), (17, 2), (16, 12), (17, 23), (36, 20), (37, 8), (37, 20), (38, 8), (38, 20), (39, 8), (39, 20), (39, 21), (40, 9), (40, 21), (41, 9), (41, 21), (42, 9), (42, 21), (49, 3), (49, 4), (49, 5), (18, 22), (43, 9), (18, 23), (19, 0), (19, 1), (19, 2), (2, 1), (19, 3), (2, 18), (19, 4), (2, 14), (19, 5), (19, 6), (6, 18), (6, 19), (6, 20), (19, 7), (50, 0), (50, 1), (50, 2), (50, 3), (52, 0), (52, 1), (52, 2), (52, 3), (52, 4), (52, 5), (52, 6), (52, 7), (52, 8), (53, 0), (53, 1), (53, 2), (53, 3), (53, 4), (53, 5), (55, 0), (55, 1), (55, 2), (55, 3), (54, 0), (54, 1), (54, 2), (54, 3), (54, 4), (54, 5), (54, 6), (56, 0), (56, 1), (56, 2), (56, 3), (56, 4), (56, 5), (56, 6), (56, 7), (56, 8), (56, 9), (56, 10), (56, 11), (56, 12), (56, 13), (58, 0), (58, 1), (58, 2), (58, 3), (58, 4), (57, 0), (57, 1), (57, 2), (57, 3)] rfl (by decide +kernel)
set_option maxRecDepth 20000 in
theorem gL_law_X8_digest : GoodIn wsL_law (wsV RL 293 RX8 yX8_digest wsX8_digest) := goodIn_app (goodIn_r2 _ [(48, 8), (48, 9), (48, 10), (0, 2)] rfl (by decide +kernel)) ggL_law_X8_digest
set_option maxHeartbeats 4000000 in
set_option maxRecDepth 20000 in
theorem ggL_law_X11_digest : GoodIn wsL_law wsX11_digest := goodIn_r2 _ [(49, 9), (6, 6), (49, 10), (49, 11), (0, 23), (3, 20), (6, 7), (8, 18), (34, 12), (34, 13), (34, 14), (3, 19), (34, 15), (4, 1), (4, 7), (4, 8), (49, 12), (49, 13), (49, 14), (0, 5), (49, 15), (49, 16), (20, 5), (20, 6), (20, 7), (20, 8), (4, 11), (6, 17), (6, 18), (6, 19), (6, 20), (31, 10), (31, 11), (31, 12), (31, 13), (4, 5), (6, 16), (51, 0), (51, 1), (51, 2), (51, 3), (51, 4), (51, 5), (51, 6), (51, 7), (51, 8), (51, 9), (59, 0), (59, 1), (59, 2), (59, 3), (59, 4), (59, 5), (59, 6), (59, 7), (59, 8), (59, 9), (59, 10), (59, 11), (59, 12), (60, 0), (60, 1)] rfl (by decide +kernel)
set_option maxRecDepth 20000 in
theorem gL_law_X11_digest : GoodIn wsL_law (wsV RL 297 RX11 yX11_digest wsX11_digest) := goodIn_app (goodIn_r2 _ [(49, 6), (49, 7), (49, 8), (0, 5)] rfl (by decide +kernel)) ggL_law_X11_digest
theorem dL_law_2412 : decode cL_law 2412 = .ok (.aload_n 1, 1) := by decide +kernel
theorem dL_law_2413 : decode cL_law 2413 = .ok (.aload_n 0, 1) := by decide +kernel
theorem dL_law_2414 : decode cL_law 2414 = .ok (.iload 4, 2) := by decide +kernel
theorem dL_law_2416 : decode cL_law 2416 = .ok (.iconst 1, 1) := by decide +kernel
theorem dL_law_2417 : decode cL_law 2417 = .ok (.iadd, 1) := by decide +kernel
theorem dL_law_2418 : decode cL_law 2418 = .ok (.iaload, 1) := by decide +kernel
theorem dL_law_2419 : decode cL_law 2419 = .ok (.aload_n 3, 1) := by decide +kernel
theorem dL_law_2420 : decode cL_law 2420 = .ok (.invokestatic 276, 3) := by decide +kernel
theorem dL_law_2423 : decode cL_law 2423 = .ok (.istore 5, 2) := by decide +kernel
theorem dL_law_2425 : decode cL_law 2425 = .ok (.aload_n 2, 1) := by decide +kernel
theorem dL_law_2426 : decode cL_law 2426 = .ok (.aload_n 0, 1) := by decide +kernel
theorem dL_law_2427 : decode cL_law 2427 = .ok (.iload 4, 2) := by decide +kernel
theorem dL_law_2429 : decode cL_law 2429 = .ok (.iconst 1, 1) := by decide +kernel
theorem dL_law_2430 : decode cL_law 2430 = .ok (.iadd, 1) := by decide +kernel
theorem dL_law_2431 : decode cL_law 2431 = .ok (.iaload, 1) := by decide +kernel
theorem dL_law_2432 : decode cL_law 2432 = .ok (.invokevirtual 278, 3) := by decide +kernel
theorem dL_law_2435 : decode cL_law 2435 = .ok (.istore 6, 2) := by decide +kernel
theorem dL_law_2437 : decode cL_law 2437 = .ok (.aload_n 2, 1) := by decide +kernel
theorem dL_law_2438 : decode cL_law 2438 = .ok (.invokevirtual 146, 3) := by decide +kernel
theorem dL_law_2441 : decode cL_law 2441 = .ok (.iload 5, 2) := by decide +kernel
theorem dL_law_2443 : decode cL_law 2443 = .ok (.if_icmp .eq 5, 3) := by decide +kernel
theorem dL_law_2446 : decode cL_law 2446 = .ok (.iconst 0, 1) := by decide +kernel
theorem dL_law_2448 : decode cL_law 2448 = .ok (.iload 5, 2) := by decide +kernel
theorem dL_law_2450 : decode cL_law 2450 = .ok (.ifCond .ne 15, 3) := by decide +kernel
theorem dL_law_2453 : decode cL_law 2453 = .ok (.aload_n 3, 1) := by decide +kernel
theorem dL_law_2454 : decode cL_law 2454 = .ok (.iconst 0, 1) := by decide +kernel
theorem dL_law_2455 : decode cL_law 2455 = .ok (.laload, 1) := by decide +kernel
theorem dL_law_2456 : decode cL_law 2456 = .ok (.iload 6, 2) := by decide +kernel
theorem dL_law_2458 : decode cL_law 2458 = .ok (.i2l, 1) := by decide +kernel
theorem dL_law_2459 : decode cL_law 2459 = .ok (.lcmp, 1) := by decide +kernel
theorem dL_law_2460 : decode cL_law 2460 = .ok (.ifCond .eq 5, 3) := by decide +kernel
theorem dL_law_2463 : decode cL_law 2463 = .ok (.iconst 0, 1) := by decide +kernel
theorem dL_law_2465 : decode cL_law 2465 = .ok (.goto 274, 3) := by decide +kernel
theorem dL_law_2468 : decode cL_law 2468 = .ok (.aload_n 1, 1) := by decide +kernel
theorem dL_law_2469 : decode cL_law 2469 = .ok (.invokevirtual 279, 3) := by decide +kernel
theorem dL_law_2472 : decode cL_law 2472 = .ok (.dstore 5, 2) := by decide +kernel
theorem dL_law_2474 : decode cL_law 2474 = .ok (.aload_n 2, 1) := by decide +kernel
theorem dL_law_2475 : decode cL_law 2475 = .ok (.invokevirtual 283, 3) := by decide +kernel
theorem dL_law_2478 : decode cL_law 2478 = .ok (.dstore 7, 2) := by decide +kernel
theorem dL_law_2480 : decode cL_law 2480 = .ok (.dload 5, 2) := by decide +kernel
theorem dL_law_2482 : decode cL_law 2482 = .ok (.dload 7, 2) := by decide +kernel
theorem dL_law_2484 : decode cL_law 2484 = .ok (.dcmp .l, 1) := by decide +kernel
theorem dL_law_2485 : decode cL_law 2485 = .ok (.ifCond .eq 21, 3) := by decide +kernel
theorem dL_law_2488 : decode cL_law 2488 = .ok (.dload 5, 2) := by decide +kernel
theorem dL_law_2490 : decode cL_law 2490 = .ok (.dload 5, 2) := by decide +kernel
theorem dL_law_2492 : decode cL_law 2492 = .ok (.dcmp .l, 1) := by decide +kernel
theorem dL_law_2493 : decode cL_law 2493 = .ok (.ifCond .eq 11, 3) := by decide +kernel
theorem dL_law_2496 : decode cL_law 2496 = .ok (.dload 7, 2) := by decide +kernel
theorem dL_law_2498 : decode cL_law 2498 = .ok (.dload 7, 2) := by decide +kernel
theorem dL_law_2500 : decode cL_law 2500 = .ok (.dcmp .l, 1) := by decide +kernel
theorem dL_law_2501 : decode cL_law 2501 = .ok (.ifCond .ne 5, 3) := by decide +kernel
theorem dL_law_2504 : decode cL_law 2504 = .ok (.iconst 0, 1) := by decide +kernel
theorem dL_law_2506 : decode cL_law 2506 = .ok (.goto 233, 3) := by decide +kernel
theorem dL_law_2509 : decode cL_law 2509 = .ok (.aload_n 1, 1) := by decide +kernel
theorem dL_law_2510 : decode cL_law 2510 = .ok (.aload_n 0, 1) := by decide +kernel
theorem dL_law_2511 : decode cL_law 2511 = .ok (.iload 4, 2) := by decide +kernel
theorem dL_law_2513 : decode cL_law 2513 = .ok (.iconst 1, 1) := by decide +kernel
theorem dL_law_2514 : decode cL_law 2514 = .ok (.iadd, 1) := by decide +kernel
theorem dL_law_2515 : decode cL_law 2515 = .ok (.iaload, 1) := by decide +kernel
theorem dL_law_2516 : decode cL_law 2516 = .ok (.aload_n 0, 1) := by decide +kernel
theorem dL_law_2517 : decode cL_law 2517 = .ok (.iload 4, 2) := by decide +kernel
theorem dL_law_2519 : decode cL_law 2519 = .ok (.iconst 2, 1) := by decide +kernel
theorem dL_law_2520 : decode cL_law 2520 = .ok (.iadd, 1) := by decide +kernel
theorem dL_law_2521 : decode cL_law 2521 = .ok (.iaload, 1) := by decide +kernel
theorem dL_law_2522 : decode cL_law 2522 = .ok (.aload_n 0, 1) := by decide +kernel
theorem dL_law_2523 : decode cL_law 2523 = .ok (.iload 4, 2) := by decide +kernel
theorem dL_law_2525 : decode cL_law 2525 = .ok (.iconst 3, 1) := by decide +kernel
theorem dL_law_2526 : decode cL_law 2526 = .ok (.iadd, 1) := by decide +kernel
theorem dL_law_2527 : decode cL_law 2527 = .ok (.iaload, 1) := by decide +kernel
theorem dL_law_2528 : decode cL_law 2528 = .ok (.aload_n 3, 1) := by decide +kernel
theorem dL_law_2529 : decode cL_law 2529 = .ok (.invokestatic 284, 3) := by decide +kernel
theorem dL_law_2532 : decode cL_law 2532 = .ok (.istore 5, 2) := by decide +kernel
theorem dL_law_2534 : decode cL_law 2534 = .ok (.aload_n 2, 1) := by decide +kernel
theorem dL_law_2535 : decode cL_law 2535 = .ok (.aload_n 0, 1) := by decide +kernel
theorem dL_law_2536 : decode cL_law 2536 = .ok (.iload 4, 2) := by decide +kernel
theorem dL_law_2538 : decode cL_law 2538 = .ok (.iconst 1, 1) := by decide +kernel
theorem dL_law_2539 : decode cL_law 2539 = .ok (.iadd, 1) := by decide +kernel
theorem dL_law_2540 : decode cL_law 2540 = .ok (.iaload, 1) := by decide +kernel
theorem dL_law_2541 : decode cL_law 2541 = .ok (.aload_n 0, 1) := by decide +kernel
theorem dL_law_2542 : decode cL_law 2542 = .ok (.iload 4, 2) := by decide +kernel
theorem dL_law_2544 : decode cL_law 2544 = .ok (.iconst 2, 1) := by decide +kernel
theorem dL_law_2545 : decode cL_law 2545 = .ok (.iadd, 1) := by decide +kernel
theorem dL_law_2546 : decode cL_law 2546 = .ok (.iaload, 1) := by decide +kernel
theorem dL_law_2547 : decode cL_law 2547 = .ok (.aload_n 0, 1) := by decide +kernel
theorem dL_law_2548 : decode cL_law 2548 = .ok (.iload 4, 2) := by decide +kernel
theorem dL_law_2550 : decode cL_law 2550 = .ok (.iconst 3, 1) := by decide +kernel
theorem dL_law_2551 : decode cL_law 2551 = .ok (.iadd, 1) := by decide +kernel
theorem dL_law_2552 : decode cL_law 2552 = .ok (.iaload, 1) := by decide +kernel
theorem dL_law_2553 : decode cL_law 2553 = .ok (.invokevirtual 286, 3) := by decide +kernel
theorem dL_law_2556 : decode cL_law 2556 = .ok (.istore 6, 2) := by decide +kernel
theorem dL_law_2558 : decode cL_law 2558 = .ok (.aload_n 2, 1) := by decide +kernel
theorem dL_law_2559 : decode cL_law 2559 = .ok (.invokevirtual 146, 3) := by decide +kernel
theorem dL_law_2562 : decode cL_law 2562 = .ok (.iload 5, 2) := by decide +kernel
theorem dL_law_2564 : decode cL_law 2564 = .ok (.if_icmp .eq 5, 3) := by decide +kernel
theorem dL_law_2567 : decode cL_law 2567 = .ok (.iconst 0, 1) := by decide +kernel
theorem dL_law_2569 : decode cL_law 2569 = .ok (.iload 5, 2) := by decide +kernel
theorem dL_law_2571 : decode cL_law 2571 = .ok (.ifCond .ne 15, 3) := by decide +kernel
theorem dL_law_2574 : decode cL_law 2574 = .ok (.aload_n 3, 1) := by decide +kernel
theorem dL_law_2575 : decode cL_law 2575 = .ok (.iconst 0, 1) := by decide +kernel
theorem dL_law_2576 : decode cL_law 2576 = .ok (.laload, 1) := by decide +kernel
theorem dL_law_2577 : decode cL_law 2577 = .ok (.iload 6, 2) := by decide +kernel
theorem dL_law_2579 : decode cL_law 2579 = .ok (.i2l, 1) := by decide +kernel
theorem dL_law_2580 : decode cL_law 2580 = .ok (.lcmp, 1) := by decide +kernel
theorem dL_law_2581 : decode cL_law 2581 = .ok (.ifCond .eq 5, 3) := by decide +kernel
theorem dL_law_2584 : decode cL_law 2584 = .ok (.iconst 0, 1) := by decide +kernel
theorem dL_law_2586 : decode cL_law 2586 = .ok (.goto 153, 3) := by decide +kernel
theorem dL_law_2589 : decode cL_law 2589 = .ok (.aload_n 1, 1) := by decide +kernel
theorem dL_law_2590 : decode cL_law 2590 = .ok (.aload_n 0, 1) := by decide +kernel
theorem dL_law_2591 : decode cL_law 2591 = .ok (.iload 4, 2) := by decide +kernel
theorem dL_law_2593 : decode cL_law 2593 = .ok (.iconst 1, 1) := by decide +kernel
theorem dL_law_2594 : decode cL_law 2594 = .ok (.iadd, 1) := by decide +kernel
theorem dL_law_2595 : decode cL_law 2595 = .ok (.iaload, 1) := by decide +kernel
theorem dL_law_2596 : decode cL_law 2596 = .ok (.aload_n 3, 1) := by decide +kernel
theorem dL_law_2597 : decode cL_law 2597 = .ok (.invokestatic 287, 3) := by decide +kernel
theorem dL_law_2600 : decode cL_law 2600 = .ok (.istore 5, 2) := by decide +kernel
theorem dL_law_2602 : decode cL_law 2602 = .ok (.aload_n 2, 1) := by decide +kernel
theorem dL_law_2603 : decode cL_law 2603 = .ok (.aload_n 0, 1) := by decide +kernel
theorem dL_law_2604 : decode cL_law 2604 = .ok (.iload 4, 2) := by decide +kernel
theorem dL_law_2606 : decode cL_law 2606 = .ok (.iconst 1, 1) := by decide +kernel
theorem dL_law_2607 : decode cL_law 2607 = .ok (.iadd, 1) := by decide +kernel
theorem dL_law_2608 : decode cL_law 2608 = .ok (.iaload, 1) := by decide +kernel
theorem dL_law_2609 : decode cL_law 2609 = .ok (.invokevirtual 289, 3) := by decide +kernel
theorem dL_law_2612 : decode cL_law 2612 = .ok (.istore 6, 2) := by decide +kernel
theorem dL_law_2614 : decode cL_law 2614 = .ok (.aload_n 2, 1) := by decide +kernel
theorem dL_law_2615 : decode cL_law 2615 = .ok (.invokevirtual 146, 3) := by decide +kernel
theorem dL_law_2618 : decode cL_law 2618 = .ok (.iload 5, 2) := by decide +kernel
theorem dL_law_2620 : decode cL_law 2620 = .ok (.if_icmp .eq 5, 3) := by decide +kernel
theorem dL_law_2623 : decode cL_law 2623 = .ok (.iconst 0, 1) := by decide +kernel
theorem dL_law_2625 : decode cL_law 2625 = .ok (.iload 5, 2) := by decide +kernel
theorem dL_law_2627 : decode cL_law 2627 = .ok (.ifCond .ne 15, 3) := by decide +kernel
theorem dL_law_2630 : decode cL_law 2630 = .ok (.aload_n 3, 1) := by decide +kernel
theorem dL_law_2631 : decode cL_law 2631 = .ok (.iconst 0, 1) := by decide +kernel
theorem dL_law_2632 : decode cL_law 2632 = .ok (.laload, 1) := by decide +kernel
theorem dL_law_2633 : decode cL_law 2633 = .ok (.iload 6, 2) := by decide +kernel
theorem dL_law_2635 : decode cL_law 2635 = .ok (.i2l, 1) := by decide +kernel
theorem dL_law_2636 : decode cL_law 2636 = .ok (.lcmp, 1) := by decide +kernel
theorem dL_law_2637 : decode cL_law 2637 = .ok (.ifCond .eq 5, 3) := by decide +kernel
theorem dL_law_2640 : decode cL_law 2640 = .ok (.iconst 0, 1) := by decide +kernel
theorem dL_law_2642 : decode cL_law 2642 = .ok (.goto 97, 3) := by decide +kernel
theorem dL_law_2645 : decode cL_law 2645 = .ok (.aload_n 1, 1) := by decide +kernel
theorem dL_law_2646 : decode cL_law 2646 = .ok (.aload_n 0, 1) := by decide +kernel
theorem dL_law_2647 : decode cL_law 2647 = .ok (.iload 4, 2) := by decide +kernel
theorem dL_law_2649 : decode cL_law 2649 = .ok (.iconst 1, 1) := by decide +kernel
theorem dL_law_2650 : decode cL_law 2650 = .ok (.iadd, 1) := by decide +kernel
theorem dL_law_2651 : decode cL_law 2651 = .ok (.iaload, 1) := by decide +kernel
theorem dL_law_2652 : decode cL_law 2652 = .ok (.aload_n 0, 1) := by decide +kernel
theorem dL_law_2653 : decode cL_law 2653 = .ok (.iload 4, 2) := by decide +kernel
theorem dL_law_2655 : decode cL_law 2655 = .ok (.iconst 2, 1) := by decide +kernel
theorem dL_law_2656 : decode cL_law 2656 = .ok (.iadd, 1) := by decide +kernel
theorem dL_law_2657 : decode cL_law 2657 = .ok (.iaload, 1) := by decide +kernel
theorem dL_law_2658 : decode cL_law 2658 = .ok (.aload_n 0, 1) := by decide +kernel
theorem dL_law_2659 : decode cL_law 2659 = .ok (.iload 4, 2) := by decide +kernel
theorem dL_law_2661 : decode cL_law 2661 = .ok (.iconst 3, 1) := by decide +kernel
theorem dL_law_2662 : decode cL_law 2662 = .ok (.iadd, 1) := by decide +kernel
theorem dL_law_2663 : decode cL_law 2663 = .ok (.iaload, 1) := by decide +kernel
theorem dL_law_2664 : decode cL_law 2664 = .ok (.aload_n 3, 1) := by decide +kernel
theorem dL_law_2665 : decode cL_law 2665 = .ok (.invokestatic 290, 3) := by decide +kernel
theorem dL_law_2668 : decode cL_law 2668 = .ok (.istore 5, 2) := by decide +kernel
theorem dL_law_2670 : decode cL_law 2670 = .ok (.aload_n 2, 1) := by decide +kernel
theorem dL_law_2671 : decode cL_law 2671 = .ok (.aload_n 0, 1) := by decide +kernel
theorem dL_law_2672 : decode cL_law 2672 = .ok (.iload 4, 2) := by decide +kernel
theorem dL_law_2674 : decode cL_law 2674 = .ok (.iconst 1, 1) := by decide +kernel
theorem dL_law_2675 : decode cL_law 2675 = .ok (.iadd, 1) := by decide +kernel
theorem dL_law_2676 : decode cL_law 2676 = .ok (.iaload, 1) := by decide +kernel
theorem dL_law_2677 : decode cL_law 2677 = .ok (.aload_n 0, 1) := by decide +kernel
theorem dL_law_2678 : decode cL_law 2678 = .ok (.iload 4, 2) := by decide +kernel
theorem dL_law_2680 : decode cL_law 2680 = .ok (.iconst 2, 1) := by decide +kernel
theorem dL_law_2681 : decode cL_law 2681 = .ok (.iadd, 1) := by decide +kernel
theorem dL_law_2682 : decode cL_law 2682 = .ok (.iaload, 1) := by decide +kernel
theorem dL_law_2683 : decode cL_law 2683 = .ok (.aload_n 0, 1) := by decide +kernel
theorem dL_law_2684 : decode cL_law 2684 = .ok (.iload 4, 2) := by decide +kernel
theorem dL_law_2686 : decode cL_law 2686 = .ok (.iconst 3, 1) := by decide +kernel
theorem dL_law_2687 : decode cL_law 2687 = .ok (.iadd, 1) := by decide +kernel
theorem dL_law_2688 : decode cL_law 2688 = .ok (.iaload, 1) := by decide +kernel
theorem dL_law_2689 : decode cL_law 2689 = .ok (.invokevirtual 292, 3) := by decide +kernel
theorem dL_law_2692 : decode cL_law 2692 = .ok (.istore 6, 2) := by decide +kernel
theorem dL_law_2694 : decode cL_law 2694 = .ok (.aload_n 2, 1) := by decide +kernel
theorem dL_law_2695 : decode cL_law 2695 = .ok (.invokevirtual 146, 3) := by decide +kernel
theorem dL_law_2698 : decode cL_law 2698 = .ok (.iload 5, 2) := by decide +kernel
theorem dL_law_2700 : decode cL_law 2700 = .ok (.if_icmp .eq 5, 3) := by decide +kernel
theorem dL_law_2703 : decode cL_law 2703 = .ok (.iconst 0, 1) := by decide +kernel
theorem dL_law_2705 : decode cL_law 2705 = .ok (.iload 5, 2) := by decide +kernel
theorem dL_law_2707 : decode cL_law 2707 = .ok (.ifCond .ne 15, 3) := by decide +kernel
theorem dL_law_2710 : decode cL_law 2710 = .ok (.aload_n 3, 1) := by decide +kernel
theorem dL_law_2711 : decode cL_law 2711 = .ok (.iconst 0, 1) := by decide +kernel
theorem dL_law_2712 : decode cL_law 2712 = .ok (.laload, 1) := by decide +kernel
theorem dL_law_2713 : decode cL_law 2713 = .ok (.iload 6, 2) := by decide +kernel
theorem dL_law_2715 : decode cL_law 2715 = .ok (.i2l, 1) := by decide +kernel
theorem dL_law_2716 : decode cL_law 2716 = .ok (.lcmp, 1) := by decide +kernel
theorem dL_law_2717 : decode cL_law 2717 = .ok (.ifCond .eq 5, 3) := by decide +kernel
theorem dL_law_2720 : decode cL_law 2720 = .ok (.iconst 0, 1) := by decide +kernel
theorem dL_law_2722 : decode cL_law 2722 = .ok (.goto 17, 3) := by decide +kernel
theorem dL_law_2725 : decode cL_law 2725 = .ok (.aload_n 1, 1) := by decide +kernel
theorem dL_law_2726 : decode cL_law 2726 = .ok (.invokevirtual 293, 3) := by decide +kernel
theorem dL_law_2729 : decode cL_law 2729 = .ok (.aload_n 2, 1) := by decide +kernel
theorem dL_law_2730 : decode cL_law 2730 = .ok (.invokevirtual 297, 3) := by decide +kernel
theorem dL_law_2733 : decode cL_law 2733 = .ok (.lcmp, 1) := by decide +kernel
theorem dL_law_2734 : decode cL_law 2734 = .ok (.ifCond .eq 5, 3) := by decide +kernel
theorem dL_law_2737 : decode cL_law 2737 = .ok (.iconst 0, 1) := by decide +kernel
