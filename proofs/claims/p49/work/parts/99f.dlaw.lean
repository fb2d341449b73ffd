set_option maxHeartbeats 4000000 in
set_option maxRecDepth 20000 in
theorem ggL_law_X8_init : GoodIn wsL_law wsX8_init := goodIn_r2 _ [(0, 6), (0, 7), (0, 8), (0, 9), (0, 10), (0, 11), (0, 12), (0, 13), (0, 14), (0, 15), (0, 16), (0, 17), (0, 18), (0, 19), (0, 3), (0, 20), (0, 21), (0, 22), (0, 23), (1, 0), (1, 1), (1, 2), (1, 3), (1, 4), (1, 5), (1, 6), (1, 7), (1, 8), (1, 9), (1, 10), (1, 11), (1, 12), (1, 13), (1, 14), (1, 15), (1, 16), (1, 17), (1, 18), (1, 19), (1, 20), (1, 21), (1, 22), (1, 23), (2, 0), (2, 1), (2, 2), (2, 3), (2, 4), (2, 5), (2, 6), (2, 7), (2, 8), (2, 9), (2, 10), (2, 11), (2, 12), (2, 13), (2, 14), (2, 15), (2, 16), (2, 17), (2, 18), (2, 19), (2, 20), (2, 21), (2, 22), (2, 23), (3, 0), (3, 1), (3, 2), (3, 3), (3, 4), (28, 0), (28, 1), (28, 2), (28, 3), (28, 4), (28, 5), (28, 6), (28, 7), (28, 8), (27, 0), (27, 1), (27, 2), (27, 3), (29, 0), (29, 1), (29, 2), (29, 3), (29, 4), (29, 5), (30, 0), (30, 1), (30, 2), (30, 3), (30, 4), (30, 5), (30, 6), (31, 0), (31, 1), (31, 2), (31, 3), (32, 0), (32, 1), (32, 2), (32, 3), (32, 4), (32, 5), (32, 6), (32, 7), (32, 8), (32, 9), (32, 10), (32, 11), (32, 12), (32, 13), (33, 0), (33, 1), (33, 2), (33, 3), (34, 0), (34, 1), (34, 2), (34, 3), (34, 4)] rfl (by decide +kernel)
set_option maxRecDepth 20000 in
theorem gL_law_X8_init : GoodIn wsL_law (wsX8_init) := ggL_law_X8_init
set_option maxHeartbeats 4000000 in
set_option maxRecDepth 20000 in
theorem ggL_law_L_cell : GoodIn wsL_law wsL_cell := goodIn_r2 _ [(3, 8), (3, 9)] rfl (by decide +kernel)
set_option maxRecDepth 20000 in
theorem gL_law_L_cell : GoodIn wsL_law (va_wsS RL 12 yL_cell wsL_cell) := goodIn_app (goodIn_r2 _ [(3, 5), (3, 6), (3, 7)] rfl (by decide +kernel)) ggL_law_L_cell
set_option maxHeartbeats 4000000 in
set_option maxRecDepth 20000 in
theorem ggL_law_L_below : GoodIn wsL_law wsL_below := goodIn_r2 _ [(3, 12), (3, 13)] rfl (by decide +kernel)
set_option maxRecDepth 20000 in
theorem gL_law_L_below : GoodIn wsL_law (va_wsS RL 18 yL_below wsL_below) := goodIn_app (goodIn_r2 _ [(3, 10), (3, 11), (3, 7)] rfl (by decide +kernel)) ggL_law_L_below
set_option maxHeartbeats 4000000 in
set_option maxRecDepth 20000 in
theorem ggL_law_X8_addNode : GoodIn wsL_law wsX8_addNode := goodIn_ca (goodIn_r2 _ [(3, 17), (3, 18), (3, 19), (0, 13), (3, 20), (3, 21), (3, 22), (3, 23), (0, 12), (4, 0), (4, 1), (4, 2), (4, 3), (4, 4), (4, 5), (1, 7), (4, 6), (4, 7), (4, 8), (4, 9), (4, 10), (1, 5), (1, 0), (1, 1), (1, 2), (4, 11), (4, 12), (4, 13), (27, 0), (27, 1), (27, 2), (27, 3), (28, 0), (28, 1), (28, 2), (28, 3), (28, 4), (28, 5), (28, 6), (28, 7), (28, 8)] rfl (by decide +kernel)) (goodIn_sub (fun _ h => List.mem_append_left _ (List.mem_append_left _ (List.mem_append_right _ h))) (by decide +kernel))
set_option maxRecDepth 20000 in
theorem gL_law_X8_addNode : GoodIn wsL_law (wsV RL 22 RX8 yX8_addNode wsX8_addNode) := goodIn_app (goodIn_r2 _ [(3, 14), (3, 15), (3, 16), (0, 2)] rfl (by decide +kernel)) ggL_law_X8_addNode
set_option maxHeartbeats 4000000 in
set_option maxRecDepth 20000 in
theorem ggL_law_L_act : GoodIn wsL_law wsL_act := goodIn_ca (goodIn_ca (goodIn_ca (goodIn_r2 _ [(4, 16), (4, 17), (4, 18), (4, 19), (4, 20), (4, 21), (4, 22), (4, 23), (5, 0), (5, 1), (5, 2), (5, 3), (5, 4), (5, 5), (0, 2), (5, 6), (0, 17), (5, 7), (3, 10), (3, 11), (3, 7), (3, 12), (3, 13), (5, 8), (5, 9), (5, 10), (5, 11), (5, 12), (5, 13), (5, 14), (5, 15), (5, 16), (5, 17), (5, 18), (3, 18), (3, 19), (0, 13), (5, 19), (5, 20), (5, 21), (5, 22), (5, 23), (6, 0), (6, 1), (3, 20), (6, 2), (6, 3), (6, 4), (6, 5), (6, 6), (6, 7), (0, 12), (6, 8), (4, 10), (6, 9), (6, 10), (6, 11), (6, 12), (1, 0), (1, 1), (6, 13), (6, 14), (6, 15), (6, 16), (1, 2), (1, 3), (1, 5), (4, 2), (4, 3), (4, 4), (4, 5), (4, 1), (1, 7), (4, 6), (4, 7), (4, 8), (4, 9), (4, 11), (4, 12), (4, 13), (6, 17), (6, 18), (6, 19), (6, 20), (6, 21), (6, 22), (6, 23), (0, 16), (7, 0), (7, 1), (1, 16), (7, 2), (7, 3), (7, 4), (7, 5), (7, 6), (7, 7), (7, 8), (7, 9), (7, 10), (2, 9), (7, 11), (7, 12), (7, 13), (7, 14), (7, 15), (7, 16), (2, 21), (7, 17), (7, 18), (7, 19), (7, 20), (7, 21), (2, 20), (7, 22), (7, 23), (8, 0), (8, 1), (8, 2), (8, 3), (8, 4), (8, 5), (8, 6), (8, 7), (8, 8), (8, 9), (8, 10), (8, 11), (8, 12), (8, 13), (8, 14), (8, 15), (1, 17), (8, 16), (8, 17), (1, 14), (8, 18), (8, 19), (8, 20), (8, 21), (8, 22), (8, 23), (9, 0), (9, 1), (9, 2), (9, 3), (9, 4), (1, 19), (9, 5), (9, 6), (2, 2), (9, 7), (9, 8), (9, 9), (9, 10), (9, 11), (9, 12), (9, 13), (9, 14), (9, 15), (9, 16), (9, 17), (9, 18), (9, 19), (9, 20), (9, 21), (9, 22), (9, 23), (10, 0), (10, 1), (10, 2), (0, 20), (10, 3), (10, 4), (10, 5), (10, 6), (10, 7), (10, 8), (10, 9), (10, 10), (10, 11), (10, 12), (10, 13), (10, 14), (10, 15), (10, 16), (10, 17), (10, 18), (10, 19), (10, 20), (10, 21), (10, 22), (10, 23), (11, 0), (11, 1), (1, 21), (11, 2), (2, 14), (11, 3), (2, 10), (11, 4), (11, 5), (11, 6), (11, 7), (11, 8), (11, 9), (11, 10), (11, 11), (11, 12), (11, 13), (11, 14), (11, 15), (11, 16), (2, 13), (11, 17), (11, 18), (11, 19), (11, 20), (11, 21), (11, 22), (11, 23), (12, 0), (12, 1), (12, 2), (12, 3), (12, 4), (12, 5), (12, 6), (12, 7), (12, 8), (12, 9), (12, 10), (12, 11), (12, 12), (12, 13), (12, 14), (12, 15), (12, 16), (12, 17), (12, 18), (12, 19), (12, 20), (12, 21), (12, 22), (12, 23), (13, 0), (13, 1), (13, 2), (13, 3), (13, 4), (13, 5), (13, 6), (13, 7), (13, 8), (13, 9), (2, 3), (13, 10), (13, 11), (13, 12), (13, 13), (13, 14), (13, 15), (13, 16), (13, 17), (13, 18), (13, 19), (13, 20), (13, 21), (13, 22), (13, 23), (14, 0), (14, 1), (14, 2), (14, 3), (14, 4), (14, 5), (14, 6), (14, 7), (14, 8), (14, 9), (14, 10), (14, 11), (14, 12), (14, 13), (14, 14), (14, 15), (14, 16), (14, 17), (14, 18), (14, 19), (14, 20), (14, 21), (14, 22), (14, 23), (15, 0), (15, 1), (15, 2), (15, 3), (15, 4), (15, 5), (15, 6), (15, 7), (15, 8), (15, 9), (15, 10), (15, 11), (15, 12), (15, 13), (15, 14), (15, 15), (15, 16), (15, 17), (15, 18), (15, 19), (15, 20), (15, 21), (15, 22), (15, 23), (16, 0), (16, 1), (16, 2), (16, 3), (16, 4), (16, 5), (16, 6), (16, 7), (16, 8), (16, 9), (16, 10), (16, 11), (16, 12), (16, 13), (16, 14), (16, 15), (16, 16), (16, 17), (16, 18), (16, 19), (16, 20), (16, 21), (16, 22), (16, 23), (17, 0), (17, 1), (17, 2), (17, 3), (17, 4), (17, 5), (17, 6), (17, 7), (17, 8), (17, 9), (17, 10), (17, 11), (17, 12), (17, 13), (17, 14), (3, 4), (17, 15), (17, 16), (17, 17), (17, 18), (17, 19), (17, 20), (17, 21), (17, 22), (17, 23), (18, 0), (18, 1), (18, 2), (18, 3), (18, 4), (18, 5), (18, 6), (18, 7), (18, 8), (18, 9), (18, 10), (18, 11), (18, 12), (18, 13), (18, 14), (18, 15), (18, 16), (18, 17), (18, 18), (18, 19), (18, 20), (18, 21), (18, 22), (18, 23), (19, 0), (19, 1), (19, 2), (19, 3), (19, 4), (19, 5), (19, 6), (19, 7), (19, 8), (19, 9), (19, 10), (19, 11), (19, 12), (27, 0), (27, 1), (27, 2), (27, 3), (29, 0), (29, 1), (29, 2), (29, 3), (29, 4), (29, 5), (28, 0), (28, 1), (28, 2), (28, 3), (28, 4), (28, 5), (28, 6), (28, 7), (28, 8), (31, 0), (31, 1), (31, 2), (31, 3), (33, 0), (33, 1), (33, 2), (33, 3), (32, 0), (32, 1), (32, 2), (32, 3), (32, 4), (32, 5), (32, 6), (32, 7), (32, 8), (32, 9), (32, 10), (32, 11), (32, 12), (32, 13), (34, 0), (34, 1), (34, 2), (34, 3), (34, 4), (30, 0), (30, 1), (30, 2), (30, 3), (30, 4), (30, 5), (30, 6)] rfl (by decide +kernel)) (goodIn_sub (fun _ h => List.mem_append_left _ (List.mem_append_right _ h)) (by decide +kernel))) (goodIn_sub (fun _ h => List.mem_append_left _ (List.mem_append_left _ (List.mem_append_right _ h))) (by decide +kernel))) (goodIn_sub (fun _ h => List.mem_append_right _ h) (by decide +kernel))
set_option maxRecDepth 20000 in
theorem gL_law_L_act : GoodIn wsL_law (va_wsS RL 26 yL_act wsL_act) := goodIn_app (goodIn_r2 _ [(4, 14), (4, 15), (3, 7)] rfl (by decide +kernel)) ggL_law_L_act
set_option maxHeartbeats 4000000 in
set_option maxRecDepth 20000 in
theorem ggL_law_X8_digest : GoodIn wsL_law wsX8_digest := goodIn_r2 _ [(19, 16), (19, 17), (19, 18), (0, 13), (5, 19), (0, 17), (5, 7), (9, 22), (9, 17), (3, 20), (19, 19), (19, 20), (5, 9), (5, 10), (0, 2), (5, 11), (5, 12), (19, 21), (19, 22), (19, 23), (20, 0), (20, 1), (12, 9), (12, 10), (12, 11), (20, 2), (20, 3), (20, 4), (20, 5), (20, 6), (20, 7), (20, 8), (20, 9), (20, 10), (13, 19), (20, 11), (20, 12), (20, 13), (5, 4), (5, 5), (5, 6), (20, 14), (20, 15), (20, 16), (20, 17), (12, 16), (20, 18), (20, 19), (20, 20), (20, 21), (10, 6), (9, 12), (10, 12), (20, 22), (20, 23), (21, 0), (21, 1), (21, 2), (21, 3), (21, 4), (21, 5), (21, 6), (21, 7), (21, 8), (21, 9), (21, 10), (21, 11), (21, 12), (21, 13), (21, 14), (11, 12), (21, 15), (11, 13), (10, 23), (11, 0), (11, 1), (1, 21), (11, 2), (2, 14), (11, 3), (2, 10), (11, 4), (11, 5), (5, 1), (4, 22), (5, 2), (11, 6), (27, 0), (27, 1), (27, 2), (27, 3), (28, 0), (28, 1), (28, 2), (28, 3), (28, 4), (28, 5), (28, 6), (28, 7), (28, 8), (29, 0), (29, 1), (29, 2), (29, 3), (29, 4), (29, 5), (31, 0), (31, 1), (31, 2), (31, 3), (30, 0), (30, 1), (30, 2), (30, 3), (30, 4), (30, 5), (30, 6), (32, 0), (32, 1), (32, 2), (32, 3), (32, 4), (32, 5), (32, 6), (32, 7), (32, 8), (32, 9), (32, 10), (32, 11), (32, 12), (32, 13), (34, 0), (34, 1), (34, 2), (34, 3), (34, 4), (33, 0), (33, 1), (33, 2), (33, 3)] rfl (by decide +kernel)
set_option maxRecDepth 20000 in
theorem gL_law_X8_digest : GoodIn wsL_law (wsV RL 30 RX8 yX8_digest wsX8_digest) := goodIn_app (goodIn_r2 _ [(19, 13), (19, 14), (19, 15), (0, 2)] rfl (by decide +kernel)) ggL_law_X8_digest
set_option maxHeartbeats 4000000 in
set_option maxRecDepth 20000 in
theorem ggL_law_L_isSound : GoodIn wsL_law wsL_isSound := goodIn_ca (goodIn_r2 _ [(21, 18), (5, 3), (5, 4), (5, 5), (0, 2), (5, 6), (0, 17), (5, 7), (21, 19), (21, 20), (21, 21), (21, 22), (10, 6), (9, 13), (9, 14), (9, 15), (9, 16), (9, 17), (9, 18), (9, 19), (9, 20), (9, 21), (6, 0), (6, 1), (9, 22), (21, 23), (22, 0), (22, 1), (22, 2), (10, 12), (22, 3), (22, 4), (22, 5), (22, 6), (11, 12), (21, 15), (22, 7), (22, 8), (22, 9), (22, 10), (20, 22), (9, 8), (9, 9), (9, 10), (9, 11), (9, 12), (12, 4), (12, 5), (12, 6), (12, 7), (11, 13), (10, 19), (10, 20), (10, 21), (10, 22), (10, 23), (11, 0), (11, 1), (1, 21), (11, 2), (2, 14), (11, 3), (2, 10), (11, 4), (11, 5), (5, 1), (4, 22), (5, 2), (11, 6), (22, 11), (22, 12), (22, 13), (22, 14), (20, 23), (22, 15), (22, 16), (22, 17), (22, 18), (21, 4), (21, 7), (22, 19), (22, 20), (22, 21), (22, 22), (21, 10), (22, 23), (23, 0), (23, 1), (23, 2), (21, 8), (5, 8), (5, 9), (5, 10), (5, 11), (5, 12), (23, 3), (23, 4), (23, 5), (23, 6), (21, 9), (23, 7), (23, 8), (23, 9), (23, 10), (21, 3), (23, 11), (23, 12), (23, 13), (23, 14), (23, 15), (12, 8), (12, 9), (12, 10), (12, 11), (0, 13), (5, 19), (23, 16), (23, 17), (23, 18), (23, 19), (20, 11), (13, 15), (13, 16), (13, 17), (13, 18), (13, 19), (12, 17), (12, 18), (12, 19), (12, 20), (23, 20), (23, 21), (23, 22), (23, 23), (20, 12), (24, 0), (24, 1), (24, 2), (24, 3), (12, 16), (24, 4), (24, 5), (24, 6), (24, 7), (5, 20), (5, 21), (5, 22), (5, 23), (3, 20), (24, 8), (8, 20), (8, 21), (0, 12), (8, 22), (1, 7), (4, 10), (1, 5), (1, 2), (6, 9), (6, 10), (6, 11), (6, 12), (1, 0), (1, 1), (24, 9), (24, 10), (24, 11), (24, 12), (19, 19), (24, 13), (20, 8), (20, 9), (20, 10), (27, 0), (27, 1), (27, 2), (27, 3), (29, 0), (29, 1), (29, 2), (29, 3), (29, 4), (29, 5), (32, 0), (32, 1), (32, 2), (32, 3), (32, 4), (32, 5), (32, 6), (32, 7), (32, 8), (32, 9), (32, 10), (32, 11), (32, 12), (32, 13), (31, 0), (31, 1), (31, 2), (31, 3), (33, 0), (33, 1), (33, 2), (33, 3), (34, 0), (34, 1), (34, 2), (34, 3), (34, 4), (28, 0), (28, 1), (28, 2), (28, 3), (28, 4), (28, 5), (28, 6), (28, 7), (28, 8), (30, 0), (30, 1), (30, 2), (30, 3), (30, 4), (30, 5), (30, 6)] rfl (by decide +kernel)) (goodIn_sub (fun _ h => List.mem_append_right _ h) (by decide +kernel))
set_option maxRecDepth 20000 in
theorem gL_law_L_isSound : GoodIn wsL_law (va_wsS RL 34 yL_isSound wsL_isSound) := goodIn_app (goodIn_r2 _ [(21, 16), (21, 17), (3, 7)] rfl (by decide +kernel)) ggL_law_L_isSound
set_option maxHeartbeats 4000000 in
set_option maxRecDepth 20000 in
theorem ggL_law_X8_lostIn : GoodIn wsL_law wsX8_lostIn := goodIn_ca (goodIn_r2 _ [(24, 17), (0, 18), (0, 17), (20, 6), (6, 2), (6, 3), (0, 2), (6, 4), (5, 17), (5, 18), (24, 18), (24, 19), (24, 20), (0, 16), (24, 21), (1, 17), (14, 8), (1, 14), (7, 1), (1, 16), (7, 7), (8, 16), (24, 22), (24, 23), (25, 0), (1, 19), (25, 1), (2, 2), (25, 2), (25, 3), (25, 4), (25, 5), (9, 7), (9, 6), (2, 3), (13, 9), (19, 12), (19, 10), (25, 6), (25, 7), (25, 8), (1, 21), (25, 9), (25, 10), (25, 11), (2, 10), (2, 14), (25, 12), (25, 13), (25, 14), (2, 9), (25, 15), (7, 12), (10, 18), (10, 17), (15, 15), (15, 16), (7, 13), (7, 14), (7, 15), (15, 21), (7, 16), (7, 18), (15, 14), (17, 1), (2, 21), (25, 16), (25, 17), (25, 18), (2, 20), (25, 19), (7, 23), (8, 0), (8, 1), (8, 2), (8, 3), (25, 20), (25, 21), (25, 22), (2, 13), (25, 23), (11, 19), (11, 20), (11, 18), (3, 4), (26, 0), (14, 0), (14, 1), (14, 2), (14, 3), (14, 4), (14, 5), (14, 6), (14, 7), (14, 9), (8, 17), (14, 10), (14, 11), (14, 12), (14, 13), (14, 14), (14, 15), (14, 16), (14, 17), (14, 18), (14, 19), (14, 20), (14, 21), (7, 2), (7, 3), (7, 6), (7, 4), (14, 22), (14, 23), (8, 10), (15, 0), (15, 1), (15, 2), (15, 3), (8, 12), (8, 13), (8, 14), (8, 15), (8, 18), (8, 19), (8, 20), (8, 21), (0, 12), (8, 22), (1, 7), (4, 10), (1, 5), (1, 2), (6, 9), (6, 10), (6, 11), (6, 12), (1, 0), (1, 1), (8, 23), (9, 0), (9, 1), (9, 2), (9, 3), (9, 4), (9, 5), (15, 4), (15, 5), (15, 6), (15, 7), (15, 8), (15, 9), (15, 10), (15, 11), (15, 12), (15, 13), (15, 17), (15, 18), (15, 19), (15, 20), (7, 17), (15, 22), (15, 23), (16, 0), (16, 1), (16, 2), (16, 3), (4, 22), (16, 4), (16, 5), (4, 21), (4, 23), (16, 6), (5, 1), (5, 2), (16, 7), (16, 8), (16, 9), (16, 10), (16, 11), (16, 12), (16, 13), (16, 14), (16, 15), (16, 16), (16, 17), (16, 18), (16, 19), (16, 20), (16, 21), (16, 22), (16, 23), (17, 0), (17, 2), (17, 3), (17, 4), (17, 5), (17, 6), (17, 7), (17, 8), (17, 9), (17, 10), (8, 8), (8, 9), (8, 11), (17, 11), (17, 12), (17, 13), (17, 14), (17, 15), (11, 23), (12, 0), (12, 1), (12, 2), (12, 3), (11, 15), (11, 16), (11, 17), (11, 21), (17, 16), (17, 17), (17, 18), (17, 19), (17, 20), (17, 21), (17, 22), (17, 23), (18, 0), (18, 1), (18, 2), (18, 3), (18, 4), (18, 5), (8, 4), (8, 5), (8, 6), (8, 7), (18, 6), (18, 7), (18, 8), (18, 9), (18, 10), (18, 11), (18, 12), (18, 13), (18, 14), (18, 15), (10, 14), (10, 15), (10, 16), (18, 16), (18, 17), (18, 18), (18, 19), (18, 20), (18, 21), (18, 22), (18, 23), (19, 0), (19, 1), (19, 2), (19, 3), (19, 4), (19, 5), (19, 6), (19, 7), (19, 8), (19, 9), (19, 11), (27, 0), (27, 1), (27, 2), (27, 3), (29, 0), (29, 1), (29, 2), (29, 3), (29, 4), (29, 5), (28, 0), (28, 1), (28, 2), (28, 3), (28, 4), (28, 5), (28, 6), (28, 7), (28, 8), (30, 0), (30, 1), (30, 2), (30, 3), (30, 4), (30, 5), (30, 6), (31, 0), (31, 1), (31, 2), (31, 3), (32, 0), (32, 1), (32, 2), (32, 3), (32, 4), (32, 5), (32, 6), (32, 7), (32, 8), (32, 9), (32, 10), (32, 11), (32, 12), (32, 13), (34, 0), (34, 1), (34, 2), (34, 3), (34, 4), (33, 0), (33, 1), (33, 2), (33, 3)] rfl (by decide +kernel)) (goodIn_sub (fun _ h => List.mem_append_left _ (List.mem_append_right _ h)) (by decide +kernel))
set_option maxRecDepth 20000 in
theorem gL_law_X8_lostIn : GoodIn wsL_law (wsV RL 38 RX8 yX8_lostIn wsX8_lostIn) := goodIn_app (goodIn_r2 _ [(24, 14), (24, 15), (24, 16), (0, 2)] rfl (by decide +kernel)) ggL_law_X8_lostIn
theorem dL_law_0 : decode cL_law 0 = .ok (.new 9, 3) := by decide +kernel
theorem dL_law_3 : decode cL_law 3 = .ok (.dup, 1) := by decide +kernel
theorem dL_law_4 : decode cL_law 4 = .ok (.invokespecial 11, 3) := by decide +kernel
theorem dL_law_7 : decode cL_law 7 = .ok (.astore_n 1, 1) := by decide +kernel
theorem dL_law_8 : decode cL_law 8 = .ok (.iconst 2, 1) := by decide +kernel
theorem dL_law_9 : decode cL_law 9 = .ok (.aload_n 0, 1) := by decide +kernel
theorem dL_law_10 : decode cL_law 10 = .ok (.iconst 0, 1) := by decide +kernel
theorem dL_law_11 : decode cL_law 11 = .ok (.invokestatic 12, 3) := by decide +kernel
theorem dL_law_14 : decode cL_law 14 = .ok (.iconst 5, 1) := by decide +kernel
theorem dL_law_15 : decode cL_law 15 = .ok (.invokestatic 18, 3) := by decide +kernel
theorem dL_law_18 : decode cL_law 18 = .ok (.iadd, 1) := by decide +kernel
theorem dL_law_19 : decode cL_law 19 = .ok (.istore_n 2, 1) := by decide +kernel
theorem dL_law_20 : decode cL_law 20 = .ok (.iconst 0, 1) := by decide +kernel
theorem dL_law_21 : decode cL_law 21 = .ok (.istore_n 3, 1) := by decide +kernel
theorem dL_law_22 : decode cL_law 22 = .ok (.iload_n 3, 1) := by decide +kernel
theorem dL_law_23 : decode cL_law 23 = .ok (.iload_n 2, 1) := by decide +kernel
theorem dL_law_24 : decode cL_law 24 = .ok (.if_icmp .ge 14, 3) := by decide +kernel
theorem dL_law_27 : decode cL_law 27 = .ok (.aload_n 1, 1) := by decide +kernel
theorem dL_law_28 : decode cL_law 28 = .ok (.invokevirtual 22, 3) := by decide +kernel
theorem dL_law_31 : decode cL_law 31 = .ok (.pop, 1) := by decide +kernel
theorem dL_law_32 : decode cL_law 32 = .ok (.iinc 3 1, 3) := by decide +kernel
theorem dL_law_35 : decode cL_law 35 = .ok (.goto (-13), 3) := by decide +kernel
theorem dL_law_38 : decode cL_law 38 = .ok (.bipush 6, 2) := by decide +kernel
theorem dL_law_40 : decode cL_law 40 = .ok (.newarray .int, 2) := by decide +kernel
theorem dL_law_42 : decode cL_law 42 = .ok (.astore_n 3, 1) := by decide +kernel
theorem dL_law_43 : decode cL_law 43 = .ok (.bipush 6, 2) := by decide +kernel
theorem dL_law_45 : decode cL_law 45 = .ok (.newarray .int, 2) := by decide +kernel
theorem dL_law_47 : decode cL_law 47 = .ok (.astore 4, 2) := by decide +kernel
theorem dL_law_49 : decode cL_law 49 = .ok (.iconst 0, 1) := by decide +kernel
theorem dL_law_50 : decode cL_law 50 = .ok (.istore 5, 2) := by decide +kernel
theorem dL_law_52 : decode cL_law 52 = .ok (.iload 5, 2) := by decide +kernel
theorem dL_law_54 : decode cL_law 54 = .ok (.bipush 100, 2) := by decide +kernel
theorem dL_law_56 : decode cL_law 56 = .ok (.if_icmp .ge 93, 3) := by decide +kernel
theorem dL_law_59 : decode cL_law 59 = .ok (.aload_n 0, 1) := by decide +kernel
theorem dL_law_60 : decode cL_law 60 = .ok (.iconst 1, 1) := by decide +kernel
theorem dL_law_61 : decode cL_law 61 = .ok (.iload 5, 2) := by decide +kernel
theorem dL_law_63 : decode cL_law 63 = .ok (.bipush 25, 2) := by decide +kernel
theorem dL_law_65 : decode cL_law 65 = .ok (.irem, 1) := by decide +kernel
theorem dL_law_66 : decode cL_law 66 = .ok (.iadd, 1) := by decide +kernel
theorem dL_law_67 : decode cL_law 67 = .ok (.invokestatic 12, 3) := by decide +kernel
theorem dL_law_70 : decode cL_law 70 = .ok (.iload 5, 2) := by decide +kernel
theorem dL_law_72 : decode cL_law 72 = .ok (.bipush 25, 2) := by decide +kernel
theorem dL_law_74 : decode cL_law 74 = .ok (.idiv, 1) := by decide +kernel
theorem dL_law_75 : decode cL_law 75 = .ok (.bipush 7, 2) := by decide +kernel
theorem dL_law_77 : decode cL_law 77 = .ok (.imul, 1) := by decide +kernel
theorem dL_law_78 : decode cL_law 78 = .ok (.ishr, 1) := by decide +kernel
theorem dL_law_79 : decode cL_law 79 = .ok (.istore 6, 2) := by decide +kernel
theorem dL_law_81 : decode cL_law 81 = .ok (.aload_n 1, 1) := by decide +kernel
theorem dL_law_82 : decode cL_law 82 = .ok (.iload_n 2, 1) := by decide +kernel
theorem dL_law_83 : decode cL_law 83 = .ok (.iload 6, 2) := by decide +kernel
theorem dL_law_85 : decode cL_law 85 = .ok (.aload_n 3, 1) := by decide +kernel
theorem dL_law_86 : decode cL_law 86 = .ok (.aload 4, 2) := by decide +kernel
theorem dL_law_88 : decode cL_law 88 = .ok (.invokestatic 26, 3) := by decide +kernel
theorem dL_law_91 : decode cL_law 91 = .ok (.ifCond .ne 5, 3) := by decide +kernel
theorem dL_law_94 : decode cL_law 94 = .ok (.iconst 0, 1) := by decide +kernel
theorem dL_law_95 : decode cL_law 95 = .ok (.ireturn, 1) := by decide +kernel
theorem dL_law_96 : decode cL_law 96 = .ok (.iload 5, 2) := by decide +kernel
theorem dL_law_98 : decode cL_law 98 = .ok (.bipush 10, 2) := by decide +kernel
theorem dL_law_100 : decode cL_law 100 = .ok (.irem, 1) := by decide +kernel
theorem dL_law_101 : decode cL_law 101 = .ok (.bipush 9, 2) := by decide +kernel
theorem dL_law_103 : decode cL_law 103 = .ok (.if_icmp .eq 6, 3) := by decide +kernel
theorem dL_law_106 : decode cL_law 106 = .ok (.goto 37, 3) := by decide +kernel
theorem dL_law_109 : decode cL_law 109 = .ok (.aload_n 1, 1) := by decide +kernel
theorem dL_law_110 : decode cL_law 110 = .ok (.invokevirtual 30, 3) := by decide +kernel
theorem dL_law_113 : decode cL_law 113 = .ok (.lstore 7, 2) := by decide +kernel
theorem dL_law_115 : decode cL_law 115 = .ok (.aload_n 1, 1) := by decide +kernel
theorem dL_law_116 : decode cL_law 116 = .ok (.iload_n 2, 1) := by decide +kernel
theorem dL_law_117 : decode cL_law 117 = .ok (.invokestatic 34, 3) := by decide +kernel
theorem dL_law_120 : decode cL_law 120 = .ok (.ifCond .eq 21, 3) := by decide +kernel
theorem dL_law_123 : decode cL_law 123 = .ok (.aload_n 1, 1) := by decide +kernel
theorem dL_law_124 : decode cL_law 124 = .ok (.iconst 4, 1) := by decide +kernel
theorem dL_law_125 : decode cL_law 125 = .ok (.invokevirtual 38, 3) := by decide +kernel
theorem dL_law_128 : decode cL_law 128 = .ok (.ifCond .lt 13, 3) := by decide +kernel
theorem dL_law_131 : decode cL_law 131 = .ok (.aload_n 1, 1) := by decide +kernel
theorem dL_law_132 : decode cL_law 132 = .ok (.invokevirtual 30, 3) := by decide +kernel
theorem dL_law_135 : decode cL_law 135 = .ok (.lload 7, 2) := by decide +kernel
theorem dL_law_137 : decode cL_law 137 = .ok (.lcmp, 1) := by decide +kernel
theorem dL_law_138 : decode cL_law 138 = .ok (.ifCond .eq 5, 3) := by decide +kernel
theorem dL_law_141 : decode cL_law 141 = .ok (.iconst 0, 1) := by decide +kernel
theorem dL_law_142 : decode cL_law 142 = .ok (.ireturn, 1) := by decide +kernel
theorem dL_law_143 : decode cL_law 143 = .ok (.iinc 5 1, 3) := by decide +kernel
theorem dL_law_146 : decode cL_law 146 = .ok (.goto (-94), 3) := by decide +kernel
theorem dL_law_149 : decode cL_law 149 = .ok (.iconst 1, 1) := by decide +kernel
theorem dL_law_150 : decode cL_law 150 = .ok (.ireturn, 1) := by decide +kernel
