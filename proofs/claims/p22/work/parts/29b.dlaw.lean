set_option maxRecDepth 20000 in
theorem ggL_poke_X2_poke : GoodIn wsL_poke wsX2_poke := goodIn_ca (goodIn_r _ [6, 7, 8, 9, 10, 11, 5, 12, 13, 14, 15, 16, 17, 18, 19, 20, 21, 22, 23] (by first | exact rfl | decide +kernel) (by decide +kernel)) (goodIn_sub (fun _ h => List.mem_cons_of_mem _ (List.mem_append_right _ h)) (by decide +kernel))
set_option maxRecDepth 20000 in
theorem gL_poke_X2_poke : GoodIn wsL_poke (wsV RL 7 RX2 yX2_poke wsX2_poke) := goodIn_app (goodIn_of _ (by decide +kernel)) ggL_poke_X2_poke
set_option maxRecDepth 20000 in
theorem ggL_peek_X2_peek : GoodIn wsL_peek wsX2_peek := goodIn_ca (goodIn_r _ [6, 7, 8, 9, 10, 11, 5, 12, 13, 14, 15, 16, 17, 18, 19, 20, 21, 22, 23] (by first | exact rfl | decide +kernel) (by decide +kernel)) (goodIn_sub (fun _ h => List.mem_cons_of_mem _ (List.mem_append_right _ h)) (by decide +kernel))
set_option maxRecDepth 20000 in
theorem gL_peek_X2_peek : GoodIn wsL_peek (wsV RL 15 RX2 yX2_peek wsX2_peek) := goodIn_app (goodIn_of _ (by decide +kernel)) ggL_peek_X2_peek
set_option maxRecDepth 20000 in
theorem ggL_read_X2_read : GoodIn wsL_read wsX2_read := goodIn_ca (goodIn_r _ [6, 7, 8, 9, 10, 11, 5, 12, 13, 14, 15, 16, 17, 18, 19, 20, 21, 22, 23, 24, 25, 26, 27, 28, 29, 30, 31, 32, 33, 34, 35, 36, 37, 38, 39, 40, 41, 42, 43, 44, 45, 46, 47, 48, 49, 50, 51, 52, 53, 54, 55, 56, 57, 58, 59, 60, 61, 62, 63, 64, 65, 66, 67, 68, 69, 70, 71, 72, 73, 74, 75, 76, 77, 78, 79, 80, 81, 82, 83, 84, 85, 86, 87, 88, 89, 90, 91, 92, 93, 94, 95, 96, 97, 98, 99, 100, 101, 102, 103, 104, 105, 106, 107, 108, 109, 110, 111, 112, 113, 114, 115, 116] (by first | exact rfl | decide +kernel) (by decide +kernel)) (goodIn_sub (fun _ h => List.mem_cons_of_mem _ (List.mem_append_right _ h)) (by decide +kernel))
set_option maxRecDepth 20000 in
theorem gL_read_X2_read : GoodIn wsL_read (wsV RL 19 RX2 yX2_read wsX2_read) := goodIn_app (goodIn_of _ (by decide +kernel)) ggL_read_X2_read
set_option maxRecDepth 20000 in
theorem ggL_law_X2_init : GoodIn wsL_law wsX2_init := goodIn_l _ [(1, 16), (1, 17), (1, 18), (1, 19), (2, 6), (3, 0), (1, 20), (1, 21), (1, 8), (3, 1), (3, 2), (3, 3), (3, 4), (2, 7), (3, 5), (3, 6), (3, 7), (3, 8), (3, 9), (3, 10), (2, 8), (1, 9), (1, 22), (1, 23), (2, 0), (2, 1), (2, 5), (2, 2), (2, 3), (2, 4), (2, 9), (2, 10), (2, 11), (2, 12), (2, 13), (2, 14), (2, 15), (2, 16), (2, 17), (2, 18), (2, 19), (2, 20), (2, 21), (2, 22), (2, 23), (19, 0), (19, 1), (19, 2), (19, 3), (19, 4), (19, 5), (19, 6), (19, 7), (19, 8), (19, 9), (19, 10), (21, 0), (21, 1), (21, 2), (21, 3), (22, 0), (22, 1), (22, 2), (22, 3), (22, 4), (22, 5), (22, 6), (22, 7), (22, 8), (22, 9), (22, 10), (22, 11)] (by first | exact rfl | decide +kernel) (by decide +kernel)
set_option maxRecDepth 20000 in
theorem gL_law_X2_init : GoodIn wsL_law (wsX2_init) := ggL_law_X2_init
set_option maxRecDepth 20000 in
theorem ggL_law_X3_init : GoodIn wsL_law wsX3_init := goodIn_l _ [(12, 6), (12, 7), (1, 18), (1, 19), (2, 6), (12, 8), (12, 10), (12, 12), (12, 14), (12, 17), (12, 23), (20, 0), (20, 1), (20, 2), (20, 3), (20, 4), (20, 5), (20, 6), (20, 7), (20, 8), (20, 9), (20, 10), (20, 11), (20, 12), (20, 13), (20, 14), (20, 15), (20, 16)] (by first | exact rfl | decide +kernel) (by decide +kernel)
set_option maxRecDepth 20000 in
theorem gL_law_X3_init : GoodIn wsL_law (wsX3_init) := ggL_law_X3_init
set_option maxRecDepth 20000 in
theorem ggL_law_L_poke : GoodIn wsL_law wsL_poke := goodIn_ca (goodIn_l _ [(11, 5), (11, 6), (11, 7), (11, 8), (11, 9), (1, 7), (11, 10), (11, 11), (1, 11), (3, 0), (3, 18), (3, 19), (3, 20), (19, 0), (19, 1), (19, 2), (19, 3), (19, 4), (19, 5), (19, 6), (19, 7), (19, 8), (19, 9), (19, 10)] (by first | exact rfl | decide +kernel) (by decide +kernel)) (goodIn_sub (fun _ h => List.mem_append_right _ h) (by decide +kernel))
set_option maxRecDepth 20000 in
theorem gL_law_L_poke : GoodIn wsL_law (va_wsS RL 26 yL_poke wsL_poke) := goodIn_app (goodIn_l _ [(11, 3), (11, 4), (1, 6)] (by first | exact rfl | decide +kernel) (by decide +kernel)) ggL_law_L_poke
set_option maxRecDepth 20000 in
theorem ggL_law_X3_poke : GoodIn wsL_law wsX3_poke := goodIn_l _ [(13, 4), (12, 22), (12, 8), (13, 5), (13, 6), (1, 10), (13, 7), (20, 0), (20, 1), (20, 2), (20, 3), (20, 4), (20, 5), (20, 6), (20, 7), (20, 8), (20, 9), (20, 10), (20, 11), (20, 12), (20, 13), (20, 14), (20, 15), (20, 16)] (by first | exact rfl | decide +kernel) (by decide +kernel)
set_option maxRecDepth 20000 in
theorem gL_law_X3_poke : GoodIn wsL_law (wsV RL 31 RX3 yX3_poke wsX3_poke) := goodIn_app (goodIn_l _ [(13, 1), (13, 2), (13, 3), (1, 10)] (by first | exact rfl | decide +kernel) (by decide +kernel)) ggL_law_X3_poke
set_option maxRecDepth 20000 in
theorem ggL_law_L_peek : GoodIn wsL_law wsL_peek := goodIn_ca (goodIn_l _ [(11, 14), (11, 6), (11, 15), (11, 16), (11, 17), (1, 7), (11, 18), (11, 11), (1, 11), (3, 0), (3, 18), (3, 19), (3, 20), (19, 0), (19, 1), (19, 2), (19, 3), (19, 4), (19, 5), (19, 6), (19, 7), (19, 8), (19, 9), (19, 10)] (by first | exact rfl | decide +kernel) (by decide +kernel)) (goodIn_sub (fun _ h => List.mem_append_right _ h) (by decide +kernel))
set_option maxRecDepth 20000 in
theorem gL_law_L_peek : GoodIn wsL_law (va_wsS RL 32 yL_peek wsL_peek) := goodIn_app (goodIn_l _ [(11, 12), (11, 13), (1, 6)] (by first | exact rfl | decide +kernel) (by decide +kernel)) ggL_law_L_peek
set_option maxRecDepth 20000 in
theorem ggL_law_X3_peek : GoodIn wsL_law wsX3_peek := goodIn_l _ [(13, 11), (12, 22), (12, 8), (13, 5), (13, 6), (1, 10), (13, 7), (20, 0), (20, 1), (20, 2), (20, 3), (20, 4), (20, 5), (20, 6), (20, 7), (20, 8), (20, 9), (20, 10), (20, 11), (20, 12), (20, 13), (20, 14), (20, 15), (20, 16)] (by first | exact rfl | decide +kernel) (by decide +kernel)
set_option maxRecDepth 20000 in
theorem gL_law_X3_peek : GoodIn wsL_law (wsV RL 35 RX3 yX3_peek wsX3_peek) := goodIn_app (goodIn_l _ [(13, 8), (13, 9), (13, 10), (1, 10)] (by first | exact rfl | decide +kernel) (by decide +kernel)) ggL_law_X3_peek
set_option maxRecDepth 20000 in
theorem ggL_law_X2_fill : GoodIn wsL_law wsX2_fill := goodIn_l _ [(3, 14), (3, 15), (3, 16), (0, 0), (1, 7), (3, 17), (3, 0), (3, 18), (3, 19), (3, 20), (19, 0), (19, 1), (19, 2), (19, 3), (19, 4), (19, 5), (19, 6), (19, 7), (19, 8), (19, 9), (19, 10)] (by first | exact rfl | decide +kernel) (by decide +kernel)
set_option maxRecDepth 20000 in
theorem gL_law_X2_fill : GoodIn wsL_law (wsV RL 36 RX2 yX2_fill wsX2_fill) := goodIn_app (goodIn_l _ [(3, 11), (3, 12), (3, 13), (1, 7)] (by first | exact rfl | decide +kernel) (by decide +kernel)) ggL_law_X2_fill
set_option maxRecDepth 20000 in
theorem ggL_law_X3_fill : GoodIn wsL_law wsX3_fill := goodIn_l _ [(13, 15), (12, 22), (12, 8), (20, 0), (20, 1), (20, 2), (20, 3), (20, 4), (20, 5), (20, 6), (20, 7), (20, 8), (20, 9), (20, 10), (20, 11), (20, 12), (20, 13), (20, 14), (20, 15), (20, 16)] (by first | exact rfl | decide +kernel) (by decide +kernel)
set_option maxRecDepth 20000 in
theorem gL_law_X3_fill : GoodIn wsL_law (wsV RL 40 RX3 yX3_fill wsX3_fill) := goodIn_app (goodIn_l _ [(13, 12), (13, 13), (13, 14), (1, 10)] (by first | exact rfl | decide +kernel) (by decide +kernel)) ggL_law_X3_fill
set_option maxRecDepth 20000 in
theorem ggL_law_X2_table : GoodIn wsL_law wsX2_table := goodIn_l _ [(4, 0), (3, 6), (19, 0), (19, 1), (19, 2), (19, 3), (19, 4), (19, 5), (19, 6), (19, 7), (19, 8), (19, 9), (19, 10)] (by first | exact rfl | decide +kernel) (by decide +kernel)
set_option maxRecDepth 20000 in
theorem gL_law_X2_table : GoodIn wsL_law (wsV RL 41 RX2 yX2_table wsX2_table) := goodIn_app (goodIn_l _ [(3, 21), (3, 22), (3, 23), (1, 7)] (by first | exact rfl | decide +kernel) (by decide +kernel)) ggL_law_X2_table
set_option maxRecDepth 20000 in
theorem ggL_law_X3_table : GoodIn wsL_law wsX3_table := goodIn_l _ [(13, 19), (12, 22), (12, 9), (20, 0), (20, 1), (20, 2), (20, 3), (20, 4), (20, 5), (20, 6), (20, 7), (20, 8), (20, 9), (20, 10), (20, 11), (20, 12), (20, 13), (20, 14), (20, 15), (20, 16)] (by first | exact rfl | decide +kernel) (by decide +kernel)
set_option maxRecDepth 20000 in
theorem gL_law_X3_table : GoodIn wsL_law (wsV RL 45 RX3 yX3_table wsX3_table) := goodIn_app (goodIn_l _ [(13, 16), (13, 17), (13, 18), (1, 10)] (by first | exact rfl | decide +kernel) (by decide +kernel)) ggL_law_X3_table
set_option maxRecDepth 20000 in
theorem ggL_law_X2_context : GoodIn wsL_law wsX2_context := goodIn_l _ [(4, 4), (3, 18), (3, 19), (1, 7), (3, 20), (4, 5), (4, 6), (0, 1), (4, 7), (3, 6), (3, 15), (3, 16), (0, 0), (3, 17), (3, 0), (19, 0), (19, 1), (19, 2), (19, 3), (19, 4), (19, 5), (19, 6), (19, 7), (19, 8), (19, 9), (19, 10)] (by first | exact rfl | decide +kernel) (by decide +kernel)
set_option maxRecDepth 20000 in
theorem gL_law_X2_context : GoodIn wsL_law (wsV RL 46 RX2 yX2_context wsX2_context) := goodIn_app (goodIn_l _ [(4, 1), (4, 2), (4, 3), (1, 7)] (by first | exact rfl | decide +kernel) (by decide +kernel)) ggL_law_X2_context
set_option maxRecDepth 20000 in
theorem ggL_law_X3_context : GoodIn wsL_law wsX3_context := goodIn_l _ [(13, 23), (12, 22), (12, 8), (12, 9), (14, 0), (14, 1), (1, 10), (14, 2), (20, 0), (20, 1), (20, 2), (20, 3), (20, 4), (20, 5), (20, 6), (20, 7), (20, 8), (20, 9), (20, 10), (20, 11), (20, 12), (20, 13), (20, 14), (20, 15), (20, 16)] (by first | exact rfl | decide +kernel) (by decide +kernel)
set_option maxRecDepth 20000 in
theorem gL_law_X3_context : GoodIn wsL_law (wsV RL 50 RX3 yX3_context wsX3_context) := goodIn_app (goodIn_l _ [(13, 20), (13, 21), (13, 22), (1, 10)] (by first | exact rfl | decide +kernel) (by decide +kernel)) ggL_law_X3_context
set_option maxRecDepth 20000 in
theorem ggL_law_X2_enter : GoodIn wsL_law wsX2_enter := goodIn_l _ [(4, 11), (3, 18), (3, 19), (1, 7), (3, 20), (4, 12), (4, 13), (4, 14), (3, 15), (3, 16), (0, 0), (3, 17), (3, 0), (19, 0), (19, 1), (19, 2), (19, 3), (19, 4), (19, 5), (19, 6), (19, 7), (19, 8), (19, 9), (19, 10)] (by first | exact rfl | decide +kernel) (by decide +kernel)
set_option maxRecDepth 20000 in
theorem gL_law_X2_enter : GoodIn wsL_law (wsV RL 51 RX2 yX2_enter wsX2_enter) := goodIn_app (goodIn_l _ [(4, 8), (4, 9), (4, 10), (1, 7)] (by first | exact rfl | decide +kernel) (by decide +kernel)) ggL_law_X2_enter
set_option maxRecDepth 20000 in
theorem ggL_law_X3_enter : GoodIn wsL_law wsX3_enter := goodIn_l _ [(14, 6), (12, 22), (12, 8), (20, 0), (20, 1), (20, 2), (20, 3), (20, 4), (20, 5), (20, 6), (20, 7), (20, 8), (20, 9), (20, 10), (20, 11), (20, 12), (20, 13), (20, 14), (20, 15), (20, 16)] (by first | exact rfl | decide +kernel) (by decide +kernel)
set_option maxRecDepth 20000 in
theorem gL_law_X3_enter : GoodIn wsL_law (wsV RL 55 RX3 yX3_enter wsX3_enter) := goodIn_app (goodIn_l _ [(14, 3), (14, 4), (14, 5), (1, 10)] (by first | exact rfl | decide +kernel) (by decide +kernel)) ggL_law_X3_enter
set_option maxRecDepth 20000 in
theorem ggL_law_L_read : GoodIn wsL_law wsL_read := goodIn_ca (goodIn_l _ [(11, 21), (11, 6), (11, 22), (11, 23), (12, 0), (1, 7), (12, 1), (11, 11), (1, 11), (3, 7), (3, 18), (3, 19), (3, 20), (4, 19), (4, 20), (0, 2), (4, 21), (4, 22), (4, 23), (0, 3), (5, 0), (5, 1), (3, 1), (3, 2), (5, 2), (5, 3), (0, 4), (5, 4), (3, 8), (5, 5), (5, 6), (5, 7), (1, 8), (5, 8), (2, 4), (2, 3), (5, 9), (5, 10), (0, 5), (5, 11), (2, 5), (4, 5), (4, 6), (0, 1), (4, 7), (3, 6), (5, 12), (5, 13), (0, 6), (5, 14), (3, 0), (5, 15), (5, 16), (5, 17), (5, 18), (5, 19), (5, 20), (5, 21), (5, 22), (2, 2), (5, 23), (6, 0), (6, 1), (6, 2), (6, 3), (6, 4), (6, 5), (6, 6), (6, 7), (6, 8), (6, 9), (6, 10), (6, 11), (0, 7), (6, 12), (3, 9), (6, 13), (6, 14), (0, 8), (6, 15), (6, 16), (6, 17), (0, 9), (6, 18), (4, 12), (4, 13), (4, 14), (6, 19), (6, 20), (0, 10), (6, 21), (6, 22), (6, 23), (0, 11), (7, 0), (7, 1), (7, 2), (0, 12), (7, 3), (3, 3), (3, 10), (7, 4), (19, 0), (19, 1), (19, 2), (19, 3), (19, 4), (19, 5), (19, 6), (19, 7), (19, 8), (19, 9), (19, 10), (21, 0), (21, 1), (21, 2), (21, 3)] (by first | exact rfl | decide +kernel) (by decide +kernel)) (goodIn_sub (fun _ h => List.mem_append_right _ h) (by decide +kernel))
set_option maxRecDepth 20000 in
theorem gL_law_L_read : GoodIn wsL_law (va_wsS RL 56 yL_read wsL_read) := goodIn_app (goodIn_l _ [(11, 19), (11, 20), (1, 6)] (by first | exact rfl | decide +kernel) (by decide +kernel)) ggL_law_L_read
set_option maxRecDepth 20000 in
theorem ggL_law_X3_read : GoodIn wsL_law wsX3_read := goodIn_l _ [(14, 10), (12, 22), (12, 8), (13, 0), (14, 0), (14, 1), (1, 10), (14, 2), (14, 11), (14, 12), (0, 20), (14, 13), (12, 21), (12, 15), (12, 16), (12, 14), (14, 14), (14, 15), (0, 21), (14, 16), (14, 17), (12, 9), (12, 19), (12, 11), (12, 10), (12, 20), (12, 12), (14, 18), (14, 19), (0, 22), (14, 20), (14, 21), (14, 22), (0, 23), (14, 23), (15, 0), (15, 1), (15, 2), (15, 3), (15, 4), (1, 0), (15, 5), (12, 13), (15, 6), (15, 7), (1, 1), (15, 8), (20, 0), (20, 1), (20, 2), (20, 3), (20, 4), (20, 5), (20, 6), (20, 7), (20, 8), (20, 9), (20, 10), (20, 11), (20, 12), (20, 13), (20, 14), (20, 15), (20, 16)] (by first | exact rfl | decide +kernel) (by decide +kernel)
set_option maxRecDepth 20000 in
theorem gL_law_X3_read : GoodIn wsL_law (wsV RL 58 RX3 yX3_read wsX3_read) := goodIn_app (goodIn_l _ [(14, 7), (14, 8), (14, 9), (1, 10)] (by first | exact rfl | decide +kernel) (by decide +kernel)) ggL_law_X3_read
set_option maxRecDepth 20000 in
theorem ggL_law_X2_write : GoodIn wsL_law wsX2_write := goodIn_l _ [(4, 18), (3, 7), (3, 18), (3, 19), (1, 7), (3, 20), (4, 19), (4, 20), (0, 2), (4, 21), (4, 22), (4, 23), (0, 3), (5, 0), (5, 1), (3, 1), (3, 2), (5, 2), (5, 3), (0, 4), (5, 4), (3, 8), (5, 5), (5, 6), (5, 7), (1, 8), (5, 8), (2, 4), (2, 3), (5, 9), (5, 10), (0, 5), (5, 11), (2, 5), (4, 5), (4, 6), (0, 1), (4, 7), (3, 6), (5, 12), (5, 13), (0, 6), (5, 14), (3, 0), (5, 15), (5, 16), (5, 17), (5, 18), (5, 19), (5, 20), (5, 21), (5, 22), (2, 2), (5, 23), (6, 0), (6, 1), (6, 2), (6, 3), (6, 4), (6, 5), (6, 6), (6, 7), (6, 8), (6, 9), (6, 10), (6, 11), (0, 7), (6, 12), (3, 9), (6, 13), (6, 14), (0, 8), (6, 15), (6, 16), (6, 17), (0, 9), (6, 18), (4, 12), (4, 13), (4, 14), (6, 19), (6, 20), (0, 10), (6, 21), (6, 22), (6, 23), (0, 11), (7, 0), (7, 1), (7, 2), (0, 12), (7, 3), (3, 3), (3, 10), (7, 4), (3, 15), (3, 16), (0, 0), (3, 17), (19, 0), (19, 1), (19, 2), (19, 3), (19, 4), (19, 5), (19, 6), (19, 7), (19, 8), (19, 9), (19, 10), (21, 0), (21, 1), (21, 2), (21, 3)] (by first | exact rfl | decide +kernel) (by decide +kernel)
set_option maxRecDepth 20000 in
theorem gL_law_X2_write : GoodIn wsL_law (wsV RL 59 RX2 yX2_write wsX2_write) := goodIn_app (goodIn_l _ [(4, 15), (4, 16), (4, 17), (1, 7)] (by first | exact rfl | decide +kernel) (by decide +kernel)) ggL_law_X2_write
set_option maxRecDepth 20000 in
theorem ggL_law_X3_write : GoodIn wsL_law wsX3_write := goodIn_l _ [(15, 12), (12, 22), (12, 21), (12, 8), (13, 0), (14, 0), (14, 1), (1, 10), (14, 2), (14, 11), (14, 12), (0, 20), (14, 13), (12, 15), (12, 16), (12, 14), (14, 14), (14, 15), (0, 21), (14, 16), (14, 17), (12, 9), (12, 19), (12, 11), (12, 10), (12, 20), (12, 12), (14, 18), (14, 19), (0, 22), (14, 20), (14, 21), (14, 22), (0, 23), (14, 23), (15, 0), (15, 1), (15, 2), (15, 3), (15, 4), (1, 0), (15, 5), (12, 13), (15, 6), (15, 7), (1, 1), (15, 8), (20, 0), (20, 1), (20, 2), (20, 3), (20, 4), (20, 5), (20, 6), (20, 7), (20, 8), (20, 9), (20, 10), (20, 11), (20, 12), (20, 13), (20, 14), (20, 15), (20, 16)] (by first | exact rfl | decide +kernel) (by decide +kernel)
set_option maxRecDepth 20000 in
theorem gL_law_X3_write : GoodIn wsL_law (wsV RL 63 RX3 yX3_write wsX3_write) := goodIn_app (goodIn_l _ [(15, 9), (15, 10), (15, 11), (1, 10)] (by first | exact rfl | decide +kernel) (by decide +kernel)) ggL_law_X3_write
set_option maxRecDepth 20000 in
theorem ggL_law_X2_fault : GoodIn wsL_law wsX2_fault := goodIn_l _ [(7, 8), (3, 7), (19, 0), (19, 1), (19, 2), (19, 3), (19, 4), (19, 5), (19, 6), (19, 7), (19, 8), (19, 9), (19, 10)] (by first | exact rfl | decide +kernel) (by decide +kernel)
set_option maxRecDepth 20000 in
theorem gL_law_X2_fault : GoodIn wsL_law (wsV RL 64 RX2 yX2_fault wsX2_fault) := goodIn_app (goodIn_l _ [(7, 5), (7, 6), (7, 7), (1, 7)] (by first | exact rfl | decide +kernel) (by decide +kernel)) ggL_law_X2_fault
set_option maxRecDepth 20000 in
theorem ggL_law_X3_fault : GoodIn wsL_law wsX3_fault := goodIn_l _ [(15, 16), (12, 22), (12, 21), (20, 0), (20, 1), (20, 2), (20, 3), (20, 4), (20, 5), (20, 6), (20, 7), (20, 8), (20, 9), (20, 10), (20, 11), (20, 12), (20, 13), (20, 14), (20, 15), (20, 16)] (by first | exact rfl | decide +kernel) (by decide +kernel)
set_option maxRecDepth 20000 in
theorem gL_law_X3_fault : GoodIn wsL_law (wsV RL 68 RX3 yX3_fault wsX3_fault) := goodIn_app (goodIn_l _ [(15, 13), (15, 14), (15, 15), (1, 10)] (by first | exact rfl | decide +kernel) (by decide +kernel)) ggL_law_X3_fault
set_option maxRecDepth 20000 in
theorem ggL_law_X2_ring : GoodIn wsL_law wsX2_ring := goodIn_l _ [(7, 12), (5, 1), (3, 5), (3, 18), (3, 19), (1, 7), (3, 20), (7, 13), (7, 14), (7, 15), (1, 9), (7, 16), (2, 12), (2, 13), (2, 14), (2, 15), (2, 16), (2, 18), (19, 0), (19, 1), (19, 2), (19, 3), (19, 4), (19, 5), (19, 6), (19, 7), (19, 8), (19, 9), (19, 10), (22, 0), (22, 1), (22, 2), (22, 3), (22, 4), (22, 5), (22, 6), (22, 7), (22, 8), (22, 9), (22, 10), (22, 11)] (by first | exact rfl | decide +kernel) (by decide +kernel)
set_option maxRecDepth 20000 in
theorem gL_law_X2_ring : GoodIn wsL_law (wsV RL 69 RX2 yX2_ring wsX2_ring) := goodIn_app (goodIn_l _ [(7, 9), (7, 10), (7, 11), (1, 7)] (by first | exact rfl | decide +kernel) (by decide +kernel)) ggL_law_X2_ring
set_option maxRecDepth 20000 in
theorem ggL_law_X3_ring : GoodIn wsL_law wsX3_ring := goodIn_l _ [(15, 20), (12, 22), (15, 21), (12, 23), (14, 0), (14, 1), (1, 10), (14, 2), (20, 0), (20, 1), (20, 2), (20, 3), (20, 4), (20, 5), (20, 6), (20, 7), (20, 8), (20, 9), (20, 10), (20, 11), (20, 12), (20, 13), (20, 14), (20, 15), (20, 16)] (by first | exact rfl | decide +kernel) (by decide +kernel)
set_option maxRecDepth 20000 in
theorem gL_law_X3_ring : GoodIn wsL_law (wsV RL 72 RX3 yX3_ring wsX3_ring) := goodIn_app (goodIn_l _ [(15, 17), (15, 18), (15, 19), (1, 10)] (by first | exact rfl | decide +kernel) (by decide +kernel)) ggL_law_X3_ring
set_option maxRecDepth 20000 in
theorem ggL_law_X2_tail : GoodIn wsL_law wsX2_tail := goodIn_l _ [(7, 20), (3, 5), (3, 18), (3, 19), (1, 7), (3, 20), (19, 0), (19, 1), (19, 2), (19, 3), (19, 4), (19, 5), (19, 6), (19, 7), (19, 8), (19, 9), (19, 10), (22, 0), (22, 1), (22, 2), (22, 3), (22, 4), (22, 5), (22, 6), (22, 7), (22, 8), (22, 9), (22, 10), (22, 11)] (by first | exact rfl | decide +kernel) (by decide +kernel)
set_option maxRecDepth 20000 in
theorem gL_law_X2_tail : GoodIn wsL_law (wsV RL 73 RX2 yX2_tail wsX2_tail) := goodIn_app (goodIn_l _ [(7, 17), (7, 18), (7, 19), (1, 7)] (by first | exact rfl | decide +kernel) (by decide +kernel)) ggL_law_X2_tail
set_option maxRecDepth 20000 in
theorem ggL_law_X3_tail : GoodIn wsL_law wsX3_tail := goodIn_l _ [(16, 1), (12, 22), (12, 23), (14, 0), (14, 1), (1, 10), (14, 2), (20, 0), (20, 1), (20, 2), (20, 3), (20, 4), (20, 5), (20, 6), (20, 7), (20, 8), (20, 9), (20, 10), (20, 11), (20, 12), (20, 13), (20, 14), (20, 15), (20, 16)] (by first | exact rfl | decide +kernel) (by decide +kernel)
set_option maxRecDepth 20000 in
theorem gL_law_X3_tail : GoodIn wsL_law (wsV RL 76 RX3 yX3_tail wsX3_tail) := goodIn_app (goodIn_l _ [(15, 22), (15, 23), (16, 0), (1, 10)] (by first | exact rfl | decide +kernel) (by decide +kernel)) ggL_law_X3_tail
set_option maxRecDepth 20000 in
theorem ggL_law_X2_step : GoodIn wsL_law wsX2_step := goodIn_l _ [(8, 0), (3, 5), (3, 18), (3, 19), (1, 7), (3, 20), (8, 1), (8, 2), (0, 13), (8, 3), (8, 4), (8, 5), (8, 6), (1, 9), (8, 7), (2, 12), (2, 14), (4, 19), (4, 20), (0, 2), (4, 21), (3, 7), (4, 22), (4, 23), (0, 3), (5, 0), (5, 1), (3, 1), (3, 2), (5, 2), (5, 3), (0, 4), (5, 4), (3, 8), (5, 5), (5, 6), (5, 7), (1, 8), (5, 8), (2, 4), (2, 3), (5, 9), (5, 10), (0, 5), (5, 11), (2, 5), (4, 5), (4, 6), (0, 1), (4, 7), (3, 6), (5, 12), (5, 13), (0, 6), (5, 14), (3, 0), (5, 15), (5, 16), (5, 17), (5, 18), (5, 19), (5, 20), (5, 21), (5, 22), (2, 2), (5, 23), (6, 0), (6, 1), (6, 2), (6, 3), (6, 4), (6, 5), (6, 6), (6, 7), (6, 8), (6, 9), (6, 10), (6, 11), (0, 7), (6, 12), (3, 9), (6, 13), (6, 14), (0, 8), (6, 15), (6, 16), (6, 17), (0, 9), (6, 18), (4, 12), (4, 13), (4, 14), (6, 19), (6, 20), (0, 10), (6, 21), (6, 22), (6, 23), (0, 11), (7, 0), (7, 1), (7, 2), (0, 12), (7, 3), (3, 3), (3, 10), (7, 4), (8, 8), (8, 9), (8, 10), (8, 11), (2, 19), (2, 20), (2, 21), (2, 22), (8, 12), (8, 13), (0, 14), (8, 14), (3, 15), (3, 16), (0, 0), (3, 17), (8, 15), (8, 16), (0, 15), (8, 17), (8, 18), (8, 19), (8, 20), (8, 21), (2, 13), (2, 18), (2, 17), (2, 15), (2, 16), (19, 0), (19, 1), (19, 2), (19, 3), (19, 4), (19, 5), (19, 6), (19, 7), (19, 8), (19, 9), (19, 10), (22, 0), (22, 1), (22, 2), (22, 3), (22, 4), (22, 5), (22, 6), (22, 7), (22, 8), (22, 9), (22, 10), (22, 11), (21, 0), (21, 1), (21, 2), (21, 3)] (by first | exact rfl | decide +kernel) (by decide +kernel)
set_option maxRecDepth 20000 in
theorem gL_law_X2_step : GoodIn wsL_law (wsV RL 77 RX2 yX2_step wsX2_step) := goodIn_app (goodIn_l _ [(7, 21), (7, 22), (7, 23), (1, 7)] (by first | exact rfl | decide +kernel) (by decide +kernel)) ggL_law_X2_step
set_option maxRecDepth 20000 in
theorem ggL_law_X3_step : GoodIn wsL_law wsX3_step := goodIn_l _ [(16, 5), (12, 22), (12, 23), (14, 0), (14, 1), (1, 10), (14, 2), (16, 6), (16, 7), (1, 2), (16, 8), (12, 8), (13, 0), (14, 11), (14, 12), (0, 20), (14, 13), (12, 21), (12, 15), (12, 16), (12, 14), (14, 14), (14, 15), (0, 21), (14, 16), (14, 17), (12, 9), (12, 19), (12, 11), (12, 10), (12, 20), (12, 12), (14, 18), (14, 19), (0, 22), (14, 20), (14, 21), (14, 22), (0, 23), (14, 23), (15, 0), (15, 1), (15, 2), (15, 3), (15, 4), (1, 0), (15, 5), (12, 13), (15, 6), (15, 7), (1, 1), (15, 8), (20, 0), (20, 1), (20, 2), (20, 3), (20, 4), (20, 5), (20, 6), (20, 7), (20, 8), (20, 9), (20, 10), (20, 11), (20, 12), (20, 13), (20, 14), (20, 15), (20, 16)] (by first | exact rfl | decide +kernel) (by decide +kernel)
set_option maxRecDepth 20000 in
theorem gL_law_X3_step : GoodIn wsL_law (wsV RL 80 RX3 yX3_step wsX3_step) := goodIn_app (goodIn_l _ [(16, 2), (16, 3), (16, 4), (1, 10)] (by first | exact rfl | decide +kernel) (by decide +kernel)) ggL_law_X3_step
set_option maxRecDepth 20000 in
theorem ggL_law_X2_resume : GoodIn wsL_law wsX2_resume := goodIn_l _ [(9, 1), (3, 5), (3, 18), (3, 19), (1, 7), (3, 20), (19, 0), (19, 1), (19, 2), (19, 3), (19, 4), (19, 5), (19, 6), (19, 7), (19, 8), (19, 9), (19, 10), (22, 0), (22, 1), (22, 2), (22, 3), (22, 4), (22, 5), (22, 6), (22, 7), (22, 8), (22, 9), (22, 10), (22, 11)] (by first | exact rfl | decide +kernel) (by decide +kernel)
set_option maxRecDepth 20000 in
theorem gL_law_X2_resume : GoodIn wsL_law (wsV RL 81 RX2 yX2_resume wsX2_resume) := goodIn_app (goodIn_l _ [(8, 22), (8, 23), (9, 0), (1, 7)] (by first | exact rfl | decide +kernel) (by decide +kernel)) ggL_law_X2_resume
set_option maxRecDepth 20000 in
theorem ggL_law_X3_resume : GoodIn wsL_law wsX3_resume := goodIn_l _ [(16, 12), (12, 22), (12, 23), (14, 0), (14, 1), (1, 10), (14, 2), (20, 0), (20, 1), (20, 2), (20, 3), (20, 4), (20, 5), (20, 6), (20, 7), (20, 8), (20, 9), (20, 10), (20, 11), (20, 12), (20, 13), (20, 14), (20, 15), (20, 16)] (by first | exact rfl | decide +kernel) (by decide +kernel)
set_option maxRecDepth 20000 in
theorem gL_law_X3_resume : GoodIn wsL_law (wsV RL 84 RX3 yX3_resume wsX3_resume) := goodIn_app (goodIn_l _ [(16, 9), (16, 10), (16, 11), (1, 10)] (by first | exact rfl | decide +kernel) (by decide +kernel)) ggL_law_X3_resume
set_option maxRecDepth 20000 in
theorem ggL_law_X2_engine : GoodIn wsL_law wsX2_engine := goodIn_l _ [(9, 5), (3, 5), (3, 18), (3, 19), (1, 7), (3, 20), (19, 0), (19, 1), (19, 2), (19, 3), (19, 4), (19, 5), (19, 6), (19, 7), (19, 8), (19, 9), (19, 10), (22, 0), (22, 1), (22, 2), (22, 3), (22, 4), (22, 5), (22, 6), (22, 7), (22, 8), (22, 9), (22, 10), (22, 11)] (by first | exact rfl | decide +kernel) (by decide +kernel)
set_option maxRecDepth 20000 in
theorem gL_law_X2_engine : GoodIn wsL_law (wsV RL 85 RX2 yX2_engine wsX2_engine) := goodIn_app (goodIn_l _ [(9, 2), (9, 3), (9, 4), (1, 7)] (by first | exact rfl | decide +kernel) (by decide +kernel)) ggL_law_X2_engine
set_option maxRecDepth 20000 in
theorem ggL_law_X3_engine : GoodIn wsL_law wsX3_engine := goodIn_l _ [(16, 16), (12, 22), (12, 23), (14, 0), (14, 1), (1, 10), (14, 2), (20, 0), (20, 1), (20, 2), (20, 3), (20, 4), (20, 5), (20, 6), (20, 7), (20, 8), (20, 9), (20, 10), (20, 11), (20, 12), (20, 13), (20, 14), (20, 15), (20, 16)] (by first | exact rfl | decide +kernel) (by decide +kernel)
set_option maxRecDepth 20000 in
theorem gL_law_X3_engine : GoodIn wsL_law (wsV RL 88 RX3 yX3_engine wsX3_engine) := goodIn_app (goodIn_l _ [(16, 13), (16, 14), (16, 15), (1, 10)] (by first | exact rfl | decide +kernel) (by decide +kernel)) ggL_law_X3_engine
set_option maxRecDepth 20000 in
theorem ggL_law_X2_command : GoodIn wsL_law wsX2_command := goodIn_l _ [(9, 9), (3, 4), (7, 4), (5, 20), (5, 21), (1, 8), (5, 22), (2, 5), (2, 2), (5, 15), (5, 16), (5, 17), (5, 18), (5, 19), (5, 23), (6, 0), (6, 1), (6, 2), (2, 3), (2, 4), (6, 3), (6, 4), (6, 5), (6, 6), (5, 9), (5, 10), (0, 5), (5, 11), (19, 0), (19, 1), (19, 2), (19, 3), (19, 4), (19, 5), (19, 6), (19, 7), (19, 8), (19, 9), (19, 10), (21, 0), (21, 1), (21, 2), (21, 3)] (by first | exact rfl | decide +kernel) (by decide +kernel)
set_option maxRecDepth 20000 in
theorem gL_law_X2_command : GoodIn wsL_law (wsV RL 89 RX2 yX2_command wsX2_command) := goodIn_app (goodIn_l _ [(9, 6), (9, 7), (9, 8), (1, 7)] (by first | exact rfl | decide +kernel) (by decide +kernel)) ggL_law_X2_command
set_option maxRecDepth 20000 in
theorem ggL_law_X3_command : GoodIn wsL_law wsX3_command := goodIn_l _ [(16, 20), (12, 22), (12, 18), (12, 17), (20, 0), (20, 1), (20, 2), (20, 3), (20, 4), (20, 5), (20, 6), (20, 7), (20, 8), (20, 9), (20, 10), (20, 11), (20, 12), (20, 13), (20, 14), (20, 15), (20, 16)] (by first | exact rfl | decide +kernel) (by decide +kernel)
set_option maxRecDepth 20000 in
theorem gL_law_X3_command : GoodIn wsL_law (wsV RL 93 RX3 yX3_command wsX3_command) := goodIn_app (goodIn_l _ [(16, 17), (16, 18), (16, 19), (1, 10)] (by first | exact rfl | decide +kernel) (by decide +kernel)) ggL_law_X3_command
set_option maxRecDepth 20000 in
theorem ggL_law_X2_obey : GoodIn wsL_law wsX2_obey := goodIn_l _ [(9, 13), (3, 4), (5, 5), (5, 6), (5, 7), (1, 8), (5, 8), (2, 4), (2, 3), (5, 9), (5, 10), (0, 5), (5, 11), (2, 5), (9, 14), (9, 15), (0, 16), (1, 7), (9, 16), (3, 2), (3, 1), (9, 17), (9, 18), (9, 19), (9, 20), (9, 21), (9, 22), (0, 17), (9, 23), (10, 0), (6, 0), (6, 1), (6, 2), (10, 1), (10, 2), (0, 18), (10, 3), (6, 13), (6, 14), (0, 8), (6, 15), (10, 4), (10, 5), (0, 19), (10, 6), (3, 15), (3, 16), (0, 0), (3, 17), (3, 0), (3, 18), (3, 19), (3, 20), (19, 0), (19, 1), (19, 2), (19, 3), (19, 4), (19, 5), (19, 6), (19, 7), (19, 8), (19, 9), (19, 10), (21, 0), (21, 1), (21, 2), (21, 3)] (by first | exact rfl | decide +kernel) (by decide +kernel)
set_option maxRecDepth 20000 in
theorem gL_law_X2_obey : GoodIn wsL_law (wsV RL 94 RX2 yX2_obey wsX2_obey) := goodIn_app (goodIn_l _ [(9, 10), (9, 11), (9, 12), (1, 7)] (by first | exact rfl | decide +kernel) (by decide +kernel)) ggL_law_X2_obey
set_option maxRecDepth 20000 in
theorem ggL_law_X3_obey : GoodIn wsL_law wsX3_obey := goodIn_l _ [(17, 0), (12, 22), (12, 18), (12, 17), (15, 0), (15, 1), (1, 10), (15, 2), (17, 1), (17, 2), (1, 3), (17, 3), (12, 8), (17, 4), (17, 5), (1, 4), (17, 6), (12, 13), (12, 12), (17, 7), (17, 8), (1, 5), (17, 9), (12, 11), (12, 10), (13, 5), (13, 6), (13, 7), (20, 0), (20, 1), (20, 2), (20, 3), (20, 4), (20, 5), (20, 6), (20, 7), (20, 8), (20, 9), (20, 10), (20, 11), (20, 12), (20, 13), (20, 14), (20, 15), (20, 16)] (by first | exact rfl | decide +kernel) (by decide +kernel)
set_option maxRecDepth 20000 in
theorem gL_law_X3_obey : GoodIn wsL_law (wsV RL 97 RX3 yX3_obey wsX3_obey) := goodIn_app (goodIn_l _ [(16, 21), (16, 22), (16, 23), (1, 10)] (by first | exact rfl | decide +kernel) (by decide +kernel)) ggL_law_X3_obey
set_option maxRecDepth 20000 in
theorem ggL_law_X2_count : GoodIn wsL_law wsX2_count := goodIn_l _ [(10, 10), (3, 4), (3, 3), (3, 10), (3, 1), (3, 2), (3, 8), (3, 9), (3, 6), (19, 0), (19, 1), (19, 2), (19, 3), (19, 4), (19, 5), (19, 6), (19, 7), (19, 8), (19, 9), (19, 10), (21, 0), (21, 1), (21, 2), (21, 3)] (by first | exact rfl | decide +kernel) (by decide +kernel)
set_option maxRecDepth 20000 in
theorem gL_law_X2_count : GoodIn wsL_law (wsV RL 98 RX2 yX2_count wsX2_count) := goodIn_app (goodIn_l _ [(10, 7), (10, 8), (10, 9), (1, 7)] (by first | exact rfl | decide +kernel) (by decide +kernel)) ggL_law_X2_count
set_option maxRecDepth 20000 in
theorem ggL_law_X3_count : GoodIn wsL_law wsX3_count := goodIn_l _ [(17, 13), (12, 22), (12, 18), (12, 15), (12, 16), (12, 11), (12, 13), (12, 19), (12, 20), (12, 9), (20, 0), (20, 1), (20, 2), (20, 3), (20, 4), (20, 5), (20, 6), (20, 7), (20, 8), (20, 9), (20, 10), (20, 11), (20, 12), (20, 13), (20, 14), (20, 15), (20, 16)] (by first | exact rfl | decide +kernel) (by decide +kernel)
set_option maxRecDepth 20000 in
theorem gL_law_X3_count : GoodIn wsL_law (wsV RL 101 RX3 yX3_count wsX3_count) := goodIn_app (goodIn_l _ [(17, 10), (17, 11), (17, 12), (1, 10)] (by first | exact rfl | decide +kernel) (by decide +kernel)) ggL_law_X3_count
set_option maxRecDepth 20000 in
theorem ggL_law_X2_record : GoodIn wsL_law wsX2_record := goodIn_l _ [(10, 14), (3, 3), (5, 5), (5, 6), (5, 7), (1, 8), (5, 8), (2, 4), (2, 3), (5, 9), (5, 10), (0, 5), (5, 11), (2, 5), (19, 0), (19, 1), (19, 2), (19, 3), (19, 4), (19, 5), (19, 6), (19, 7), (19, 8), (19, 9), (19, 10), (21, 0), (21, 1), (21, 2), (21, 3)] (by first | exact rfl | decide +kernel) (by decide +kernel)
set_option maxRecDepth 20000 in
theorem gL_law_X2_record : GoodIn wsL_law (wsV RL 102 RX2 yX2_record wsX2_record) := goodIn_app (goodIn_l _ [(10, 11), (10, 12), (10, 13), (1, 7)] (by first | exact rfl | decide +kernel) (by decide +kernel)) ggL_law_X2_record
set_option maxRecDepth 20000 in
theorem ggL_law_X3_record : GoodIn wsL_law wsX3_record := goodIn_l _ [(17, 17), (12, 22), (12, 15), (12, 14), (20, 0), (20, 1), (20, 2), (20, 3), (20, 4), (20, 5), (20, 6), (20, 7), (20, 8), (20, 9), (20, 10), (20, 11), (20, 12), (20, 13), (20, 14), (20, 15), (20, 16)] (by first | exact rfl | decide +kernel) (by decide +kernel)
set_option maxRecDepth 20000 in
theorem gL_law_X3_record : GoodIn wsL_law (wsV RL 105 RX3 yX3_record wsX3_record) := goodIn_app (goodIn_l _ [(17, 14), (17, 15), (17, 16), (1, 10)] (by first | exact rfl | decide +kernel) (by decide +kernel)) ggL_law_X3_record
set_option maxRecDepth 20000 in
theorem ggL_law_X2_drop : GoodIn wsL_law wsX2_drop := goodIn_l _ [(10, 18), (3, 3), (10, 0), (6, 0), (6, 1), (1, 8), (6, 2), (2, 5), (2, 3), (2, 4), (19, 0), (19, 1), (19, 2), (19, 3), (19, 4), (19, 5), (19, 6), (19, 7), (19, 8), (19, 9), (19, 10), (21, 0), (21, 1), (21, 2), (21, 3)] (by first | exact rfl | decide +kernel) (by decide +kernel)
set_option maxRecDepth 20000 in
theorem gL_law_X2_drop : GoodIn wsL_law (wsV RL 106 RX2 yX2_drop wsX2_drop) := goodIn_app (goodIn_l _ [(10, 15), (10, 16), (10, 17), (1, 7)] (by first | exact rfl | decide +kernel) (by decide +kernel)) ggL_law_X2_drop
set_option maxRecDepth 20000 in
theorem ggL_law_X3_drop : GoodIn wsL_law wsX3_drop := goodIn_l _ [(17, 21), (12, 22), (12, 15), (12, 14), (15, 0), (15, 1), (1, 10), (15, 2), (20, 0), (20, 1), (20, 2), (20, 3), (20, 4), (20, 5), (20, 6), (20, 7), (20, 8), (20, 9), (20, 10), (20, 11), (20, 12), (20, 13), (20, 14), (20, 15), (20, 16)] (by first | exact rfl | decide +kernel) (by decide +kernel)
set_option maxRecDepth 20000 in
theorem gL_law_X3_drop : GoodIn wsL_law (wsV RL 109 RX3 yX3_drop wsX3_drop) := goodIn_app (goodIn_l _ [(17, 18), (17, 19), (17, 20), (1, 10)] (by first | exact rfl | decide +kernel) (by decide +kernel)) ggL_law_X3_drop
set_option maxRecDepth 20000 in
theorem ggL_law_X2_clear : GoodIn wsL_law wsX2_clear := goodIn_l _ [(10, 22), (3, 3), (3, 10), (9, 17), (9, 18), (9, 19), (1, 8), (9, 20), (2, 5), (19, 0), (19, 1), (19, 2), (19, 3), (19, 4), (19, 5), (19, 6), (19, 7), (19, 8), (19, 9), (19, 10), (21, 0), (21, 1), (21, 2), (21, 3)] (by first | exact rfl | decide +kernel) (by decide +kernel)
set_option maxRecDepth 20000 in
theorem gL_law_X2_clear : GoodIn wsL_law (wsV RL 110 RX2 yX2_clear wsX2_clear) := goodIn_app (goodIn_l _ [(10, 19), (10, 20), (10, 21), (1, 7)] (by first | exact rfl | decide +kernel) (by decide +kernel)) ggL_law_X2_clear
set_option maxRecDepth 20000 in
theorem ggL_law_X3_clear : GoodIn wsL_law wsX3_clear := goodIn_l _ [(18, 1), (12, 22), (12, 15), (12, 16), (20, 0), (20, 1), (20, 2), (20, 3), (20, 4), (20, 5), (20, 6), (20, 7), (20, 8), (20, 9), (20, 10), (20, 11), (20, 12), (20, 13), (20, 14), (20, 15), (20, 16)] (by first | exact rfl | decide +kernel) (by decide +kernel)
set_option maxRecDepth 20000 in
theorem gL_law_X3_clear : GoodIn wsL_law (wsV RL 113 RX3 yX3_clear wsX3_clear) := goodIn_app (goodIn_l _ [(17, 22), (17, 23), (18, 0), (1, 10)] (by first | exact rfl | decide +kernel) (by decide +kernel)) ggL_law_X3_clear
set_option maxRecDepth 20000 in
theorem ggL_law_X2_leaf : GoodIn wsL_law wsX2_leaf := goodIn_l _ [(11, 2), (3, 2), (5, 5), (5, 6), (5, 7), (1, 8), (5, 8), (2, 4), (2, 3), (5, 9), (5, 10), (0, 5), (5, 11), (2, 5), (19, 0), (19, 1), (19, 2), (19, 3), (19, 4), (19, 5), (19, 6), (19, 7), (19, 8), (19, 9), (19, 10), (21, 0), (21, 1), (21, 2), (21, 3)] (by first | exact rfl | decide +kernel) (by decide +kernel)
set_option maxRecDepth 20000 in
theorem gL_law_X2_leaf : GoodIn wsL_law (wsV RL 114 RX2 yX2_leaf wsX2_leaf) := goodIn_app (goodIn_l _ [(10, 23), (11, 0), (11, 1), (1, 7)] (by first | exact rfl | decide +kernel) (by decide +kernel)) ggL_law_X2_leaf
set_option maxRecDepth 20000 in
theorem ggL_law_X3_leaf : GoodIn wsL_law wsX3_leaf := goodIn_l _ [(18, 5), (12, 22), (12, 13), (12, 12), (20, 0), (20, 1), (20, 2), (20, 3), (20, 4), (20, 5), (20, 6), (20, 7), (20, 8), (20, 9), (20, 10), (20, 11), (20, 12), (20, 13), (20, 14), (20, 15), (20, 16)] (by first | exact rfl | decide +kernel) (by decide +kernel)
set_option maxRecDepth 20000 in
theorem gL_law_X3_leaf : GoodIn wsL_law (wsV RL 117 RX3 yX3_leaf wsX3_leaf) := goodIn_app (goodIn_l _ [(18, 2), (18, 3), (18, 4), (1, 10)] (by first | exact rfl | decide +kernel) (by decide +kernel)) ggL_law_X3_leaf
