theorem dL_below_0 : decode cL_below 0 = .ok (.iload_n 0, 1) := by decide +kernel
theorem dL_below_1 : decode cL_below 1 = .ok (.ldc 7, 2) := by decide +kernel
theorem dL_below_3 : decode cL_below 3 = .ok (.iand, 1) := by decide +kernel
theorem dL_below_4 : decode cL_below 4 = .ok (.iload_n 1, 1) := by decide +kernel
theorem dL_below_5 : decode cL_below 5 = .ok (.irem, 1) := by decide +kernel
theorem dL_below_6 : decode cL_below 6 = .ok (.ireturn, 1) := by decide +kernel
theorem dL_cell_0 : decode cL_cell 0 = .ok (.iload_n 1, 1) := by decide +kernel
theorem dL_cell_1 : decode cL_cell 1 = .ok (.aload_n 0, 1) := by decide +kernel
theorem dL_cell_2 : decode cL_cell 2 = .ok (.arraylength, 1) := by decide +kernel
theorem dL_cell_3 : decode cL_cell 3 = .ok (.if_icmp .ge 9, 3) := by decide +kernel
theorem dL_cell_6 : decode cL_cell 6 = .ok (.aload_n 0, 1) := by decide +kernel
theorem dL_cell_7 : decode cL_cell 7 = .ok (.iload_n 1, 1) := by decide +kernel
theorem dL_cell_8 : decode cL_cell 8 = .ok (.iaload, 1) := by decide +kernel
theorem dL_cell_9 : decode cL_cell 9 = .ok (.goto 9, 3) := by decide +kernel
theorem dL_cell_12 : decode cL_cell 12 = .ok (.ldc 8, 2) := by decide +kernel
theorem dL_cell_14 : decode cL_cell 14 = .ok (.iload_n 1, 1) := by decide +kernel
theorem dL_cell_15 : decode cL_cell 15 = .ok (.iconst 3, 1) := by decide +kernel
theorem dL_cell_16 : decode cL_cell 16 = .ok (.iadd, 1) := by decide +kernel
theorem dL_cell_17 : decode cL_cell 17 = .ok (.imul, 1) := by decide +kernel
theorem dL_cell_18 : decode cL_cell 18 = .ok (.ireturn, 1) := by decide +kernel
set_option maxRecDepth 20000 in
theorem ggL_act_X8_connections : GoodIn wsL_act wsX8_connections := goodIn_r _ [15, 16, 17, 404, 405, 406, 407, 408, 409, 410, 411, 412, 413] (by decide +kernel) (by decide +kernel)
set_option maxRecDepth 20000 in
theorem gL_act_X8_connections : GoodIn wsL_act (wsV RL 42 RX8 yX8_connections wsX8_connections) := goodIn_app (goodIn_of _ (by decide +kernel)) ggL_act_X8_connections
set_option maxRecDepth 20000 in
theorem ggL_act_L_below : GoodIn wsL_act wsL_below := goodIn_r _ [21, 22] (by decide +kernel) (by decide +kernel)
set_option maxRecDepth 20000 in
theorem gL_act_L_below : GoodIn wsL_act (va_wsS RL 18 yL_below wsL_below) := goodIn_app (goodIn_of _ (by decide +kernel)) ggL_act_L_below
set_option maxRecDepth 20000 in
theorem ggL_act_X8_clock : GoodIn wsL_act wsX8_clock := goodIn_r _ [26, 16, 27, 404, 405, 406, 407, 408, 409, 410, 411, 412, 413] (by decide +kernel) (by decide +kernel)
set_option maxRecDepth 20000 in
theorem gL_act_X8_clock : GoodIn wsL_act (wsV RL 50 RX8 yX8_clock wsX8_clock) := goodIn_app (goodIn_of _ (by decide +kernel)) ggL_act_X8_clock
set_option maxRecDepth 20000 in
theorem ggL_act_X8_addLink : GoodIn wsL_act wsX8_addLink := goodIn_ca (goodIn_ca (goodIn_ca (goodIn_r _ [31, 32, 33, 34, 35, 36, 37, 38, 39, 40, 14, 41, 42, 43, 44, 45, 46, 47, 48, 49, 50, 51, 52, 53, 54, 55, 56, 57, 58, 59, 60, 61, 62, 63, 64, 65, 66, 67, 68, 69, 70, 71, 72, 73, 74, 75, 76, 77, 78, 79, 404, 405, 406, 407, 414, 415, 416, 417, 418, 419, 420, 421, 422] (by decide +kernel) (by decide +kernel)) (goodIn_sub (fun _ h => List.mem_cons_of_mem _ (List.mem_append_left _ (List.mem_append_left _ (List.mem_append_right _ h)))) (by decide +kernel))) (goodIn_sub (fun _ h => List.mem_cons_of_mem _ (List.mem_append_left _ (List.mem_append_right _ h))) (by decide +kernel))) (goodIn_sub (fun _ h => List.mem_cons_of_mem _ (List.mem_append_right _ h)) (by decide +kernel))
set_option maxRecDepth 20000 in
theorem gL_act_X8_addLink : GoodIn wsL_act (wsV RL 53 RX8 yX8_addLink wsX8_addLink) := goodIn_app (goodIn_of _ (by decide +kernel)) ggL_act_X8_addLink
set_option maxRecDepth 20000 in
theorem ggL_act_X8_call : GoodIn wsL_act wsX8_call := goodIn_ca (goodIn_ca (goodIn_ca (goodIn_r _ [83, 32, 33, 34, 35, 16, 17, 38, 39, 40, 14, 41, 42, 43, 36, 44, 45, 46, 47, 84, 85, 86, 87, 88, 89, 90, 91, 92, 93, 94, 95, 96, 97, 98, 99, 100, 101, 102, 103, 104, 105, 106, 107, 108, 109, 110, 111, 112, 113, 114, 115, 116, 117, 118, 119, 120, 121, 122, 123, 124, 125, 126, 127, 128, 129, 130, 131, 132, 133, 134, 135, 136, 137, 138, 139, 51, 140, 72, 53, 66, 64, 54, 55, 56, 57, 58, 59, 141, 142, 143, 144, 145, 146, 147, 148, 149, 150, 151, 404, 405, 406, 407, 408, 409, 410, 411, 412, 413, 414, 415, 416, 417, 418, 419, 420, 421, 422, 423, 424, 425, 426, 427, 428, 429, 430, 431, 432, 433, 434, 435, 436, 437, 438, 439, 440, 441, 442, 443, 444, 445, 446, 447, 448, 449, 450, 451, 452, 453, 454, 455, 456] (by decide +kernel) (by decide +kernel)) (goodIn_sub (fun _ h => List.mem_cons_of_mem _ (List.mem_append_left _ (List.mem_append_left _ (List.mem_append_right _ h)))) (by decide +kernel))) (goodIn_sub (fun _ h => List.mem_cons_of_mem _ (List.mem_append_left _ (List.mem_append_right _ h))) (by decide +kernel))) (goodIn_sub (fun _ h => List.mem_cons_of_mem _ (List.mem_append_right _ h)) (by decide +kernel))
set_option maxRecDepth 20000 in
theorem gL_act_X8_call : GoodIn wsL_act (wsV RL 57 RX8 yX8_call wsX8_call) := goodIn_app (goodIn_of _ (by decide +kernel)) ggL_act_X8_call
set_option maxRecDepth 20000 in
theorem ggL_act_X8_given : GoodIn wsL_act wsX8_given := goodIn_ca (goodIn_r _ [155, 156, 157, 158, 159, 14, 160, 161, 162, 163, 164, 165, 42, 43, 16, 17, 166, 431, 432, 433, 434, 435, 436, 437, 438, 439, 440, 441, 442, 443, 444, 423, 424, 425, 426, 404, 405, 406, 407, 408, 409, 410, 411, 412, 413] (by decide +kernel) (by decide +kernel)) (goodIn_sub (fun _ h => List.mem_cons_of_mem _ (List.mem_append_right _ h)) (by decide +kernel))
set_option maxRecDepth 20000 in
theorem gL_act_X8_given : GoodIn wsL_act (wsV RL 61 RX8 yX8_given wsX8_given) := goodIn_app (goodIn_of _ (by decide +kernel)) ggL_act_X8_given
set_option maxRecDepth 20000 in
theorem ggL_act_X8_give : GoodIn wsL_act wsX8_give := goodIn_ca (goodIn_ca (goodIn_ca (goodIn_r _ [170, 34, 35, 156, 171, 157, 158, 159, 14, 160, 161, 162, 163, 164, 165, 42, 43, 16, 17, 166, 45, 46, 47, 32, 33, 172, 173, 174, 175, 176, 431, 432, 433, 434, 435, 436, 437, 438, 439, 440, 441, 442, 443, 444, 404, 405, 406, 407, 423, 424, 425, 426, 408, 409, 410, 411, 412, 413] (by decide +kernel) (by decide +kernel)) (goodIn_sub (fun _ h => List.mem_cons_of_mem _ (List.mem_append_left _ (List.mem_append_right _ h))) (by decide +kernel))) (goodIn_sub (fun _ h => List.mem_cons_of_mem _ (List.mem_append_right _ h)) (by decide +kernel))) (goodIn_sub (fun _ h => List.mem_cons_of_mem _ (List.mem_append_left _ (List.mem_append_left _ (List.mem_append_right _ h)))) (by decide +kernel))
set_option maxRecDepth 20000 in
theorem gL_act_X8_give : GoodIn wsL_act (wsV RL 64 RX8 yX8_give wsX8_give) := goodIn_app (goodIn_of _ (by decide +kernel)) ggL_act_X8_give
set_option maxRecDepth 20000 in
theorem ggL_act_X8_close : GoodIn wsL_act wsX8_close := goodIn_ca (goodIn_ca (goodIn_r _ [180, 176, 181, 157, 158, 159, 14, 160, 161, 162, 163, 164, 165, 42, 43, 16, 17, 166, 172, 173, 174, 34, 35, 175, 182, 183, 184, 100, 185, 186, 187, 431, 432, 433, 434, 435, 436, 437, 438, 439, 440, 441, 442, 443, 444, 423, 424, 425, 426, 404, 405, 406, 407, 408, 409, 410, 411, 412, 413] (by decide +kernel) (by decide +kernel)) (goodIn_sub (fun _ h => List.mem_cons_of_mem _ (List.mem_append_right _ h)) (by decide +kernel))) (goodIn_sub (fun _ h => List.mem_cons_of_mem _ (List.mem_append_left _ (List.mem_append_right _ h))) (by decide +kernel))
set_option maxRecDepth 20000 in
theorem gL_act_X8_close : GoodIn wsL_act (wsV RL 67 RX8 yX8_close wsX8_close) := goodIn_app (goodIn_of _ (by decide +kernel)) ggL_act_X8_close
set_option maxRecDepth 20000 in
theorem ggL_act_X8_readable : GoodIn wsL_act wsX8_readable := goodIn_ca (goodIn_r _ [191, 162, 163, 164, 14, 165, 42, 43, 16, 17, 166, 192, 193, 194, 195, 196, 197, 198, 199, 200, 201, 9, 6, 10, 202, 404, 405, 406, 407, 408, 409, 410, 411, 412, 413, 423, 424, 425, 426, 427, 428, 429, 430, 431, 432, 433, 434, 435, 436, 437, 438, 439, 440, 441, 442, 443, 444] (by decide +kernel) (by decide +kernel)) (goodIn_sub (fun _ h => List.mem_cons_of_mem _ (List.mem_append_right _ h)) (by decide +kernel))
set_option maxRecDepth 20000 in
theorem gL_act_X8_readable : GoodIn wsL_act (wsV RL 70 RX8 yX8_readable wsX8_readable) := goodIn_app (goodIn_of _ (by decide +kernel)) ggL_act_X8_readable
set_option maxRecDepth 20000 in
theorem ggL_act_X8_read : GoodIn wsL_act wsX8_read := goodIn_ca (goodIn_ca (goodIn_ca (goodIn_r _ [206, 34, 35, 207, 9, 6, 10, 208, 209, 171, 16, 162, 163, 164, 14, 165, 42, 43, 17, 166, 45, 46, 47, 32, 33, 192, 193, 194, 195, 196, 197, 198, 199, 200, 201, 202, 210, 211, 212, 213, 214, 215, 216, 217, 218, 5, 7, 219, 220, 221, 87, 222, 90, 93, 223, 92, 91, 224, 124, 125, 126, 127, 128, 129, 130, 131, 132, 133, 134, 135, 136, 137, 138, 139, 51, 140, 72, 53, 66, 64, 54, 55, 56, 57, 58, 59, 141, 142, 143, 144, 145, 146, 147, 148, 149, 150, 151, 423, 424, 425, 426, 427, 428, 429, 430, 404, 405, 406, 407, 408, 409, 410, 411, 412, 413, 431, 432, 433, 434, 435, 436, 437, 438, 439, 440, 441, 442, 443, 444, 414, 415, 416, 417, 418, 419, 420, 421, 422, 450, 451, 452, 453, 454, 455, 456] (by decide +kernel) (by decide +kernel)) (goodIn_sub (fun _ h => List.mem_cons_of_mem _ (List.mem_append_left _ (List.mem_append_right _ h))) (by decide +kernel))) (goodIn_sub (fun _ h => List.mem_cons_of_mem _ (List.mem_append_right _ h)) (by decide +kernel))) (goodIn_sub (fun _ h => List.mem_cons_of_mem _ (List.mem_append_left _ (List.mem_append_left _ (List.mem_append_right _ h)))) (by decide +kernel))
set_option maxRecDepth 20000 in
theorem gL_act_X8_read : GoodIn wsL_act (wsV RL 76 RX8 yX8_read wsX8_read) := goodIn_app (goodIn_of _ (by decide +kernel)) ggL_act_X8_read
set_option maxRecDepth 20000 in
theorem ggL_act_X8_hasRead : GoodIn wsL_act wsX8_hasRead := goodIn_ca (goodIn_r _ [228, 208, 209, 162, 163, 164, 14, 165, 42, 43, 16, 17, 166, 423, 424, 425, 426, 427, 428, 429, 430, 404, 405, 406, 407, 408, 409, 410, 411, 412, 413] (by decide +kernel) (by decide +kernel)) (goodIn_sub (fun _ h => List.mem_cons_of_mem _ (List.mem_append_right _ h)) (by decide +kernel))
set_option maxRecDepth 20000 in
theorem gL_act_X8_hasRead : GoodIn wsL_act (wsV RL 79 RX8 yX8_hasRead wsX8_hasRead) := goodIn_app (goodIn_of _ (by decide +kernel)) ggL_act_X8_hasRead
set_option maxRecDepth 20000 in
theorem ggL_act_X8_links : GoodIn wsL_act wsX8_links := goodIn_r _ [232, 36, 37, 404, 405, 406, 407, 414, 415, 416, 417, 418, 419, 420, 421, 422] (by decide +kernel) (by decide +kernel)
set_option maxRecDepth 20000 in
theorem gL_act_X8_links : GoodIn wsL_act (wsV RL 82 RX8 yX8_links wsX8_links) := goodIn_app (goodIn_of _ (by decide +kernel)) ggL_act_X8_links
set_option maxRecDepth 20000 in
theorem ggL_act_X8_turn : GoodIn wsL_act wsX8_turn := goodIn_ca (goodIn_r _ [236, 36, 237, 16, 238, 239, 240, 14, 241, 42, 43, 37, 242, 243, 244, 51, 245, 66, 67, 68, 69, 70, 71, 72, 73, 74, 75, 76, 53, 58, 59, 64, 77, 78, 79, 246, 247, 248, 87, 249, 135, 133, 250, 251, 252, 147, 253, 149, 254, 255, 404, 405, 406, 407, 414, 415, 416, 417, 418, 419, 420, 421, 422, 408, 409, 410, 411, 412, 413, 450, 451, 452, 453, 454, 455, 456] (by decide +kernel) (by decide +kernel)) (goodIn_sub (fun _ h => List.mem_cons_of_mem _ (List.mem_append_right _ h)) (by decide +kernel))
set_option maxRecDepth 20000 in
theorem gL_act_X8_turn : GoodIn wsL_act (wsV RL 85 RX8 yX8_turn wsX8_turn) := goodIn_app (goodIn_of _ (by decide +kernel)) ggL_act_X8_turn
set_option maxRecDepth 20000 in
theorem ggL_act_X8_lose : GoodIn wsL_act wsX8_lose := goodIn_ca (goodIn_ca (goodIn_r _ [259, 260, 261, 262, 263, 14, 264, 42, 43, 16, 265, 238, 239, 240, 241, 36, 37, 45, 46, 47, 32, 33, 450, 451, 452, 453, 454, 455, 456, 404, 405, 406, 407, 408, 409, 410, 411, 412, 413, 414, 415, 416, 417, 418, 419, 420, 421, 422] (by decide +kernel) (by decide +kernel)) (goodIn_sub (fun _ h => List.mem_cons_of_mem _ (List.mem_append_right _ h)) (by decide +kernel))) (goodIn_sub (fun _ h => List.mem_cons_of_mem _ (List.mem_append_left _ (List.mem_append_left _ (List.mem_append_right _ h)))) (by decide +kernel))
set_option maxRecDepth 20000 in
theorem gL_act_X8_lose : GoodIn wsL_act (wsV RL 88 RX8 yX8_lose wsX8_lose) := goodIn_app (goodIn_of _ (by decide +kernel)) ggL_act_X8_lose
set_option maxRecDepth 20000 in
theorem ggL_act_X8_pass : GoodIn wsL_act wsX8_pass := goodIn_ca (goodIn_r _ [269, 16, 27, 45, 46, 14, 47, 32, 33, 270, 271, 272, 87, 273, 96, 274, 275, 276, 277, 132, 278, 135, 279, 134, 280, 281, 282, 147, 283, 255, 254, 284, 285, 286, 287, 288, 289, 290, 291, 89, 90, 91, 92, 95, 133, 93, 292, 293, 126, 294, 295, 296, 297, 128, 129, 130, 131, 136, 137, 138, 139, 51, 140, 72, 53, 66, 64, 54, 55, 56, 57, 58, 59, 141, 142, 143, 144, 145, 146, 148, 149, 150, 151, 298, 299, 300, 301, 302, 303, 304, 305, 306, 100, 307, 102, 308, 109, 309, 310, 105, 311, 312, 313, 314, 107, 315, 106, 108, 187, 316, 317, 318, 113, 319, 118, 119, 115, 116, 320, 321, 6, 322, 323, 5, 7, 324, 9, 10, 117, 325, 326, 327, 328, 103, 104, 329, 330, 331, 332, 333, 334, 335, 336, 337, 338, 339, 340, 341, 342, 343, 344, 345, 346, 347, 348, 349, 350, 351, 352, 124, 125, 127, 353, 354, 355, 213, 356, 217, 357, 215, 216, 358, 220, 221, 222, 223, 224, 211, 212, 214, 218, 359, 360, 361, 362, 363, 364, 365, 366, 367, 368, 369, 370, 371, 372, 120, 121, 122, 123, 373, 374, 375, 376, 377, 378, 379, 380, 381, 382, 183, 184, 185, 186, 383, 384, 385, 386, 387, 388, 389, 390, 391, 392, 393, 394, 395, 396, 397, 398, 399, 400, 401, 402, 403, 404, 405, 406, 407, 408, 409, 410, 411, 412, 413, 414, 415, 416, 417, 418, 419, 420, 421, 422, 450, 451, 452, 453, 454, 455, 456, 423, 424, 425, 426, 431, 432, 433, 434, 435, 436, 437, 438, 439, 440, 441, 442, 443, 444, 445, 446, 447, 448, 449, 427, 428, 429, 430] (by decide +kernel) (by decide +kernel)) (goodIn_sub (fun _ h => List.mem_cons_of_mem _ (List.mem_append_left _ (List.mem_append_left _ (List.mem_append_right _ h)))) (by decide +kernel))
set_option maxRecDepth 20000 in
theorem gL_act_X8_pass : GoodIn wsL_act (wsV RL 91 RX8 yX8_pass wsX8_pass) := goodIn_app (goodIn_of _ (by decide +kernel)) ggL_act_X8_pass
theorem dL_act_0 : decode cL_act 0 = .ok (.iload_n 2, 1) := by decide +kernel
theorem dL_act_1 : decode cL_act 1 = .ok (.iconst 4, 1) := by decide +kernel
theorem dL_act_2 : decode cL_act 2 = .ok (.ishr, 1) := by decide +kernel
theorem dL_act_3 : decode cL_act 3 = .ok (.iconst 1, 1) := by decide +kernel
theorem dL_act_4 : decode cL_act 4 = .ok (.aload_n 0, 1) := by decide +kernel
theorem dL_act_5 : decode cL_act 5 = .ok (.invokevirtual 42, 3) := by decide +kernel
theorem dL_act_8 : decode cL_act 8 = .ok (.invokestatic 45, 3) := by decide +kernel
theorem dL_act_11 : decode cL_act 11 = .ok (.invokestatic 18, 3) := by decide +kernel
theorem dL_act_14 : decode cL_act 14 = .ok (.istore 5, 2) := by decide +kernel
theorem dL_act_16 : decode cL_act 16 = .ok (.iload_n 2, 1) := by decide +kernel
theorem dL_act_17 : decode cL_act 17 = .ok (.iconst 3, 1) := by decide +kernel
theorem dL_act_18 : decode cL_act 18 = .ok (.ishr, 1) := by decide +kernel
theorem dL_act_19 : decode cL_act 19 = .ok (.iload_n 1, 1) := by decide +kernel
theorem dL_act_20 : decode cL_act 20 = .ok (.invokestatic 18, 3) := by decide +kernel
theorem dL_act_23 : decode cL_act 23 = .ok (.istore 6, 2) := by decide +kernel
theorem dL_act_25 : decode cL_act 25 = .ok (.iload_n 2, 1) := by decide +kernel
theorem dL_act_26 : decode cL_act 26 = .ok (.bipush 6, 2) := by decide +kernel
theorem dL_act_28 : decode cL_act 28 = .ok (.ishr, 1) := by decide +kernel
theorem dL_act_29 : decode cL_act 29 = .ok (.iload_n 1, 1) := by decide +kernel
theorem dL_act_30 : decode cL_act 30 = .ok (.invokestatic 18, 3) := by decide +kernel
theorem dL_act_33 : decode cL_act 33 = .ok (.istore 7, 2) := by decide +kernel
theorem dL_act_35 : decode cL_act 35 = .ok (.aload_n 0, 1) := by decide +kernel
theorem dL_act_36 : decode cL_act 36 = .ok (.invokevirtual 50, 3) := by decide +kernel
theorem dL_act_39 : decode cL_act 39 = .ok (.istore 8, 2) := by decide +kernel
theorem dL_act_41 : decode cL_act 41 = .ok (.iload_n 2, 1) := by decide +kernel
theorem dL_act_42 : decode cL_act 42 = .ok (.bipush 14, 2) := by decide +kernel
theorem dL_act_44 : decode cL_act 44 = .ok (.invokestatic 18, 3) := by decide +kernel
theorem dL_act_47 : decode cL_act 47 = .ok (.tableswitch 356 0 9 #[53, 53, 86, 115, 115, 151, 172, 172, 285, 318], 53) := by decide +kernel
theorem dL_act_100 : decode cL_act 100 = .ok (.aload_n 0, 1) := by decide +kernel
theorem dL_act_101 : decode cL_act 101 = .ok (.iload 6, 2) := by decide +kernel
theorem dL_act_103 : decode cL_act 103 = .ok (.iload 7, 2) := by decide +kernel
theorem dL_act_105 : decode cL_act 105 = .ok (.iconst 1, 1) := by decide +kernel
theorem dL_act_106 : decode cL_act 106 = .ok (.iload_n 2, 1) := by decide +kernel
theorem dL_act_107 : decode cL_act 107 = .ok (.iconst 5, 1) := by decide +kernel
theorem dL_act_108 : decode cL_act 108 = .ok (.ishr, 1) := by decide +kernel
theorem dL_act_109 : decode cL_act 109 = .ok (.bipush 9, 2) := by decide +kernel
theorem dL_act_111 : decode cL_act 111 = .ok (.invokestatic 18, 3) := by decide +kernel
theorem dL_act_114 : decode cL_act 114 = .ok (.iadd, 1) := by decide +kernel
theorem dL_act_115 : decode cL_act 115 = .ok (.iconst 1, 1) := by decide +kernel
theorem dL_act_116 : decode cL_act 116 = .ok (.iload_n 2, 1) := by decide +kernel
theorem dL_act_117 : decode cL_act 117 = .ok (.bipush 7, 2) := by decide +kernel
theorem dL_act_119 : decode cL_act 119 = .ok (.ishr, 1) := by decide +kernel
theorem dL_act_120 : decode cL_act 120 = .ok (.bipush 20, 2) := by decide +kernel
theorem dL_act_122 : decode cL_act 122 = .ok (.invokestatic 18, 3) := by decide +kernel
theorem dL_act_125 : decode cL_act 125 = .ok (.iadd, 1) := by decide +kernel
theorem dL_act_126 : decode cL_act 126 = .ok (.invokevirtual 53, 3) := by decide +kernel
theorem dL_act_129 : decode cL_act 129 = .ok (.pop, 1) := by decide +kernel
theorem dL_act_130 : decode cL_act 130 = .ok (.goto 308, 3) := by decide +kernel
theorem dL_act_133 : decode cL_act 133 = .ok (.aload_n 0, 1) := by decide +kernel
theorem dL_act_134 : decode cL_act 134 = .ok (.iload 6, 2) := by decide +kernel
theorem dL_act_136 : decode cL_act 136 = .ok (.iload 7, 2) := by decide +kernel
theorem dL_act_138 : decode cL_act 138 = .ok (.iconst 1, 1) := by decide +kernel
theorem dL_act_139 : decode cL_act 139 = .ok (.iload_n 2, 1) := by decide +kernel
theorem dL_act_140 : decode cL_act 140 = .ok (.bipush 8, 2) := by decide +kernel
theorem dL_act_142 : decode cL_act 142 = .ok (.ishr, 1) := by decide +kernel
theorem dL_act_143 : decode cL_act 143 = .ok (.bipush 16, 2) := by decide +kernel
theorem dL_act_145 : decode cL_act 145 = .ok (.invokestatic 18, 3) := by decide +kernel
theorem dL_act_148 : decode cL_act 148 = .ok (.iadd, 1) := by decide +kernel
theorem dL_act_149 : decode cL_act 149 = .ok (.invokevirtual 57, 3) := by decide +kernel
theorem dL_act_152 : decode cL_act 152 = .ok (.istore 9, 2) := by decide +kernel
theorem dL_act_154 : decode cL_act 154 = .ok (.aload_n 3, 1) := by decide +kernel
theorem dL_act_155 : decode cL_act 155 = .ok (.iload 9, 2) := by decide +kernel
theorem dL_act_157 : decode cL_act 157 = .ok (.iload_n 2, 1) := by decide +kernel
theorem dL_act_158 : decode cL_act 158 = .ok (.iastore, 1) := by decide +kernel
theorem dL_act_159 : decode cL_act 159 = .ok (.goto 279, 3) := by decide +kernel
theorem dL_act_162 : decode cL_act 162 = .ok (.aload_n 0, 1) := by decide +kernel
theorem dL_act_163 : decode cL_act 163 = .ok (.iload 5, 2) := by decide +kernel
theorem dL_act_165 : decode cL_act 165 = .ok (.invokevirtual 61, 3) := by decide +kernel
theorem dL_act_168 : decode cL_act 168 = .ok (.istore 10, 2) := by decide +kernel
theorem dL_act_170 : decode cL_act 170 = .ok (.aload_n 0, 1) := by decide +kernel
theorem dL_act_171 : decode cL_act 171 = .ok (.iload 5, 2) := by decide +kernel
theorem dL_act_173 : decode cL_act 173 = .ok (.aload_n 3, 1) := by decide +kernel
theorem dL_act_174 : decode cL_act 174 = .ok (.iload 5, 2) := by decide +kernel
theorem dL_act_176 : decode cL_act 176 = .ok (.iaload, 1) := by decide +kernel
theorem dL_act_177 : decode cL_act 177 = .ok (.iload 10, 2) := by decide +kernel
theorem dL_act_179 : decode cL_act 179 = .ok (.iadd, 1) := by decide +kernel
theorem dL_act_180 : decode cL_act 180 = .ok (.iconst 1, 1) := by decide +kernel
theorem dL_act_181 : decode cL_act 181 = .ok (.iload_n 2, 1) := by decide +kernel
theorem dL_act_182 : decode cL_act 182 = .ok (.bipush 7, 2) := by decide +kernel
theorem dL_act_184 : decode cL_act 184 = .ok (.ishr, 1) := by decide +kernel
theorem dL_act_185 : decode cL_act 185 = .ok (.bipush 12, 2) := by decide +kernel
theorem dL_act_187 : decode cL_act 187 = .ok (.invokestatic 18, 3) := by decide +kernel
theorem dL_act_190 : decode cL_act 190 = .ok (.iadd, 1) := by decide +kernel
theorem dL_act_191 : decode cL_act 191 = .ok (.invokevirtual 64, 3) := by decide +kernel
theorem dL_act_194 : decode cL_act 194 = .ok (.pop, 1) := by decide +kernel
theorem dL_act_195 : decode cL_act 195 = .ok (.goto 243, 3) := by decide +kernel
theorem dL_act_198 : decode cL_act 198 = .ok (.iload_n 2, 1) := by decide +kernel
theorem dL_act_199 : decode cL_act 199 = .ok (.bipush 8, 2) := by decide +kernel
theorem dL_act_201 : decode cL_act 201 = .ok (.ishr, 1) := by decide +kernel
theorem dL_act_202 : decode cL_act 202 = .ok (.iconst 4, 1) := by decide +kernel
theorem dL_act_203 : decode cL_act 203 = .ok (.invokestatic 18, 3) := by decide +kernel
theorem dL_act_206 : decode cL_act 206 = .ok (.ifCond .ne 232, 3) := by decide +kernel
theorem dL_act_209 : decode cL_act 209 = .ok (.aload_n 0, 1) := by decide +kernel
theorem dL_act_210 : decode cL_act 210 = .ok (.iload 5, 2) := by decide +kernel
theorem dL_act_212 : decode cL_act 212 = .ok (.invokevirtual 67, 3) := by decide +kernel
theorem dL_act_215 : decode cL_act 215 = .ok (.pop, 1) := by decide +kernel
theorem dL_act_216 : decode cL_act 216 = .ok (.goto 222, 3) := by decide +kernel
theorem dL_act_219 : decode cL_act 219 = .ok (.iconst 1, 1) := by decide +kernel
theorem dL_act_220 : decode cL_act 220 = .ok (.iload_n 2, 1) := by decide +kernel
theorem dL_act_221 : decode cL_act 221 = .ok (.bipush 7, 2) := by decide +kernel
theorem dL_act_223 : decode cL_act 223 = .ok (.ishr, 1) := by decide +kernel
theorem dL_act_224 : decode cL_act 224 = .ok (.bipush 9, 2) := by decide +kernel
theorem dL_act_226 : decode cL_act 226 = .ok (.invokestatic 18, 3) := by decide +kernel
theorem dL_act_229 : decode cL_act 229 = .ok (.iadd, 1) := by decide +kernel
theorem dL_act_230 : decode cL_act 230 = .ok (.aload_n 0, 1) := by decide +kernel
theorem dL_act_231 : decode cL_act 231 = .ok (.iload 5, 2) := by decide +kernel
theorem dL_act_233 : decode cL_act 233 = .ok (.invokevirtual 70, 3) := by decide +kernel
theorem dL_act_236 : decode cL_act 236 = .ok (.invokestatic 73, 3) := by decide +kernel
theorem dL_act_239 : decode cL_act 239 = .ok (.istore 11, 2) := by decide +kernel
theorem dL_act_241 : decode cL_act 241 = .ok (.iconst 0, 1) := by decide +kernel
theorem dL_act_242 : decode cL_act 242 = .ok (.istore 12, 2) := by decide +kernel
theorem dL_act_244 : decode cL_act 244 = .ok (.iconst 0, 1) := by decide +kernel
theorem dL_act_245 : decode cL_act 245 = .ok (.istore 13, 2) := by decide +kernel
theorem dL_act_247 : decode cL_act 247 = .ok (.iload 13, 2) := by decide +kernel
theorem dL_act_249 : decode cL_act 249 = .ok (.iload 11, 2) := by decide +kernel
theorem dL_act_251 : decode cL_act 251 = .ok (.if_icmp .ge 27, 3) := by decide +kernel
theorem dL_act_254 : decode cL_act 254 = .ok (.iload 12, 2) := by decide +kernel
theorem dL_act_256 : decode cL_act 256 = .ok (.aload_n 3, 1) := by decide +kernel
theorem dL_act_257 : decode cL_act 257 = .ok (.iload 5, 2) := by decide +kernel
theorem dL_act_259 : decode cL_act 259 = .ok (.iaload, 1) := by decide +kernel
theorem dL_act_260 : decode cL_act 260 = .ok (.aload 4, 2) := by decide +kernel
theorem dL_act_262 : decode cL_act 262 = .ok (.iload 5, 2) := by decide +kernel
theorem dL_act_264 : decode cL_act 264 = .ok (.iaload, 1) := by decide +kernel
theorem dL_act_265 : decode cL_act 265 = .ok (.iadd, 1) := by decide +kernel
theorem dL_act_266 : decode cL_act 266 = .ok (.iload 13, 2) := by decide +kernel
theorem dL_act_268 : decode cL_act 268 = .ok (.iadd, 1) := by decide +kernel
theorem dL_act_269 : decode cL_act 269 = .ok (.iadd, 1) := by decide +kernel
theorem dL_act_270 : decode cL_act 270 = .ok (.istore 12, 2) := by decide +kernel
theorem dL_act_272 : decode cL_act 272 = .ok (.iinc 13 1, 3) := by decide +kernel
theorem dL_act_275 : decode cL_act 275 = .ok (.goto (-28), 3) := by decide +kernel
theorem dL_act_278 : decode cL_act 278 = .ok (.aload_n 0, 1) := by decide +kernel
theorem dL_act_279 : decode cL_act 279 = .ok (.iload 5, 2) := by decide +kernel
theorem dL_act_281 : decode cL_act 281 = .ok (.iconst 1, 1) := by decide +kernel
theorem dL_act_282 : decode cL_act 282 = .ok (.iload_n 2, 1) := by decide +kernel
theorem dL_act_283 : decode cL_act 283 = .ok (.bipush 7, 2) := by decide +kernel
theorem dL_act_285 : decode cL_act 285 = .ok (.ishr, 1) := by decide +kernel
theorem dL_act_286 : decode cL_act 286 = .ok (.bipush 9, 2) := by decide +kernel
theorem dL_act_288 : decode cL_act 288 = .ok (.invokestatic 18, 3) := by decide +kernel
theorem dL_act_291 : decode cL_act 291 = .ok (.iadd, 1) := by decide +kernel
theorem dL_act_292 : decode cL_act 292 = .ok (.invokevirtual 76, 3) := by decide +kernel
theorem dL_act_295 : decode cL_act 295 = .ok (.iload 12, 2) := by decide +kernel
theorem dL_act_297 : decode cL_act 297 = .ok (.if_icmp .eq 5, 3) := by decide +kernel
theorem dL_act_300 : decode cL_act 300 = .ok (.iconst 0, 1) := by decide +kernel
theorem dL_act_301 : decode cL_act 301 = .ok (.ireturn, 1) := by decide +kernel
theorem dL_act_302 : decode cL_act 302 = .ok (.aload 4, 2) := by decide +kernel
theorem dL_act_304 : decode cL_act 304 = .ok (.iload 5, 2) := by decide +kernel
theorem dL_act_306 : decode cL_act 306 = .ok (.dup2, 1) := by decide +kernel
theorem dL_act_307 : decode cL_act 307 = .ok (.iaload, 1) := by decide +kernel
theorem dL_act_308 : decode cL_act 308 = .ok (.iload 11, 2) := by decide +kernel
theorem dL_act_310 : decode cL_act 310 = .ok (.iadd, 1) := by decide +kernel
theorem dL_act_311 : decode cL_act 311 = .ok (.iastore, 1) := by decide +kernel
theorem dL_act_312 : decode cL_act 312 = .ok (.aload_n 0, 1) := by decide +kernel
theorem dL_act_313 : decode cL_act 313 = .ok (.iload 5, 2) := by decide +kernel
theorem dL_act_315 : decode cL_act 315 = .ok (.invokevirtual 79, 3) := by decide +kernel
theorem dL_act_318 : decode cL_act 318 = .ok (.aload 4, 2) := by decide +kernel
theorem dL_act_320 : decode cL_act 320 = .ok (.iload 5, 2) := by decide +kernel
theorem dL_act_322 : decode cL_act 322 = .ok (.iaload, 1) := by decide +kernel
theorem dL_act_323 : decode cL_act 323 = .ok (.if_icmp .ne 7, 3) := by decide +kernel
theorem dL_act_326 : decode cL_act 326 = .ok (.iconst 1, 1) := by decide +kernel
theorem dL_act_327 : decode cL_act 327 = .ok (.goto 4, 3) := by decide +kernel
theorem dL_act_330 : decode cL_act 330 = .ok (.iconst 0, 1) := by decide +kernel
theorem dL_act_331 : decode cL_act 331 = .ok (.ireturn, 1) := by decide +kernel
theorem dL_act_332 : decode cL_act 332 = .ok (.iload_n 2, 1) := by decide +kernel
theorem dL_act_333 : decode cL_act 333 = .ok (.iconst 5, 1) := by decide +kernel
theorem dL_act_334 : decode cL_act 334 = .ok (.ishr, 1) := by decide +kernel
theorem dL_act_335 : decode cL_act 335 = .ok (.iconst 3, 1) := by decide +kernel
theorem dL_act_336 : decode cL_act 336 = .ok (.invokestatic 18, 3) := by decide +kernel
theorem dL_act_339 : decode cL_act 339 = .ok (.ifCond .ne 99, 3) := by decide +kernel
theorem dL_act_342 : decode cL_act 342 = .ok (.aload_n 0, 1) := by decide +kernel
theorem dL_act_343 : decode cL_act 343 = .ok (.iload_n 2, 1) := by decide +kernel
theorem dL_act_344 : decode cL_act 344 = .ok (.bipush 7, 2) := by decide +kernel
theorem dL_act_346 : decode cL_act 346 = .ok (.ishr, 1) := by decide +kernel
theorem dL_act_347 : decode cL_act 347 = .ok (.iconst 1, 1) := by decide +kernel
theorem dL_act_348 : decode cL_act 348 = .ok (.aload_n 0, 1) := by decide +kernel
theorem dL_act_349 : decode cL_act 349 = .ok (.invokevirtual 82, 3) := by decide +kernel
theorem dL_act_352 : decode cL_act 352 = .ok (.invokestatic 45, 3) := by decide +kernel
theorem dL_act_355 : decode cL_act 355 = .ok (.invokestatic 18, 3) := by decide +kernel
theorem dL_act_358 : decode cL_act 358 = .ok (.invokevirtual 85, 3) := by decide +kernel
theorem dL_act_361 : decode cL_act 361 = .ok (.pop, 1) := by decide +kernel
theorem dL_act_362 : decode cL_act 362 = .ok (.goto 76, 3) := by decide +kernel
theorem dL_act_365 : decode cL_act 365 = .ok (.aload_n 0, 1) := by decide +kernel
theorem dL_act_366 : decode cL_act 366 = .ok (.iload_n 2, 1) := by decide +kernel
theorem dL_act_367 : decode cL_act 367 = .ok (.bipush 7, 2) := by decide +kernel
theorem dL_act_369 : decode cL_act 369 = .ok (.ishr, 1) := by decide +kernel
theorem dL_act_370 : decode cL_act 370 = .ok (.iconst 1, 1) := by decide +kernel
theorem dL_act_371 : decode cL_act 371 = .ok (.aload_n 0, 1) := by decide +kernel
theorem dL_act_372 : decode cL_act 372 = .ok (.invokevirtual 82, 3) := by decide +kernel
theorem dL_act_375 : decode cL_act 375 = .ok (.invokestatic 45, 3) := by decide +kernel
theorem dL_act_378 : decode cL_act 378 = .ok (.invokestatic 18, 3) := by decide +kernel
theorem dL_act_381 : decode cL_act 381 = .ok (.iload_n 2, 1) := by decide +kernel
theorem dL_act_382 : decode cL_act 382 = .ok (.iconst 5, 1) := by decide +kernel
theorem dL_act_383 : decode cL_act 383 = .ok (.ishr, 1) := by decide +kernel
theorem dL_act_384 : decode cL_act 384 = .ok (.iconst 2, 1) := by decide +kernel
theorem dL_act_385 : decode cL_act 385 = .ok (.invokestatic 18, 3) := by decide +kernel
theorem dL_act_388 : decode cL_act 388 = .ok (.iload_n 2, 1) := by decide +kernel
theorem dL_act_389 : decode cL_act 389 = .ok (.bipush 6, 2) := by decide +kernel
theorem dL_act_391 : decode cL_act 391 = .ok (.ishr, 1) := by decide +kernel
theorem dL_act_392 : decode cL_act 392 = .ok (.iconst 4, 1) := by decide +kernel
theorem dL_act_393 : decode cL_act 393 = .ok (.invokestatic 18, 3) := by decide +kernel
theorem dL_act_396 : decode cL_act 396 = .ok (.invokevirtual 88, 3) := by decide +kernel
theorem dL_act_399 : decode cL_act 399 = .ok (.pop, 1) := by decide +kernel
theorem dL_act_400 : decode cL_act 400 = .ok (.goto 38, 3) := by decide +kernel
theorem dL_act_403 : decode cL_act 403 = .ok (.iconst 1, 1) := by decide +kernel
theorem dL_act_404 : decode cL_act 404 = .ok (.iload_n 2, 1) := by decide +kernel
theorem dL_act_405 : decode cL_act 405 = .ok (.iconst 4, 1) := by decide +kernel
theorem dL_act_406 : decode cL_act 406 = .ok (.ishr, 1) := by decide +kernel
theorem dL_act_407 : decode cL_act 407 = .ok (.bipush 12, 2) := by decide +kernel
theorem dL_act_409 : decode cL_act 409 = .ok (.invokestatic 18, 3) := by decide +kernel
theorem dL_act_412 : decode cL_act 412 = .ok (.iadd, 1) := by decide +kernel
theorem dL_act_413 : decode cL_act 413 = .ok (.istore 13, 2) := by decide +kernel
theorem dL_act_415 : decode cL_act 415 = .ok (.aload_n 0, 1) := by decide +kernel
theorem dL_act_416 : decode cL_act 416 = .ok (.iload 13, 2) := by decide +kernel
theorem dL_act_418 : decode cL_act 418 = .ok (.invokevirtual 91, 3) := by decide +kernel
theorem dL_act_421 : decode cL_act 421 = .ok (.iload 8, 2) := by decide +kernel
theorem dL_act_423 : decode cL_act 423 = .ok (.iload 13, 2) := by decide +kernel
theorem dL_act_425 : decode cL_act 425 = .ok (.iadd, 1) := by decide +kernel
theorem dL_act_426 : decode cL_act 426 = .ok (.if_icmp .eq 5, 3) := by decide +kernel
theorem dL_act_429 : decode cL_act 429 = .ok (.iconst 0, 1) := by decide +kernel
theorem dL_act_430 : decode cL_act 430 = .ok (.ireturn, 1) := by decide +kernel
theorem dL_act_431 : decode cL_act 431 = .ok (.iload 8, 2) := by decide +kernel
theorem dL_act_433 : decode cL_act 433 = .ok (.iload 13, 2) := by decide +kernel
theorem dL_act_435 : decode cL_act 435 = .ok (.iadd, 1) := by decide +kernel
theorem dL_act_436 : decode cL_act 436 = .ok (.istore 8, 2) := by decide +kernel
theorem dL_act_438 : decode cL_act 438 = .ok (.goto 54, 3) := by decide +kernel
theorem dL_act_441 : decode cL_act 441 = .ok (.astore 9, 2) := by decide +kernel
theorem dL_act_443 : decode cL_act 443 = .ok (.aload_n 0, 1) := by decide +kernel
theorem dL_act_444 : decode cL_act 444 = .ok (.invokevirtual 50, 3) := by decide +kernel
theorem dL_act_447 : decode cL_act 447 = .ok (.iload 8, 2) := by decide +kernel
theorem dL_act_449 : decode cL_act 449 = .ok (.if_icmp .ne 7, 3) := by decide +kernel
theorem dL_act_452 : decode cL_act 452 = .ok (.iconst 1, 1) := by decide +kernel
theorem dL_act_453 : decode cL_act 453 = .ok (.goto 4, 3) := by decide +kernel
theorem dL_act_456 : decode cL_act 456 = .ok (.iconst 0, 1) := by decide +kernel
theorem dL_act_457 : decode cL_act 457 = .ok (.ireturn, 1) := by decide +kernel
theorem dL_act_458 : decode cL_act 458 = .ok (.astore 9, 2) := by decide +kernel
theorem dL_act_460 : decode cL_act 460 = .ok (.aload_n 0, 1) := by decide +kernel
theorem dL_act_461 : decode cL_act 461 = .ok (.invokevirtual 50, 3) := by decide +kernel
theorem dL_act_464 : decode cL_act 464 = .ok (.iload 8, 2) := by decide +kernel
theorem dL_act_466 : decode cL_act 466 = .ok (.if_icmp .ne 7, 3) := by decide +kernel
theorem dL_act_469 : decode cL_act 469 = .ok (.iconst 1, 1) := by decide +kernel
theorem dL_act_470 : decode cL_act 470 = .ok (.goto 4, 3) := by decide +kernel
theorem dL_act_473 : decode cL_act 473 = .ok (.iconst 0, 1) := by decide +kernel
theorem dL_act_474 : decode cL_act 474 = .ok (.ireturn, 1) := by decide +kernel
theorem dL_act_475 : decode cL_act 475 = .ok (.astore 9, 2) := by decide +kernel
theorem dL_act_477 : decode cL_act 477 = .ok (.aload_n 0, 1) := by decide +kernel
theorem dL_act_478 : decode cL_act 478 = .ok (.invokevirtual 50, 3) := by decide +kernel
theorem dL_act_481 : decode cL_act 481 = .ok (.iload 8, 2) := by decide +kernel
theorem dL_act_483 : decode cL_act 483 = .ok (.if_icmp .ne 7, 3) := by decide +kernel
theorem dL_act_486 : decode cL_act 486 = .ok (.iconst 1, 1) := by decide +kernel
theorem dL_act_487 : decode cL_act 487 = .ok (.goto 4, 3) := by decide +kernel
theorem dL_act_490 : decode cL_act 490 = .ok (.iconst 0, 1) := by decide +kernel
theorem dL_act_491 : decode cL_act 491 = .ok (.ireturn, 1) := by decide +kernel
theorem dL_act_492 : decode cL_act 492 = .ok (.aload_n 0, 1) := by decide +kernel
theorem dL_act_493 : decode cL_act 493 = .ok (.invokevirtual 50, 3) := by decide +kernel
theorem dL_act_496 : decode cL_act 496 = .ok (.iload 8, 2) := by decide +kernel
theorem dL_act_498 : decode cL_act 498 = .ok (.if_icmp .ne 7, 3) := by decide +kernel
theorem dL_act_501 : decode cL_act 501 = .ok (.iconst 1, 1) := by decide +kernel
theorem dL_act_502 : decode cL_act 502 = .ok (.goto 4, 3) := by decide +kernel
theorem dL_act_505 : decode cL_act 505 = .ok (.iconst 0, 1) := by decide +kernel
theorem dL_act_506 : decode cL_act 506 = .ok (.ireturn, 1) := by decide +kernel
set_option maxRecDepth 20000 in
theorem ggL_isSound_X8_connections : GoodIn wsL_isSound wsX8_connections := goodIn_r _ [5, 6, 7, 173, 174, 175, 176, 177, 178, 179, 180, 181, 182] (by decide +kernel) (by decide +kernel)
set_option maxRecDepth 20000 in
theorem gL_isSound_X8_connections : GoodIn wsL_isSound (wsV RL 42 RX8 yX8_connections wsX8_connections) := goodIn_app (goodIn_of _ (by decide +kernel)) ggL_isSound_X8_connections
set_option maxRecDepth 20000 in
theorem ggL_isSound_X8_stateOf : GoodIn wsL_isSound wsX8_stateOf := goodIn_ca (goodIn_r _ [11, 12, 13, 14, 15, 4, 16, 17, 18, 19, 20, 21, 22, 23, 6, 7, 24, 183, 184, 185, 186, 187, 188, 189, 190, 191, 192, 193, 194, 195, 196, 197, 198, 199, 200, 173, 174, 175, 176, 177, 178, 179, 180, 181, 182] (by decide +kernel) (by decide +kernel)) (goodIn_sub (fun _ h => List.mem_cons_of_mem _ (List.mem_append_right _ h)) (by decide +kernel))
set_option maxRecDepth 20000 in
theorem gL_isSound_X8_stateOf : GoodIn wsL_isSound (wsV RL 100 RX8 yX8_stateOf wsX8_stateOf) := goodIn_app (goodIn_of _ (by decide +kernel)) ggL_isSound_X8_stateOf
set_option maxRecDepth 20000 in
theorem ggL_isSound_X8_base : GoodIn wsL_isSound wsX8_base := goodIn_ca (goodIn_r _ [28, 29, 13, 14, 15, 4, 16, 17, 18, 19, 20, 21, 22, 23, 6, 7, 24, 183, 184, 185, 186, 187, 188, 189, 190, 191, 192, 193, 194, 195, 196, 197, 198, 199, 200, 173, 174, 175, 176, 177, 178, 179, 180, 181, 182] (by decide +kernel) (by decide +kernel)) (goodIn_sub (fun _ h => List.mem_cons_of_mem _ (List.mem_append_right _ h)) (by decide +kernel))
set_option maxRecDepth 20000 in
theorem gL_isSound_X8_base : GoodIn wsL_isSound (wsV RL 103 RX8 yX8_base wsX8_base) := goodIn_app (goodIn_of _ (by decide +kernel)) ggL_isSound_X8_base
set_option maxRecDepth 20000 in
theorem ggL_isSound_X8_wanted : GoodIn wsL_isSound wsX8_wanted := goodIn_ca (goodIn_r _ [33, 34, 35, 18, 19, 20, 4, 21, 22, 23, 6, 7, 24, 197, 198, 199, 200, 201, 202, 203, 204, 173, 174, 175, 176, 177, 178, 179, 180, 181, 182] (by decide +kernel) (by decide +kernel)) (goodIn_sub (fun _ h => List.mem_cons_of_mem _ (List.mem_append_right _ h)) (by decide +kernel))
set_option maxRecDepth 20000 in
theorem gL_isSound_X8_wanted : GoodIn wsL_isSound (wsV RL 106 RX8 yX8_wanted wsX8_wanted) := goodIn_app (goodIn_of _ (by decide +kernel)) ggL_isSound_X8_wanted
set_option maxRecDepth 20000 in
theorem ggL_isSound_X8_next : GoodIn wsL_isSound wsX8_next := goodIn_ca (goodIn_r _ [39, 40, 13, 14, 15, 4, 16, 17, 18, 19, 20, 21, 22, 23, 6, 7, 24, 183, 184, 185, 186, 187, 188, 189, 190, 191, 192, 193, 194, 195, 196, 197, 198, 199, 200, 173, 174, 175, 176, 177, 178, 179, 180, 181, 182] (by decide +kernel) (by decide +kernel)) (goodIn_sub (fun _ h => List.mem_cons_of_mem _ (List.mem_append_right _ h)) (by decide +kernel))
set_option maxRecDepth 20000 in
theorem gL_isSound_X8_next : GoodIn wsL_isSound (wsV RL 109 RX8 yX8_next wsX8_next) := goodIn_app (goodIn_of _ (by decide +kernel)) ggL_isSound_X8_next
set_option maxRecDepth 20000 in
theorem ggL_isSound_X8_given : GoodIn wsL_isSound wsX8_given := goodIn_ca (goodIn_r _ [44, 45, 13, 14, 15, 4, 16, 17, 18, 19, 20, 21, 22, 23, 6, 7, 24, 183, 184, 185, 186, 187, 188, 189, 190, 191, 192, 193, 194, 195, 196, 197, 198, 199, 200, 173, 174, 175, 176, 177, 178, 179, 180, 181, 182] (by decide +kernel) (by decide +kernel)) (goodIn_sub (fun _ h => List.mem_cons_of_mem _ (List.mem_append_right _ h)) (by decide +kernel))
set_option maxRecDepth 20000 in
theorem gL_isSound_X8_given : GoodIn wsL_isSound (wsV RL 61 RX8 yX8_given wsX8_given) := goodIn_app (goodIn_of _ (by decide +kernel)) ggL_isSound_X8_given
set_option maxRecDepth 20000 in
theorem ggL_isSound_X8_hasRead : GoodIn wsL_isSound wsX8_hasRead := goodIn_ca (goodIn_r _ [49, 34, 50, 18, 19, 20, 4, 21, 22, 23, 6, 7, 24, 197, 198, 199, 200, 201, 202, 203, 204, 173, 174, 175, 176, 177, 178, 179, 180, 181, 182] (by decide +kernel) (by decide +kernel)) (goodIn_sub (fun _ h => List.mem_cons_of_mem _ (List.mem_append_right _ h)) (by decide +kernel))
set_option maxRecDepth 20000 in
theorem gL_isSound_X8_hasRead : GoodIn wsL_isSound (wsV RL 79 RX8 yX8_hasRead wsX8_hasRead) := goodIn_app (goodIn_of _ (by decide +kernel)) ggL_isSound_X8_hasRead
set_option maxRecDepth 20000 in
theorem ggL_isSound_X8_readable : GoodIn wsL_isSound wsX8_readable := goodIn_ca (goodIn_r _ [54, 18, 19, 20, 4, 21, 22, 23, 6, 7, 24, 55, 56, 57, 58, 59, 60, 61, 62, 63, 64, 65, 66, 67, 68, 173, 174, 175, 176, 177, 178, 179, 180, 181, 182, 197, 198, 199, 200, 201, 202, 203, 204, 183, 184, 185, 186, 187, 188, 189, 190, 191, 192, 193, 194, 195, 196] (by decide +kernel) (by decide +kernel)) (goodIn_sub (fun _ h => List.mem_cons_of_mem _ (List.mem_append_right _ h)) (by decide +kernel))
set_option maxRecDepth 20000 in
theorem gL_isSound_X8_readable : GoodIn wsL_isSound (wsV RL 70 RX8 yX8_readable wsX8_readable) := goodIn_app (goodIn_of _ (by decide +kernel)) ggL_isSound_X8_readable
set_option maxRecDepth 20000 in
theorem ggL_isSound_X8_window : GoodIn wsL_isSound wsX8_window := goodIn_ca (goodIn_r _ [72, 73, 13, 14, 15, 4, 16, 17, 18, 19, 20, 21, 22, 23, 6, 7, 24, 183, 184, 185, 186, 187, 188, 189, 190, 191, 192, 193, 194, 195, 196, 197, 198, 199, 200, 173, 174, 175, 176, 177, 178, 179, 180, 181, 182] (by decide +kernel) (by decide +kernel)) (goodIn_sub (fun _ h => List.mem_cons_of_mem _ (List.mem_append_right _ h)) (by decide +kernel))
set_option maxRecDepth 20000 in
theorem gL_isSound_X8_window : GoodIn wsL_isSound (wsV RL 112 RX8 yX8_window wsX8_window) := goodIn_app (goodIn_of _ (by decide +kernel)) ggL_isSound_X8_window
set_option maxRecDepth 20000 in
theorem ggL_isSound_X8_timeout : GoodIn wsL_isSound wsX8_timeout := goodIn_ca (goodIn_r _ [77, 78, 79, 13, 14, 15, 4, 16, 17, 18, 19, 20, 21, 22, 23, 6, 7, 24, 183, 184, 185, 186, 187, 188, 189, 190, 191, 192, 193, 194, 195, 196, 205, 206, 207, 208, 209, 197, 198, 199, 200, 173, 174, 175, 176, 177, 178, 179, 180, 181, 182] (by decide +kernel) (by decide +kernel)) (goodIn_sub (fun _ h => List.mem_cons_of_mem _ (List.mem_append_right _ h)) (by decide +kernel))
set_option maxRecDepth 20000 in
theorem gL_isSound_X8_timeout : GoodIn wsL_isSound (wsV RL 115 RX8 yX8_timeout wsX8_timeout) := goodIn_app (goodIn_of _ (by decide +kernel)) ggL_isSound_X8_timeout
set_option maxRecDepth 20000 in
theorem ggL_isSound_X8_tries : GoodIn wsL_isSound wsX8_tries := goodIn_ca (goodIn_r _ [83, 84, 13, 14, 15, 4, 16, 17, 18, 19, 20, 21, 22, 23, 6, 7, 24, 183, 184, 185, 186, 187, 188, 189, 190, 191, 192, 193, 194, 195, 196, 197, 198, 199, 200, 173, 174, 175, 176, 177, 178, 179, 180, 181, 182] (by decide +kernel) (by decide +kernel)) (goodIn_sub (fun _ h => List.mem_cons_of_mem _ (List.mem_append_right _ h)) (by decide +kernel))
set_option maxRecDepth 20000 in
theorem gL_isSound_X8_tries : GoodIn wsL_isSound (wsV RL 118 RX8 yX8_tries wsX8_tries) := goodIn_app (goodIn_of _ (by decide +kernel)) ggL_isSound_X8_tries
set_option maxRecDepth 20000 in
theorem ggL_isSound_X8_timer : GoodIn wsL_isSound wsX8_timer := goodIn_ca (goodIn_r _ [88, 89, 13, 14, 15, 4, 16, 17, 18, 19, 20, 21, 22, 23, 6, 7, 24, 183, 184, 185, 186, 187, 188, 189, 190, 191, 192, 193, 194, 195, 196, 197, 198, 199, 200, 173, 174, 175, 176, 177, 178, 179, 180, 181, 182] (by decide +kernel) (by decide +kernel)) (goodIn_sub (fun _ h => List.mem_cons_of_mem _ (List.mem_append_right _ h)) (by decide +kernel))
set_option maxRecDepth 20000 in
theorem gL_isSound_X8_timer : GoodIn wsL_isSound (wsV RL 121 RX8 yX8_timer wsX8_timer) := goodIn_app (goodIn_of _ (by decide +kernel)) ggL_isSound_X8_timer
set_option maxRecDepth 20000 in
theorem ggL_isSound_X8_clock : GoodIn wsL_isSound wsX8_clock := goodIn_r _ [93, 6, 94, 173, 174, 175, 176, 177, 178, 179, 180, 181, 182] (by decide +kernel) (by decide +kernel)
set_option maxRecDepth 20000 in
theorem gL_isSound_X8_clock : GoodIn wsL_isSound (wsV RL 50 RX8 yX8_clock wsX8_clock) := goodIn_app (goodIn_of _ (by decide +kernel)) ggL_isSound_X8_clock
set_option maxRecDepth 20000 in
theorem ggL_isSound_X8_measured : GoodIn wsL_isSound wsX8_measured := goodIn_ca (goodIn_r _ [98, 78, 99, 13, 14, 15, 4, 16, 17, 18, 19, 20, 21, 22, 23, 6, 7, 24, 183, 184, 185, 186, 187, 188, 189, 190, 191, 192, 193, 194, 195, 196, 205, 206, 207, 208, 209, 197, 198, 199, 200, 173, 174, 175, 176, 177, 178, 179, 180, 181, 182] (by decide +kernel) (by decide +kernel)) (goodIn_sub (fun _ h => List.mem_cons_of_mem _ (List.mem_append_right _ h)) (by decide +kernel))
set_option maxRecDepth 20000 in
theorem gL_isSound_X8_measured : GoodIn wsL_isSound (wsV RL 124 RX8 yX8_measured wsX8_measured) := goodIn_app (goodIn_of _ (by decide +kernel)) ggL_isSound_X8_measured
set_option maxRecDepth 20000 in
theorem ggL_isSound_X8_recover : GoodIn wsL_isSound wsX8_recover := goodIn_ca (goodIn_r _ [103, 104, 13, 14, 15, 4, 16, 17, 18, 19, 20, 21, 22, 23, 6, 7, 24, 183, 184, 185, 186, 187, 188, 189, 190, 191, 192, 193, 194, 195, 196, 197, 198, 199, 200, 173, 174, 175, 176, 177, 178, 179, 180, 181, 182] (by decide +kernel) (by decide +kernel)) (goodIn_sub (fun _ h => List.mem_cons_of_mem _ (List.mem_append_right _ h)) (by decide +kernel))
set_option maxRecDepth 20000 in
theorem gL_isSound_X8_recover : GoodIn wsL_isSound (wsV RL 127 RX8 yX8_recover wsX8_recover) := goodIn_app (goodIn_of _ (by decide +kernel)) ggL_isSound_X8_recover
set_option maxRecDepth 20000 in
theorem ggL_isSound_X8_holds : GoodIn wsL_isSound wsX8_holds := goodIn_ca (goodIn_r _ [108, 34, 109, 18, 19, 20, 4, 21, 22, 23, 6, 7, 24, 197, 198, 199, 200, 201, 202, 203, 204, 173, 174, 175, 176, 177, 178, 179, 180, 181, 182] (by decide +kernel) (by decide +kernel)) (goodIn_sub (fun _ h => List.mem_cons_of_mem _ (List.mem_append_right _ h)) (by decide +kernel))
set_option maxRecDepth 20000 in
theorem gL_isSound_X8_holds : GoodIn wsL_isSound (wsV RL 130 RX8 yX8_holds wsX8_holds) := goodIn_app (goodIn_of _ (by decide +kernel)) ggL_isSound_X8_holds
set_option maxRecDepth 20000 in
theorem ggL_isSound_X8_links : GoodIn wsL_isSound wsX8_links := goodIn_r _ [113, 114, 115, 173, 174, 175, 176, 210, 211, 212, 213, 214, 215, 216, 217, 218] (by decide +kernel) (by decide +kernel)
set_option maxRecDepth 20000 in
theorem gL_isSound_X8_links : GoodIn wsL_isSound (wsV RL 82 RX8 yX8_links wsX8_links) := goodIn_app (goodIn_of _ (by decide +kernel)) ggL_isSound_X8_links
set_option maxRecDepth 20000 in
theorem ggL_isSound_X8_queued : GoodIn wsL_isSound wsX8_queued := goodIn_ca (goodIn_r _ [119, 120, 121, 122, 123, 4, 124, 22, 23, 6, 125, 126, 127, 128, 129, 114, 115, 219, 220, 221, 222, 223, 224, 225, 173, 174, 175, 176, 177, 178, 179, 180, 181, 182, 210, 211, 212, 213, 214, 215, 216, 217, 218] (by decide +kernel) (by decide +kernel)) (goodIn_sub (fun _ h => List.mem_cons_of_mem _ (List.mem_append_right _ h)) (by decide +kernel))
set_option maxRecDepth 20000 in
theorem gL_isSound_X8_queued : GoodIn wsL_isSound (wsV RL 134 RX8 yX8_queued wsX8_queued) := goodIn_app (goodIn_of _ (by decide +kernel)) ggL_isSound_X8_queued
set_option maxRecDepth 20000 in
theorem ggL_isSound_X8_flying : GoodIn wsL_isSound wsX8_flying := goodIn_ca (goodIn_r _ [133, 134, 121, 122, 123, 4, 124, 22, 23, 6, 125, 126, 127, 128, 129, 114, 115, 219, 220, 221, 222, 223, 224, 225, 173, 174, 175, 176, 177, 178, 179, 180, 181, 182, 210, 211, 212, 213, 214, 215, 216, 217, 218] (by decide +kernel) (by decide +kernel)) (goodIn_sub (fun _ h => List.mem_cons_of_mem _ (List.mem_append_right _ h)) (by decide +kernel))
set_option maxRecDepth 20000 in
theorem gL_isSound_X8_flying : GoodIn wsL_isSound (wsV RL 137 RX8 yX8_flying wsX8_flying) := goodIn_app (goodIn_of _ (by decide +kernel)) ggL_isSound_X8_flying
set_option maxRecDepth 20000 in
theorem ggL_isSound_X8_isUp : GoodIn wsL_isSound wsX8_isUp := goodIn_ca (goodIn_r _ [138, 114, 139, 126, 127, 128, 4, 129, 22, 23, 115, 173, 174, 175, 176, 210, 211, 212, 213, 214, 215, 216, 217, 218] (by decide +kernel) (by decide +kernel)) (goodIn_sub (fun _ h => List.mem_cons_of_mem _ (List.mem_append_right _ h)) (by decide +kernel))
set_option maxRecDepth 20000 in
theorem gL_isSound_X8_isUp : GoodIn wsL_isSound (wsV RL 140 RX8 yX8_isUp wsX8_isUp) := goodIn_app (goodIn_of _ (by decide +kernel)) ggL_isSound_X8_isUp
set_option maxRecDepth 20000 in
theorem ggL_isSound_X8_nextLink : GoodIn wsL_isSound wsX8_nextLink := goodIn_ca (goodIn_r _ [143, 114, 144, 145, 146, 4, 147, 22, 23, 148, 149, 150, 151, 152, 153, 154, 155, 156, 157, 158, 159, 160, 161, 162, 163, 173, 174, 175, 176, 210, 211, 212, 213, 214, 215, 216, 217, 218] (by decide +kernel) (by decide +kernel)) (goodIn_sub (fun _ h => List.mem_cons_of_mem _ (List.mem_append_right _ h)) (by decide +kernel))
set_option maxRecDepth 20000 in
theorem gL_isSound_X8_nextLink : GoodIn wsL_isSound (wsV RL 144 RX8 yX8_nextLink wsX8_nextLink) := goodIn_app (goodIn_of _ (by decide +kernel)) ggL_isSound_X8_nextLink
set_option maxRecDepth 20000 in
theorem ggL_isSound_X8_distance : GoodIn wsL_isSound wsX8_distance := goodIn_ca (goodIn_r _ [167, 114, 168, 144, 145, 146, 4, 147, 22, 23, 148, 173, 174, 175, 176, 210, 211, 212, 213, 214, 215, 216, 217, 218] (by decide +kernel) (by decide +kernel)) (goodIn_sub (fun _ h => List.mem_cons_of_mem _ (List.mem_append_right _ h)) (by decide +kernel))
set_option maxRecDepth 20000 in
theorem gL_isSound_X8_distance : GoodIn wsL_isSound (wsV RL 147 RX8 yX8_distance wsX8_distance) := goodIn_app (goodIn_of _ (by decide +kernel)) ggL_isSound_X8_distance
set_option maxRecDepth 20000 in
theorem ggL_isSound_X8_underWay : GoodIn wsL_isSound wsX8_underWay := goodIn_r _ [172, 114, 115, 6, 125, 120, 134, 173, 174, 175, 176, 210, 211, 212, 213, 214, 215, 216, 217, 218, 177, 178, 179, 180, 181, 182, 219, 220, 221, 222, 223, 224, 225] (by decide +kernel) (by decide +kernel)
set_option maxRecDepth 20000 in
theorem gL_isSound_X8_underWay : GoodIn wsL_isSound (wsV RL 150 RX8 yX8_underWay wsX8_underWay) := goodIn_app (goodIn_of _ (by decide +kernel)) ggL_isSound_X8_underWay
theorem dL_isSound_0 : decode cL_isSound 0 = .ok (.iconst 0, 1) := by decide +kernel
theorem dL_isSound_1 : decode cL_isSound 1 = .ok (.istore_n 2, 1) := by decide +kernel
theorem dL_isSound_2 : decode cL_isSound 2 = .ok (.iload_n 2, 1) := by decide +kernel
theorem dL_isSound_3 : decode cL_isSound 3 = .ok (.aload_n 0, 1) := by decide +kernel
theorem dL_isSound_4 : decode cL_isSound 4 = .ok (.invokevirtual 42, 3) := by decide +kernel
theorem dL_isSound_7 : decode cL_isSound 7 = .ok (.if_icmp .ge 330, 3) := by decide +kernel
theorem dL_isSound_10 : decode cL_isSound 10 = .ok (.aload_n 0, 1) := by decide +kernel
theorem dL_isSound_11 : decode cL_isSound 11 = .ok (.iload_n 2, 1) := by decide +kernel
theorem dL_isSound_12 : decode cL_isSound 12 = .ok (.invokevirtual 100, 3) := by decide +kernel
theorem dL_isSound_15 : decode cL_isSound 15 = .ok (.istore_n 3, 1) := by decide +kernel
theorem dL_isSound_16 : decode cL_isSound 16 = .ok (.aload_n 0, 1) := by decide +kernel
theorem dL_isSound_17 : decode cL_isSound 17 = .ok (.iload_n 2, 1) := by decide +kernel
theorem dL_isSound_18 : decode cL_isSound 18 = .ok (.invokevirtual 103, 3) := by decide +kernel
theorem dL_isSound_21 : decode cL_isSound 21 = .ok (.aload_n 0, 1) := by decide +kernel
theorem dL_isSound_22 : decode cL_isSound 22 = .ok (.iload_n 2, 1) := by decide +kernel
theorem dL_isSound_23 : decode cL_isSound 23 = .ok (.invokevirtual 106, 3) := by decide +kernel
theorem dL_isSound_26 : decode cL_isSound 26 = .ok (.if_icmp .gt 58, 3) := by decide +kernel
theorem dL_isSound_29 : decode cL_isSound 29 = .ok (.aload_n 0, 1) := by decide +kernel
theorem dL_isSound_30 : decode cL_isSound 30 = .ok (.iload_n 2, 1) := by decide +kernel
theorem dL_isSound_31 : decode cL_isSound 31 = .ok (.invokevirtual 106, 3) := by decide +kernel
theorem dL_isSound_34 : decode cL_isSound 34 = .ok (.aload_n 0, 1) := by decide +kernel
theorem dL_isSound_35 : decode cL_isSound 35 = .ok (.iload_n 2, 1) := by decide +kernel
theorem dL_isSound_36 : decode cL_isSound 36 = .ok (.invokevirtual 109, 3) := by decide +kernel
theorem dL_isSound_39 : decode cL_isSound 39 = .ok (.if_icmp .gt 45, 3) := by decide +kernel
theorem dL_isSound_42 : decode cL_isSound 42 = .ok (.aload_n 0, 1) := by decide +kernel
theorem dL_isSound_43 : decode cL_isSound 43 = .ok (.iload_n 2, 1) := by decide +kernel
theorem dL_isSound_44 : decode cL_isSound 44 = .ok (.invokevirtual 109, 3) := by decide +kernel
theorem dL_isSound_47 : decode cL_isSound 47 = .ok (.aload_n 0, 1) := by decide +kernel
theorem dL_isSound_48 : decode cL_isSound 48 = .ok (.iload_n 2, 1) := by decide +kernel
theorem dL_isSound_49 : decode cL_isSound 49 = .ok (.invokevirtual 61, 3) := by decide +kernel
theorem dL_isSound_52 : decode cL_isSound 52 = .ok (.iconst 1, 1) := by decide +kernel
theorem dL_isSound_53 : decode cL_isSound 53 = .ok (.iadd, 1) := by decide +kernel
theorem dL_isSound_54 : decode cL_isSound 54 = .ok (.if_icmp .gt 30, 3) := by decide +kernel
theorem dL_isSound_57 : decode cL_isSound 57 = .ok (.aload_n 0, 1) := by decide +kernel
theorem dL_isSound_58 : decode cL_isSound 58 = .ok (.iload_n 2, 1) := by decide +kernel
theorem dL_isSound_59 : decode cL_isSound 59 = .ok (.invokevirtual 79, 3) := by decide +kernel
theorem dL_isSound_62 : decode cL_isSound 62 = .ok (.aload_n 0, 1) := by decide +kernel
theorem dL_isSound_63 : decode cL_isSound 63 = .ok (.iload_n 2, 1) := by decide +kernel
theorem dL_isSound_64 : decode cL_isSound 64 = .ok (.invokevirtual 70, 3) := by decide +kernel
theorem dL_isSound_67 : decode cL_isSound 67 = .ok (.iadd, 1) := by decide +kernel
theorem dL_isSound_68 : decode cL_isSound 68 = .ok (.aload_n 0, 1) := by decide +kernel
theorem dL_isSound_69 : decode cL_isSound 69 = .ok (.iload_n 2, 1) := by decide +kernel
theorem dL_isSound_70 : decode cL_isSound 70 = .ok (.invokevirtual 61, 3) := by decide +kernel
theorem dL_isSound_73 : decode cL_isSound 73 = .ok (.if_icmp .gt 11, 3) := by decide +kernel
theorem dL_isSound_76 : decode cL_isSound 76 = .ok (.aload_n 0, 1) := by decide +kernel
theorem dL_isSound_77 : decode cL_isSound 77 = .ok (.iload_n 2, 1) := by decide +kernel
theorem dL_isSound_78 : decode cL_isSound 78 = .ok (.invokevirtual 70, 3) := by decide +kernel
theorem dL_isSound_81 : decode cL_isSound 81 = .ok (.ifCond .ge 5, 3) := by decide +kernel
theorem dL_isSound_84 : decode cL_isSound 84 = .ok (.iconst 0, 1) := by decide +kernel
theorem dL_isSound_85 : decode cL_isSound 85 = .ok (.ireturn, 1) := by decide +kernel
theorem dL_isSound_86 : decode cL_isSound 86 = .ok (.aload_n 0, 1) := by decide +kernel
theorem dL_isSound_87 : decode cL_isSound 87 = .ok (.iload_n 2, 1) := by decide +kernel
theorem dL_isSound_88 : decode cL_isSound 88 = .ok (.invokevirtual 112, 3) := by decide +kernel
theorem dL_isSound_91 : decode cL_isSound 91 = .ok (.bipush 8, 2) := by decide +kernel
theorem dL_isSound_93 : decode cL_isSound 93 = .ok (.if_icmp .lt 79, 3) := by decide +kernel
theorem dL_isSound_96 : decode cL_isSound 96 = .ok (.aload_n 0, 1) := by decide +kernel
theorem dL_isSound_97 : decode cL_isSound 97 = .ok (.iload_n 2, 1) := by decide +kernel
theorem dL_isSound_98 : decode cL_isSound 98 = .ok (.invokevirtual 112, 3) := by decide +kernel
theorem dL_isSound_101 : decode cL_isSound 101 = .ok (.sipush 256, 3) := by decide +kernel
theorem dL_isSound_104 : decode cL_isSound 104 = .ok (.if_icmp .gt 68, 3) := by decide +kernel
theorem dL_isSound_107 : decode cL_isSound 107 = .ok (.aload_n 0, 1) := by decide +kernel
theorem dL_isSound_108 : decode cL_isSound 108 = .ok (.iload_n 2, 1) := by decide +kernel
theorem dL_isSound_109 : decode cL_isSound 109 = .ok (.invokevirtual 115, 3) := by decide +kernel
theorem dL_isSound_112 : decode cL_isSound 112 = .ok (.iconst 3, 1) := by decide +kernel
theorem dL_isSound_113 : decode cL_isSound 113 = .ok (.if_icmp .lt 59, 3) := by decide +kernel
theorem dL_isSound_116 : decode cL_isSound 116 = .ok (.aload_n 0, 1) := by decide +kernel
theorem dL_isSound_117 : decode cL_isSound 117 = .ok (.iload_n 2, 1) := by decide +kernel
theorem dL_isSound_118 : decode cL_isSound 118 = .ok (.invokevirtual 115, 3) := by decide +kernel
theorem dL_isSound_121 : decode cL_isSound 121 = .ok (.bipush 60, 2) := by decide +kernel
theorem dL_isSound_123 : decode cL_isSound 123 = .ok (.if_icmp .gt 49, 3) := by decide +kernel
theorem dL_isSound_126 : decode cL_isSound 126 = .ok (.aload_n 0, 1) := by decide +kernel
theorem dL_isSound_127 : decode cL_isSound 127 = .ok (.iload_n 2, 1) := by decide +kernel
theorem dL_isSound_128 : decode cL_isSound 128 = .ok (.invokevirtual 118, 3) := by decide +kernel
theorem dL_isSound_131 : decode cL_isSound 131 = .ok (.ifCond .lt 41, 3) := by decide +kernel
theorem dL_isSound_134 : decode cL_isSound 134 = .ok (.aload_n 0, 1) := by decide +kernel
theorem dL_isSound_135 : decode cL_isSound 135 = .ok (.iload_n 2, 1) := by decide +kernel
theorem dL_isSound_136 : decode cL_isSound 136 = .ok (.invokevirtual 118, 3) := by decide +kernel
theorem dL_isSound_139 : decode cL_isSound 139 = .ok (.bipush 6, 2) := by decide +kernel
theorem dL_isSound_141 : decode cL_isSound 141 = .ok (.if_icmp .gt 31, 3) := by decide +kernel
theorem dL_isSound_144 : decode cL_isSound 144 = .ok (.aload_n 0, 1) := by decide +kernel
theorem dL_isSound_145 : decode cL_isSound 145 = .ok (.iload_n 2, 1) := by decide +kernel
theorem dL_isSound_146 : decode cL_isSound 146 = .ok (.invokevirtual 118, 3) := by decide +kernel
theorem dL_isSound_149 : decode cL_isSound 149 = .ok (.bipush 6, 2) := by decide +kernel
theorem dL_isSound_151 : decode cL_isSound 151 = .ok (.if_icmp .ne 7, 3) := by decide +kernel
theorem dL_isSound_154 : decode cL_isSound 154 = .ok (.iconst 1, 1) := by decide +kernel
theorem dL_isSound_155 : decode cL_isSound 155 = .ok (.goto 4, 3) := by decide +kernel
theorem dL_isSound_158 : decode cL_isSound 158 = .ok (.iconst 0, 1) := by decide +kernel
theorem dL_isSound_159 : decode cL_isSound 159 = .ok (.iload_n 3, 1) := by decide +kernel
theorem dL_isSound_160 : decode cL_isSound 160 = .ok (.iconst 3, 1) := by decide +kernel
theorem dL_isSound_161 : decode cL_isSound 161 = .ok (.if_icmp .ne 7, 3) := by decide +kernel
theorem dL_isSound_164 : decode cL_isSound 164 = .ok (.iconst 1, 1) := by decide +kernel
theorem dL_isSound_165 : decode cL_isSound 165 = .ok (.goto 4, 3) := by decide +kernel
theorem dL_isSound_168 : decode cL_isSound 168 = .ok (.iconst 0, 1) := by decide +kernel
theorem dL_isSound_169 : decode cL_isSound 169 = .ok (.if_icmp .eq 5, 3) := by decide +kernel
theorem dL_isSound_172 : decode cL_isSound 172 = .ok (.iconst 0, 1) := by decide +kernel
theorem dL_isSound_173 : decode cL_isSound 173 = .ok (.ireturn, 1) := by decide +kernel
theorem dL_isSound_174 : decode cL_isSound 174 = .ok (.iload_n 3, 1) := by decide +kernel
theorem dL_isSound_175 : decode cL_isSound 175 = .ok (.iconst 2, 1) := by decide +kernel
theorem dL_isSound_176 : decode cL_isSound 176 = .ok (.if_icmp .ne 40, 3) := by decide +kernel
theorem dL_isSound_179 : decode cL_isSound 179 = .ok (.aload_n 0, 1) := by decide +kernel
theorem dL_isSound_180 : decode cL_isSound 180 = .ok (.iload_n 2, 1) := by decide +kernel
theorem dL_isSound_181 : decode cL_isSound 181 = .ok (.invokevirtual 103, 3) := by decide +kernel
theorem dL_isSound_184 : decode cL_isSound 184 = .ok (.aload_n 0, 1) := by decide +kernel
theorem dL_isSound_185 : decode cL_isSound 185 = .ok (.iload_n 2, 1) := by decide +kernel
theorem dL_isSound_186 : decode cL_isSound 186 = .ok (.invokevirtual 61, 3) := by decide +kernel
theorem dL_isSound_189 : decode cL_isSound 189 = .ok (.iconst 1, 1) := by decide +kernel
theorem dL_isSound_190 : decode cL_isSound 190 = .ok (.iadd, 1) := by decide +kernel
theorem dL_isSound_191 : decode cL_isSound 191 = .ok (.if_icmp .ne 71, 3) := by decide +kernel
theorem dL_isSound_194 : decode cL_isSound 194 = .ok (.aload_n 0, 1) := by decide +kernel
theorem dL_isSound_195 : decode cL_isSound 195 = .ok (.iload_n 2, 1) := by decide +kernel
theorem dL_isSound_196 : decode cL_isSound 196 = .ok (.invokevirtual 121, 3) := by decide +kernel
theorem dL_isSound_199 : decode cL_isSound 199 = .ok (.iconst (-1), 1) := by decide +kernel
theorem dL_isSound_200 : decode cL_isSound 200 = .ok (.if_icmp .ne 62, 3) := by decide +kernel
theorem dL_isSound_203 : decode cL_isSound 203 = .ok (.aload_n 0, 1) := by decide +kernel
theorem dL_isSound_204 : decode cL_isSound 204 = .ok (.iload_n 2, 1) := by decide +kernel
theorem dL_isSound_205 : decode cL_isSound 205 = .ok (.invokevirtual 106, 3) := by decide +kernel
theorem dL_isSound_208 : decode cL_isSound 208 = .ok (.aload_n 0, 1) := by decide +kernel
theorem dL_isSound_209 : decode cL_isSound 209 = .ok (.iload_n 2, 1) := by decide +kernel
theorem dL_isSound_210 : decode cL_isSound 210 = .ok (.invokevirtual 103, 3) := by decide +kernel
theorem dL_isSound_213 : decode cL_isSound 213 = .ok (.if_icmp .ne 49, 3) := by decide +kernel
theorem dL_isSound_216 : decode cL_isSound 216 = .ok (.iload_n 3, 1) := by decide +kernel
theorem dL_isSound_217 : decode cL_isSound 217 = .ok (.iconst 3, 1) := by decide +kernel
theorem dL_isSound_218 : decode cL_isSound 218 = .ok (.if_icmp .ne 12, 3) := by decide +kernel
theorem dL_isSound_221 : decode cL_isSound 221 = .ok (.aload_n 0, 1) := by decide +kernel
theorem dL_isSound_222 : decode cL_isSound 222 = .ok (.iload_n 2, 1) := by decide +kernel
theorem dL_isSound_223 : decode cL_isSound 223 = .ok (.invokevirtual 121, 3) := by decide +kernel
theorem dL_isSound_226 : decode cL_isSound 226 = .ok (.iconst (-1), 1) := by decide +kernel
theorem dL_isSound_227 : decode cL_isSound 227 = .ok (.if_icmp .ne 35, 3) := by decide +kernel
theorem dL_isSound_230 : decode cL_isSound 230 = .ok (.iload_n 3, 1) := by decide +kernel
theorem dL_isSound_231 : decode cL_isSound 231 = .ok (.ifCond .ne 11, 3) := by decide +kernel
theorem dL_isSound_234 : decode cL_isSound 234 = .ok (.aload_n 0, 1) := by decide +kernel
theorem dL_isSound_235 : decode cL_isSound 235 = .ok (.iload_n 2, 1) := by decide +kernel
theorem dL_isSound_236 : decode cL_isSound 236 = .ok (.invokevirtual 109, 3) := by decide +kernel
theorem dL_isSound_239 : decode cL_isSound 239 = .ok (.ifCond .ne 23, 3) := by decide +kernel
theorem dL_isSound_242 : decode cL_isSound 242 = .ok (.aload_n 0, 1) := by decide +kernel
theorem dL_isSound_243 : decode cL_isSound 243 = .ok (.iload_n 2, 1) := by decide +kernel
theorem dL_isSound_244 : decode cL_isSound 244 = .ok (.invokevirtual 121, 3) := by decide +kernel
theorem dL_isSound_247 : decode cL_isSound 247 = .ok (.ifCond .lt 17, 3) := by decide +kernel
theorem dL_isSound_250 : decode cL_isSound 250 = .ok (.aload_n 0, 1) := by decide +kernel
theorem dL_isSound_251 : decode cL_isSound 251 = .ok (.iload_n 2, 1) := by decide +kernel
theorem dL_isSound_252 : decode cL_isSound 252 = .ok (.invokevirtual 121, 3) := by decide +kernel
theorem dL_isSound_255 : decode cL_isSound 255 = .ok (.aload_n 0, 1) := by decide +kernel
theorem dL_isSound_256 : decode cL_isSound 256 = .ok (.invokevirtual 50, 3) := by decide +kernel
theorem dL_isSound_259 : decode cL_isSound 259 = .ok (.if_icmp .gt 5, 3) := by decide +kernel
theorem dL_isSound_262 : decode cL_isSound 262 = .ok (.iconst 0, 1) := by decide +kernel
theorem dL_isSound_263 : decode cL_isSound 263 = .ok (.ireturn, 1) := by decide +kernel
theorem dL_isSound_264 : decode cL_isSound 264 = .ok (.aload_n 0, 1) := by decide +kernel
theorem dL_isSound_265 : decode cL_isSound 265 = .ok (.iload_n 2, 1) := by decide +kernel
theorem dL_isSound_266 : decode cL_isSound 266 = .ok (.invokevirtual 124, 3) := by decide +kernel
theorem dL_isSound_269 : decode cL_isSound 269 = .ok (.ifCond .lt 34, 3) := by decide +kernel
theorem dL_isSound_272 : decode cL_isSound 272 = .ok (.aload_n 0, 1) := by decide +kernel
theorem dL_isSound_273 : decode cL_isSound 273 = .ok (.iload_n 2, 1) := by decide +kernel
theorem dL_isSound_274 : decode cL_isSound 274 = .ok (.invokevirtual 124, 3) := by decide +kernel
theorem dL_isSound_277 : decode cL_isSound 277 = .ok (.aload_n 0, 1) := by decide +kernel
theorem dL_isSound_278 : decode cL_isSound 278 = .ok (.iload_n 2, 1) := by decide +kernel
theorem dL_isSound_279 : decode cL_isSound 279 = .ok (.invokevirtual 103, 3) := by decide +kernel
theorem dL_isSound_282 : decode cL_isSound 282 = .ok (.if_icmp .ge 8, 3) := by decide +kernel
theorem dL_isSound_285 : decode cL_isSound 285 = .ok (.iload_n 3, 1) := by decide +kernel
theorem dL_isSound_286 : decode cL_isSound 286 = .ok (.iconst 1, 1) := by decide +kernel
theorem dL_isSound_287 : decode cL_isSound 287 = .ok (.if_icmp .eq 42, 3) := by decide +kernel
theorem dL_isSound_290 : decode cL_isSound 290 = .ok (.aload_n 0, 1) := by decide +kernel
theorem dL_isSound_291 : decode cL_isSound 291 = .ok (.iload_n 2, 1) := by decide +kernel
theorem dL_isSound_292 : decode cL_isSound 292 = .ok (.invokevirtual 124, 3) := by decide +kernel
theorem dL_isSound_295 : decode cL_isSound 295 = .ok (.aload_n 0, 1) := by decide +kernel
theorem dL_isSound_296 : decode cL_isSound 296 = .ok (.iload_n 2, 1) := by decide +kernel
theorem dL_isSound_297 : decode cL_isSound 297 = .ok (.invokevirtual 109, 3) := by decide +kernel
theorem dL_isSound_300 : decode cL_isSound 300 = .ok (.if_icmp .ge 29, 3) := by decide +kernel
theorem dL_isSound_303 : decode cL_isSound 303 = .ok (.aload_n 0, 1) := by decide +kernel
theorem dL_isSound_304 : decode cL_isSound 304 = .ok (.iload_n 2, 1) := by decide +kernel
theorem dL_isSound_305 : decode cL_isSound 305 = .ok (.invokevirtual 127, 3) := by decide +kernel
theorem dL_isSound_308 : decode cL_isSound 308 = .ok (.aload_n 0, 1) := by decide +kernel
theorem dL_isSound_309 : decode cL_isSound 309 = .ok (.iload_n 2, 1) := by decide +kernel
theorem dL_isSound_310 : decode cL_isSound 310 = .ok (.invokevirtual 109, 3) := by decide +kernel
theorem dL_isSound_313 : decode cL_isSound 313 = .ok (.if_icmp .ge 16, 3) := by decide +kernel
theorem dL_isSound_316 : decode cL_isSound 316 = .ok (.aload_n 0, 1) := by decide +kernel
theorem dL_isSound_317 : decode cL_isSound 317 = .ok (.iload_n 2, 1) := by decide +kernel
theorem dL_isSound_318 : decode cL_isSound 318 = .ok (.aload_n 0, 1) := by decide +kernel
theorem dL_isSound_319 : decode cL_isSound 319 = .ok (.iload_n 2, 1) := by decide +kernel
theorem dL_isSound_320 : decode cL_isSound 320 = .ok (.invokevirtual 106, 3) := by decide +kernel
theorem dL_isSound_323 : decode cL_isSound 323 = .ok (.invokevirtual 130, 3) := by decide +kernel
theorem dL_isSound_326 : decode cL_isSound 326 = .ok (.ifCond .eq 5, 3) := by decide +kernel
theorem dL_isSound_329 : decode cL_isSound 329 = .ok (.iconst 0, 1) := by decide +kernel
theorem dL_isSound_330 : decode cL_isSound 330 = .ok (.ireturn, 1) := by decide +kernel
theorem dL_isSound_331 : decode cL_isSound 331 = .ok (.iinc 2 1, 3) := by decide +kernel
theorem dL_isSound_334 : decode cL_isSound 334 = .ok (.goto (-332), 3) := by decide +kernel
theorem dL_isSound_337 : decode cL_isSound 337 = .ok (.iconst 0, 1) := by decide +kernel
theorem dL_isSound_338 : decode cL_isSound 338 = .ok (.istore_n 2, 1) := by decide +kernel
theorem dL_isSound_339 : decode cL_isSound 339 = .ok (.iconst 0, 1) := by decide +kernel
theorem dL_isSound_340 : decode cL_isSound 340 = .ok (.istore_n 3, 1) := by decide +kernel
theorem dL_isSound_341 : decode cL_isSound 341 = .ok (.iload_n 3, 1) := by decide +kernel
theorem dL_isSound_342 : decode cL_isSound 342 = .ok (.aload_n 0, 1) := by decide +kernel
theorem dL_isSound_343 : decode cL_isSound 343 = .ok (.invokevirtual 82, 3) := by decide +kernel
theorem dL_isSound_346 : decode cL_isSound 346 = .ok (.if_icmp .ge 85, 3) := by decide +kernel
theorem dL_isSound_349 : decode cL_isSound 349 = .ok (.iconst 0, 1) := by decide +kernel
theorem dL_isSound_350 : decode cL_isSound 350 = .ok (.istore 4, 2) := by decide +kernel
theorem dL_isSound_352 : decode cL_isSound 352 = .ok (.iload 4, 2) := by decide +kernel
theorem dL_isSound_354 : decode cL_isSound 354 = .ok (.iconst 2, 1) := by decide +kernel
theorem dL_isSound_355 : decode cL_isSound 355 = .ok (.if_icmp .ge 70, 3) := by decide +kernel
theorem dL_isSound_358 : decode cL_isSound 358 = .ok (.aload_n 0, 1) := by decide +kernel
theorem dL_isSound_359 : decode cL_isSound 359 = .ok (.iload_n 3, 1) := by decide +kernel
theorem dL_isSound_360 : decode cL_isSound 360 = .ok (.iload 4, 2) := by decide +kernel
theorem dL_isSound_362 : decode cL_isSound 362 = .ok (.invokevirtual 134, 3) := by decide +kernel
theorem dL_isSound_365 : decode cL_isSound 365 = .ok (.aload_n 0, 1) := by decide +kernel
theorem dL_isSound_366 : decode cL_isSound 366 = .ok (.iload_n 3, 1) := by decide +kernel
theorem dL_isSound_367 : decode cL_isSound 367 = .ok (.iload 4, 2) := by decide +kernel
theorem dL_isSound_369 : decode cL_isSound 369 = .ok (.invokevirtual 137, 3) := by decide +kernel
theorem dL_isSound_372 : decode cL_isSound 372 = .ok (.iadd, 1) := by decide +kernel
theorem dL_isSound_373 : decode cL_isSound 373 = .ok (.istore 5, 2) := by decide +kernel
theorem dL_isSound_375 : decode cL_isSound 375 = .ok (.aload_n 0, 1) := by decide +kernel
theorem dL_isSound_376 : decode cL_isSound 376 = .ok (.iload_n 3, 1) := by decide +kernel
theorem dL_isSound_377 : decode cL_isSound 377 = .ok (.invokevirtual 140, 3) := by decide +kernel
theorem dL_isSound_380 : decode cL_isSound 380 = .ok (.ifCond .ne 8, 3) := by decide +kernel
theorem dL_isSound_383 : decode cL_isSound 383 = .ok (.iload 5, 2) := by decide +kernel
theorem dL_isSound_385 : decode cL_isSound 385 = .ok (.ifCond .gt 27, 3) := by decide +kernel
theorem dL_isSound_388 : decode cL_isSound 388 = .ok (.aload_n 0, 1) := by decide +kernel
theorem dL_isSound_389 : decode cL_isSound 389 = .ok (.iload_n 3, 1) := by decide +kernel
theorem dL_isSound_390 : decode cL_isSound 390 = .ok (.iload 4, 2) := by decide +kernel
theorem dL_isSound_392 : decode cL_isSound 392 = .ok (.invokevirtual 134, 3) := by decide +kernel
theorem dL_isSound_395 : decode cL_isSound 395 = .ok (.bipush 20, 2) := by decide +kernel
theorem dL_isSound_397 : decode cL_isSound 397 = .ok (.if_icmp .gt 15, 3) := by decide +kernel
theorem dL_isSound_400 : decode cL_isSound 400 = .ok (.aload_n 0, 1) := by decide +kernel
theorem dL_isSound_401 : decode cL_isSound 401 = .ok (.iload_n 3, 1) := by decide +kernel
theorem dL_isSound_402 : decode cL_isSound 402 = .ok (.iload 4, 2) := by decide +kernel
theorem dL_isSound_404 : decode cL_isSound 404 = .ok (.invokevirtual 137, 3) := by decide +kernel
theorem dL_isSound_407 : decode cL_isSound 407 = .ok (.bipush 9, 2) := by decide +kernel
theorem dL_isSound_409 : decode cL_isSound 409 = .ok (.if_icmp .le 5, 3) := by decide +kernel
theorem dL_isSound_412 : decode cL_isSound 412 = .ok (.iconst 0, 1) := by decide +kernel
theorem dL_isSound_413 : decode cL_isSound 413 = .ok (.ireturn, 1) := by decide +kernel
theorem dL_isSound_414 : decode cL_isSound 414 = .ok (.iload_n 2, 1) := by decide +kernel
theorem dL_isSound_415 : decode cL_isSound 415 = .ok (.iload 5, 2) := by decide +kernel
theorem dL_isSound_417 : decode cL_isSound 417 = .ok (.iadd, 1) := by decide +kernel
theorem dL_isSound_418 : decode cL_isSound 418 = .ok (.istore_n 2, 1) := by decide +kernel
theorem dL_isSound_419 : decode cL_isSound 419 = .ok (.iinc 4 1, 3) := by decide +kernel
theorem dL_isSound_422 : decode cL_isSound 422 = .ok (.goto (-70), 3) := by decide +kernel
theorem dL_isSound_425 : decode cL_isSound 425 = .ok (.iinc 3 1, 3) := by decide +kernel
theorem dL_isSound_428 : decode cL_isSound 428 = .ok (.goto (-87), 3) := by decide +kernel
theorem dL_isSound_431 : decode cL_isSound 431 = .ok (.iconst 0, 1) := by decide +kernel
theorem dL_isSound_432 : decode cL_isSound 432 = .ok (.istore_n 3, 1) := by decide +kernel
theorem dL_isSound_433 : decode cL_isSound 433 = .ok (.iload_n 3, 1) := by decide +kernel
theorem dL_isSound_434 : decode cL_isSound 434 = .ok (.iload_n 1, 1) := by decide +kernel
theorem dL_isSound_435 : decode cL_isSound 435 = .ok (.if_icmp .ge 79, 3) := by decide +kernel
theorem dL_isSound_438 : decode cL_isSound 438 = .ok (.aload_n 0, 1) := by decide +kernel
theorem dL_isSound_439 : decode cL_isSound 439 = .ok (.iload_n 3, 1) := by decide +kernel
theorem dL_isSound_440 : decode cL_isSound 440 = .ok (.iconst 0, 1) := by decide +kernel
theorem dL_isSound_441 : decode cL_isSound 441 = .ok (.invokevirtual 144, 3) := by decide +kernel
theorem dL_isSound_444 : decode cL_isSound 444 = .ok (.istore 4, 2) := by decide +kernel
theorem dL_isSound_446 : decode cL_isSound 446 = .ok (.iload 4, 2) := by decide +kernel
theorem dL_isSound_448 : decode cL_isSound 448 = .ok (.ifCond .ge 7, 3) := by decide +kernel
theorem dL_isSound_451 : decode cL_isSound 451 = .ok (.iconst 1, 1) := by decide +kernel
theorem dL_isSound_452 : decode cL_isSound 452 = .ok (.goto 4, 3) := by decide +kernel
theorem dL_isSound_455 : decode cL_isSound 455 = .ok (.iconst 0, 1) := by decide +kernel
theorem dL_isSound_456 : decode cL_isSound 456 = .ok (.iload_n 3, 1) := by decide +kernel
theorem dL_isSound_457 : decode cL_isSound 457 = .ok (.ifCond .eq 12, 3) := by decide +kernel
theorem dL_isSound_460 : decode cL_isSound 460 = .ok (.aload_n 0, 1) := by decide +kernel
theorem dL_isSound_461 : decode cL_isSound 461 = .ok (.iload_n 3, 1) := by decide +kernel
theorem dL_isSound_462 : decode cL_isSound 462 = .ok (.iconst 0, 1) := by decide +kernel
theorem dL_isSound_463 : decode cL_isSound 463 = .ok (.invokevirtual 147, 3) := by decide +kernel
theorem dL_isSound_466 : decode cL_isSound 466 = .ok (.ifCond .ge 7, 3) := by decide +kernel
theorem dL_isSound_469 : decode cL_isSound 469 = .ok (.iconst 1, 1) := by decide +kernel
theorem dL_isSound_470 : decode cL_isSound 470 = .ok (.goto 4, 3) := by decide +kernel
theorem dL_isSound_473 : decode cL_isSound 473 = .ok (.iconst 0, 1) := by decide +kernel
theorem dL_isSound_474 : decode cL_isSound 474 = .ok (.if_icmp .ne 32, 3) := by decide +kernel
theorem dL_isSound_477 : decode cL_isSound 477 = .ok (.aload_n 0, 1) := by decide +kernel
theorem dL_isSound_478 : decode cL_isSound 478 = .ok (.iload_n 3, 1) := by decide +kernel
theorem dL_isSound_479 : decode cL_isSound 479 = .ok (.iconst 0, 1) := by decide +kernel
theorem dL_isSound_480 : decode cL_isSound 480 = .ok (.invokevirtual 147, 3) := by decide +kernel
theorem dL_isSound_483 : decode cL_isSound 483 = .ok (.aload_n 0, 1) := by decide +kernel
theorem dL_isSound_484 : decode cL_isSound 484 = .ok (.iconst 0, 1) := by decide +kernel
theorem dL_isSound_485 : decode cL_isSound 485 = .ok (.iload_n 3, 1) := by decide +kernel
theorem dL_isSound_486 : decode cL_isSound 486 = .ok (.invokevirtual 147, 3) := by decide +kernel
theorem dL_isSound_489 : decode cL_isSound 489 = .ok (.if_icmp .ne 17, 3) := by decide +kernel
theorem dL_isSound_492 : decode cL_isSound 492 = .ok (.iload 4, 2) := by decide +kernel
theorem dL_isSound_494 : decode cL_isSound 494 = .ok (.ifCond .lt 14, 3) := by decide +kernel
theorem dL_isSound_497 : decode cL_isSound 497 = .ok (.aload_n 0, 1) := by decide +kernel
theorem dL_isSound_498 : decode cL_isSound 498 = .ok (.iload 4, 2) := by decide +kernel
theorem dL_isSound_500 : decode cL_isSound 500 = .ok (.invokevirtual 140, 3) := by decide +kernel
theorem dL_isSound_503 : decode cL_isSound 503 = .ok (.ifCond .ne 5, 3) := by decide +kernel
theorem dL_isSound_506 : decode cL_isSound 506 = .ok (.iconst 0, 1) := by decide +kernel
theorem dL_isSound_507 : decode cL_isSound 507 = .ok (.ireturn, 1) := by decide +kernel
theorem dL_isSound_508 : decode cL_isSound 508 = .ok (.iinc 3 1, 3) := by decide +kernel
theorem dL_isSound_511 : decode cL_isSound 511 = .ok (.goto (-78), 3) := by decide +kernel
theorem dL_isSound_514 : decode cL_isSound 514 = .ok (.aload_n 0, 1) := by decide +kernel
theorem dL_isSound_515 : decode cL_isSound 515 = .ok (.invokevirtual 150, 3) := by decide +kernel
theorem dL_isSound_518 : decode cL_isSound 518 = .ok (.iload_n 2, 1) := by decide +kernel
theorem dL_isSound_519 : decode cL_isSound 519 = .ok (.if_icmp .ne 7, 3) := by decide +kernel
theorem dL_isSound_522 : decode cL_isSound 522 = .ok (.iconst 1, 1) := by decide +kernel
theorem dL_isSound_523 : decode cL_isSound 523 = .ok (.goto 4, 3) := by decide +kernel
theorem dL_isSound_526 : decode cL_isSound 526 = .ok (.iconst 0, 1) := by decide +kernel
theorem dL_isSound_527 : decode cL_isSound 527 = .ok (.ireturn, 1) := by decide +kernel

