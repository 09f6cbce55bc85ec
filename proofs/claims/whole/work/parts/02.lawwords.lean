set_option maxRecDepth 20000 in
theorem lwp_1 : GoodIn lw_tbl wsL_law_r1 := goodIn_r _ [20, 21, 14, 328, 329, 15, 499, 22, 23, 24, 25, 26, 27, 28, 32, 30, 33, 34, 35, 330, 331, 332, 333, 407] (by decide +kernel) (by decide +kernel)
set_option maxRecDepth 20000 in
theorem lwp_2 : GoodIn lw_tbl wsL_law_r2 := goodIn_r _ [335, 408, 336, 337, 338, 409, 339, 340, 342, 343, 344, 345, 346, 347, 348, 349, 350, 351, 352, 353, 354, 355, 356, 357] (by decide +kernel) (by decide +kernel)
set_option maxRecDepth 20000 in
theorem lwp_3 : GoodIn lw_tbl wsL_law_r3 := goodIn_r _ [45, 46, 47, 48, 49, 16, 50, 51, 52, 53, 54, 56, 57, 58, 410, 411, 412, 413, 334, 67, 68, 69, 70, 79] (by decide +kernel) (by decide +kernel)
set_option maxRecDepth 20000 in
theorem lwp_4 : GoodIn lw_tbl wsL_law_r4 := goodIn_r _ [83, 84, 85, 17, 71, 73, 0, 74, 75, 76, 77, 78, 80, 81, 82, 86, 87, 88, 89, 90, 92, 94, 95, 105] (by decide +kernel) (by decide +kernel)
set_option maxRecDepth 20000 in
theorem lwp_5 : GoodIn lw_tbl wsL_law_r5 := goodIn_r _ [106, 107, 108, 414, 415, 416, 417, 418, 419, 109, 110, 111, 112, 117, 18, 59, 113, 114, 115, 116, 118, 119, 120, 121] (by decide +kernel) (by decide +kernel)
set_option maxRecDepth 20000 in
theorem lwp_6 : GoodIn lw_tbl wsL_law_r6 := goodIn_r _ [158, 159, 122, 161, 124, 19, 162, 164, 166, 168, 169, 171, 172, 173, 174, 175, 176, 125, 126, 127, 128, 129, 131, 132] (by decide +kernel) (by decide +kernel)
set_option maxRecDepth 20000 in
theorem lwp_7 : GoodIn lw_tbl wsL_law_r7 := goodIn_r _ [134, 136, 139, 141, 420, 421, 422, 423, 341, 206, 207, 208, 209, 214, 215, 216, 167, 210, 212, 1, 213, 217, 218, 219] (by decide +kernel) (by decide +kernel)
set_option maxRecDepth 20000 in
theorem lwp_8 : GoodIn lw_tbl wsL_law_r8 := goodIn_r _ [220, 130, 221, 222, 223, 224, 225, 226, 227, 228, 229, 230, 231, 233, 2, 234, 239, 235, 236, 237, 238, 240, 242, 3] (by decide +kernel) (by decide +kernel)
set_option maxRecDepth 20000 in
theorem lwp_9 : GoodIn lw_tbl wsL_law_r9 := goodIn_r _ [243, 135, 244, 245, 246, 247, 248, 249, 251, 4, 252, 140, 138, 93, 133, 253, 254, 255, 256, 257, 258, 260, 5, 261] (by decide +kernel) (by decide +kernel)
set_option maxRecDepth 20000 in
theorem lwp_10 : GoodIn lw_tbl wsL_law_r10 := goodIn_r _ [262, 264, 6, 265, 142, 424, 425, 426, 427, 432, 433, 434, 447, 428, 430, 7, 431, 435, 437, 8, 438, 439, 441, 9] (by decide +kernel) (by decide +kernel)
set_option maxRecDepth 20000 in
theorem lwp_11 : GoodIn lw_tbl wsL_law_r11 := goodIn_r _ [442, 443, 445, 10, 446, 448, 449, 451, 11, 452, 453, 455, 12, 456, 266, 267, 268, 269, 457, 458, 459, 460, 270, 271] (by decide +kernel) (by decide +kernel)
set_option maxRecDepth 20000 in
theorem lwp_12 : GoodIn lw_tbl wsL_law_r12 := goodIn_r _ [272, 273, 165, 461, 462, 463, 464, 274, 275, 276, 277, 278, 163, 137, 465, 466, 467, 468, 469, 279, 280, 281, 282, 170] (by decide +kernel) (by decide +kernel)
set_option maxRecDepth 20000 in
theorem lwp_13 : GoodIn lw_tbl wsL_law_r13 := goodIn_r _ [470, 471, 472, 473, 283, 284, 285, 286, 287, 288, 289, 290, 291, 292, 293, 474, 475, 476, 477, 478, 294, 295, 296, 297] (by decide +kernel) (by decide +kernel)
set_option maxRecDepth 20000 in
theorem lwp_14 : GoodIn lw_tbl wsL_law_r14 := goodIn_r _ [298, 299, 300, 301, 302, 479, 480, 481, 482, 303, 304, 305, 306, 160, 483, 484, 485, 486, 307, 308, 309, 310, 311, 487] (by decide +kernel) (by decide +kernel)
set_option maxRecDepth 20000 in
theorem lwp_15 : GoodIn lw_tbl wsL_law_r15 := goodIn_r _ [488, 489, 490, 312, 313, 314, 315, 316, 317, 318, 319, 320, 321, 322, 323, 91, 491, 492, 493, 494, 324, 325, 326, 327] (by decide +kernel) (by decide +kernel)
set_option maxRecDepth 20000 in
theorem lwp_16 : GoodIn lw_tbl wsL_law_r16 := goodIn_r _ [495, 496, 497, 498] (by decide +kernel) (by decide +kernel)
set_option maxRecDepth 20000 in
theorem lwc_0 : GoodIn lw_tbl wsX00 := goodIn_r _ [60, 62, 64] (by decide +kernel) (by decide +kernel)
set_option maxRecDepth 20000 in
theorem lwc_1 : GoodIn lw_tbl wsX10 := goodIn_r _ [177, 179, 181, 183, 185, 187, 189, 191, 193, 195, 197, 199, 201, 203] (by decide +kernel) (by decide +kernel)
set_option maxRecDepth 20000 in
theorem lwc_2 : GoodIn lw_tbl wsX20 := goodIn_r _ [143, 145, 147, 149, 151, 153, 155] (by decide +kernel) (by decide +kernel)
set_option maxRecDepth 20000 in
theorem lwc_3 : GoodIn lw_tbl wsX30 := goodIn_r _ [96, 98, 100, 102] (by decide +kernel) (by decide +kernel)
set_option maxRecDepth 20000 in
theorem lwc_4 : GoodIn lw_tbl wsX40 := goodIn_r _ [36, 38, 40, 42] (by decide +kernel) (by decide +kernel)
set_option maxRecDepth 20000 in
theorem lwc_5 : GoodIn lw_tbl wsX50 := goodIn_r _ [358, 360, 362, 364, 366, 368, 370, 372, 374, 376, 378, 380, 382, 384, 386, 388, 390, 392, 394, 396, 398, 400, 402, 404] (by decide +kernel) (by decide +kernel)
theorem lwp_all : GoodIn lw_tbl wsL_law := goodIn_app (goodIn_app (goodIn_app (goodIn_app (goodIn_app (goodIn_app (goodIn_app (goodIn_app lwp_1 (goodIn_app lwp_2 (goodIn_app lwp_3 (goodIn_app lwp_4 (goodIn_app lwp_5 (goodIn_app lwp_6 (goodIn_app lwp_7 (goodIn_app lwp_8 (goodIn_app lwp_9 (goodIn_app lwp_10 (goodIn_app lwp_11 (goodIn_app lwp_12 (goodIn_app lwp_13 (goodIn_app lwp_14 (goodIn_app lwp_15 (lwp_16)))))))))))))))) lwc_4) lwc_5) lwc_0) lwc_3) lwc_1) lwc_2) (fun w h => absurd h List.not_mem_nil)
theorem wsL_law_in : ∀ w ∈ wsL_law, w ∈ lw_tbl := fun w h => (lwp_all w h).1
theorem inlX0 : ∀ w ∈ wsX00, w ∈ wsL_law := fun _ h => List.mem_append_left _ (List.mem_append_left _ (List.mem_append_left _ (List.mem_append_left _ (List.mem_append_right _ h))))
theorem inX0 : ∀ w ∈ wsX00, w ∈ lw_tbl := fun w h => wsL_law_in w (inlX0 w h)
theorem inlX1 : ∀ w ∈ wsX10, w ∈ wsL_law := fun _ h => List.mem_append_left _ (List.mem_append_left _ (List.mem_append_right _ h))
theorem inX1 : ∀ w ∈ wsX10, w ∈ lw_tbl := fun w h => wsL_law_in w (inlX1 w h)
theorem inlX2 : ∀ w ∈ wsX20, w ∈ wsL_law := fun _ h => List.mem_append_left _ (List.mem_append_right _ h)
theorem inX2 : ∀ w ∈ wsX20, w ∈ lw_tbl := fun w h => wsL_law_in w (inlX2 w h)
theorem inlX3 : ∀ w ∈ wsX30, w ∈ wsL_law := fun _ h => List.mem_append_left _ (List.mem_append_left _ (List.mem_append_left _ (List.mem_append_right _ h)))
theorem inX3 : ∀ w ∈ wsX30, w ∈ lw_tbl := fun w h => wsL_law_in w (inlX3 w h)
theorem inlX4 : ∀ w ∈ wsX40, w ∈ wsL_law := fun _ h => List.mem_append_left _ (List.mem_append_left _ (List.mem_append_left _ (List.mem_append_left _ (List.mem_append_left _ (List.mem_append_left _ (List.mem_append_right _ h))))))
theorem inX4 : ∀ w ∈ wsX40, w ∈ lw_tbl := fun w h => wsL_law_in w (inlX4 w h)
theorem inlX5 : ∀ w ∈ wsX50, w ∈ wsL_law := fun _ h => List.mem_append_left _ (List.mem_append_left _ (List.mem_append_left _ (List.mem_append_left _ (List.mem_append_left _ (List.mem_append_right _ h)))))
theorem inX5 : ∀ w ∈ wsX50, w ∈ lw_tbl := fun w h => wsL_law_in w (inlX5 w h)
set_option maxRecDepth 20000 in
theorem ggL_law_X4_init : GoodIn wsL_law wsX4_init := goodIn_r _ [9, 10, 11, 12, 13, 14, 15, 16, 17, 18, 364, 365, 366, 367] (by decide +kernel) (by decide +kernel)
set_option maxRecDepth 20000 in
theorem gL_law_X4_init : GoodIn wsL_law (wsX4_init) := ggL_law_X4_init
set_option maxRecDepth 20000 in
theorem ggL_law_X5_init : GoodIn wsL_law wsX5_init := goodIn_r _ [21, 22, 11, 12, 23, 24, 25, 26, 27, 28, 29, 30, 31, 32, 33, 34, 35, 36, 37, 38, 39, 40, 41, 42, 43, 44, 45, 46, 47, 368, 369, 370, 371, 372, 373, 374, 375, 376, 377, 378, 379, 380, 381, 382, 383, 384, 385, 386, 387, 388, 389, 390, 391] (by decide +kernel) (by decide +kernel)
set_option maxRecDepth 20000 in
theorem gL_law_X5_init : GoodIn wsL_law (wsX5_init) := ggL_law_X5_init
set_option maxRecDepth 20000 in
theorem ggL_law_X4_recipe : GoodIn wsL_law wsX4_recipe := goodIn_r _ [51, 17, 14, 13, 52, 53, 54, 55, 56, 57, 11, 12, 58, 59, 60, 61, 364, 365, 366, 367, 392, 393, 394] (by decide +kernel) (by decide +kernel)
set_option maxRecDepth 20000 in
theorem gL_law_X4_recipe : GoodIn wsL_law (wsV RL 13 RX4 yX4_recipe wsX4_recipe) := goodIn_app (goodIn_of _ (by decide +kernel)) ggL_law_X4_recipe
set_option maxRecDepth 20000 in
theorem ggL_law_X5_recipe : GoodIn wsL_law wsX5_recipe := goodIn_r _ [65, 66, 368, 369, 370, 371, 372, 373, 374, 375, 376, 377, 378, 379, 380, 381, 382, 383, 384, 385, 386, 387, 388, 389, 390, 391] (by decide +kernel) (by decide +kernel)
set_option maxRecDepth 20000 in
theorem gL_law_X5_recipe : GoodIn wsL_law (wsV RL 17 RX5 yX5_recipe wsX5_recipe) := goodIn_app (goodIn_of _ (by decide +kernel)) ggL_law_X5_recipe
set_option maxRecDepth 20000 in
theorem ggL_law_X4_step : GoodIn wsL_law wsX4_step := goodIn_r _ [70, 71, 72, 73, 74, 75, 76, 77, 78, 2, 79, 17, 14, 80, 81, 82, 53, 83, 61, 60, 59, 84, 85, 86, 87, 88, 89, 90, 11, 12, 91, 92, 93, 94, 95, 96, 97, 98, 395, 396, 397, 398, 364, 365, 366, 367, 392, 393, 394] (by decide +kernel) (by decide +kernel)
set_option maxRecDepth 20000 in
theorem gL_law_X4_step : GoodIn wsL_law (wsV RL 20 RX4 yX4_step wsX4_step) := goodIn_app (goodIn_of _ (by decide +kernel)) ggL_law_X4_step
set_option maxRecDepth 20000 in
theorem ggL_law_X5_step : GoodIn wsL_law wsX5_step := goodIn_r _ [102, 66, 26, 24, 103, 104, 27, 28, 30, 31, 368, 369, 370, 371, 372, 373, 374, 375, 376, 377, 378, 379, 380, 381, 382, 383, 384, 385, 386, 387, 388, 389, 390, 391] (by decide +kernel) (by decide +kernel)
set_option maxRecDepth 20000 in
theorem gL_law_X5_step : GoodIn wsL_law (wsV RL 24 RX5 yX5_step wsX5_step) := goodIn_app (goodIn_of _ (by decide +kernel)) ggL_law_X5_step
set_option maxRecDepth 20000 in
theorem ggL_law_X4_start : GoodIn wsL_law wsX4_start := goodIn_r _ [108, 18, 16, 15, 109, 110, 111, 76, 77, 78, 2, 79, 17, 14, 112, 113, 114, 53, 115, 60, 59, 116, 117, 118, 119, 11, 12, 120, 121, 122, 123, 124, 125, 126, 127, 128, 129, 130, 131, 132, 133, 134, 135, 136, 137, 138, 139, 140, 141, 142, 143, 144, 145, 146, 147, 364, 365, 366, 367, 399, 400, 401, 402, 403, 404, 405, 406, 407, 408, 409, 410, 411, 412, 392, 393, 394, 413, 414, 415, 416, 417, 418, 419] (by decide +kernel) (by decide +kernel)
set_option maxRecDepth 20000 in
theorem gL_law_X4_start : GoodIn wsL_law (wsV RL 25 RX4 yX4_start wsX4_start) := goodIn_app (goodIn_of _ (by decide +kernel)) ggL_law_X4_start
set_option maxRecDepth 20000 in
theorem ggL_law_X5_start : GoodIn wsL_law wsX5_start := goodIn_r _ [151, 66, 24, 152, 26, 32, 33, 34, 47, 368, 369, 370, 371, 372, 373, 374, 375, 376, 377, 378, 379, 380, 381, 382, 383, 384, 385, 386, 387, 388, 389, 390, 391] (by decide +kernel) (by decide +kernel)
set_option maxRecDepth 20000 in
theorem gL_law_X5_start : GoodIn wsL_law (wsV RL 29 RX5 yX5_start wsX5_start) := goodIn_app (goodIn_of _ (by decide +kernel)) ggL_law_X5_start
set_option maxRecDepth 20000 in
theorem ggL_law_X4_tick : GoodIn wsL_law wsX4_tick := goodIn_r _ [156, 157, 158, 159, 160, 161, 162, 163, 2, 164, 18, 16, 84, 85, 86, 165, 166, 167, 110, 168, 126, 169, 129, 128, 170, 171, 172, 173, 174, 175, 176, 75, 177, 91, 93, 94, 178, 179, 180, 181, 182, 183, 134, 135, 136, 184, 185, 186, 187, 188, 189, 190, 191, 192, 132, 193, 133, 194, 195, 196, 197, 198, 199, 200, 201, 202, 203, 204, 205, 120, 127, 206, 207, 113, 114, 53, 115, 60, 59, 208, 209, 210, 211, 212, 213, 214, 215, 123, 122, 124, 125, 131, 137, 138, 139, 140, 11, 12, 141, 142, 143, 144, 145, 146, 147, 216, 217, 218, 219, 130, 220, 399, 400, 401, 402, 403, 404, 405, 406, 407, 408, 409, 410, 411, 412, 364, 365, 366, 367, 413, 414, 415, 416, 417, 418, 419, 395, 396, 397, 398, 392, 393, 394] (by decide +kernel) (by decide +kernel)
set_option maxRecDepth 20000 in
theorem gL_law_X4_tick : GoodIn wsL_law (wsV RL 30 RX4 yX4_tick wsX4_tick) := goodIn_app (goodIn_of _ (by decide +kernel)) ggL_law_X4_tick
set_option maxRecDepth 20000 in
theorem ggL_law_X5_tick : GoodIn wsL_law wsX5_tick := goodIn_r _ [224, 225, 226, 227, 34, 27, 42, 43, 44, 228, 36, 40, 39, 41, 38, 37, 28, 229, 230, 231, 5, 232, 152, 233, 234, 235, 236, 237, 238, 239, 240, 32, 35, 241, 242, 243, 244, 30, 31, 245, 246, 247, 248, 249, 47, 24, 46, 250, 251, 252, 253, 45, 368, 369, 370, 371, 372, 373, 374, 375, 376, 377, 378, 379, 380, 381, 382, 383, 384, 385, 386, 387, 388, 389, 390, 391] (by decide +kernel) (by decide +kernel)
set_option maxRecDepth 20000 in
theorem gL_law_X5_tick : GoodIn wsL_law (wsV RL 34 RX5 yX5_tick wsX5_tick) := goodIn_app (goodIn_of _ (by decide +kernel)) ggL_law_X5_tick
set_option maxRecDepth 20000 in
theorem ggL_law_X4_state : GoodIn wsL_law wsX4_state := goodIn_r _ [257, 160, 161, 162, 163, 2, 164, 18, 16, 399, 400, 401, 402, 403, 404, 405, 406, 407, 408, 409, 410, 411, 412, 364, 365, 366, 367] (by decide +kernel) (by decide +kernel)
set_option maxRecDepth 20000 in
theorem gL_law_X4_state : GoodIn wsL_law (wsV RL 35 RX4 yX4_state wsX4_state) := goodIn_app (goodIn_of _ (by decide +kernel)) ggL_law_X4_state
set_option maxRecDepth 20000 in
theorem ggL_law_X5_state : GoodIn wsL_law wsX5_state := goodIn_r _ [261, 34, 229, 230, 231, 5, 232, 152, 368, 369, 370, 371, 372, 373, 374, 375, 376, 377, 378, 379, 380, 381, 382, 383, 384, 385, 386, 387, 388, 389, 390, 391] (by decide +kernel) (by decide +kernel)
set_option maxRecDepth 20000 in
theorem gL_law_X5_state : GoodIn wsL_law (wsV RL 39 RX5 yX5_state wsX5_state) := goodIn_app (goodIn_of _ (by decide +kernel)) ggL_law_X5_state
set_option maxRecDepth 20000 in
theorem ggL_law_X4_stepOf : GoodIn wsL_law wsX4_stepOf := goodIn_r _ [265, 266, 161, 162, 163, 2, 164, 18, 16, 399, 400, 401, 402, 403, 404, 405, 406, 407, 408, 409, 410, 411, 412, 364, 365, 366, 367] (by decide +kernel) (by decide +kernel)
set_option maxRecDepth 20000 in
theorem gL_law_X4_stepOf : GoodIn wsL_law (wsV RL 40 RX4 yX4_stepOf wsX4_stepOf) := goodIn_app (goodIn_of _ (by decide +kernel)) ggL_law_X4_stepOf
set_option maxRecDepth 20000 in
theorem ggL_law_X5_stepOf : GoodIn wsL_law wsX5_stepOf := goodIn_r _ [270, 35, 229, 230, 231, 5, 232, 152, 368, 369, 370, 371, 372, 373, 374, 375, 376, 377, 378, 379, 380, 381, 382, 383, 384, 385, 386, 387, 388, 389, 390, 391] (by decide +kernel) (by decide +kernel)
set_option maxRecDepth 20000 in
theorem gL_law_X5_stepOf : GoodIn wsL_law (wsV RL 43 RX5 yX5_stepOf wsX5_stepOf) := goodIn_app (goodIn_of _ (by decide +kernel)) ggL_law_X5_stepOf
set_option maxRecDepth 20000 in
theorem ggL_law_X4_counted : GoodIn wsL_law wsX4_counted := goodIn_r _ [274, 275, 276, 277, 161, 162, 163, 2, 164, 18, 16, 399, 400, 401, 402, 403, 404, 405, 406, 407, 408, 409, 410, 411, 412, 413, 414, 415, 416, 417, 418, 419, 364, 365, 366, 367] (by decide +kernel) (by decide +kernel)
set_option maxRecDepth 20000 in
theorem gL_law_X4_counted : GoodIn wsL_law (wsV RL 44 RX4 yX4_counted wsX4_counted) := goodIn_app (goodIn_of _ (by decide +kernel)) ggL_law_X4_counted
set_option maxRecDepth 20000 in
theorem ggL_law_X5_counted : GoodIn wsL_law wsX5_counted := goodIn_r _ [281, 37, 282, 229, 230, 231, 5, 232, 152, 368, 369, 370, 371, 372, 373, 374, 375, 376, 377, 378, 379, 380, 381, 382, 383, 384, 385, 386, 387, 388, 389, 390, 391] (by decide +kernel) (by decide +kernel)
set_option maxRecDepth 20000 in
theorem gL_law_X5_counted : GoodIn wsL_law (wsV RL 48 RX5 yX5_counted wsX5_counted) := goodIn_app (goodIn_of _ (by decide +kernel)) ggL_law_X5_counted
set_option maxRecDepth 20000 in
theorem ggL_law_X4_failed : GoodIn wsL_law wsX4_failed := goodIn_r _ [286, 287, 161, 162, 163, 2, 164, 18, 16, 399, 400, 401, 402, 403, 404, 405, 406, 407, 408, 409, 410, 411, 412, 364, 365, 366, 367] (by decide +kernel) (by decide +kernel)
set_option maxRecDepth 20000 in
theorem gL_law_X4_failed : GoodIn wsL_law (wsV RL 49 RX4 yX4_failed wsX4_failed) := goodIn_app (goodIn_of _ (by decide +kernel)) ggL_law_X4_failed
set_option maxRecDepth 20000 in
theorem ggL_law_X5_failed : GoodIn wsL_law wsX5_failed := goodIn_r _ [291, 45, 229, 230, 231, 5, 232, 152, 368, 369, 370, 371, 372, 373, 374, 375, 376, 377, 378, 379, 380, 381, 382, 383, 384, 385, 386, 387, 388, 389, 390, 391] (by decide +kernel) (by decide +kernel)
set_option maxRecDepth 20000 in
theorem gL_law_X5_failed : GoodIn wsL_law (wsV RL 52 RX5 yX5_failed wsX5_failed) := goodIn_app (goodIn_of _ (by decide +kernel)) ggL_law_X5_failed
set_option maxRecDepth 20000 in
theorem ggL_law_X4_cleaner : GoodIn wsL_law wsX4_cleaner := goodIn_r _ [295, 296, 161, 162, 163, 2, 164, 18, 16, 297, 298, 299, 110, 300, 134, 135, 136, 301, 302, 364, 365, 366, 367, 399, 400, 401, 402, 403, 404, 405, 406, 407, 408, 409, 410, 411, 412] (by decide +kernel) (by decide +kernel)
set_option maxRecDepth 20000 in
theorem gL_law_X4_cleaner : GoodIn wsL_law (wsV RL 53 RX4 yX4_cleaner wsX4_cleaner) := goodIn_app (goodIn_of _ (by decide +kernel)) ggL_law_X4_cleaner
set_option maxRecDepth 20000 in
theorem ggL_law_X5_cleaner : GoodIn wsL_law wsX5_cleaner := goodIn_r _ [306, 307, 42, 43, 44, 225, 229, 230, 231, 5, 232, 152, 368, 369, 370, 371, 372, 373, 374, 375, 376, 377, 378, 379, 380, 381, 382, 383, 384, 385, 386, 387, 388, 389, 390, 391] (by decide +kernel) (by decide +kernel)
set_option maxRecDepth 20000 in
theorem gL_law_X5_cleaner : GoodIn wsL_law (wsV RL 57 RX5 yX5_cleaner wsX5_cleaner) := goodIn_app (goodIn_of _ (by decide +kernel)) ggL_law_X5_cleaner
set_option maxRecDepth 20000 in
theorem ggL_law_X4_interface2 : GoodIn wsL_law wsX4_interface2 := goodIn_r _ [311, 71, 161, 162, 163, 2, 164, 18, 16, 312, 171, 172, 110, 173, 128, 84, 85, 86, 313, 314, 315, 316, 131, 132, 133, 364, 365, 366, 367, 399, 400, 401, 402, 403, 404, 405, 406, 407, 408, 409, 410, 411, 412] (by decide +kernel) (by decide +kernel)
set_option maxRecDepth 20000 in
theorem gL_law_X4_interface2 : GoodIn wsL_law (wsV RL 58 RX4 yX4_interface2 wsX4_interface2) := goodIn_app (goodIn_of _ (by decide +kernel)) ggL_law_X4_interface2
set_option maxRecDepth 20000 in
theorem ggL_law_X5_interface2 : GoodIn wsL_law wsX5_interface2 := goodIn_r _ [320, 103, 40, 41, 233, 234, 235, 5, 236, 34, 229, 230, 231, 232, 152, 368, 369, 370, 371, 372, 373, 374, 375, 376, 377, 378, 379, 380, 381, 382, 383, 384, 385, 386, 387, 388, 389, 390, 391] (by decide +kernel) (by decide +kernel)
set_option maxRecDepth 20000 in
theorem gL_law_X5_interface2 : GoodIn wsL_law (wsV RL 62 RX5 yX5_interface2 wsX5_interface2) := goodIn_app (goodIn_of _ (by decide +kernel)) ggL_law_X5_interface2
set_option maxRecDepth 20000 in
theorem ggL_law_X4_level : GoodIn wsL_law wsX4_level := goodIn_r _ [324, 160, 325, 161, 162, 163, 2, 164, 18, 16, 399, 400, 401, 402, 403, 404, 405, 406, 407, 408, 409, 410, 411, 412, 364, 365, 366, 367] (by decide +kernel) (by decide +kernel)
set_option maxRecDepth 20000 in
theorem gL_law_X4_level : GoodIn wsL_law (wsV RL 63 RX4 yX4_level wsX4_level) := goodIn_app (goodIn_of _ (by decide +kernel)) ggL_law_X4_level
set_option maxRecDepth 20000 in
theorem ggL_law_X5_level : GoodIn wsL_law wsX5_level := goodIn_r _ [329, 34, 33, 229, 230, 231, 5, 232, 152, 368, 369, 370, 371, 372, 373, 374, 375, 376, 377, 378, 379, 380, 381, 382, 383, 384, 385, 386, 387, 388, 389, 390, 391] (by decide +kernel) (by decide +kernel)
set_option maxRecDepth 20000 in
theorem gL_law_X5_level : GoodIn wsL_law (wsV RL 66 RX5 yX5_level wsX5_level) := goodIn_app (goodIn_of _ (by decide +kernel)) ggL_law_X5_level
set_option maxRecDepth 20000 in
theorem ggL_law_X4_breakOff : GoodIn wsL_law wsX4_breakOff := goodIn_r _ [333, 161, 162, 163, 2, 164, 18, 16, 312, 171, 172, 110, 173, 128, 334, 209, 210, 211, 126, 129, 206, 364, 365, 366, 367, 399, 400, 401, 402, 403, 404, 405, 406, 407, 408, 409, 410, 411, 412, 413, 414, 415, 416, 417, 418, 419] (by decide +kernel) (by decide +kernel)
set_option maxRecDepth 20000 in
theorem gL_law_X4_breakOff : GoodIn wsL_law (wsV RL 67 RX4 yX4_breakOff wsX4_breakOff) := goodIn_app (goodIn_of _ (by decide +kernel)) ggL_law_X4_breakOff
set_option maxRecDepth 20000 in
theorem ggL_law_X5_breakOff : GoodIn wsL_law wsX5_breakOff := goodIn_r _ [338, 34, 47, 35, 36, 233, 234, 235, 5, 236, 229, 230, 231, 232, 152, 368, 369, 370, 371, 372, 373, 374, 375, 376, 377, 378, 379, 380, 381, 382, 383, 384, 385, 386, 387, 388, 389, 390, 391] (by decide +kernel) (by decide +kernel)
set_option maxRecDepth 20000 in
theorem gL_law_X5_breakOff : GoodIn wsL_law (wsV RL 71 RX5 yX5_breakOff wsX5_breakOff) := goodIn_app (goodIn_of _ (by decide +kernel)) ggL_law_X5_breakOff
set_option maxRecDepth 20000 in
theorem ggL_law_X4_record : GoodIn wsL_law wsX4_record := goodIn_r _ [342, 161, 162, 163, 2, 164, 18, 16, 343, 344, 345, 110, 346, 127, 123, 347, 348, 349, 125, 350, 141, 351, 147, 142, 143, 364, 365, 366, 367, 399, 400, 401, 402, 403, 404, 405, 406, 407, 408, 409, 410, 411, 412, 413, 414, 415, 416, 417, 418, 419, 395, 396, 397, 398] (by decide +kernel) (by decide +kernel)
set_option maxRecDepth 20000 in
theorem gL_law_X4_record : GoodIn wsL_law (wsV RL 72 RX4 yX4_record wsX4_record) := goodIn_app (goodIn_of _ (by decide +kernel)) ggL_law_X4_record
set_option maxRecDepth 20000 in
theorem ggL_law_X5_record : GoodIn wsL_law wsX5_record := goodIn_r _ [355, 35, 27, 32, 45, 46, 47, 229, 230, 231, 5, 232, 152, 368, 369, 370, 371, 372, 373, 374, 375, 376, 377, 378, 379, 380, 381, 382, 383, 384, 385, 386, 387, 388, 389, 390, 391] (by decide +kernel) (by decide +kernel)
set_option maxRecDepth 20000 in
theorem gL_law_X5_record : GoodIn wsL_law (wsV RL 76 RX5 yX5_record wsX5_record) := goodIn_app (goodIn_of _ (by decide +kernel)) ggL_law_X5_record
set_option maxRecDepth 20000 in
theorem ggL_law_X4_states : GoodIn wsL_law wsX4_states := goodIn_r _ [359] (by decide +kernel) (by decide +kernel)
set_option maxRecDepth 20000 in
theorem gL_law_X4_states : GoodIn wsL_law (wsV RL 77 RX4 yX4_states wsX4_states) := goodIn_app (goodIn_of _ (by decide +kernel)) ggL_law_X4_states
set_option maxRecDepth 20000 in
theorem ggL_law_X5_states : GoodIn wsL_law wsX5_states := goodIn_r _ [363] (by decide +kernel) (by decide +kernel)
set_option maxRecDepth 20000 in
theorem gL_law_X5_states : GoodIn wsL_law (wsV RL 80 RX5 yX5_states wsX5_states) := goodIn_app (goodIn_of _ (by decide +kernel)) ggL_law_X5_states
