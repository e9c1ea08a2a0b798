/-! THE LAW'S BODY: its callees' words -/
set_option maxRecDepth 20000 in
theorem ggL_law_X5_init : GoodIn wsL_law wsX5_init := goodIn_r _ [10, 11, 12, 13, 14, 15, 16, 17, 18, 19, 20, 21, 22, 23, 24, 25, 26, 27, 28, 29, 30, 31, 32, 33, 34, 35, 36, 37, 38, 39, 40, 41, 42, 43, 44, 45, 46, 47, 48, 49, 50, 51, 52, 53, 54, 55, 788, 789, 772, 773, 774, 775, 776, 790, 791, 792, 793, 794, 795, 796, 797, 798, 799, 800, 801, 802, 803, 804, 805, 806, 807, 808, 809] (by decide +kernel) (by decide +kernel)
set_option maxRecDepth 20000 in
theorem gL_law_X5_init : GoodIn wsL_law (wsX5_init) := ggL_law_X5_init
set_option maxRecDepth 20000 in
theorem ggL_law_X6_init : GoodIn wsL_law wsX6_init := goodIn_r _ [58, 59, 12, 13, 41, 60, 61, 62, 63, 64, 54, 65, 66, 67, 5, 68, 777, 778, 779, 780, 781, 782, 783, 784, 785, 786, 787] (by decide +kernel) (by decide +kernel)
set_option maxRecDepth 20000 in
theorem gL_law_X6_init : GoodIn wsL_law (wsX6_init) := ggL_law_X6_init
set_option maxRecDepth 20000 in
theorem ggL_law_L_append : GoodIn wsL_law wsL_append := goodIn_ca (goodIn_ca (goodIn_r _ [72, 73, 74, 75, 76, 77, 2, 78, 79, 80, 81, 82, 17, 83, 84, 85, 16, 86, 87, 88, 89, 90, 91, 35, 92, 772, 773, 774, 775, 776, 788, 789] (by decide +kernel) (by decide +kernel)) (goodIn_sub (fun _ h => List.mem_append_left _ (List.mem_append_left _ (List.mem_append_right _ h))) (by decide +kernel))) (goodIn_sub (fun _ h => List.mem_append_left _ (List.mem_append_right _ h)) (by decide +kernel))
set_option maxRecDepth 20000 in
theorem gL_law_L_append : GoodIn wsL_law (va_wsS RL 97 yL_append wsL_append) := goodIn_app (goodIn_of _ (by decide +kernel)) ggL_law_L_append
set_option maxRecDepth 20000 in
theorem ggL_law_X6_append : GoodIn wsL_law wsX6_append := goodIn_r _ [96, 97, 98, 60, 99, 100, 5, 101, 102, 103, 104, 105, 106, 777, 778, 779, 780, 781, 782, 783, 784, 785, 786, 787] (by decide +kernel) (by decide +kernel)
set_option maxRecDepth 20000 in
theorem gL_law_X6_append : GoodIn wsL_law (wsV RL 102 RX6 yX6_append wsX6_append) := goodIn_app (goodIn_of _ (by decide +kernel)) ggL_law_X6_append
set_option maxRecDepth 20000 in
theorem ggL_law_X6_thrown : GoodIn wsL_law wsX6_thrown := goodIn_r _ [110, 106, 777, 778, 779, 780, 781, 782, 783, 784, 785, 786, 787] (by decide +kernel) (by decide +kernel)
set_option maxRecDepth 20000 in
theorem gL_law_X6_thrown : GoodIn wsL_law (wsV RL 103 RX6 yX6_thrown wsX6_thrown) := goodIn_app (goodIn_of _ (by decide +kernel)) ggL_law_X6_thrown
set_option maxRecDepth 20000 in
theorem ggL_law_X5_clearText : GoodIn wsL_law wsX5_clearText := goodIn_r _ [114, 17, 115, 116, 117, 16, 118, 87, 772, 773, 774, 775, 776, 788, 789] (by decide +kernel) (by decide +kernel)
set_option maxRecDepth 20000 in
theorem gL_law_X5_clearText : GoodIn wsL_law (wsV RL 106 RX5 yX5_clearText wsX5_clearText) := goodIn_app (goodIn_of _ (by decide +kernel)) ggL_law_X5_clearText
set_option maxRecDepth 20000 in
theorem ggL_law_X6_clearText : GoodIn wsL_law wsX6_clearText := goodIn_r _ [122, 106, 98, 777, 778, 779, 780, 781, 782, 783, 784, 785, 786, 787] (by decide +kernel) (by decide +kernel)
set_option maxRecDepth 20000 in
theorem gL_law_X6_clearText : GoodIn wsL_law (wsV RL 109 RX6 yX6_clearText wsX6_clearText) := goodIn_app (goodIn_of _ (by decide +kernel)) ggL_law_X6_clearText
set_option maxRecDepth 20000 in
theorem ggL_law_X5_errorPosition : GoodIn wsL_law wsX5_errorPosition := goodIn_r _ [126, 17, 127, 128, 129, 16, 130, 87, 131, 132, 133, 134, 135, 136, 137, 138, 35, 139, 140, 141, 142, 143, 144, 145, 146, 147, 148, 149, 150, 772, 773, 774, 775, 776, 788, 789] (by decide +kernel) (by decide +kernel)
set_option maxRecDepth 20000 in
theorem gL_law_X5_errorPosition : GoodIn wsL_law (wsV RL 110 RX5 yX5_errorPosition wsX5_errorPosition) := goodIn_app (goodIn_of _ (by decide +kernel)) ggL_law_X5_errorPosition
set_option maxRecDepth 20000 in
theorem ggL_law_X6_errorPosition : GoodIn wsL_law wsX6_errorPosition := goodIn_r _ [154, 106, 62, 155, 156, 157, 5, 158, 159, 160, 98, 60, 66, 67, 68, 161, 162, 163, 164, 165, 99, 100, 101, 166, 167, 168, 169, 170, 171, 172, 173, 174, 175, 176, 177, 178, 179, 180, 181, 182, 183, 184, 185, 186, 187, 188, 189, 190, 191, 192, 193, 194, 195, 196, 197, 198, 199, 200, 201, 202, 203, 204, 205, 206, 207, 208, 209, 210, 211, 777, 778, 779, 780, 781, 782, 783, 784, 785, 786, 787] (by decide +kernel) (by decide +kernel)
set_option maxRecDepth 20000 in
theorem gL_law_X6_errorPosition : GoodIn wsL_law (wsV RL 113 RX6 yX6_errorPosition wsX6_errorPosition) := goodIn_app (goodIn_of _ (by decide +kernel)) ggL_law_X6_errorPosition
set_option maxRecDepth 20000 in
theorem ggL_law_L_load : GoodIn wsL_law wsL_load := goodIn_ca (goodIn_r _ [214, 74, 215, 216, 217, 2, 218, 81, 82, 17, 26, 30, 21, 127, 128, 129, 16, 130, 87, 131, 132, 133, 134, 135, 136, 137, 138, 35, 139, 140, 141, 142, 143, 144, 145, 146, 147, 148, 149, 150, 219, 220, 221, 25, 222, 223, 224, 225, 226, 29, 227, 55, 228, 229, 230, 20, 231, 39, 40, 232, 233, 234, 235, 236, 237, 238, 239, 240, 241, 242, 243, 244, 245, 246, 42, 43, 247, 248, 249, 250, 251, 252, 253, 254, 255, 256, 257, 258, 259, 260, 261, 262, 263, 264, 265, 266, 267, 268, 269, 270, 271, 272, 273, 274, 275, 276, 277, 278, 279, 280, 281, 282, 283, 284, 285, 286, 287, 288, 289, 290, 291, 292, 293, 294, 295, 296, 297, 298, 299, 300, 301, 302, 303, 304, 305, 306, 307, 308, 309, 310, 311, 312, 313, 314, 315, 316, 317, 318, 772, 773, 774, 775, 776, 788, 789, 805, 806, 807, 808, 809, 790, 791, 792, 793, 794, 795, 796, 797, 798, 799, 800, 801, 802, 803, 804] (by decide +kernel) (by decide +kernel)) (goodIn_sub (fun _ h => List.mem_append_left _ (List.mem_append_right _ h)) (by decide +kernel))
set_option maxRecDepth 20000 in
theorem gL_law_L_load : GoodIn wsL_law (va_wsS RL 114 yL_load wsL_load) := goodIn_app (goodIn_of _ (by decide +kernel)) ggL_law_L_load
set_option maxRecDepth 20000 in
theorem ggL_law_X6_load : GoodIn wsL_law wsX6_load := goodIn_r _ [322, 62, 61, 323, 65, 159, 155, 156, 157, 5, 158, 160, 98, 60, 66, 67, 68, 161, 162, 163, 164, 165, 99, 100, 101, 166, 167, 168, 169, 170, 171, 172, 173, 174, 175, 176, 177, 178, 179, 180, 181, 182, 183, 184, 185, 186, 187, 188, 189, 190, 191, 192, 193, 194, 195, 196, 197, 198, 199, 200, 201, 202, 203, 204, 205, 206, 207, 208, 209, 210, 211, 102, 103, 104, 105, 106, 324, 325, 326, 777, 778, 779, 780, 781, 782, 783, 784, 785, 786, 787] (by decide +kernel) (by decide +kernel)
set_option maxRecDepth 20000 in
theorem gL_law_X6_load : GoodIn wsL_law (wsV RL 117 RX6 yX6_load wsX6_load) := goodIn_app (goodIn_of _ (by decide +kernel)) ggL_law_X6_load
set_option maxRecDepth 20000 in
theorem ggL_law_L_about : GoodIn wsL_law wsL_about := goodIn_ca (goodIn_r _ [329, 73, 330, 331, 332, 2, 333, 79, 80, 21, 334, 335, 336, 20, 337, 236, 238, 239, 240, 241, 242, 243, 246, 244, 245, 338, 339, 340, 341, 43, 342, 343, 344, 345, 346, 347, 348, 349, 350, 351, 352, 772, 773, 774, 775, 776, 790, 791, 792, 793, 794, 795, 796, 797, 798, 799, 800, 801, 802, 803, 804] (by decide +kernel) (by decide +kernel)) (goodIn_sub (fun _ h => List.mem_append_left _ (List.mem_append_left _ (List.mem_append_right _ h))) (by decide +kernel))
set_option maxRecDepth 20000 in
theorem gL_law_L_about : GoodIn wsL_law (va_wsS RL 118 yL_about wsL_about) := goodIn_app (goodIn_of _ (by decide +kernel)) ggL_law_L_about
set_option maxRecDepth 20000 in
theorem ggL_law_X6_about : GoodIn wsL_law wsX6_about := goodIn_r _ [356, 357, 61, 99, 100, 5, 101, 102, 103, 104, 105, 106, 358, 359, 360, 361, 362, 363, 777, 778, 779, 780, 781, 782, 783, 784, 785, 786, 787] (by decide +kernel) (by decide +kernel)
set_option maxRecDepth 20000 in
theorem gL_law_X6_about : GoodIn wsL_law (wsV RL 120 RX6 yX6_about wsX6_about) := goodIn_app (goodIn_of _ (by decide +kernel)) ggL_law_X6_about
set_option maxRecDepth 20000 in
theorem ggL_law_L_read : GoodIn wsL_law wsL_read := goodIn_ca (goodIn_r _ [366, 367, 368, 369, 370, 2, 371, 21, 372, 373, 374, 375, 376, 377, 378, 266, 267, 20, 268, 236, 379, 302, 303, 304, 42, 265, 772, 773, 774, 775, 776, 790, 791, 792, 793, 794, 795, 796, 797, 798, 799, 800, 801, 802, 803, 804] (by decide +kernel) (by decide +kernel)) (goodIn_sub (fun _ h => List.mem_append_right _ h) (by decide +kernel))
set_option maxRecDepth 20000 in
theorem gL_law_L_read : GoodIn wsL_law (va_wsS RL 121 yL_read wsL_read) := goodIn_app (goodIn_of _ (by decide +kernel)) ggL_law_L_read
set_option maxRecDepth 20000 in
theorem ggL_law_X6_read : GoodIn wsL_law wsX6_read := goodIn_r _ [383, 61, 190, 191, 5, 192, 99, 100, 101, 102, 103, 104, 105, 106, 777, 778, 779, 780, 781, 782, 783, 784, 785, 786, 787] (by decide +kernel) (by decide +kernel)
set_option maxRecDepth 20000 in
theorem gL_law_X6_read : GoodIn wsL_law (wsV RL 123 RX6 yX6_read wsX6_read) := goodIn_app (goodIn_of _ (by decide +kernel)) ggL_law_X6_read
set_option maxRecDepth 20000 in
theorem ggL_law_L_place : GoodIn wsL_law wsL_place := goodIn_ca (goodIn_r _ [386, 367, 387, 388, 389, 2, 390, 21, 372, 373, 374, 375, 376, 377, 378, 266, 267, 20, 268, 236, 391, 276, 277, 278, 238, 239, 279, 280, 281, 282, 237, 772, 773, 774, 775, 776, 790, 791, 792, 793, 794, 795, 796, 797, 798, 799, 800, 801, 802, 803, 804] (by decide +kernel) (by decide +kernel)) (goodIn_sub (fun _ h => List.mem_append_right _ h) (by decide +kernel))
set_option maxRecDepth 20000 in
theorem gL_law_L_place : GoodIn wsL_law (va_wsS RL 124 yL_place wsL_place) := goodIn_app (goodIn_of _ (by decide +kernel)) ggL_law_L_place
set_option maxRecDepth 20000 in
theorem ggL_law_X6_place : GoodIn wsL_law wsX6_place := goodIn_r _ [395, 61, 190, 191, 5, 192, 99, 100, 101, 102, 103, 104, 105, 106, 177, 178, 179, 180, 181, 182, 777, 778, 779, 780, 781, 782, 783, 784, 785, 786, 787] (by decide +kernel) (by decide +kernel)
set_option maxRecDepth 20000 in
theorem gL_law_X6_place : GoodIn wsL_law (wsV RL 126 RX6 yX6_place wsX6_place) := goodIn_app (goodIn_of _ (by decide +kernel)) ggL_law_X6_place
set_option maxRecDepth 20000 in
theorem ggL_law_L_line : GoodIn wsL_law wsL_line := goodIn_ca (goodIn_r _ [398, 367, 399, 400, 401, 2, 402, 21, 403, 404, 405, 406, 376, 377, 407, 408, 409, 20, 410, 236, 411, 412, 413, 414, 239, 238, 279, 280, 281, 282, 237, 772, 773, 774, 775, 776, 790, 791, 792, 793, 794, 795, 796, 797, 798, 799, 800, 801, 802, 803, 804] (by decide +kernel) (by decide +kernel)) (goodIn_sub (fun _ h => List.mem_append_right _ h) (by decide +kernel))
set_option maxRecDepth 20000 in
theorem gL_law_L_line : GoodIn wsL_law (va_wsS RL 127 yL_line wsL_line) := goodIn_app (goodIn_of _ (by decide +kernel)) ggL_law_L_line
set_option maxRecDepth 20000 in
theorem ggL_law_X6_line : GoodIn wsL_law wsX6_line := goodIn_r _ [418, 61, 419, 420, 5, 421, 99, 100, 101, 102, 103, 104, 105, 106, 177, 178, 179, 180, 181, 182, 777, 778, 779, 780, 781, 782, 783, 784, 785, 786, 787] (by decide +kernel) (by decide +kernel)
set_option maxRecDepth 20000 in
theorem gL_law_X6_line : GoodIn wsL_law (wsV RL 129 RX6 yX6_line wsX6_line) := goodIn_app (goodIn_of _ (by decide +kernel)) ggL_law_X6_line
set_option maxRecDepth 20000 in
theorem ggL_law_L_wear : GoodIn wsL_law wsL_wear := goodIn_ca (goodIn_r _ [424, 367, 425, 426, 427, 2, 428, 21, 403, 404, 405, 406, 376, 377, 407, 408, 409, 20, 410, 236, 429, 430, 431, 432, 43, 433, 772, 773, 774, 775, 776, 790, 791, 792, 793, 794, 795, 796, 797, 798, 799, 800, 801, 802, 803, 804] (by decide +kernel) (by decide +kernel)) (goodIn_sub (fun _ h => List.mem_append_right _ h) (by decide +kernel))
set_option maxRecDepth 20000 in
theorem gL_law_L_wear : GoodIn wsL_law (va_wsS RL 130 yL_wear wsL_wear) := goodIn_app (goodIn_of _ (by decide +kernel)) ggL_law_L_wear
set_option maxRecDepth 20000 in
theorem ggL_law_X6_wear : GoodIn wsL_law wsX6_wear := goodIn_r _ [437, 61, 419, 420, 5, 421, 99, 100, 101, 102, 103, 104, 105, 106, 777, 778, 779, 780, 781, 782, 783, 784, 785, 786, 787] (by decide +kernel) (by decide +kernel)
set_option maxRecDepth 20000 in
theorem gL_law_X6_wear : GoodIn wsL_law (wsV RL 132 RX6 yX6_wear wsX6_wear) := goodIn_app (goodIn_of _ (by decide +kernel)) ggL_law_X6_wear
set_option maxRecDepth 20000 in
theorem ggL_law_L_setting : GoodIn wsL_law wsL_setting := goodIn_ca (goodIn_r _ [440, 73, 441, 442, 443, 2, 444, 21, 445, 446, 447, 79, 80, 448, 449, 450, 20, 451, 39, 40, 772, 773, 774, 775, 776, 790, 791, 792, 793, 794, 795, 796, 797, 798, 799, 800, 801, 802, 803, 804] (by decide +kernel) (by decide +kernel)) (goodIn_sub (fun _ h => List.mem_append_left _ (List.mem_append_left _ (List.mem_append_right _ h))) (by decide +kernel))
set_option maxRecDepth 20000 in
theorem gL_law_L_setting : GoodIn wsL_law (va_wsS RL 133 yL_setting wsL_setting) := goodIn_app (goodIn_of _ (by decide +kernel)) ggL_law_L_setting
set_option maxRecDepth 20000 in
theorem ggL_law_X6_setting : GoodIn wsL_law wsX6_setting := goodIn_r _ [455, 61, 99, 100, 5, 101, 102, 103, 104, 105, 106, 777, 778, 779, 780, 781, 782, 783, 784, 785, 786, 787] (by decide +kernel) (by decide +kernel)
set_option maxRecDepth 20000 in
theorem gL_law_X6_setting : GoodIn wsL_law (wsV RL 135 RX6 yX6_setting wsX6_setting) := goodIn_app (goodIn_of _ (by decide +kernel)) ggL_law_X6_setting
set_option maxRecDepth 20000 in
theorem ggL_law_L_make : GoodIn wsL_law wsL_make := goodIn_ca (goodIn_r _ [458, 73, 459, 460, 461, 2, 462, 79, 80, 26, 21, 463, 255, 256, 257, 258, 259, 464, 465, 466, 25, 467, 48, 468, 47, 19, 20, 223, 469, 351, 344, 352, 36, 37, 38, 12, 13, 39, 40, 41, 42, 43, 470, 471, 472, 473, 236, 237, 238, 239, 240, 241, 242, 243, 244, 245, 246, 474, 475, 476, 477, 478, 233, 234, 235, 391, 276, 277, 278, 279, 280, 281, 282, 772, 773, 774, 775, 776, 805, 806, 807, 790, 791, 792, 793, 794, 795, 796, 797, 798, 799, 800, 801, 802, 803, 804] (by decide +kernel) (by decide +kernel)) (goodIn_sub (fun _ h => List.mem_append_left _ (List.mem_append_left _ (List.mem_append_right _ h))) (by decide +kernel))
set_option maxRecDepth 20000 in
theorem gL_law_L_make : GoodIn wsL_law (va_wsS RL 136 yL_make wsL_make) := goodIn_app (goodIn_of _ (by decide +kernel)) ggL_law_L_make
set_option maxRecDepth 20000 in
theorem ggL_law_X6_make : GoodIn wsL_law wsX6_make := goodIn_r _ [482, 61, 166, 167, 5, 168, 169, 170, 99, 100, 101, 171, 172, 173, 102, 103, 104, 105, 106, 483, 484, 485, 486, 323, 63, 324, 325, 326, 174, 175, 176, 177, 178, 179, 180, 181, 182, 777, 778, 779, 780, 781, 782, 783, 784, 785, 786, 787] (by decide +kernel) (by decide +kernel)
set_option maxRecDepth 20000 in
theorem gL_law_X6_make : GoodIn wsL_law (wsV RL 139 RX6 yX6_make wsX6_make) := goodIn_app (goodIn_of _ (by decide +kernel)) ggL_law_X6_make
set_option maxRecDepth 20000 in
theorem ggL_law_L_write : GoodIn wsL_law wsL_write := goodIn_ca (goodIn_ca (goodIn_ca (goodIn_r _ [489, 367, 73, 74, 490, 491, 492, 2, 493, 79, 80, 81, 82, 21, 494, 26, 372, 373, 374, 375, 376, 377, 378, 266, 267, 20, 268, 236, 495, 269, 270, 464, 465, 466, 25, 467, 48, 468, 47, 19, 223, 469, 351, 344, 352, 36, 37, 38, 12, 13, 39, 40, 41, 42, 43, 470, 471, 472, 473, 237, 238, 239, 240, 241, 242, 243, 244, 245, 246, 474, 475, 476, 477, 496, 272, 273, 274, 265, 275, 276, 277, 278, 279, 280, 281, 282, 283, 284, 285, 286, 287, 288, 289, 290, 772, 773, 774, 775, 776, 790, 791, 792, 793, 794, 795, 796, 797, 798, 799, 800, 801, 802, 803, 804, 805, 806, 807] (by decide +kernel) (by decide +kernel)) (goodIn_sub (fun _ h => List.mem_append_left _ (List.mem_append_left _ (List.mem_append_right _ h))) (by decide +kernel))) (goodIn_sub (fun _ h => List.mem_append_left _ (List.mem_append_right _ h)) (by decide +kernel))) (goodIn_sub (fun _ h => List.mem_append_right _ h) (by decide +kernel))
set_option maxRecDepth 20000 in
theorem gL_law_L_write : GoodIn wsL_law (va_wsS RL 140 yL_write wsL_write) := goodIn_app (goodIn_of _ (by decide +kernel)) ggL_law_L_write
set_option maxRecDepth 20000 in
theorem ggL_law_X6_write : GoodIn wsL_law wsX6_write := goodIn_r _ [500, 61, 190, 191, 5, 192, 99, 100, 101, 501, 502, 503, 504, 187, 188, 189, 102, 103, 104, 105, 106, 483, 484, 485, 486, 323, 63, 324, 325, 326, 193, 194, 195, 177, 178, 179, 180, 181, 182, 196, 197, 198, 199, 200, 201, 777, 778, 779, 780, 781, 782, 783, 784, 785, 786, 787] (by decide +kernel) (by decide +kernel)
set_option maxRecDepth 20000 in
theorem gL_law_X6_write : GoodIn wsL_law (wsV RL 143 RX6 yX6_write wsX6_write) := goodIn_app (goodIn_of _ (by decide +kernel)) ggL_law_X6_write
set_option maxRecDepth 20000 in
theorem ggL_law_L_hammer : GoodIn wsL_law wsL_hammer := goodIn_ca (goodIn_ca (goodIn_r _ [507, 367, 73, 508, 509, 510, 2, 511, 26, 21, 372, 373, 374, 375, 376, 377, 378, 266, 267, 20, 268, 236, 512, 513, 514, 79, 80, 515, 295, 296, 464, 465, 466, 25, 467, 48, 468, 47, 19, 223, 469, 351, 344, 352, 36, 37, 38, 12, 13, 39, 40, 41, 42, 43, 470, 471, 472, 473, 237, 238, 239, 240, 241, 242, 243, 244, 245, 246, 474, 475, 476, 477, 516, 298, 299, 300, 301, 302, 303, 304, 265, 271, 272, 273, 274, 275, 276, 277, 278, 279, 280, 281, 282, 283, 284, 285, 286, 287, 288, 289, 290, 772, 773, 774, 775, 776, 790, 791, 792, 793, 794, 795, 796, 797, 798, 799, 800, 801, 802, 803, 804, 805, 806, 807] (by decide +kernel) (by decide +kernel)) (goodIn_sub (fun _ h => List.mem_append_right _ h) (by decide +kernel))) (goodIn_sub (fun _ h => List.mem_append_left _ (List.mem_append_left _ (List.mem_append_right _ h))) (by decide +kernel))
set_option maxRecDepth 20000 in
theorem gL_law_L_hammer : GoodIn wsL_law (va_wsS RL 144 yL_hammer wsL_hammer) := goodIn_app (goodIn_of _ (by decide +kernel)) ggL_law_L_hammer
set_option maxRecDepth 20000 in
theorem ggL_law_X6_hammer : GoodIn wsL_law wsX6_hammer := goodIn_r _ [520, 61, 521, 190, 191, 5, 192, 99, 100, 101, 102, 103, 104, 105, 106, 483, 484, 485, 486, 323, 63, 324, 325, 326, 206, 207, 208, 193, 194, 195, 177, 178, 179, 180, 181, 182, 196, 197, 198, 199, 200, 201, 777, 778, 779, 780, 781, 782, 783, 784, 785, 786, 787] (by decide +kernel) (by decide +kernel)
set_option maxRecDepth 20000 in
theorem gL_law_X6_hammer : GoodIn wsL_law (wsV RL 146 RX6 yX6_hammer wsX6_hammer) := goodIn_app (goodIn_of _ (by decide +kernel)) ggL_law_X6_hammer
set_option maxRecDepth 20000 in
theorem ggL_law_L_all : GoodIn wsL_law wsL_all := goodIn_ca (goodIn_ca (goodIn_r _ [524, 73, 74, 525, 526, 527, 2, 528, 79, 80, 26, 21, 529, 530, 309, 310, 531, 532, 533, 534, 81, 82, 535, 312, 313, 20, 314, 236, 464, 465, 466, 25, 467, 48, 468, 47, 19, 223, 469, 351, 344, 352, 36, 37, 38, 12, 13, 39, 40, 41, 42, 43, 470, 471, 472, 473, 237, 238, 239, 240, 241, 242, 243, 244, 245, 246, 474, 475, 476, 477, 536, 316, 317, 318, 301, 302, 303, 304, 265, 266, 267, 268, 271, 272, 273, 274, 275, 276, 277, 278, 279, 280, 281, 282, 283, 284, 285, 286, 287, 288, 289, 290, 772, 773, 774, 775, 776, 790, 791, 792, 793, 794, 795, 796, 797, 798, 799, 800, 801, 802, 803, 804, 805, 806, 807] (by decide +kernel) (by decide +kernel)) (goodIn_sub (fun _ h => List.mem_append_left _ (List.mem_append_left _ (List.mem_append_right _ h))) (by decide +kernel))) (goodIn_sub (fun _ h => List.mem_append_left _ (List.mem_append_right _ h)) (by decide +kernel))
set_option maxRecDepth 20000 in
theorem gL_law_L_all : GoodIn wsL_law (va_wsS RL 147 yL_all wsL_all) := goodIn_app (goodIn_of _ (by decide +kernel)) ggL_law_L_all
set_option maxRecDepth 20000 in
theorem ggL_law_X6_all : GoodIn wsL_law wsX6_all := goodIn_r _ [540, 541, 61, 99, 100, 5, 101, 102, 103, 104, 105, 106, 483, 484, 485, 486, 323, 63, 324, 325, 326, 209, 210, 211, 193, 194, 195, 177, 178, 179, 180, 181, 182, 196, 197, 198, 199, 200, 201, 777, 778, 779, 780, 781, 782, 783, 784, 785, 786, 787] (by decide +kernel) (by decide +kernel)
set_option maxRecDepth 20000 in
theorem gL_law_X6_all : GoodIn wsL_law (wsV RL 149 RX6 yX6_all wsX6_all) := goodIn_app (goodIn_of _ (by decide +kernel)) ggL_law_X6_all
set_option maxRecDepth 20000 in
theorem ggL_law_L_set : GoodIn wsL_law wsL_set := goodIn_ca (goodIn_r _ [544, 73, 545, 546, 547, 2, 548, 79, 80, 26, 21, 549, 550, 551, 464, 465, 466, 25, 467, 48, 468, 47, 19, 20, 223, 469, 351, 344, 352, 36, 37, 38, 12, 13, 39, 40, 41, 42, 43, 470, 471, 472, 473, 236, 237, 238, 239, 240, 241, 242, 243, 244, 245, 246, 474, 475, 476, 477, 448, 449, 450, 451, 552, 553, 554, 555, 772, 773, 774, 775, 776, 805, 806, 807, 790, 791, 792, 793, 794, 795, 796, 797, 798, 799, 800, 801, 802, 803, 804] (by decide +kernel) (by decide +kernel)) (goodIn_sub (fun _ h => List.mem_append_left _ (List.mem_append_left _ (List.mem_append_right _ h))) (by decide +kernel))
set_option maxRecDepth 20000 in
theorem gL_law_L_set : GoodIn wsL_law (va_wsS RL 150 yL_set wsL_set) := goodIn_app (goodIn_of _ (by decide +kernel)) ggL_law_L_set
set_option maxRecDepth 20000 in
theorem ggL_law_X6_set : GoodIn wsL_law wsX6_set := goodIn_r _ [559, 61, 560, 561, 5, 562, 563, 504, 541, 99, 100, 101, 102, 103, 104, 105, 106, 483, 484, 485, 486, 323, 63, 324, 325, 326, 777, 778, 779, 780, 781, 782, 783, 784, 785, 786, 787] (by decide +kernel) (by decide +kernel)
set_option maxRecDepth 20000 in
theorem gL_law_X6_set : GoodIn wsL_law (wsV RL 152 RX6 yX6_set wsX6_set) := goodIn_app (goodIn_of _ (by decide +kernel)) ggL_law_X6_set
set_option maxRecDepth 20000 in
theorem ggL_law_L_undo : GoodIn wsL_law wsL_undo := goodIn_ca (goodIn_r _ [566, 74, 567, 568, 569, 2, 570, 81, 82, 26, 21, 571, 572, 573, 25, 574, 468, 223, 48, 470, 471, 472, 20, 473, 236, 237, 238, 239, 240, 241, 242, 243, 244, 245, 246, 39, 40, 42, 474, 475, 476, 477, 43, 575, 576, 577, 578, 772, 773, 774, 775, 776, 805, 806, 807, 790, 791, 792, 793, 794, 795, 796, 797, 798, 799, 800, 801, 802, 803, 804] (by decide +kernel) (by decide +kernel)) (goodIn_sub (fun _ h => List.mem_append_left _ (List.mem_append_right _ h)) (by decide +kernel))
set_option maxRecDepth 20000 in
theorem gL_law_L_undo : GoodIn wsL_law (va_wsS RL 153 yL_undo wsL_undo) := goodIn_app (goodIn_of _ (by decide +kernel)) ggL_law_L_undo
set_option maxRecDepth 20000 in
theorem ggL_law_X6_undo : GoodIn wsL_law wsX6_undo := goodIn_r _ [582, 323, 63, 61, 102, 103, 104, 5, 105, 106, 324, 325, 326, 777, 778, 779, 780, 781, 782, 783, 784, 785, 786, 787] (by decide +kernel) (by decide +kernel)
set_option maxRecDepth 20000 in
theorem gL_law_X6_undo : GoodIn wsL_law (wsV RL 155 RX6 yX6_undo wsX6_undo) := goodIn_app (goodIn_of _ (by decide +kernel)) ggL_law_X6_undo
set_option maxRecDepth 20000 in
theorem ggL_law_L_life : GoodIn wsL_law wsL_life := goodIn_ca (goodIn_r _ [585, 367, 586, 587, 588, 2, 589, 22, 21, 372, 373, 374, 375, 376, 377, 378, 266, 267, 20, 268, 236, 590, 471, 472, 473, 237, 238, 239, 240, 241, 242, 243, 244, 245, 246, 39, 40, 42, 474, 475, 476, 477, 43, 516, 298, 299, 300, 301, 302, 303, 304, 265, 271, 272, 273, 274, 275, 276, 277, 278, 279, 280, 281, 282, 283, 284, 285, 286, 287, 288, 289, 290, 772, 773, 774, 775, 776, 790, 791, 792, 793, 794, 795, 796, 797, 798, 799, 800, 801, 802, 803, 804] (by decide +kernel) (by decide +kernel)) (goodIn_sub (fun _ h => List.mem_append_right _ h) (by decide +kernel))
set_option maxRecDepth 20000 in
theorem gL_law_L_life : GoodIn wsL_law (va_wsS RL 156 yL_life wsL_life) := goodIn_app (goodIn_of _ (by decide +kernel)) ggL_law_L_life
set_option maxRecDepth 20000 in
theorem ggL_law_X6_life : GoodIn wsL_law wsX6_life := goodIn_r _ [594, 61, 62, 190, 191, 5, 192, 99, 100, 101, 102, 103, 104, 105, 106, 324, 325, 326, 206, 207, 208, 193, 194, 195, 177, 178, 179, 180, 181, 182, 196, 197, 198, 199, 200, 201, 777, 778, 779, 780, 781, 782, 783, 784, 785, 786, 787] (by decide +kernel) (by decide +kernel)
set_option maxRecDepth 20000 in
theorem gL_law_X6_life : GoodIn wsL_law (wsV RL 158 RX6 yX6_life wsX6_life) := goodIn_app (goodIn_of _ (by decide +kernel)) ggL_law_X6_life
set_option maxRecDepth 20000 in
theorem ggL_law_L_lifeOfAll : GoodIn wsL_law wsL_lifeOfAll := goodIn_ca (goodIn_r _ [597, 74, 598, 599, 600, 2, 601, 22, 21, 531, 532, 533, 534, 81, 82, 535, 312, 313, 20, 314, 236, 590, 471, 472, 473, 237, 238, 239, 240, 241, 242, 243, 244, 245, 246, 39, 40, 42, 474, 475, 476, 477, 43, 536, 316, 317, 318, 301, 302, 303, 304, 265, 266, 267, 268, 271, 272, 273, 274, 275, 276, 277, 278, 279, 280, 281, 282, 283, 284, 285, 286, 287, 288, 289, 290, 772, 773, 774, 775, 776, 790, 791, 792, 793, 794, 795, 796, 797, 798, 799, 800, 801, 802, 803, 804] (by decide +kernel) (by decide +kernel)) (goodIn_sub (fun _ h => List.mem_append_left _ (List.mem_append_right _ h)) (by decide +kernel))
set_option maxRecDepth 20000 in
theorem gL_law_L_lifeOfAll : GoodIn wsL_law (va_wsS RL 159 yL_lifeOfAll wsL_lifeOfAll) := goodIn_app (goodIn_of _ (by decide +kernel)) ggL_law_L_lifeOfAll
set_option maxRecDepth 20000 in
theorem ggL_law_X6_lifeOfAll : GoodIn wsL_law wsX6_lifeOfAll := goodIn_r _ [605, 61, 62, 102, 103, 104, 5, 105, 106, 324, 325, 326, 209, 210, 211, 193, 194, 195, 177, 178, 179, 180, 181, 182, 196, 197, 198, 199, 200, 201, 777, 778, 779, 780, 781, 782, 783, 784, 785, 786, 787] (by decide +kernel) (by decide +kernel)
set_option maxRecDepth 20000 in
theorem gL_law_X6_lifeOfAll : GoodIn wsL_law (wsV RL 161 RX6 yX6_lifeOfAll wsX6_lifeOfAll) := goodIn_app (goodIn_of _ (by decide +kernel)) ggL_law_X6_lifeOfAll
set_option maxRecDepth 20000 in
theorem ggL_law_L_ifEvery : GoodIn wsL_law wsL_ifEvery := goodIn_ca (goodIn_ca (goodIn_r _ [608, 367, 73, 609, 610, 611, 2, 612, 79, 80, 372, 373, 374, 375, 376, 377, 21, 378, 266, 267, 20, 268, 236, 512, 513, 514, 515, 295, 296, 613, 614, 615, 616, 22, 617, 590, 471, 472, 473, 237, 238, 239, 240, 241, 242, 243, 244, 245, 246, 39, 40, 42, 474, 475, 476, 477, 43, 516, 298, 299, 300, 301, 302, 303, 304, 265, 271, 272, 273, 274, 275, 276, 277, 278, 279, 280, 281, 282, 283, 284, 285, 286, 287, 288, 289, 290, 618, 339, 340, 341, 342, 343, 344, 345, 772, 773, 774, 775, 776, 790, 791, 792, 793, 794, 795, 796, 797, 798, 799, 800, 801, 802, 803, 804] (by decide +kernel) (by decide +kernel)) (goodIn_sub (fun _ h => List.mem_append_left _ (List.mem_append_left _ (List.mem_append_right _ h))) (by decide +kernel))) (goodIn_sub (fun _ h => List.mem_append_right _ h) (by decide +kernel))
set_option maxRecDepth 20000 in
theorem gL_law_L_ifEvery : GoodIn wsL_law (va_wsS RL 162 yL_ifEvery wsL_ifEvery) := goodIn_app (goodIn_of _ (by decide +kernel)) ggL_law_L_ifEvery
set_option maxRecDepth 20000 in
theorem ggL_law_X6_ifEvery : GoodIn wsL_law wsX6_ifEvery := goodIn_r _ [622, 61, 541, 521, 190, 191, 5, 192, 99, 100, 101, 102, 103, 104, 105, 106, 623, 624, 625, 626, 62, 324, 325, 326, 206, 207, 208, 193, 194, 195, 177, 178, 179, 180, 181, 182, 196, 197, 198, 199, 200, 201, 358, 359, 360, 777, 778, 779, 780, 781, 782, 783, 784, 785, 786, 787] (by decide +kernel) (by decide +kernel)
set_option maxRecDepth 20000 in
theorem gL_law_X6_ifEvery : GoodIn wsL_law (wsV RL 164 RX6 yX6_ifEvery wsX6_ifEvery) := goodIn_app (goodIn_of _ (by decide +kernel)) ggL_law_X6_ifEvery
set_option maxRecDepth 20000 in
theorem ggL_law_L_bestEvery : GoodIn wsL_law wsL_bestEvery := goodIn_ca (goodIn_ca (goodIn_r _ [629, 367, 73, 630, 631, 632, 2, 633, 372, 373, 374, 375, 376, 377, 21, 378, 266, 267, 20, 268, 236, 512, 513, 514, 79, 80, 515, 295, 296, 613, 614, 615, 616, 22, 617, 590, 471, 472, 473, 237, 238, 239, 240, 241, 242, 243, 244, 245, 246, 39, 40, 42, 474, 475, 476, 477, 43, 516, 298, 299, 300, 301, 302, 303, 304, 265, 271, 272, 273, 274, 275, 276, 277, 278, 279, 280, 281, 282, 283, 284, 285, 286, 287, 288, 289, 290, 618, 339, 340, 341, 342, 343, 344, 345, 772, 773, 774, 775, 776, 790, 791, 792, 793, 794, 795, 796, 797, 798, 799, 800, 801, 802, 803, 804] (by decide +kernel) (by decide +kernel)) (goodIn_sub (fun _ h => List.mem_append_right _ h) (by decide +kernel))) (goodIn_sub (fun _ h => List.mem_append_left _ (List.mem_append_left _ (List.mem_append_right _ h))) (by decide +kernel))
set_option maxRecDepth 20000 in
theorem gL_law_L_bestEvery : GoodIn wsL_law (va_wsS RL 165 yL_bestEvery wsL_bestEvery) := goodIn_app (goodIn_of _ (by decide +kernel)) ggL_law_L_bestEvery
set_option maxRecDepth 20000 in
theorem ggL_law_X6_bestEvery : GoodIn wsL_law wsX6_bestEvery := goodIn_r _ [637, 61, 521, 190, 191, 5, 192, 99, 100, 101, 102, 103, 104, 105, 106, 623, 624, 625, 626, 62, 324, 325, 326, 206, 207, 208, 193, 194, 195, 177, 178, 179, 180, 181, 182, 196, 197, 198, 199, 200, 201, 358, 359, 360, 777, 778, 779, 780, 781, 782, 783, 784, 785, 786, 787] (by decide +kernel) (by decide +kernel)
set_option maxRecDepth 20000 in
theorem gL_law_X6_bestEvery : GoodIn wsL_law (wsV RL 167 RX6 yX6_bestEvery wsX6_bestEvery) := goodIn_app (goodIn_of _ (by decide +kernel)) ggL_law_X6_bestEvery
set_option maxRecDepth 20000 in
theorem ggL_law_L_movesTo : GoodIn wsL_law wsL_movesTo := goodIn_ca (goodIn_r _ [640, 367, 641, 642, 643, 2, 644, 21, 372, 373, 374, 375, 376, 377, 378, 266, 267, 20, 268, 236, 645, 646, 647, 648, 238, 239, 279, 280, 281, 282, 237, 772, 773, 774, 775, 776, 790, 791, 792, 793, 794, 795, 796, 797, 798, 799, 800, 801, 802, 803, 804] (by decide +kernel) (by decide +kernel)) (goodIn_sub (fun _ h => List.mem_append_right _ h) (by decide +kernel))
set_option maxRecDepth 20000 in
theorem gL_law_L_movesTo : GoodIn wsL_law (va_wsS RL 168 yL_movesTo wsL_movesTo) := goodIn_app (goodIn_of _ (by decide +kernel)) ggL_law_L_movesTo
set_option maxRecDepth 20000 in
theorem ggL_law_X6_movesTo : GoodIn wsL_law wsX6_movesTo := goodIn_r _ [652, 61, 190, 191, 5, 192, 99, 100, 101, 102, 103, 104, 105, 106, 180, 181, 182, 177, 178, 179, 777, 778, 779, 780, 781, 782, 783, 784, 785, 786, 787] (by decide +kernel) (by decide +kernel)
set_option maxRecDepth 20000 in
theorem gL_law_X6_movesTo : GoodIn wsL_law (wsV RL 170 RX6 yX6_movesTo wsX6_movesTo) := goodIn_app (goodIn_of _ (by decide +kernel)) ggL_law_X6_movesTo
set_option maxRecDepth 20000 in
theorem ggL_law_L_placeBehind : GoodIn wsL_law wsL_placeBehind := goodIn_ca (goodIn_ca (goodIn_r _ [655, 367, 73, 656, 657, 658, 2, 659, 79, 80, 21, 372, 373, 374, 375, 376, 377, 378, 266, 267, 20, 268, 236, 660, 661, 662, 663, 239, 238, 265, 279, 280, 281, 282, 237, 772, 773, 774, 775, 776, 790, 791, 792, 793, 794, 795, 796, 797, 798, 799, 800, 801, 802, 803, 804] (by decide +kernel) (by decide +kernel)) (goodIn_sub (fun _ h => List.mem_append_left _ (List.mem_append_left _ (List.mem_append_right _ h))) (by decide +kernel))) (goodIn_sub (fun _ h => List.mem_append_right _ h) (by decide +kernel))
set_option maxRecDepth 20000 in
theorem gL_law_L_placeBehind : GoodIn wsL_law (va_wsS RL 171 yL_placeBehind wsL_placeBehind) := goodIn_app (goodIn_of _ (by decide +kernel)) ggL_law_L_placeBehind
set_option maxRecDepth 20000 in
theorem ggL_law_X6_placeBehind : GoodIn wsL_law wsX6_placeBehind := goodIn_r _ [667, 61, 668, 190, 191, 5, 192, 99, 100, 101, 102, 103, 104, 105, 106, 180, 181, 182, 777, 778, 779, 780, 781, 782, 783, 784, 785, 786, 787] (by decide +kernel) (by decide +kernel)
set_option maxRecDepth 20000 in
theorem gL_law_X6_placeBehind : GoodIn wsL_law (wsV RL 173 RX6 yX6_placeBehind wsX6_placeBehind) := goodIn_app (goodIn_of _ (by decide +kernel)) ggL_law_X6_placeBehind
set_option maxRecDepth 20000 in
theorem ggL_law_L_runScript : GoodIn wsL_law wsL_runScript := goodIn_ca (goodIn_r _ [671, 73, 672, 673, 674, 2, 675, 79, 80, 22, 21, 676, 677, 678, 679, 590, 471, 472, 20, 473, 236, 237, 238, 239, 240, 241, 242, 243, 244, 245, 246, 39, 40, 42, 474, 475, 476, 477, 43, 680, 681, 682, 683, 684, 685, 686, 687, 262, 263, 264, 265, 266, 267, 268, 269, 270, 271, 272, 273, 274, 275, 276, 277, 278, 279, 280, 281, 282, 283, 284, 285, 286, 287, 288, 289, 290, 688, 292, 293, 294, 295, 296, 297, 298, 299, 300, 301, 302, 303, 304, 689, 306, 307, 308, 309, 310, 311, 312, 313, 314, 315, 316, 317, 318, 690, 691, 692, 693, 550, 551, 694, 553, 554, 555, 695, 696, 697, 698, 408, 409, 410, 699, 430, 431, 432, 433, 700, 772, 773, 774, 775, 776, 790, 791, 792, 793, 794, 795, 796, 797, 798, 799, 800, 801, 802, 803, 804] (by decide +kernel) (by decide +kernel)) (goodIn_sub (fun _ h => List.mem_append_left _ (List.mem_append_left _ (List.mem_append_right _ h))) (by decide +kernel))
set_option maxRecDepth 20000 in
theorem gL_law_L_runScript : GoodIn wsL_law (va_wsS RL 176 yL_runScript wsL_runScript) := goodIn_app (goodIn_of _ (by decide +kernel)) ggL_law_L_runScript
set_option maxRecDepth 20000 in
theorem ggL_law_X6_runScript : GoodIn wsL_law wsX6_runScript := goodIn_r _ [704, 705, 706, 61, 62, 707, 99, 100, 5, 101, 102, 103, 104, 105, 106, 324, 325, 326, 708, 709, 710, 711, 521, 541, 190, 191, 192, 187, 188, 189, 193, 194, 195, 177, 178, 179, 180, 181, 182, 196, 197, 198, 199, 200, 201, 206, 207, 208, 209, 210, 211, 560, 561, 562, 563, 504, 419, 420, 421, 777, 778, 779, 780, 781, 782, 783, 784, 785, 786, 787] (by decide +kernel) (by decide +kernel)
set_option maxRecDepth 20000 in
theorem gL_law_X6_runScript : GoodIn wsL_law (wsV RL 179 RX6 yX6_runScript wsX6_runScript) := goodIn_app (goodIn_of _ (by decide +kernel)) ggL_law_X6_runScript
set_option maxRecDepth 20000 in
theorem ggL_law_L_simulate : GoodIn wsL_law wsL_simulate := goodIn_ca (goodIn_r _ [714, 73, 715, 716, 717, 2, 718, 79, 80, 21, 22, 719, 535, 312, 313, 20, 314, 236, 590, 471, 472, 473, 237, 238, 239, 240, 241, 242, 243, 244, 245, 246, 39, 40, 42, 474, 475, 476, 477, 43, 720, 721, 722, 723, 724, 725, 311, 271, 272, 273, 274, 265, 266, 267, 268, 275, 276, 277, 278, 279, 280, 281, 282, 283, 284, 285, 286, 287, 288, 289, 290, 618, 339, 340, 341, 342, 343, 344, 345, 772, 773, 774, 775, 776, 790, 791, 792, 793, 794, 795, 796, 797, 798, 799, 800, 801, 802, 803, 804] (by decide +kernel) (by decide +kernel)) (goodIn_sub (fun _ h => List.mem_append_left _ (List.mem_append_left _ (List.mem_append_right _ h))) (by decide +kernel))
set_option maxRecDepth 20000 in
theorem gL_law_L_simulate : GoodIn wsL_law (va_wsS RL 180 yL_simulate wsL_simulate) := goodIn_app (goodIn_of _ (by decide +kernel)) ggL_law_L_simulate
set_option maxRecDepth 20000 in
theorem ggL_law_X6_simulate : GoodIn wsL_law wsX6_simulate := goodIn_r _ [729, 730, 61, 62, 731, 732, 99, 100, 5, 101, 102, 103, 104, 105, 106, 324, 325, 326, 193, 194, 195, 177, 178, 179, 180, 181, 182, 196, 197, 198, 199, 200, 201, 358, 359, 360, 777, 778, 779, 780, 781, 782, 783, 784, 785, 786, 787] (by decide +kernel) (by decide +kernel)
set_option maxRecDepth 20000 in
theorem gL_law_X6_simulate : GoodIn wsL_law (wsV RL 183 RX6 yX6_simulate wsX6_simulate) := goodIn_app (goodIn_of _ (by decide +kernel)) ggL_law_X6_simulate
set_option maxRecDepth 20000 in
theorem ggL_law_L_save : GoodIn wsL_law wsL_save := goodIn_ca (goodIn_r _ [735, 367, 736, 737, 738, 2, 739, 30, 21, 740, 741, 742, 743, 376, 377, 744, 745, 29, 746, 747, 748, 749, 750, 53, 52, 19, 20, 55, 751, 36, 37, 38, 12, 13, 39, 40, 41, 42, 43, 752, 471, 472, 473, 236, 237, 238, 239, 240, 241, 242, 243, 244, 245, 246, 474, 475, 476, 477, 772, 773, 774, 775, 776, 790, 791, 792, 793, 794, 795, 796, 797, 798, 799, 800, 801, 802, 803, 804, 808, 809] (by decide +kernel) (by decide +kernel)) (goodIn_sub (fun _ h => List.mem_append_right _ h) (by decide +kernel))
set_option maxRecDepth 20000 in
theorem gL_law_L_save : GoodIn wsL_law (va_wsS RL 184 yL_save wsL_save) := goodIn_app (goodIn_of _ (by decide +kernel)) ggL_law_L_save
set_option maxRecDepth 20000 in
theorem ggL_law_X6_save : GoodIn wsL_law wsX6_save := goodIn_r _ [756, 61, 64, 65, 99, 100, 5, 101, 102, 103, 104, 105, 106, 324, 325, 326, 777, 778, 779, 780, 781, 782, 783, 784, 785, 786, 787] (by decide +kernel) (by decide +kernel)
set_option maxRecDepth 20000 in
theorem gL_law_X6_save : GoodIn wsL_law (wsV RL 186 RX6 yX6_save wsX6_save) := goodIn_app (goodIn_of _ (by decide +kernel)) ggL_law_X6_save
set_option maxRecDepth 20000 in
theorem ggL_law_L_restore : GoodIn wsL_law wsL_restore := goodIn_ca (goodIn_ca (goodIn_r _ [759, 367, 74, 760, 761, 762, 2, 763, 81, 82, 30, 21, 26, 740, 741, 742, 743, 376, 377, 744, 745, 29, 746, 764, 765, 766, 767, 55, 53, 751, 752, 471, 472, 20, 473, 236, 237, 238, 239, 240, 241, 242, 243, 244, 245, 246, 39, 40, 42, 474, 475, 476, 477, 43, 219, 220, 221, 25, 222, 223, 772, 773, 774, 775, 776, 790, 791, 792, 793, 794, 795, 796, 797, 798, 799, 800, 801, 802, 803, 804, 808, 809, 805, 806, 807] (by decide +kernel) (by decide +kernel)) (goodIn_sub (fun _ h => List.mem_append_left _ (List.mem_append_right _ h)) (by decide +kernel))) (goodIn_sub (fun _ h => List.mem_append_right _ h) (by decide +kernel))
set_option maxRecDepth 20000 in
theorem gL_law_L_restore : GoodIn wsL_law (va_wsS RL 187 yL_restore wsL_restore) := goodIn_app (goodIn_of _ (by decide +kernel)) ggL_law_L_restore
set_option maxRecDepth 20000 in
theorem ggL_law_X6_restore : GoodIn wsL_law wsX6_restore := goodIn_r _ [771, 65, 64, 61, 323, 99, 100, 5, 101, 102, 103, 104, 105, 106, 324, 325, 326, 777, 778, 779, 780, 781, 782, 783, 784, 785, 786, 787] (by decide +kernel) (by decide +kernel)
set_option maxRecDepth 20000 in
theorem gL_law_X6_restore : GoodIn wsL_law (wsV RL 189 RX6 yX6_restore wsX6_restore) := goodIn_app (goodIn_of _ (by decide +kernel)) ggL_law_X6_restore
