set_option maxRecDepth 20000 in
theorem ggL_refuses_L_call : GoodIn wsL_refuses wsL_call := goodIn_ca (goodIn_ca (goodIn_ca (goodIn_r _ [7, 8, 9, 6, 10, 11, 12, 1, 13, 14, 15, 16, 17, 18, 19, 20, 21, 22, 23, 24, 25, 26, 27, 28, 29, 30, 31, 32, 33, 34, 35, 36, 37, 38, 39, 40, 41, 42, 43, 44, 45, 46, 47, 48, 49, 50, 51, 52, 53, 54, 55, 56, 57, 58, 59, 60, 61, 62, 63, 64, 65, 66, 67, 68, 69, 70, 71, 72, 73, 74, 75, 76, 77, 78, 79, 80, 81, 82, 83, 84, 85, 86, 87, 88, 89, 90, 91, 92, 93, 94, 95, 96, 97, 98, 99, 100, 101, 102, 103, 104, 105, 106, 107, 108, 109, 110, 111, 112, 113, 114, 115, 116, 117, 118, 119, 120, 121, 122, 123, 124, 125, 126, 127, 128, 129, 130, 131, 132, 133, 134, 135, 136, 137, 138, 139, 140, 141, 142, 143, 144, 145, 146, 147, 148, 149, 150, 151, 152, 153, 154, 155, 156, 157, 158, 159, 160, 161, 162, 163, 164, 165, 166, 167, 168, 169, 170, 171, 172, 173, 174, 175, 176, 177, 178, 179, 180, 181, 182, 183, 184, 185, 186, 187, 188, 189, 190, 191, 192, 193, 194, 195, 196, 197, 198, 199, 200, 201, 202, 203, 204, 205, 206, 207, 2, 208, 209, 210, 211, 212, 213, 214, 215, 216, 217, 218, 219, 220, 221, 222, 223, 224, 225, 226, 227, 228, 229, 230, 231, 232, 233, 234, 235, 236, 237, 238, 239, 240, 241, 242, 243, 244, 245, 246, 247, 248, 249, 250, 251, 252, 253, 254, 255, 256, 257, 258, 259, 260, 261, 262, 263, 264, 265, 266, 267, 268, 269, 270, 271, 272, 273, 274, 275, 276, 277, 278, 279, 280, 281, 282, 283, 284, 285, 286, 287, 288, 289, 290, 291, 292, 293, 294, 295, 296, 297, 298, 299, 300, 301, 302, 303, 304, 305, 306, 307, 308, 309, 310, 311, 312, 313, 314, 315, 316, 317, 318, 319, 320, 321, 322, 323, 324, 325, 326, 327, 328, 329, 330, 331, 332, 333, 334, 335, 336, 337, 338, 339, 340, 341, 342, 343, 344, 345, 346, 347, 348, 349, 350, 351, 352, 353, 354, 355, 356, 357, 358, 359, 360, 361, 362, 363, 364, 365, 366, 367, 368, 369, 370, 371, 372, 373, 374, 375, 376, 377, 378, 379, 380, 381, 382, 383, 384, 385, 386, 387, 388, 389, 390, 391, 392, 393, 394, 395, 396, 397, 398, 399, 400, 401, 402, 403, 404, 405, 406, 407, 408, 409, 410, 411, 412, 413, 414, 415, 416, 417, 418, 419, 420, 421, 422, 423, 424, 425, 426, 427, 428, 429, 430, 431, 432, 433, 434, 435, 436, 437, 438, 439, 440, 441, 442, 443, 444, 445, 446, 447, 448, 449, 450, 451, 452, 453, 454, 455, 456, 457, 458, 459, 460, 461, 508, 509, 510, 511, 512, 513, 514, 515, 516, 517, 518, 519, 520, 521, 522, 523, 524, 525, 526, 527, 528, 529, 530, 531, 532, 533, 534] (by decide +kernel) (by decide +kernel)) (goodIn_sub (fun _ h => List.mem_cons_of_mem _ (List.mem_append_left _ (List.mem_append_left _ (List.mem_append_right _ h)))) (by decide +kernel))) (goodIn_sub (fun _ h => List.mem_cons_of_mem _ (List.mem_append_left _ (List.mem_append_right _ h))) (by decide +kernel))) (goodIn_sub (fun _ h => List.mem_cons_of_mem _ (List.mem_append_right _ h)) (by decide +kernel))
set_option maxRecDepth 20000 in
theorem gL_refuses_L_call : GoodIn wsL_refuses (va_wsS RL 170 yL_call wsL_call) := goodIn_app (goodIn_of _ (by decide +kernel)) ggL_refuses_L_call
set_option maxRecDepth 20000 in
theorem ggL_refuses_L_doScript : GoodIn wsL_refuses wsL_doScript := goodIn_ca (goodIn_r _ [464, 11, 1, 465, 466, 467, 17, 468, 19, 20, 378, 45, 469, 470, 471, 472, 379, 297, 298, 85, 299, 93, 94, 95, 96, 97, 98, 99, 100, 101, 102, 103, 87, 88, 104, 300, 301, 302, 303, 105, 473, 474, 475, 476, 477, 478, 479, 480, 121, 122, 123, 124, 125, 126, 127, 128, 129, 130, 131, 132, 133, 134, 135, 136, 137, 138, 139, 140, 141, 142, 143, 144, 145, 146, 147, 148, 149, 481, 151, 152, 153, 154, 155, 156, 157, 158, 159, 160, 161, 162, 163, 482, 165, 166, 167, 168, 169, 170, 171, 172, 173, 174, 175, 176, 177, 483, 484, 485, 486, 350, 351, 487, 353, 354, 355, 488, 489, 490, 491, 240, 241, 242, 492, 255, 256, 257, 258, 493, 508, 509, 510, 511, 512, 520, 521, 522, 523, 524, 525, 526, 527, 528, 529, 530, 531, 532, 533, 534] (by decide +kernel) (by decide +kernel)) (goodIn_sub (fun _ h => List.mem_cons_of_mem _ (List.mem_append_left _ (List.mem_append_left _ (List.mem_append_right _ h)))) (by decide +kernel))
set_option maxRecDepth 20000 in
theorem gL_refuses_L_doScript : GoodIn wsL_refuses (va_wsS RL 174 yL_doScript wsL_doScript) := goodIn_app (goodIn_of _ (by decide +kernel)) ggL_refuses_L_doScript
set_option maxRecDepth 20000 in
theorem ggL_refuses_L_doSimulate : GoodIn wsL_refuses wsL_doSimulate := goodIn_ca (goodIn_r _ [496, 11, 1, 497, 498, 499, 17, 500, 19, 20, 45, 378, 501, 340, 171, 172, 85, 173, 93, 379, 297, 298, 299, 94, 95, 96, 97, 98, 99, 100, 101, 102, 103, 87, 88, 104, 300, 301, 302, 303, 105, 502, 503, 504, 505, 506, 507, 170, 130, 131, 132, 133, 124, 125, 126, 127, 134, 135, 136, 137, 138, 139, 140, 141, 142, 143, 144, 145, 146, 147, 148, 149, 399, 190, 191, 192, 193, 194, 195, 196, 508, 509, 510, 511, 512, 520, 521, 522, 523, 524, 525, 526, 527, 528, 529, 530, 531, 532, 533, 534] (by decide +kernel) (by decide +kernel)) (goodIn_sub (fun _ h => List.mem_cons_of_mem _ (List.mem_append_left _ (List.mem_append_left _ (List.mem_append_right _ h)))) (by decide +kernel))
set_option maxRecDepth 20000 in
theorem gL_refuses_L_doSimulate : GoodIn wsL_refuses (va_wsS RL 180 yL_doSimulate wsL_doSimulate) := goodIn_app (goodIn_of _ (by decide +kernel)) ggL_refuses_L_doSimulate
theorem dL_refuses_0 : decode cL_refuses 0 = .ok (.aload_n 0, 1) := by decide +kernel
theorem dL_refuses_1 : decode cL_refuses 1 = .ok (.iconst 2, 1) := by decide +kernel
theorem dL_refuses_2 : decode cL_refuses 2 = .ok (.iconst 0, 1) := by decide +kernel
theorem dL_refuses_3 : decode cL_refuses 3 = .ok (.iconst 0, 1) := by decide +kernel
theorem dL_refuses_4 : decode cL_refuses 4 = .ok (.iconst 0, 1) := by decide +kernel
theorem dL_refuses_5 : decode cL_refuses 5 = .ok (.invokestatic 170, 3) := by decide +kernel
theorem dL_refuses_8 : decode cL_refuses 8 = .ok (.istore_n 2, 1) := by decide +kernel
theorem dL_refuses_9 : decode cL_refuses 9 = .ok (.iload_n 2, 1) := by decide +kernel
theorem dL_refuses_10 : decode cL_refuses 10 = .ok (.iload_n 1, 1) := by decide +kernel
theorem dL_refuses_11 : decode cL_refuses 11 = .ok (.bipush 50, 2) := by decide +kernel
theorem dL_refuses_13 : decode cL_refuses 13 = .ok (.irem, 1) := by decide +kernel
theorem dL_refuses_14 : decode cL_refuses 14 = .ok (.iadd, 1) := by decide +kernel
theorem dL_refuses_15 : decode cL_refuses 15 = .ok (.istore_n 3, 1) := by decide +kernel
theorem dL_refuses_16 : decode cL_refuses 16 = .ok (.iload_n 1, 1) := by decide +kernel
theorem dL_refuses_17 : decode cL_refuses 17 = .ok (.iconst 2, 1) := by decide +kernel
theorem dL_refuses_18 : decode cL_refuses 18 = .ok (.irem, 1) := by decide +kernel
theorem dL_refuses_19 : decode cL_refuses 19 = .ok (.ifCond .ne 12, 3) := by decide +kernel
theorem dL_refuses_22 : decode cL_refuses 22 = .ok (.iconst (-1), 1) := by decide +kernel
theorem dL_refuses_23 : decode cL_refuses 23 = .ok (.iload_n 1, 1) := by decide +kernel
theorem dL_refuses_24 : decode cL_refuses 24 = .ok (.bipush 99, 2) := by decide +kernel
theorem dL_refuses_26 : decode cL_refuses 26 = .ok (.irem, 1) := by decide +kernel
theorem dL_refuses_27 : decode cL_refuses 27 = .ok (.isub, 1) := by decide +kernel
theorem dL_refuses_28 : decode cL_refuses 28 = .ok (.goto 11, 3) := by decide +kernel
theorem dL_refuses_31 : decode cL_refuses 31 = .ok (.sipush 1000, 3) := by decide +kernel
theorem dL_refuses_34 : decode cL_refuses 34 = .ok (.iload_n 1, 1) := by decide +kernel
theorem dL_refuses_35 : decode cL_refuses 35 = .ok (.bipush 99, 2) := by decide +kernel
theorem dL_refuses_37 : decode cL_refuses 37 = .ok (.irem, 1) := by decide +kernel
theorem dL_refuses_38 : decode cL_refuses 38 = .ok (.iadd, 1) := by decide +kernel
theorem dL_refuses_39 : decode cL_refuses 39 = .ok (.istore 4, 2) := by decide +kernel
theorem dL_refuses_41 : decode cL_refuses 41 = .ok (.aload_n 0, 1) := by decide +kernel
theorem dL_refuses_42 : decode cL_refuses 42 = .ok (.iconst 0, 1) := by decide +kernel
theorem dL_refuses_43 : decode cL_refuses 43 = .ok (.iload_n 1, 1) := by decide +kernel
theorem dL_refuses_44 : decode cL_refuses 44 = .ok (.iconst 2, 1) := by decide +kernel
theorem dL_refuses_45 : decode cL_refuses 45 = .ok (.irem, 1) := by decide +kernel
theorem dL_refuses_46 : decode cL_refuses 46 = .ok (.ifCond .ne 12, 3) := by decide +kernel
theorem dL_refuses_49 : decode cL_refuses 49 = .ok (.iconst (-1), 1) := by decide +kernel
theorem dL_refuses_50 : decode cL_refuses 50 = .ok (.iload_n 1, 1) := by decide +kernel
theorem dL_refuses_51 : decode cL_refuses 51 = .ok (.bipush 9, 2) := by decide +kernel
theorem dL_refuses_53 : decode cL_refuses 53 = .ok (.irem, 1) := by decide +kernel
theorem dL_refuses_54 : decode cL_refuses 54 = .ok (.isub, 1) := by decide +kernel
theorem dL_refuses_55 : decode cL_refuses 55 = .ok (.goto 11, 3) := by decide +kernel
theorem dL_refuses_58 : decode cL_refuses 58 = .ok (.sipush 256, 3) := by decide +kernel
theorem dL_refuses_61 : decode cL_refuses 61 = .ok (.iload_n 1, 1) := by decide +kernel
theorem dL_refuses_62 : decode cL_refuses 62 = .ok (.bipush 9, 2) := by decide +kernel
theorem dL_refuses_64 : decode cL_refuses 64 = .ok (.irem, 1) := by decide +kernel
theorem dL_refuses_65 : decode cL_refuses 65 = .ok (.iadd, 1) := by decide +kernel
theorem dL_refuses_66 : decode cL_refuses 66 = .ok (.iconst 0, 1) := by decide +kernel
theorem dL_refuses_67 : decode cL_refuses 67 = .ok (.iconst 0, 1) := by decide +kernel
theorem dL_refuses_68 : decode cL_refuses 68 = .ok (.invokestatic 170, 3) := by decide +kernel
theorem dL_refuses_71 : decode cL_refuses 71 = .ok (.ldc 15, 2) := by decide +kernel
theorem dL_refuses_73 : decode cL_refuses 73 = .ok (.if_icmp .ne 628, 3) := by decide +kernel
theorem dL_refuses_76 : decode cL_refuses 76 = .ok (.aload_n 0, 1) := by decide +kernel
theorem dL_refuses_77 : decode cL_refuses 77 = .ok (.iconst 2, 1) := by decide +kernel
theorem dL_refuses_78 : decode cL_refuses 78 = .ok (.bipush 12, 2) := by decide +kernel
theorem dL_refuses_80 : decode cL_refuses 80 = .ok (.iload_n 1, 1) := by decide +kernel
theorem dL_refuses_81 : decode cL_refuses 81 = .ok (.bipush 50, 2) := by decide +kernel
theorem dL_refuses_83 : decode cL_refuses 83 = .ok (.irem, 1) := by decide +kernel
theorem dL_refuses_84 : decode cL_refuses 84 = .ok (.iadd, 1) := by decide +kernel
theorem dL_refuses_85 : decode cL_refuses 85 = .ok (.iconst 0, 1) := by decide +kernel
theorem dL_refuses_86 : decode cL_refuses 86 = .ok (.iconst 0, 1) := by decide +kernel
theorem dL_refuses_87 : decode cL_refuses 87 = .ok (.invokestatic 170, 3) := by decide +kernel
theorem dL_refuses_90 : decode cL_refuses 90 = .ok (.ldc 15, 2) := by decide +kernel
theorem dL_refuses_92 : decode cL_refuses 92 = .ok (.if_icmp .ne 609, 3) := by decide +kernel
theorem dL_refuses_95 : decode cL_refuses 95 = .ok (.aload_n 0, 1) := by decide +kernel
theorem dL_refuses_96 : decode cL_refuses 96 = .ok (.iconst 3, 1) := by decide +kernel
theorem dL_refuses_97 : decode cL_refuses 97 = .ok (.iload_n 3, 1) := by decide +kernel
theorem dL_refuses_98 : decode cL_refuses 98 = .ok (.iconst 0, 1) := by decide +kernel
theorem dL_refuses_99 : decode cL_refuses 99 = .ok (.iconst 0, 1) := by decide +kernel
theorem dL_refuses_100 : decode cL_refuses 100 = .ok (.invokestatic 170, 3) := by decide +kernel
theorem dL_refuses_103 : decode cL_refuses 103 = .ok (.ldc 39, 2) := by decide +kernel
theorem dL_refuses_105 : decode cL_refuses 105 = .ok (.if_icmp .ne 596, 3) := by decide +kernel
theorem dL_refuses_108 : decode cL_refuses 108 = .ok (.aload_n 0, 1) := by decide +kernel
theorem dL_refuses_109 : decode cL_refuses 109 = .ok (.iconst 4, 1) := by decide +kernel
theorem dL_refuses_110 : decode cL_refuses 110 = .ok (.iload_n 3, 1) := by decide +kernel
theorem dL_refuses_111 : decode cL_refuses 111 = .ok (.iconst 0, 1) := by decide +kernel
theorem dL_refuses_112 : decode cL_refuses 112 = .ok (.iconst 0, 1) := by decide +kernel
theorem dL_refuses_113 : decode cL_refuses 113 = .ok (.invokestatic 170, 3) := by decide +kernel
theorem dL_refuses_116 : decode cL_refuses 116 = .ok (.ldc 39, 2) := by decide +kernel
theorem dL_refuses_118 : decode cL_refuses 118 = .ok (.if_icmp .ne 583, 3) := by decide +kernel
theorem dL_refuses_121 : decode cL_refuses 121 = .ok (.aload_n 0, 1) := by decide +kernel
theorem dL_refuses_122 : decode cL_refuses 122 = .ok (.iconst 5, 1) := by decide +kernel
theorem dL_refuses_123 : decode cL_refuses 123 = .ok (.iload_n 3, 1) := by decide +kernel
theorem dL_refuses_124 : decode cL_refuses 124 = .ok (.iconst 1, 1) := by decide +kernel
theorem dL_refuses_125 : decode cL_refuses 125 = .ok (.iadd, 1) := by decide +kernel
theorem dL_refuses_126 : decode cL_refuses 126 = .ok (.iconst 0, 1) := by decide +kernel
theorem dL_refuses_127 : decode cL_refuses 127 = .ok (.iconst 0, 1) := by decide +kernel
theorem dL_refuses_128 : decode cL_refuses 128 = .ok (.invokestatic 170, 3) := by decide +kernel
theorem dL_refuses_131 : decode cL_refuses 131 = .ok (.ldc 39, 2) := by decide +kernel
theorem dL_refuses_133 : decode cL_refuses 133 = .ok (.if_icmp .ne 568, 3) := by decide +kernel
theorem dL_refuses_136 : decode cL_refuses 136 = .ok (.aload_n 0, 1) := by decide +kernel
theorem dL_refuses_137 : decode cL_refuses 137 = .ok (.iconst 5, 1) := by decide +kernel
theorem dL_refuses_138 : decode cL_refuses 138 = .ok (.iconst (-1), 1) := by decide +kernel
theorem dL_refuses_139 : decode cL_refuses 139 = .ok (.iload_n 1, 1) := by decide +kernel
theorem dL_refuses_140 : decode cL_refuses 140 = .ok (.bipush 9, 2) := by decide +kernel
theorem dL_refuses_142 : decode cL_refuses 142 = .ok (.irem, 1) := by decide +kernel
theorem dL_refuses_143 : decode cL_refuses 143 = .ok (.isub, 1) := by decide +kernel
theorem dL_refuses_144 : decode cL_refuses 144 = .ok (.iconst 0, 1) := by decide +kernel
theorem dL_refuses_145 : decode cL_refuses 145 = .ok (.iconst 0, 1) := by decide +kernel
theorem dL_refuses_146 : decode cL_refuses 146 = .ok (.invokestatic 170, 3) := by decide +kernel
theorem dL_refuses_149 : decode cL_refuses 149 = .ok (.ldc 39, 2) := by decide +kernel
theorem dL_refuses_151 : decode cL_refuses 151 = .ok (.if_icmp .ne 550, 3) := by decide +kernel
theorem dL_refuses_154 : decode cL_refuses 154 = .ok (.aload_n 0, 1) := by decide +kernel
theorem dL_refuses_155 : decode cL_refuses 155 = .ok (.bipush 6, 2) := by decide +kernel
theorem dL_refuses_157 : decode cL_refuses 157 = .ok (.iload_n 3, 1) := by decide +kernel
theorem dL_refuses_158 : decode cL_refuses 158 = .ok (.iconst 1, 1) := by decide +kernel
theorem dL_refuses_159 : decode cL_refuses 159 = .ok (.iadd, 1) := by decide +kernel
theorem dL_refuses_160 : decode cL_refuses 160 = .ok (.iconst 0, 1) := by decide +kernel
theorem dL_refuses_161 : decode cL_refuses 161 = .ok (.iconst 0, 1) := by decide +kernel
theorem dL_refuses_162 : decode cL_refuses 162 = .ok (.invokestatic 170, 3) := by decide +kernel
theorem dL_refuses_165 : decode cL_refuses 165 = .ok (.ldc 39, 2) := by decide +kernel
theorem dL_refuses_167 : decode cL_refuses 167 = .ok (.if_icmp .ne 534, 3) := by decide +kernel
theorem dL_refuses_170 : decode cL_refuses 170 = .ok (.aload_n 0, 1) := by decide +kernel
theorem dL_refuses_171 : decode cL_refuses 171 = .ok (.bipush 7, 2) := by decide +kernel
theorem dL_refuses_173 : decode cL_refuses 173 = .ok (.iconst 2, 1) := by decide +kernel
theorem dL_refuses_174 : decode cL_refuses 174 = .ok (.iload_n 1, 1) := by decide +kernel
theorem dL_refuses_175 : decode cL_refuses 175 = .ok (.bipush 9, 2) := by decide +kernel
theorem dL_refuses_177 : decode cL_refuses 177 = .ok (.irem, 1) := by decide +kernel
theorem dL_refuses_178 : decode cL_refuses 178 = .ok (.iadd, 1) := by decide +kernel
theorem dL_refuses_179 : decode cL_refuses 179 = .ok (.iconst 0, 1) := by decide +kernel
theorem dL_refuses_180 : decode cL_refuses 180 = .ok (.iconst 0, 1) := by decide +kernel
theorem dL_refuses_181 : decode cL_refuses 181 = .ok (.invokestatic 170, 3) := by decide +kernel
theorem dL_refuses_184 : decode cL_refuses 184 = .ok (.ldc 15, 2) := by decide +kernel
theorem dL_refuses_186 : decode cL_refuses 186 = .ok (.if_icmp .ne 515, 3) := by decide +kernel
theorem dL_refuses_189 : decode cL_refuses 189 = .ok (.aload_n 0, 1) := by decide +kernel
theorem dL_refuses_190 : decode cL_refuses 190 = .ok (.bipush 8, 2) := by decide +kernel
theorem dL_refuses_192 : decode cL_refuses 192 = .ok (.iload_n 1, 1) := by decide +kernel
theorem dL_refuses_193 : decode cL_refuses 193 = .ok (.iconst 4, 1) := by decide +kernel
theorem dL_refuses_194 : decode cL_refuses 194 = .ok (.irem, 1) := by decide +kernel
theorem dL_refuses_195 : decode cL_refuses 195 = .ok (.iconst 1, 1) := by decide +kernel
theorem dL_refuses_196 : decode cL_refuses 196 = .ok (.iconst 0, 1) := by decide +kernel
theorem dL_refuses_197 : decode cL_refuses 197 = .ok (.invokestatic 170, 3) := by decide +kernel
theorem dL_refuses_200 : decode cL_refuses 200 = .ok (.ldc 15, 2) := by decide +kernel
theorem dL_refuses_202 : decode cL_refuses 202 = .ok (.if_icmp .ne 499, 3) := by decide +kernel
theorem dL_refuses_205 : decode cL_refuses 205 = .ok (.aload_n 0, 1) := by decide +kernel
theorem dL_refuses_206 : decode cL_refuses 206 = .ok (.bipush 8, 2) := by decide +kernel
theorem dL_refuses_208 : decode cL_refuses 208 = .ok (.bipush 33, 2) := by decide +kernel
theorem dL_refuses_210 : decode cL_refuses 210 = .ok (.iload_n 1, 1) := by decide +kernel
theorem dL_refuses_211 : decode cL_refuses 211 = .ok (.bipush 9, 2) := by decide +kernel
theorem dL_refuses_213 : decode cL_refuses 213 = .ok (.irem, 1) := by decide +kernel
theorem dL_refuses_214 : decode cL_refuses 214 = .ok (.iadd, 1) := by decide +kernel
theorem dL_refuses_215 : decode cL_refuses 215 = .ok (.iconst 1, 1) := by decide +kernel
theorem dL_refuses_216 : decode cL_refuses 216 = .ok (.iconst 0, 1) := by decide +kernel
theorem dL_refuses_217 : decode cL_refuses 217 = .ok (.invokestatic 170, 3) := by decide +kernel
theorem dL_refuses_220 : decode cL_refuses 220 = .ok (.ldc 15, 2) := by decide +kernel
theorem dL_refuses_222 : decode cL_refuses 222 = .ok (.if_icmp .ne 479, 3) := by decide +kernel
theorem dL_refuses_225 : decode cL_refuses 225 = .ok (.aload_n 0, 1) := by decide +kernel
theorem dL_refuses_226 : decode cL_refuses 226 = .ok (.bipush 8, 2) := by decide +kernel
theorem dL_refuses_228 : decode cL_refuses 228 = .ok (.iload_n 2, 1) := by decide +kernel
theorem dL_refuses_229 : decode cL_refuses 229 = .ok (.iload_n 2, 1) := by decide +kernel
theorem dL_refuses_230 : decode cL_refuses 230 = .ok (.iload_n 1, 1) := by decide +kernel
theorem dL_refuses_231 : decode cL_refuses 231 = .ok (.bipush 9, 2) := by decide +kernel
theorem dL_refuses_233 : decode cL_refuses 233 = .ok (.irem, 1) := by decide +kernel
theorem dL_refuses_234 : decode cL_refuses 234 = .ok (.iadd, 1) := by decide +kernel
theorem dL_refuses_235 : decode cL_refuses 235 = .ok (.iconst 0, 1) := by decide +kernel
theorem dL_refuses_236 : decode cL_refuses 236 = .ok (.invokestatic 170, 3) := by decide +kernel
theorem dL_refuses_239 : decode cL_refuses 239 = .ok (.ldc 15, 2) := by decide +kernel
theorem dL_refuses_241 : decode cL_refuses 241 = .ok (.if_icmp .ne 460, 3) := by decide +kernel
theorem dL_refuses_244 : decode cL_refuses 244 = .ok (.aload_n 0, 1) := by decide +kernel
theorem dL_refuses_245 : decode cL_refuses 245 = .ok (.bipush 8, 2) := by decide +kernel
theorem dL_refuses_247 : decode cL_refuses 247 = .ok (.iload_n 2, 1) := by decide +kernel
theorem dL_refuses_248 : decode cL_refuses 248 = .ok (.iconst 0, 1) := by decide +kernel
theorem dL_refuses_249 : decode cL_refuses 249 = .ok (.iconst 0, 1) := by decide +kernel
theorem dL_refuses_250 : decode cL_refuses 250 = .ok (.invokestatic 170, 3) := by decide +kernel
theorem dL_refuses_253 : decode cL_refuses 253 = .ok (.ldc 15, 2) := by decide +kernel
theorem dL_refuses_255 : decode cL_refuses 255 = .ok (.if_icmp .ne 446, 3) := by decide +kernel
theorem dL_refuses_258 : decode cL_refuses 258 = .ok (.aload_n 0, 1) := by decide +kernel
theorem dL_refuses_259 : decode cL_refuses 259 = .ok (.bipush 8, 2) := by decide +kernel
theorem dL_refuses_261 : decode cL_refuses 261 = .ok (.iload_n 2, 1) := by decide +kernel
theorem dL_refuses_262 : decode cL_refuses 262 = .ok (.iconst 1, 1) := by decide +kernel
theorem dL_refuses_263 : decode cL_refuses 263 = .ok (.iconst 5, 1) := by decide +kernel
theorem dL_refuses_264 : decode cL_refuses 264 = .ok (.iload_n 1, 1) := by decide +kernel
theorem dL_refuses_265 : decode cL_refuses 265 = .ok (.bipush 9, 2) := by decide +kernel
theorem dL_refuses_267 : decode cL_refuses 267 = .ok (.irem, 1) := by decide +kernel
theorem dL_refuses_268 : decode cL_refuses 268 = .ok (.iadd, 1) := by decide +kernel
theorem dL_refuses_269 : decode cL_refuses 269 = .ok (.invokestatic 170, 3) := by decide +kernel
theorem dL_refuses_272 : decode cL_refuses 272 = .ok (.ldc 15, 2) := by decide +kernel
theorem dL_refuses_274 : decode cL_refuses 274 = .ok (.if_icmp .ne 427, 3) := by decide +kernel
theorem dL_refuses_277 : decode cL_refuses 277 = .ok (.aload_n 0, 1) := by decide +kernel
theorem dL_refuses_278 : decode cL_refuses 278 = .ok (.bipush 8, 2) := by decide +kernel
theorem dL_refuses_280 : decode cL_refuses 280 = .ok (.iconst 4, 1) := by decide +kernel
theorem dL_refuses_281 : decode cL_refuses 281 = .ok (.iconst 2, 1) := by decide +kernel
theorem dL_refuses_282 : decode cL_refuses 282 = .ok (.iload_n 1, 1) := by decide +kernel
theorem dL_refuses_283 : decode cL_refuses 283 = .ok (.bipush 14, 2) := by decide +kernel
theorem dL_refuses_285 : decode cL_refuses 285 = .ok (.irem, 1) := by decide +kernel
theorem dL_refuses_286 : decode cL_refuses 286 = .ok (.imul, 1) := by decide +kernel
theorem dL_refuses_287 : decode cL_refuses 287 = .ok (.iadd, 1) := by decide +kernel
theorem dL_refuses_288 : decode cL_refuses 288 = .ok (.iconst 2, 1) := by decide +kernel
theorem dL_refuses_289 : decode cL_refuses 289 = .ok (.iconst 0, 1) := by decide +kernel
theorem dL_refuses_290 : decode cL_refuses 290 = .ok (.invokestatic 170, 3) := by decide +kernel
theorem dL_refuses_293 : decode cL_refuses 293 = .ok (.ldc 15, 2) := by decide +kernel
theorem dL_refuses_295 : decode cL_refuses 295 = .ok (.if_icmp .ne 406, 3) := by decide +kernel
theorem dL_refuses_298 : decode cL_refuses 298 = .ok (.aload_n 0, 1) := by decide +kernel
theorem dL_refuses_299 : decode cL_refuses 299 = .ok (.bipush 9, 2) := by decide +kernel
theorem dL_refuses_301 : decode cL_refuses 301 = .ok (.iload_n 3, 1) := by decide +kernel
theorem dL_refuses_302 : decode cL_refuses 302 = .ok (.iload 4, 2) := by decide +kernel
theorem dL_refuses_304 : decode cL_refuses 304 = .ok (.iconst 0, 1) := by decide +kernel
theorem dL_refuses_305 : decode cL_refuses 305 = .ok (.invokestatic 170, 3) := by decide +kernel
theorem dL_refuses_308 : decode cL_refuses 308 = .ok (.ldc 39, 2) := by decide +kernel
theorem dL_refuses_310 : decode cL_refuses 310 = .ok (.if_icmp .ne 391, 3) := by decide +kernel
theorem dL_refuses_313 : decode cL_refuses 313 = .ok (.aload_n 0, 1) := by decide +kernel
theorem dL_refuses_314 : decode cL_refuses 314 = .ok (.bipush 9, 2) := by decide +kernel
theorem dL_refuses_316 : decode cL_refuses 316 = .ok (.iload_n 1, 1) := by decide +kernel
theorem dL_refuses_317 : decode cL_refuses 317 = .ok (.iload_n 2, 1) := by decide +kernel
theorem dL_refuses_318 : decode cL_refuses 318 = .ok (.irem, 1) := by decide +kernel
theorem dL_refuses_319 : decode cL_refuses 319 = .ok (.iload 4, 2) := by decide +kernel
theorem dL_refuses_321 : decode cL_refuses 321 = .ok (.iconst 0, 1) := by decide +kernel
theorem dL_refuses_322 : decode cL_refuses 322 = .ok (.invokestatic 170, 3) := by decide +kernel
theorem dL_refuses_325 : decode cL_refuses 325 = .ok (.ldc 15, 2) := by decide +kernel
theorem dL_refuses_327 : decode cL_refuses 327 = .ok (.if_icmp .ne 374, 3) := by decide +kernel
theorem dL_refuses_330 : decode cL_refuses 330 = .ok (.aload_n 0, 1) := by decide +kernel
theorem dL_refuses_331 : decode cL_refuses 331 = .ok (.bipush 10, 2) := by decide +kernel
theorem dL_refuses_333 : decode cL_refuses 333 = .ok (.iload_n 3, 1) := by decide +kernel
theorem dL_refuses_334 : decode cL_refuses 334 = .ok (.iload 4, 2) := by decide +kernel
theorem dL_refuses_336 : decode cL_refuses 336 = .ok (.iconst 0, 1) := by decide +kernel
theorem dL_refuses_337 : decode cL_refuses 337 = .ok (.invokestatic 170, 3) := by decide +kernel
theorem dL_refuses_340 : decode cL_refuses 340 = .ok (.ldc 39, 2) := by decide +kernel
theorem dL_refuses_342 : decode cL_refuses 342 = .ok (.if_icmp .ne 359, 3) := by decide +kernel
theorem dL_refuses_345 : decode cL_refuses 345 = .ok (.aload_n 0, 1) := by decide +kernel
theorem dL_refuses_346 : decode cL_refuses 346 = .ok (.bipush 10, 2) := by decide +kernel
theorem dL_refuses_348 : decode cL_refuses 348 = .ok (.iload_n 1, 1) := by decide +kernel
theorem dL_refuses_349 : decode cL_refuses 349 = .ok (.iload_n 2, 1) := by decide +kernel
theorem dL_refuses_350 : decode cL_refuses 350 = .ok (.irem, 1) := by decide +kernel
theorem dL_refuses_351 : decode cL_refuses 351 = .ok (.iload_n 1, 1) := by decide +kernel
theorem dL_refuses_352 : decode cL_refuses 352 = .ok (.iconst 2, 1) := by decide +kernel
theorem dL_refuses_353 : decode cL_refuses 353 = .ok (.irem, 1) := by decide +kernel
theorem dL_refuses_354 : decode cL_refuses 354 = .ok (.ifCond .ne 7, 3) := by decide +kernel
theorem dL_refuses_357 : decode cL_refuses 357 = .ok (.iconst 0, 1) := by decide +kernel
theorem dL_refuses_358 : decode cL_refuses 358 = .ok (.goto 11, 3) := by decide +kernel
theorem dL_refuses_361 : decode cL_refuses 361 = .ok (.sipush 501, 3) := by decide +kernel
theorem dL_refuses_364 : decode cL_refuses 364 = .ok (.iload_n 1, 1) := by decide +kernel
theorem dL_refuses_365 : decode cL_refuses 365 = .ok (.bipush 9, 2) := by decide +kernel
theorem dL_refuses_367 : decode cL_refuses 367 = .ok (.irem, 1) := by decide +kernel
theorem dL_refuses_368 : decode cL_refuses 368 = .ok (.iadd, 1) := by decide +kernel
theorem dL_refuses_369 : decode cL_refuses 369 = .ok (.iconst 0, 1) := by decide +kernel
theorem dL_refuses_370 : decode cL_refuses 370 = .ok (.invokestatic 170, 3) := by decide +kernel
theorem dL_refuses_373 : decode cL_refuses 373 = .ok (.ldc 15, 2) := by decide +kernel
theorem dL_refuses_375 : decode cL_refuses 375 = .ok (.if_icmp .ne 326, 3) := by decide +kernel
theorem dL_refuses_378 : decode cL_refuses 378 = .ok (.aload_n 0, 1) := by decide +kernel
theorem dL_refuses_379 : decode cL_refuses 379 = .ok (.bipush 11, 2) := by decide +kernel
theorem dL_refuses_381 : decode cL_refuses 381 = .ok (.iload_n 1, 1) := by decide +kernel
theorem dL_refuses_382 : decode cL_refuses 382 = .ok (.iconst 2, 1) := by decide +kernel
theorem dL_refuses_383 : decode cL_refuses 383 = .ok (.irem, 1) := by decide +kernel
theorem dL_refuses_384 : decode cL_refuses 384 = .ok (.ifCond .ne 7, 3) := by decide +kernel
theorem dL_refuses_387 : decode cL_refuses 387 = .ok (.iconst 0, 1) := by decide +kernel
theorem dL_refuses_388 : decode cL_refuses 388 = .ok (.goto 10, 3) := by decide +kernel
theorem dL_refuses_391 : decode cL_refuses 391 = .ok (.bipush 51, 2) := by decide +kernel
theorem dL_refuses_393 : decode cL_refuses 393 = .ok (.iload_n 1, 1) := by decide +kernel
theorem dL_refuses_394 : decode cL_refuses 394 = .ok (.bipush 9, 2) := by decide +kernel
theorem dL_refuses_396 : decode cL_refuses 396 = .ok (.irem, 1) := by decide +kernel
theorem dL_refuses_397 : decode cL_refuses 397 = .ok (.iadd, 1) := by decide +kernel
theorem dL_refuses_398 : decode cL_refuses 398 = .ok (.iconst 0, 1) := by decide +kernel
theorem dL_refuses_399 : decode cL_refuses 399 = .ok (.iconst 0, 1) := by decide +kernel
theorem dL_refuses_400 : decode cL_refuses 400 = .ok (.invokestatic 170, 3) := by decide +kernel
theorem dL_refuses_403 : decode cL_refuses 403 = .ok (.ldc 15, 2) := by decide +kernel
theorem dL_refuses_405 : decode cL_refuses 405 = .ok (.if_icmp .ne 296, 3) := by decide +kernel
theorem dL_refuses_408 : decode cL_refuses 408 = .ok (.aload_n 0, 1) := by decide +kernel
theorem dL_refuses_409 : decode cL_refuses 409 = .ok (.bipush 12, 2) := by decide +kernel
theorem dL_refuses_411 : decode cL_refuses 411 = .ok (.iconst 0, 1) := by decide +kernel
theorem dL_refuses_412 : decode cL_refuses 412 = .ok (.iload_n 1, 1) := by decide +kernel
theorem dL_refuses_413 : decode cL_refuses 413 = .ok (.iconst 5, 1) := by decide +kernel
theorem dL_refuses_414 : decode cL_refuses 414 = .ok (.irem, 1) := by decide +kernel
theorem dL_refuses_415 : decode cL_refuses 415 = .ok (.iconst 0, 1) := by decide +kernel
theorem dL_refuses_416 : decode cL_refuses 416 = .ok (.invokestatic 170, 3) := by decide +kernel
theorem dL_refuses_419 : decode cL_refuses 419 = .ok (.ldc 15, 2) := by decide +kernel
theorem dL_refuses_421 : decode cL_refuses 421 = .ok (.if_icmp .ne 280, 3) := by decide +kernel
theorem dL_refuses_424 : decode cL_refuses 424 = .ok (.aload_n 0, 1) := by decide +kernel
theorem dL_refuses_425 : decode cL_refuses 425 = .ok (.bipush 12, 2) := by decide +kernel
theorem dL_refuses_427 : decode cL_refuses 427 = .ok (.iload_n 1, 1) := by decide +kernel
theorem dL_refuses_428 : decode cL_refuses 428 = .ok (.iconst 2, 1) := by decide +kernel
theorem dL_refuses_429 : decode cL_refuses 429 = .ok (.irem, 1) := by decide +kernel
theorem dL_refuses_430 : decode cL_refuses 430 = .ok (.iload 4, 2) := by decide +kernel
theorem dL_refuses_432 : decode cL_refuses 432 = .ok (.iconst 0, 1) := by decide +kernel
theorem dL_refuses_433 : decode cL_refuses 433 = .ok (.invokestatic 170, 3) := by decide +kernel
theorem dL_refuses_436 : decode cL_refuses 436 = .ok (.ldc 15, 2) := by decide +kernel
theorem dL_refuses_438 : decode cL_refuses 438 = .ok (.if_icmp .ne 263, 3) := by decide +kernel
theorem dL_refuses_441 : decode cL_refuses 441 = .ok (.aload_n 0, 1) := by decide +kernel
theorem dL_refuses_442 : decode cL_refuses 442 = .ok (.bipush 12, 2) := by decide +kernel
theorem dL_refuses_444 : decode cL_refuses 444 = .ok (.iconst 2, 1) := by decide +kernel
theorem dL_refuses_445 : decode cL_refuses 445 = .ok (.iload_n 1, 1) := by decide +kernel
theorem dL_refuses_446 : decode cL_refuses 446 = .ok (.bipush 9, 2) := by decide +kernel
theorem dL_refuses_448 : decode cL_refuses 448 = .ok (.irem, 1) := by decide +kernel
theorem dL_refuses_449 : decode cL_refuses 449 = .ok (.iadd, 1) := by decide +kernel
theorem dL_refuses_450 : decode cL_refuses 450 = .ok (.bipush 10, 2) := by decide +kernel
theorem dL_refuses_452 : decode cL_refuses 452 = .ok (.iconst 0, 1) := by decide +kernel
theorem dL_refuses_453 : decode cL_refuses 453 = .ok (.invokestatic 170, 3) := by decide +kernel
theorem dL_refuses_456 : decode cL_refuses 456 = .ok (.ldc 15, 2) := by decide +kernel
theorem dL_refuses_458 : decode cL_refuses 458 = .ok (.if_icmp .ne 243, 3) := by decide +kernel
theorem dL_refuses_461 : decode cL_refuses 461 = .ok (.aload_n 0, 1) := by decide +kernel
theorem dL_refuses_462 : decode cL_refuses 462 = .ok (.bipush 14, 2) := by decide +kernel
theorem dL_refuses_464 : decode cL_refuses 464 = .ok (.iload_n 3, 1) := by decide +kernel
theorem dL_refuses_465 : decode cL_refuses 465 = .ok (.iconst 0, 1) := by decide +kernel
theorem dL_refuses_466 : decode cL_refuses 466 = .ok (.iconst 0, 1) := by decide +kernel
theorem dL_refuses_467 : decode cL_refuses 467 = .ok (.invokestatic 170, 3) := by decide +kernel
theorem dL_refuses_470 : decode cL_refuses 470 = .ok (.ldc 39, 2) := by decide +kernel
theorem dL_refuses_472 : decode cL_refuses 472 = .ok (.if_icmp .ne 229, 3) := by decide +kernel
theorem dL_refuses_475 : decode cL_refuses 475 = .ok (.aload_n 0, 1) := by decide +kernel
theorem dL_refuses_476 : decode cL_refuses 476 = .ok (.bipush 16, 2) := by decide +kernel
theorem dL_refuses_478 : decode cL_refuses 478 = .ok (.iload_n 3, 1) := by decide +kernel
theorem dL_refuses_479 : decode cL_refuses 479 = .ok (.iconst 0, 1) := by decide +kernel
theorem dL_refuses_480 : decode cL_refuses 480 = .ok (.iconst 0, 1) := by decide +kernel
theorem dL_refuses_481 : decode cL_refuses 481 = .ok (.invokestatic 170, 3) := by decide +kernel
theorem dL_refuses_484 : decode cL_refuses 484 = .ok (.ldc 39, 2) := by decide +kernel
theorem dL_refuses_486 : decode cL_refuses 486 = .ok (.if_icmp .ne 215, 3) := by decide +kernel
theorem dL_refuses_489 : decode cL_refuses 489 = .ok (.aload_n 0, 1) := by decide +kernel
theorem dL_refuses_490 : decode cL_refuses 490 = .ok (.bipush 16, 2) := by decide +kernel
theorem dL_refuses_492 : decode cL_refuses 492 = .ok (.iload_n 1, 1) := by decide +kernel
theorem dL_refuses_493 : decode cL_refuses 493 = .ok (.iload_n 2, 1) := by decide +kernel
theorem dL_refuses_494 : decode cL_refuses 494 = .ok (.irem, 1) := by decide +kernel
theorem dL_refuses_495 : decode cL_refuses 495 = .ok (.bipush 51, 2) := by decide +kernel
theorem dL_refuses_497 : decode cL_refuses 497 = .ok (.iload_n 1, 1) := by decide +kernel
theorem dL_refuses_498 : decode cL_refuses 498 = .ok (.bipush 9, 2) := by decide +kernel
theorem dL_refuses_500 : decode cL_refuses 500 = .ok (.irem, 1) := by decide +kernel
theorem dL_refuses_501 : decode cL_refuses 501 = .ok (.iadd, 1) := by decide +kernel
theorem dL_refuses_502 : decode cL_refuses 502 = .ok (.iconst 1, 1) := by decide +kernel
theorem dL_refuses_503 : decode cL_refuses 503 = .ok (.invokestatic 170, 3) := by decide +kernel
theorem dL_refuses_506 : decode cL_refuses 506 = .ok (.ldc 15, 2) := by decide +kernel
theorem dL_refuses_508 : decode cL_refuses 508 = .ok (.if_icmp .ne 193, 3) := by decide +kernel
theorem dL_refuses_511 : decode cL_refuses 511 = .ok (.aload_n 0, 1) := by decide +kernel
theorem dL_refuses_512 : decode cL_refuses 512 = .ok (.bipush 16, 2) := by decide +kernel
theorem dL_refuses_514 : decode cL_refuses 514 = .ok (.iload_n 1, 1) := by decide +kernel
theorem dL_refuses_515 : decode cL_refuses 515 = .ok (.iload_n 2, 1) := by decide +kernel
theorem dL_refuses_516 : decode cL_refuses 516 = .ok (.irem, 1) := by decide +kernel
theorem dL_refuses_517 : decode cL_refuses 517 = .ok (.iconst 1, 1) := by decide +kernel
theorem dL_refuses_518 : decode cL_refuses 518 = .ok (.iconst 0, 1) := by decide +kernel
theorem dL_refuses_519 : decode cL_refuses 519 = .ok (.invokestatic 170, 3) := by decide +kernel
theorem dL_refuses_522 : decode cL_refuses 522 = .ok (.ldc 15, 2) := by decide +kernel
theorem dL_refuses_524 : decode cL_refuses 524 = .ok (.if_icmp .ne 177, 3) := by decide +kernel
theorem dL_refuses_527 : decode cL_refuses 527 = .ok (.aload_n 0, 1) := by decide +kernel
theorem dL_refuses_528 : decode cL_refuses 528 = .ok (.bipush 17, 2) := by decide +kernel
theorem dL_refuses_530 : decode cL_refuses 530 = .ok (.iload_n 3, 1) := by decide +kernel
theorem dL_refuses_531 : decode cL_refuses 531 = .ok (.iconst 0, 1) := by decide +kernel
theorem dL_refuses_532 : decode cL_refuses 532 = .ok (.iconst 0, 1) := by decide +kernel
theorem dL_refuses_533 : decode cL_refuses 533 = .ok (.invokestatic 170, 3) := by decide +kernel
theorem dL_refuses_536 : decode cL_refuses 536 = .ok (.ldc 39, 2) := by decide +kernel
theorem dL_refuses_538 : decode cL_refuses 538 = .ok (.if_icmp .ne 163, 3) := by decide +kernel
theorem dL_refuses_541 : decode cL_refuses 541 = .ok (.aload_n 0, 1) := by decide +kernel
theorem dL_refuses_542 : decode cL_refuses 542 = .ok (.bipush 17, 2) := by decide +kernel
theorem dL_refuses_544 : decode cL_refuses 544 = .ok (.iload_n 1, 1) := by decide +kernel
theorem dL_refuses_545 : decode cL_refuses 545 = .ok (.iload_n 2, 1) := by decide +kernel
theorem dL_refuses_546 : decode cL_refuses 546 = .ok (.irem, 1) := by decide +kernel
theorem dL_refuses_547 : decode cL_refuses 547 = .ok (.sipush 501, 3) := by decide +kernel
theorem dL_refuses_550 : decode cL_refuses 550 = .ok (.iload_n 1, 1) := by decide +kernel
theorem dL_refuses_551 : decode cL_refuses 551 = .ok (.bipush 9, 2) := by decide +kernel
theorem dL_refuses_553 : decode cL_refuses 553 = .ok (.irem, 1) := by decide +kernel
theorem dL_refuses_554 : decode cL_refuses 554 = .ok (.iadd, 1) := by decide +kernel
theorem dL_refuses_555 : decode cL_refuses 555 = .ok (.iconst 0, 1) := by decide +kernel
theorem dL_refuses_556 : decode cL_refuses 556 = .ok (.invokestatic 170, 3) := by decide +kernel
theorem dL_refuses_559 : decode cL_refuses 559 = .ok (.ldc 15, 2) := by decide +kernel
theorem dL_refuses_561 : decode cL_refuses 561 = .ok (.if_icmp .ne 140, 3) := by decide +kernel
theorem dL_refuses_564 : decode cL_refuses 564 = .ok (.aload_n 0, 1) := by decide +kernel
theorem dL_refuses_565 : decode cL_refuses 565 = .ok (.bipush 18, 2) := by decide +kernel
theorem dL_refuses_567 : decode cL_refuses 567 = .ok (.iload_n 3, 1) := by decide +kernel
theorem dL_refuses_568 : decode cL_refuses 568 = .ok (.iconst 0, 1) := by decide +kernel
theorem dL_refuses_569 : decode cL_refuses 569 = .ok (.iconst 0, 1) := by decide +kernel
theorem dL_refuses_570 : decode cL_refuses 570 = .ok (.invokestatic 170, 3) := by decide +kernel
theorem dL_refuses_573 : decode cL_refuses 573 = .ok (.ldc 39, 2) := by decide +kernel
theorem dL_refuses_575 : decode cL_refuses 575 = .ok (.if_icmp .ne 126, 3) := by decide +kernel
theorem dL_refuses_578 : decode cL_refuses 578 = .ok (.aload_n 0, 1) := by decide +kernel
theorem dL_refuses_579 : decode cL_refuses 579 = .ok (.bipush 19, 2) := by decide +kernel
theorem dL_refuses_581 : decode cL_refuses 581 = .ok (.iload_n 3, 1) := by decide +kernel
theorem dL_refuses_582 : decode cL_refuses 582 = .ok (.iconst (-1), 1) := by decide +kernel
theorem dL_refuses_583 : decode cL_refuses 583 = .ok (.iconst 0, 1) := by decide +kernel
theorem dL_refuses_584 : decode cL_refuses 584 = .ok (.invokestatic 170, 3) := by decide +kernel
theorem dL_refuses_587 : decode cL_refuses 587 = .ok (.ldc 39, 2) := by decide +kernel
theorem dL_refuses_589 : decode cL_refuses 589 = .ok (.if_icmp .ne 112, 3) := by decide +kernel
theorem dL_refuses_592 : decode cL_refuses 592 = .ok (.aload_n 0, 1) := by decide +kernel
theorem dL_refuses_593 : decode cL_refuses 593 = .ok (.bipush 19, 2) := by decide +kernel
theorem dL_refuses_595 : decode cL_refuses 595 = .ok (.iload_n 1, 1) := by decide +kernel
theorem dL_refuses_596 : decode cL_refuses 596 = .ok (.iload_n 2, 1) := by decide +kernel
theorem dL_refuses_597 : decode cL_refuses 597 = .ok (.irem, 1) := by decide +kernel
theorem dL_refuses_598 : decode cL_refuses 598 = .ok (.iconst (-1), 1) := by decide +kernel
theorem dL_refuses_599 : decode cL_refuses 599 = .ok (.iload_n 1, 1) := by decide +kernel
theorem dL_refuses_600 : decode cL_refuses 600 = .ok (.bipush 9, 2) := by decide +kernel
theorem dL_refuses_602 : decode cL_refuses 602 = .ok (.irem, 1) := by decide +kernel
theorem dL_refuses_603 : decode cL_refuses 603 = .ok (.isub, 1) := by decide +kernel
theorem dL_refuses_604 : decode cL_refuses 604 = .ok (.iconst 0, 1) := by decide +kernel
theorem dL_refuses_605 : decode cL_refuses 605 = .ok (.invokestatic 170, 3) := by decide +kernel
theorem dL_refuses_608 : decode cL_refuses 608 = .ok (.ldc 15, 2) := by decide +kernel
theorem dL_refuses_610 : decode cL_refuses 610 = .ok (.if_icmp .ne 91, 3) := by decide +kernel
theorem dL_refuses_613 : decode cL_refuses 613 = .ok (.aload_n 0, 1) := by decide +kernel
theorem dL_refuses_614 : decode cL_refuses 614 = .ok (.bipush 20, 2) := by decide +kernel
theorem dL_refuses_616 : decode cL_refuses 616 = .ok (.iconst 2, 1) := by decide +kernel
theorem dL_refuses_617 : decode cL_refuses 617 = .ok (.iload_n 1, 1) := by decide +kernel
theorem dL_refuses_618 : decode cL_refuses 618 = .ok (.bipush 50, 2) := by decide +kernel
theorem dL_refuses_620 : decode cL_refuses 620 = .ok (.irem, 1) := by decide +kernel
theorem dL_refuses_621 : decode cL_refuses 621 = .ok (.iadd, 1) := by decide +kernel
theorem dL_refuses_622 : decode cL_refuses 622 = .ok (.iconst 0, 1) := by decide +kernel
theorem dL_refuses_623 : decode cL_refuses 623 = .ok (.iconst 0, 1) := by decide +kernel
theorem dL_refuses_624 : decode cL_refuses 624 = .ok (.invokestatic 170, 3) := by decide +kernel
theorem dL_refuses_627 : decode cL_refuses 627 = .ok (.ldc 39, 2) := by decide +kernel
theorem dL_refuses_629 : decode cL_refuses 629 = .ok (.if_icmp .ne 72, 3) := by decide +kernel
theorem dL_refuses_632 : decode cL_refuses 632 = .ok (.aload_n 0, 1) := by decide +kernel
theorem dL_refuses_633 : decode cL_refuses 633 = .ok (.bipush 21, 2) := by decide +kernel
theorem dL_refuses_635 : decode cL_refuses 635 = .ok (.iconst (-1), 1) := by decide +kernel
theorem dL_refuses_636 : decode cL_refuses 636 = .ok (.iload_n 1, 1) := by decide +kernel
theorem dL_refuses_637 : decode cL_refuses 637 = .ok (.bipush 9, 2) := by decide +kernel
theorem dL_refuses_639 : decode cL_refuses 639 = .ok (.irem, 1) := by decide +kernel
theorem dL_refuses_640 : decode cL_refuses 640 = .ok (.isub, 1) := by decide +kernel
theorem dL_refuses_641 : decode cL_refuses 641 = .ok (.iconst 0, 1) := by decide +kernel
theorem dL_refuses_642 : decode cL_refuses 642 = .ok (.iconst 0, 1) := by decide +kernel
theorem dL_refuses_643 : decode cL_refuses 643 = .ok (.invokestatic 170, 3) := by decide +kernel
theorem dL_refuses_646 : decode cL_refuses 646 = .ok (.ldc 39, 2) := by decide +kernel
theorem dL_refuses_648 : decode cL_refuses 648 = .ok (.if_icmp .ne 53, 3) := by decide +kernel
theorem dL_refuses_651 : decode cL_refuses 651 = .ok (.aload_n 0, 1) := by decide +kernel
theorem dL_refuses_652 : decode cL_refuses 652 = .ok (.iconst 0, 1) := by decide +kernel
theorem dL_refuses_653 : decode cL_refuses 653 = .ok (.lconst 0, 1) := by decide +kernel
theorem dL_refuses_654 : decode cL_refuses 654 = .ok (.invokestatic 174, 3) := by decide +kernel
theorem dL_refuses_657 : decode cL_refuses 657 = .ok (.ldc 15, 2) := by decide +kernel
theorem dL_refuses_659 : decode cL_refuses 659 = .ok (.if_icmp .ne 42, 3) := by decide +kernel
theorem dL_refuses_662 : decode cL_refuses 662 = .ok (.aload_n 0, 1) := by decide +kernel
theorem dL_refuses_663 : decode cL_refuses 663 = .ok (.iconst 1, 1) := by decide +kernel
theorem dL_refuses_664 : decode cL_refuses 664 = .ok (.ldc2_w 178, 3) := by decide +kernel
theorem dL_refuses_667 : decode cL_refuses 667 = .ok (.iload_n 1, 1) := by decide +kernel
theorem dL_refuses_668 : decode cL_refuses 668 = .ok (.i2l, 1) := by decide +kernel
theorem dL_refuses_669 : decode cL_refuses 669 = .ok (.ladd, 1) := by decide +kernel
theorem dL_refuses_670 : decode cL_refuses 670 = .ok (.invokestatic 174, 3) := by decide +kernel
theorem dL_refuses_673 : decode cL_refuses 673 = .ok (.ldc 15, 2) := by decide +kernel
theorem dL_refuses_675 : decode cL_refuses 675 = .ok (.if_icmp .ne 26, 3) := by decide +kernel
theorem dL_refuses_678 : decode cL_refuses 678 = .ok (.aload_n 0, 1) := by decide +kernel
theorem dL_refuses_679 : decode cL_refuses 679 = .ok (.iload_n 1, 1) := by decide +kernel
theorem dL_refuses_680 : decode cL_refuses 680 = .ok (.i2l, 1) := by decide +kernel
theorem dL_refuses_681 : decode cL_refuses 681 = .ok (.sipush 301, 3) := by decide +kernel
theorem dL_refuses_684 : decode cL_refuses 684 = .ok (.iload_n 1, 1) := by decide +kernel
theorem dL_refuses_685 : decode cL_refuses 685 = .ok (.bipush 9, 2) := by decide +kernel
theorem dL_refuses_687 : decode cL_refuses 687 = .ok (.irem, 1) := by decide +kernel
theorem dL_refuses_688 : decode cL_refuses 688 = .ok (.iadd, 1) := by decide +kernel
theorem dL_refuses_689 : decode cL_refuses 689 = .ok (.invokestatic 180, 3) := by decide +kernel
theorem dL_refuses_692 : decode cL_refuses 692 = .ok (.ldc 15, 2) := by decide +kernel
theorem dL_refuses_694 : decode cL_refuses 694 = .ok (.if_icmp .ne 7, 3) := by decide +kernel
theorem dL_refuses_697 : decode cL_refuses 697 = .ok (.iconst 1, 1) := by decide +kernel
theorem dL_refuses_698 : decode cL_refuses 698 = .ok (.goto 4, 3) := by decide +kernel
theorem dL_refuses_701 : decode cL_refuses 701 = .ok (.iconst 0, 1) := by decide +kernel
theorem dL_refuses_702 : decode cL_refuses 702 = .ok (.ireturn, 1) := by decide +kernel
set_option maxRecDepth 20000 in
theorem ggL_holds_L_call : GoodIn wsL_holds wsL_call := goodIn_ca (goodIn_ca (goodIn_ca (goodIn_r _ [5, 6, 7, 4, 8, 9, 10, 11, 12, 13, 14, 15, 16, 17, 18, 19, 20, 21, 22, 23, 24, 25, 26, 27, 28, 29, 30, 31, 32, 33, 34, 35, 36, 37, 38, 39, 40, 41, 42, 43, 44, 45, 46, 47, 48, 49, 50, 51, 52, 53, 54, 55, 56, 57, 58, 59, 60, 61, 62, 63, 64, 65, 66, 67, 68, 69, 70, 71, 72, 73, 74, 75, 76, 77, 78, 79, 80, 81, 82, 83, 84, 85, 86, 87, 88, 89, 90, 91, 92, 93, 94, 95, 96, 97, 98, 99, 100, 101, 102, 103, 104, 105, 106, 107, 108, 109, 110, 111, 112, 113, 114, 115, 116, 117, 118, 119, 120, 121, 122, 123, 124, 125, 126, 127, 128, 129, 130, 131, 132, 133, 134, 135, 136, 137, 138, 139, 140, 141, 142, 143, 144, 145, 146, 147, 148, 149, 150, 151, 152, 153, 154, 155, 156, 157, 158, 159, 160, 161, 162, 163, 164, 165, 166, 167, 168, 169, 170, 171, 172, 173, 174, 175, 176, 177, 178, 179, 180, 181, 182, 183, 184, 185, 186, 187, 188, 189, 190, 191, 192, 193, 194, 195, 196, 197, 198, 199, 200, 201, 202, 203, 204, 205, 206, 207, 208, 209, 210, 211, 212, 213, 214, 215, 216, 217, 218, 219, 220, 221, 222, 223, 224, 225, 226, 227, 228, 229, 230, 231, 232, 233, 234, 235, 236, 237, 238, 239, 240, 241, 242, 243, 244, 245, 246, 247, 248, 249, 250, 251, 252, 253, 254, 255, 256, 257, 258, 259, 260, 261, 262, 263, 264, 265, 266, 267, 268, 269, 270, 271, 272, 273, 274, 275, 276, 277, 278, 279, 280, 281, 282, 283, 284, 285, 286, 287, 288, 289, 290, 291, 292, 293, 294, 295, 296, 297, 298, 299, 300, 301, 302, 303, 304, 305, 306, 307, 308, 309, 310, 311, 312, 313, 314, 315, 316, 317, 318, 319, 320, 321, 322, 323, 324, 325, 326, 327, 328, 329, 330, 331, 332, 333, 334, 335, 336, 337, 338, 339, 340, 341, 342, 343, 344, 345, 346, 347, 348, 349, 350, 351, 352, 353, 354, 355, 356, 357, 358, 359, 360, 361, 362, 363, 364, 365, 366, 367, 368, 369, 370, 371, 372, 373, 374, 375, 376, 377, 378, 379, 380, 381, 382, 383, 384, 385, 386, 387, 388, 389, 390, 391, 392, 393, 394, 395, 396, 397, 398, 399, 400, 401, 402, 403, 404, 405, 406, 407, 408, 409, 410, 411, 412, 413, 414, 415, 416, 417, 418, 419, 420, 421, 422, 423, 424, 425, 426, 427, 428, 429, 430, 431, 432, 433, 434, 435, 436, 437, 438, 439, 440, 441, 442, 443, 444, 445, 446, 447, 448, 449, 450, 451, 452, 453, 454, 455, 456, 457, 458, 459, 460, 461, 462, 463, 464, 465, 466, 467, 468, 469, 470, 471, 472, 473, 474, 475, 476, 477, 478, 479, 480, 481, 482, 483, 484, 485, 486, 487, 488] (by decide +kernel) (by decide +kernel)) (goodIn_sub (fun _ h => List.mem_cons_of_mem _ (List.mem_append_left _ (List.mem_append_left _ (List.mem_append_right _ h)))) (by decide +kernel))) (goodIn_sub (fun _ h => List.mem_cons_of_mem _ (List.mem_append_left _ (List.mem_append_right _ h))) (by decide +kernel))) (goodIn_sub (fun _ h => List.mem_cons_of_mem _ (List.mem_append_right _ h)) (by decide +kernel))
set_option maxRecDepth 20000 in
theorem gL_holds_L_call : GoodIn wsL_holds (va_wsS RL 170 yL_call wsL_call) := goodIn_app (goodIn_of _ (by decide +kernel)) ggL_holds_L_call
theorem dL_holds_0 : decode cL_holds 0 = .ok (.aload_n 0, 1) := by decide +kernel
theorem dL_holds_1 : decode cL_holds 1 = .ok (.iconst 2, 1) := by decide +kernel
theorem dL_holds_2 : decode cL_holds 2 = .ok (.iconst 0, 1) := by decide +kernel
theorem dL_holds_3 : decode cL_holds 3 = .ok (.iconst 0, 1) := by decide +kernel
theorem dL_holds_4 : decode cL_holds 4 = .ok (.iconst 0, 1) := by decide +kernel
theorem dL_holds_5 : decode cL_holds 5 = .ok (.invokestatic 170, 3) := by decide +kernel
theorem dL_holds_8 : decode cL_holds 8 = .ok (.istore_n 2, 1) := by decide +kernel
theorem dL_holds_9 : decode cL_holds 9 = .ok (.aload_n 0, 1) := by decide +kernel
theorem dL_holds_10 : decode cL_holds 10 = .ok (.iconst 2, 1) := by decide +kernel
theorem dL_holds_11 : decode cL_holds 11 = .ok (.iconst 2, 1) := by decide +kernel
theorem dL_holds_12 : decode cL_holds 12 = .ok (.iconst 0, 1) := by decide +kernel
theorem dL_holds_13 : decode cL_holds 13 = .ok (.iconst 0, 1) := by decide +kernel
theorem dL_holds_14 : decode cL_holds 14 = .ok (.invokestatic 170, 3) := by decide +kernel
theorem dL_holds_17 : decode cL_holds 17 = .ok (.istore_n 3, 1) := by decide +kernel
theorem dL_holds_18 : decode cL_holds 18 = .ok (.iconst 0, 1) := by decide +kernel
theorem dL_holds_19 : decode cL_holds 19 = .ok (.istore 4, 2) := by decide +kernel
theorem dL_holds_21 : decode cL_holds 21 = .ok (.ldc 184, 2) := by decide +kernel
theorem dL_holds_23 : decode cL_holds 23 = .ok (.istore 5, 2) := by decide +kernel
theorem dL_holds_25 : decode cL_holds 25 = .ok (.aload_n 0, 1) := by decide +kernel
theorem dL_holds_26 : decode cL_holds 26 = .ok (.iconst 2, 1) := by decide +kernel
theorem dL_holds_27 : decode cL_holds 27 = .ok (.bipush 9, 2) := by decide +kernel
theorem dL_holds_29 : decode cL_holds 29 = .ok (.iconst 0, 1) := by decide +kernel
theorem dL_holds_30 : decode cL_holds 30 = .ok (.iconst 0, 1) := by decide +kernel
theorem dL_holds_31 : decode cL_holds 31 = .ok (.invokestatic 170, 3) := by decide +kernel
theorem dL_holds_34 : decode cL_holds 34 = .ok (.iconst 1, 1) := by decide +kernel
theorem dL_holds_35 : decode cL_holds 35 = .ok (.if_icmp .ne 7, 3) := by decide +kernel
theorem dL_holds_38 : decode cL_holds 38 = .ok (.iconst 1, 1) := by decide +kernel
theorem dL_holds_39 : decode cL_holds 39 = .ok (.goto 4, 3) := by decide +kernel
theorem dL_holds_42 : decode cL_holds 42 = .ok (.iconst 0, 1) := by decide +kernel
theorem dL_holds_43 : decode cL_holds 43 = .ok (.istore 6, 2) := by decide +kernel
theorem dL_holds_45 : decode cL_holds 45 = .ok (.iload_n 2, 1) := by decide +kernel
theorem dL_holds_46 : decode cL_holds 46 = .ok (.iconst 4, 1) := by decide +kernel
theorem dL_holds_47 : decode cL_holds 47 = .ok (.if_icmp .lt 123, 3) := by decide +kernel
theorem dL_holds_50 : decode cL_holds 50 = .ok (.iload_n 2, 1) := by decide +kernel
theorem dL_holds_51 : decode cL_holds 51 = .ok (.bipush 32, 2) := by decide +kernel
theorem dL_holds_53 : decode cL_holds 53 = .ok (.if_icmp .gt 117, 3) := by decide +kernel
theorem dL_holds_56 : decode cL_holds 56 = .ok (.iload_n 3, 1) := by decide +kernel
theorem dL_holds_57 : decode cL_holds 57 = .ok (.ifCond .lt 113, 3) := by decide +kernel
theorem dL_holds_60 : decode cL_holds 60 = .ok (.iload_n 3, 1) := by decide +kernel
theorem dL_holds_61 : decode cL_holds 61 = .ok (.iload_n 2, 1) := by decide +kernel
theorem dL_holds_62 : decode cL_holds 62 = .ok (.if_icmp .gt 108, 3) := by decide +kernel
theorem dL_holds_65 : decode cL_holds 65 = .ok (.aload_n 0, 1) := by decide +kernel
theorem dL_holds_66 : decode cL_holds 66 = .ok (.iconst 2, 1) := by decide +kernel
theorem dL_holds_67 : decode cL_holds 67 = .ok (.iconst 1, 1) := by decide +kernel
theorem dL_holds_68 : decode cL_holds 68 = .ok (.iconst 0, 1) := by decide +kernel
theorem dL_holds_69 : decode cL_holds 69 = .ok (.iconst 0, 1) := by decide +kernel
theorem dL_holds_70 : decode cL_holds 70 = .ok (.invokestatic 170, 3) := by decide +kernel
theorem dL_holds_73 : decode cL_holds 73 = .ok (.iload_n 2, 1) := by decide +kernel
theorem dL_holds_74 : decode cL_holds 74 = .ok (.if_icmp .ge 96, 3) := by decide +kernel
theorem dL_holds_77 : decode cL_holds 77 = .ok (.aload_n 0, 1) := by decide +kernel
theorem dL_holds_78 : decode cL_holds 78 = .ok (.iconst 5, 1) := by decide +kernel
theorem dL_holds_79 : decode cL_holds 79 = .ok (.iload_n 3, 1) := by decide +kernel
theorem dL_holds_80 : decode cL_holds 80 = .ok (.iconst 0, 1) := by decide +kernel
theorem dL_holds_81 : decode cL_holds 81 = .ok (.iconst 0, 1) := by decide +kernel
theorem dL_holds_82 : decode cL_holds 82 = .ok (.invokestatic 170, 3) := by decide +kernel
theorem dL_holds_85 : decode cL_holds 85 = .ok (.iconst (-1), 1) := by decide +kernel
theorem dL_holds_86 : decode cL_holds 86 = .ok (.if_icmp .ne 84, 3) := by decide +kernel
theorem dL_holds_89 : decode cL_holds 89 = .ok (.aload_n 0, 1) := by decide +kernel
theorem dL_holds_90 : decode cL_holds 90 = .ok (.iconst 2, 1) := by decide +kernel
theorem dL_holds_91 : decode cL_holds 91 = .ok (.iconst 3, 1) := by decide +kernel
theorem dL_holds_92 : decode cL_holds 92 = .ok (.iconst 0, 1) := by decide +kernel
theorem dL_holds_93 : decode cL_holds 93 = .ok (.iconst 0, 1) := by decide +kernel
theorem dL_holds_94 : decode cL_holds 94 = .ok (.invokestatic 170, 3) := by decide +kernel
theorem dL_holds_97 : decode cL_holds 97 = .ok (.aload_n 0, 1) := by decide +kernel
theorem dL_holds_98 : decode cL_holds 98 = .ok (.iconst 2, 1) := by decide +kernel
theorem dL_holds_99 : decode cL_holds 99 = .ok (.bipush 10, 2) := by decide +kernel
theorem dL_holds_101 : decode cL_holds 101 = .ok (.iconst 0, 1) := by decide +kernel
theorem dL_holds_102 : decode cL_holds 102 = .ok (.iconst 0, 1) := by decide +kernel
theorem dL_holds_103 : decode cL_holds 103 = .ok (.invokestatic 170, 3) := by decide +kernel
theorem dL_holds_106 : decode cL_holds 106 = .ok (.iadd, 1) := by decide +kernel
theorem dL_holds_107 : decode cL_holds 107 = .ok (.iconst 4, 1) := by decide +kernel
theorem dL_holds_108 : decode cL_holds 108 = .ok (.if_icmp .gt 62, 3) := by decide +kernel
theorem dL_holds_111 : decode cL_holds 111 = .ok (.aload_n 0, 1) := by decide +kernel
theorem dL_holds_112 : decode cL_holds 112 = .ok (.iconst 2, 1) := by decide +kernel
theorem dL_holds_113 : decode cL_holds 113 = .ok (.bipush 11, 2) := by decide +kernel
theorem dL_holds_115 : decode cL_holds 115 = .ok (.iconst 0, 1) := by decide +kernel
theorem dL_holds_116 : decode cL_holds 116 = .ok (.iconst 0, 1) := by decide +kernel
theorem dL_holds_117 : decode cL_holds 117 = .ok (.invokestatic 170, 3) := by decide +kernel
theorem dL_holds_120 : decode cL_holds 120 = .ok (.aload_n 0, 1) := by decide +kernel
theorem dL_holds_121 : decode cL_holds 121 = .ok (.iconst 2, 1) := by decide +kernel
theorem dL_holds_122 : decode cL_holds 122 = .ok (.iconst 4, 1) := by decide +kernel
theorem dL_holds_123 : decode cL_holds 123 = .ok (.iconst 0, 1) := by decide +kernel
theorem dL_holds_124 : decode cL_holds 124 = .ok (.iconst 0, 1) := by decide +kernel
theorem dL_holds_125 : decode cL_holds 125 = .ok (.invokestatic 170, 3) := by decide +kernel
theorem dL_holds_128 : decode cL_holds 128 = .ok (.aload_n 0, 1) := by decide +kernel
theorem dL_holds_129 : decode cL_holds 129 = .ok (.iconst 2, 1) := by decide +kernel
theorem dL_holds_130 : decode cL_holds 130 = .ok (.iconst 5, 1) := by decide +kernel
theorem dL_holds_131 : decode cL_holds 131 = .ok (.iconst 0, 1) := by decide +kernel
theorem dL_holds_132 : decode cL_holds 132 = .ok (.iconst 0, 1) := by decide +kernel
theorem dL_holds_133 : decode cL_holds 133 = .ok (.invokestatic 170, 3) := by decide +kernel
theorem dL_holds_136 : decode cL_holds 136 = .ok (.iadd, 1) := by decide +kernel
theorem dL_holds_137 : decode cL_holds 137 = .ok (.aload_n 0, 1) := by decide +kernel
theorem dL_holds_138 : decode cL_holds 138 = .ok (.iconst 2, 1) := by decide +kernel
theorem dL_holds_139 : decode cL_holds 139 = .ok (.bipush 10, 2) := by decide +kernel
theorem dL_holds_141 : decode cL_holds 141 = .ok (.iconst 0, 1) := by decide +kernel
theorem dL_holds_142 : decode cL_holds 142 = .ok (.iconst 0, 1) := by decide +kernel
theorem dL_holds_143 : decode cL_holds 143 = .ok (.invokestatic 170, 3) := by decide +kernel
theorem dL_holds_146 : decode cL_holds 146 = .ok (.iadd, 1) := by decide +kernel
theorem dL_holds_147 : decode cL_holds 147 = .ok (.if_icmp .ne 23, 3) := by decide +kernel
theorem dL_holds_150 : decode cL_holds 150 = .ok (.iload 6, 2) := by decide +kernel
theorem dL_holds_152 : decode cL_holds 152 = .ok (.ifCond .eq 14, 3) := by decide +kernel
theorem dL_holds_155 : decode cL_holds 155 = .ok (.aload_n 0, 1) := by decide +kernel
theorem dL_holds_156 : decode cL_holds 156 = .ok (.iconst 2, 1) := by decide +kernel
theorem dL_holds_157 : decode cL_holds 157 = .ok (.iconst 3, 1) := by decide +kernel
theorem dL_holds_158 : decode cL_holds 158 = .ok (.iconst 0, 1) := by decide +kernel
theorem dL_holds_159 : decode cL_holds 159 = .ok (.iconst 0, 1) := by decide +kernel
theorem dL_holds_160 : decode cL_holds 160 = .ok (.invokestatic 170, 3) := by decide +kernel
theorem dL_holds_163 : decode cL_holds 163 = .ok (.ifCond .ne 7, 3) := by decide +kernel
theorem dL_holds_166 : decode cL_holds 166 = .ok (.iconst 1, 1) := by decide +kernel
theorem dL_holds_167 : decode cL_holds 167 = .ok (.goto 4, 3) := by decide +kernel
theorem dL_holds_170 : decode cL_holds 170 = .ok (.iconst 0, 1) := by decide +kernel
theorem dL_holds_171 : decode cL_holds 171 = .ok (.istore 7, 2) := by decide +kernel
theorem dL_holds_173 : decode cL_holds 173 = .ok (.iconst 0, 1) := by decide +kernel
theorem dL_holds_174 : decode cL_holds 174 = .ok (.istore 8, 2) := by decide +kernel
theorem dL_holds_176 : decode cL_holds 176 = .ok (.iload 8, 2) := by decide +kernel
theorem dL_holds_178 : decode cL_holds 178 = .ok (.iload_n 2, 1) := by decide +kernel
theorem dL_holds_179 : decode cL_holds 179 = .ok (.if_icmp .gt 121, 3) := by decide +kernel
theorem dL_holds_182 : decode cL_holds 182 = .ok (.iload 7, 2) := by decide +kernel
theorem dL_holds_184 : decode cL_holds 184 = .ok (.ifCond .eq 116, 3) := by decide +kernel
theorem dL_holds_187 : decode cL_holds 187 = .ok (.aload_n 0, 1) := by decide +kernel
theorem dL_holds_188 : decode cL_holds 188 = .ok (.iconst 5, 1) := by decide +kernel
theorem dL_holds_189 : decode cL_holds 189 = .ok (.iload 8, 2) := by decide +kernel
theorem dL_holds_191 : decode cL_holds 191 = .ok (.iconst 0, 1) := by decide +kernel
theorem dL_holds_192 : decode cL_holds 192 = .ok (.iconst 0, 1) := by decide +kernel
theorem dL_holds_193 : decode cL_holds 193 = .ok (.invokestatic 170, 3) := by decide +kernel
theorem dL_holds_196 : decode cL_holds 196 = .ok (.istore 9, 2) := by decide +kernel
theorem dL_holds_198 : decode cL_holds 198 = .ok (.aload_n 0, 1) := by decide +kernel
theorem dL_holds_199 : decode cL_holds 199 = .ok (.bipush 6, 2) := by decide +kernel
theorem dL_holds_201 : decode cL_holds 201 = .ok (.iload 8, 2) := by decide +kernel
theorem dL_holds_203 : decode cL_holds 203 = .ok (.iconst 0, 1) := by decide +kernel
theorem dL_holds_204 : decode cL_holds 204 = .ok (.iconst 0, 1) := by decide +kernel
theorem dL_holds_205 : decode cL_holds 205 = .ok (.invokestatic 170, 3) := by decide +kernel
theorem dL_holds_208 : decode cL_holds 208 = .ok (.istore 10, 2) := by decide +kernel
theorem dL_holds_210 : decode cL_holds 210 = .ok (.iload 10, 2) := by decide +kernel
theorem dL_holds_212 : decode cL_holds 212 = .ok (.iload 4, 2) := by decide +kernel
theorem dL_holds_214 : decode cL_holds 214 = .ok (.if_icmp .le 8, 3) := by decide +kernel
theorem dL_holds_217 : decode cL_holds 217 = .ok (.iload 10, 2) := by decide +kernel
theorem dL_holds_219 : decode cL_holds 219 = .ok (.goto 5, 3) := by decide +kernel
theorem dL_holds_222 : decode cL_holds 222 = .ok (.iload 4, 2) := by decide +kernel
theorem dL_holds_224 : decode cL_holds 224 = .ok (.istore 4, 2) := by decide +kernel
theorem dL_holds_226 : decode cL_holds 226 = .ok (.iload 10, 2) := by decide +kernel
theorem dL_holds_228 : decode cL_holds 228 = .ok (.iload 5, 2) := by decide +kernel
theorem dL_holds_230 : decode cL_holds 230 = .ok (.if_icmp .ge 8, 3) := by decide +kernel
theorem dL_holds_233 : decode cL_holds 233 = .ok (.iload 10, 2) := by decide +kernel
theorem dL_holds_235 : decode cL_holds 235 = .ok (.goto 5, 3) := by decide +kernel
theorem dL_holds_238 : decode cL_holds 238 = .ok (.iload 5, 2) := by decide +kernel
theorem dL_holds_240 : decode cL_holds 240 = .ok (.istore 5, 2) := by decide +kernel
theorem dL_holds_242 : decode cL_holds 242 = .ok (.iload 10, 2) := by decide +kernel
theorem dL_holds_244 : decode cL_holds 244 = .ok (.ifCond .lt 47, 3) := by decide +kernel
theorem dL_holds_247 : decode cL_holds 247 = .ok (.iload 8, 2) := by decide +kernel
theorem dL_holds_249 : decode cL_holds 249 = .ok (.iload_n 3, 1) := by decide +kernel
theorem dL_holds_250 : decode cL_holds 250 = .ok (.if_icmp .ne 12, 3) := by decide +kernel
theorem dL_holds_253 : decode cL_holds 253 = .ok (.iload 9, 2) := by decide +kernel
theorem dL_holds_255 : decode cL_holds 255 = .ok (.iconst (-1), 1) := by decide +kernel
theorem dL_holds_256 : decode cL_holds 256 = .ok (.if_icmp .ne 35, 3) := by decide +kernel
theorem dL_holds_259 : decode cL_holds 259 = .ok (.goto 28, 3) := by decide +kernel
theorem dL_holds_262 : decode cL_holds 262 = .ok (.iload 9, 2) := by decide +kernel
theorem dL_holds_264 : decode cL_holds 264 = .ok (.ifCond .lt 27, 3) := by decide +kernel
theorem dL_holds_267 : decode cL_holds 267 = .ok (.iload 9, 2) := by decide +kernel
theorem dL_holds_269 : decode cL_holds 269 = .ok (.iload_n 2, 1) := by decide +kernel
theorem dL_holds_270 : decode cL_holds 270 = .ok (.if_icmp .ge 21, 3) := by decide +kernel
theorem dL_holds_273 : decode cL_holds 273 = .ok (.aload_n 0, 1) := by decide +kernel
theorem dL_holds_274 : decode cL_holds 274 = .ok (.iconst 4, 1) := by decide +kernel
theorem dL_holds_275 : decode cL_holds 275 = .ok (.iload 9, 2) := by decide +kernel
theorem dL_holds_277 : decode cL_holds 277 = .ok (.iconst 0, 1) := by decide +kernel
theorem dL_holds_278 : decode cL_holds 278 = .ok (.iconst 0, 1) := by decide +kernel
theorem dL_holds_279 : decode cL_holds 279 = .ok (.invokestatic 170, 3) := by decide +kernel
theorem dL_holds_282 : decode cL_holds 282 = .ok (.iload 8, 2) := by decide +kernel
theorem dL_holds_284 : decode cL_holds 284 = .ok (.if_icmp .ne 7, 3) := by decide +kernel
theorem dL_holds_287 : decode cL_holds 287 = .ok (.iconst 1, 1) := by decide +kernel
theorem dL_holds_288 : decode cL_holds 288 = .ok (.goto 4, 3) := by decide +kernel
theorem dL_holds_291 : decode cL_holds 291 = .ok (.iconst 0, 1) := by decide +kernel
theorem dL_holds_292 : decode cL_holds 292 = .ok (.istore 7, 2) := by decide +kernel
theorem dL_holds_294 : decode cL_holds 294 = .ok (.iinc 8 1, 3) := by decide +kernel
theorem dL_holds_297 : decode cL_holds 297 = .ok (.goto (-121), 3) := by decide +kernel
theorem dL_holds_300 : decode cL_holds 300 = .ok (.iload_n 1, 1) := by decide +kernel
theorem dL_holds_301 : decode cL_holds 301 = .ok (.iload_n 2, 1) := by decide +kernel
theorem dL_holds_302 : decode cL_holds 302 = .ok (.irem, 1) := by decide +kernel
theorem dL_holds_303 : decode cL_holds 303 = .ok (.istore 8, 2) := by decide +kernel
theorem dL_holds_305 : decode cL_holds 305 = .ok (.aload_n 0, 1) := by decide +kernel
theorem dL_holds_306 : decode cL_holds 306 = .ok (.bipush 18, 2) := by decide +kernel
theorem dL_holds_308 : decode cL_holds 308 = .ok (.iload 8, 2) := by decide +kernel
theorem dL_holds_310 : decode cL_holds 310 = .ok (.iconst 0, 1) := by decide +kernel
theorem dL_holds_311 : decode cL_holds 311 = .ok (.iconst 0, 1) := by decide +kernel
theorem dL_holds_312 : decode cL_holds 312 = .ok (.invokestatic 170, 3) := by decide +kernel
theorem dL_holds_315 : decode cL_holds 315 = .ok (.istore 9, 2) := by decide +kernel
theorem dL_holds_317 : decode cL_holds 317 = .ok (.aload_n 0, 1) := by decide +kernel
theorem dL_holds_318 : decode cL_holds 318 = .ok (.iconst 4, 1) := by decide +kernel
theorem dL_holds_319 : decode cL_holds 319 = .ok (.iload 8, 2) := by decide +kernel
theorem dL_holds_321 : decode cL_holds 321 = .ok (.iconst 0, 1) := by decide +kernel
theorem dL_holds_322 : decode cL_holds 322 = .ok (.iconst 0, 1) := by decide +kernel
theorem dL_holds_323 : decode cL_holds 323 = .ok (.invokestatic 170, 3) := by decide +kernel
theorem dL_holds_326 : decode cL_holds 326 = .ok (.istore 10, 2) := by decide +kernel
theorem dL_holds_328 : decode cL_holds 328 = .ok (.iload 7, 2) := by decide +kernel
theorem dL_holds_330 : decode cL_holds 330 = .ok (.ifCond .eq 120, 3) := by decide +kernel
theorem dL_holds_333 : decode cL_holds 333 = .ok (.aload_n 0, 1) := by decide +kernel
theorem dL_holds_334 : decode cL_holds 334 = .ok (.iconst 2, 1) := by decide +kernel
theorem dL_holds_335 : decode cL_holds 335 = .ok (.bipush 6, 2) := by decide +kernel
theorem dL_holds_337 : decode cL_holds 337 = .ok (.iconst 0, 1) := by decide +kernel
theorem dL_holds_338 : decode cL_holds 338 = .ok (.iconst 0, 1) := by decide +kernel
theorem dL_holds_339 : decode cL_holds 339 = .ok (.invokestatic 170, 3) := by decide +kernel
theorem dL_holds_342 : decode cL_holds 342 = .ok (.iload 4, 2) := by decide +kernel
theorem dL_holds_344 : decode cL_holds 344 = .ok (.if_icmp .ne 106, 3) := by decide +kernel
theorem dL_holds_347 : decode cL_holds 347 = .ok (.aload_n 0, 1) := by decide +kernel
theorem dL_holds_348 : decode cL_holds 348 = .ok (.iconst 2, 1) := by decide +kernel
theorem dL_holds_349 : decode cL_holds 349 = .ok (.bipush 7, 2) := by decide +kernel
theorem dL_holds_351 : decode cL_holds 351 = .ok (.iconst 0, 1) := by decide +kernel
theorem dL_holds_352 : decode cL_holds 352 = .ok (.iconst 0, 1) := by decide +kernel
theorem dL_holds_353 : decode cL_holds 353 = .ok (.invokestatic 170, 3) := by decide +kernel
theorem dL_holds_356 : decode cL_holds 356 = .ok (.iload 5, 2) := by decide +kernel
theorem dL_holds_358 : decode cL_holds 358 = .ok (.if_icmp .ne 92, 3) := by decide +kernel
theorem dL_holds_361 : decode cL_holds 361 = .ok (.iload 9, 2) := by decide +kernel
theorem dL_holds_363 : decode cL_holds 363 = .ok (.ifCond .le 87, 3) := by decide +kernel
theorem dL_holds_366 : decode cL_holds 366 = .ok (.iload 9, 2) := by decide +kernel
theorem dL_holds_368 : decode cL_holds 368 = .ok (.iload_n 2, 1) := by decide +kernel
theorem dL_holds_369 : decode cL_holds 369 = .ok (.if_icmp .gt 81, 3) := by decide +kernel
theorem dL_holds_372 : decode cL_holds 372 = .ok (.aload_n 0, 1) := by decide +kernel
theorem dL_holds_373 : decode cL_holds 373 = .ok (.bipush 19, 2) := by decide +kernel
theorem dL_holds_375 : decode cL_holds 375 = .ok (.iload 8, 2) := by decide +kernel
theorem dL_holds_377 : decode cL_holds 377 = .ok (.iconst 0, 1) := by decide +kernel
theorem dL_holds_378 : decode cL_holds 378 = .ok (.iconst 0, 1) := by decide +kernel
theorem dL_holds_379 : decode cL_holds 379 = .ok (.invokestatic 170, 3) := by decide +kernel
theorem dL_holds_382 : decode cL_holds 382 = .ok (.iload 10, 2) := by decide +kernel
theorem dL_holds_384 : decode cL_holds 384 = .ok (.if_icmp .ne 66, 3) := by decide +kernel
theorem dL_holds_387 : decode cL_holds 387 = .ok (.aload_n 0, 1) := by decide +kernel
theorem dL_holds_388 : decode cL_holds 388 = .ok (.bipush 19, 2) := by decide +kernel
theorem dL_holds_390 : decode cL_holds 390 = .ok (.iload 8, 2) := by decide +kernel
theorem dL_holds_392 : decode cL_holds 392 = .ok (.iload 9, 2) := by decide +kernel
theorem dL_holds_394 : decode cL_holds 394 = .ok (.iconst 1, 1) := by decide +kernel
theorem dL_holds_395 : decode cL_holds 395 = .ok (.isub, 1) := by decide +kernel
theorem dL_holds_396 : decode cL_holds 396 = .ok (.iconst 0, 1) := by decide +kernel
theorem dL_holds_397 : decode cL_holds 397 = .ok (.invokestatic 170, 3) := by decide +kernel
theorem dL_holds_400 : decode cL_holds 400 = .ok (.iload 10, 2) := by decide +kernel
theorem dL_holds_402 : decode cL_holds 402 = .ok (.if_icmp .ne 48, 3) := by decide +kernel
theorem dL_holds_405 : decode cL_holds 405 = .ok (.aload_n 0, 1) := by decide +kernel
theorem dL_holds_406 : decode cL_holds 406 = .ok (.bipush 19, 2) := by decide +kernel
theorem dL_holds_408 : decode cL_holds 408 = .ok (.iload 8, 2) := by decide +kernel
theorem dL_holds_410 : decode cL_holds 410 = .ok (.iload 9, 2) := by decide +kernel
theorem dL_holds_412 : decode cL_holds 412 = .ok (.iconst 0, 1) := by decide +kernel
theorem dL_holds_413 : decode cL_holds 413 = .ok (.invokestatic 170, 3) := by decide +kernel
theorem dL_holds_416 : decode cL_holds 416 = .ok (.iload 10, 2) := by decide +kernel
theorem dL_holds_418 : decode cL_holds 418 = .ok (.iconst 1, 1) := by decide +kernel
theorem dL_holds_419 : decode cL_holds 419 = .ok (.iadd, 1) := by decide +kernel
theorem dL_holds_420 : decode cL_holds 420 = .ok (.iload_n 2, 1) := by decide +kernel
theorem dL_holds_421 : decode cL_holds 421 = .ok (.iconst 1, 1) := by decide +kernel
theorem dL_holds_422 : decode cL_holds 422 = .ok (.iadd, 1) := by decide +kernel
theorem dL_holds_423 : decode cL_holds 423 = .ok (.irem, 1) := by decide +kernel
theorem dL_holds_424 : decode cL_holds 424 = .ok (.if_icmp .ne 26, 3) := by decide +kernel
theorem dL_holds_427 : decode cL_holds 427 = .ok (.aload_n 0, 1) := by decide +kernel
theorem dL_holds_428 : decode cL_holds 428 = .ok (.bipush 19, 2) := by decide +kernel
theorem dL_holds_430 : decode cL_holds 430 = .ok (.iload 8, 2) := by decide +kernel
theorem dL_holds_432 : decode cL_holds 432 = .ok (.iload_n 2, 1) := by decide +kernel
theorem dL_holds_433 : decode cL_holds 433 = .ok (.iload_n 2, 1) := by decide +kernel
theorem dL_holds_434 : decode cL_holds 434 = .ok (.iconst 1, 1) := by decide +kernel
theorem dL_holds_435 : decode cL_holds 435 = .ok (.iadd, 1) := by decide +kernel
theorem dL_holds_436 : decode cL_holds 436 = .ok (.imul, 1) := by decide +kernel
theorem dL_holds_437 : decode cL_holds 437 = .ok (.iconst 0, 1) := by decide +kernel
theorem dL_holds_438 : decode cL_holds 438 = .ok (.invokestatic 170, 3) := by decide +kernel
theorem dL_holds_441 : decode cL_holds 441 = .ok (.iload 10, 2) := by decide +kernel
theorem dL_holds_443 : decode cL_holds 443 = .ok (.if_icmp .ne 7, 3) := by decide +kernel
theorem dL_holds_446 : decode cL_holds 446 = .ok (.iconst 1, 1) := by decide +kernel
theorem dL_holds_447 : decode cL_holds 447 = .ok (.goto 4, 3) := by decide +kernel
theorem dL_holds_450 : decode cL_holds 450 = .ok (.iconst 0, 1) := by decide +kernel
theorem dL_holds_451 : decode cL_holds 451 = .ok (.istore 7, 2) := by decide +kernel
theorem dL_holds_453 : decode cL_holds 453 = .ok (.iconst 1, 1) := by decide +kernel
theorem dL_holds_454 : decode cL_holds 454 = .ok (.iload_n 1, 1) := by decide +kernel
theorem dL_holds_455 : decode cL_holds 455 = .ok (.bipush 32, 2) := by decide +kernel
theorem dL_holds_457 : decode cL_holds 457 = .ok (.idiv, 1) := by decide +kernel
theorem dL_holds_458 : decode cL_holds 458 = .ok (.bipush 60, 2) := by decide +kernel
theorem dL_holds_460 : decode cL_holds 460 = .ok (.irem, 1) := by decide +kernel
theorem dL_holds_461 : decode cL_holds 461 = .ok (.iadd, 1) := by decide +kernel
theorem dL_holds_462 : decode cL_holds 462 = .ok (.istore 11, 2) := by decide +kernel
theorem dL_holds_464 : decode cL_holds 464 = .ok (.aload_n 0, 1) := by decide +kernel
theorem dL_holds_465 : decode cL_holds 465 = .ok (.bipush 17, 2) := by decide +kernel
theorem dL_holds_467 : decode cL_holds 467 = .ok (.iload 8, 2) := by decide +kernel
theorem dL_holds_469 : decode cL_holds 469 = .ok (.iload 11, 2) := by decide +kernel
theorem dL_holds_471 : decode cL_holds 471 = .ok (.iconst 0, 1) := by decide +kernel
theorem dL_holds_472 : decode cL_holds 472 = .ok (.invokestatic 170, 3) := by decide +kernel
theorem dL_holds_475 : decode cL_holds 475 = .ok (.istore 12, 2) := by decide +kernel
theorem dL_holds_477 : decode cL_holds 477 = .ok (.iconst 1, 1) := by decide +kernel
theorem dL_holds_478 : decode cL_holds 478 = .ok (.iload_n 1, 1) := by decide +kernel
theorem dL_holds_479 : decode cL_holds 479 = .ok (.sipush 1920, 3) := by decide +kernel
theorem dL_holds_482 : decode cL_holds 482 = .ok (.idiv, 1) := by decide +kernel
theorem dL_holds_483 : decode cL_holds 483 = .ok (.bipush 50, 2) := by decide +kernel
theorem dL_holds_485 : decode cL_holds 485 = .ok (.irem, 1) := by decide +kernel
theorem dL_holds_486 : decode cL_holds 486 = .ok (.iadd, 1) := by decide +kernel
theorem dL_holds_487 : decode cL_holds 487 = .ok (.istore 13, 2) := by decide +kernel
theorem dL_holds_489 : decode cL_holds 489 = .ok (.iload 7, 2) := by decide +kernel
theorem dL_holds_491 : decode cL_holds 491 = .ok (.ifCond .eq 113, 3) := by decide +kernel
theorem dL_holds_494 : decode cL_holds 494 = .ok (.aload_n 0, 1) := by decide +kernel
theorem dL_holds_495 : decode cL_holds 495 = .ok (.bipush 16, 2) := by decide +kernel
theorem dL_holds_497 : decode cL_holds 497 = .ok (.iload 8, 2) := by decide +kernel
theorem dL_holds_499 : decode cL_holds 499 = .ok (.iload 12, 2) := by decide +kernel
theorem dL_holds_501 : decode cL_holds 501 = .ok (.iload 11, 2) := by decide +kernel
theorem dL_holds_503 : decode cL_holds 503 = .ok (.invokestatic 170, 3) := by decide +kernel
theorem dL_holds_506 : decode cL_holds 506 = .ok (.aload_n 0, 1) := by decide +kernel
theorem dL_holds_507 : decode cL_holds 507 = .ok (.bipush 16, 2) := by decide +kernel
theorem dL_holds_509 : decode cL_holds 509 = .ok (.iload 8, 2) := by decide +kernel
theorem dL_holds_511 : decode cL_holds 511 = .ok (.iload 13, 2) := by decide +kernel
theorem dL_holds_513 : decode cL_holds 513 = .ok (.iload 11, 2) := by decide +kernel
theorem dL_holds_515 : decode cL_holds 515 = .ok (.invokestatic 170, 3) := by decide +kernel
theorem dL_holds_518 : decode cL_holds 518 = .ok (.if_icmp .gt 86, 3) := by decide +kernel
theorem dL_holds_521 : decode cL_holds 521 = .ok (.iload 13, 2) := by decide +kernel
theorem dL_holds_523 : decode cL_holds 523 = .ok (.iload 12, 2) := by decide +kernel
theorem dL_holds_525 : decode cL_holds 525 = .ok (.if_icmp .le 30, 3) := by decide +kernel
theorem dL_holds_528 : decode cL_holds 528 = .ok (.aload_n 0, 1) := by decide +kernel
theorem dL_holds_529 : decode cL_holds 529 = .ok (.bipush 16, 2) := by decide +kernel
theorem dL_holds_531 : decode cL_holds 531 = .ok (.iload 8, 2) := by decide +kernel
theorem dL_holds_533 : decode cL_holds 533 = .ok (.iload 13, 2) := by decide +kernel
theorem dL_holds_535 : decode cL_holds 535 = .ok (.iload 11, 2) := by decide +kernel
theorem dL_holds_537 : decode cL_holds 537 = .ok (.invokestatic 170, 3) := by decide +kernel
theorem dL_holds_540 : decode cL_holds 540 = .ok (.aload_n 0, 1) := by decide +kernel
theorem dL_holds_541 : decode cL_holds 541 = .ok (.bipush 16, 2) := by decide +kernel
theorem dL_holds_543 : decode cL_holds 543 = .ok (.iload 8, 2) := by decide +kernel
theorem dL_holds_545 : decode cL_holds 545 = .ok (.iload 12, 2) := by decide +kernel
theorem dL_holds_547 : decode cL_holds 547 = .ok (.iload 11, 2) := by decide +kernel
theorem dL_holds_549 : decode cL_holds 549 = .ok (.invokestatic 170, 3) := by decide +kernel
theorem dL_holds_552 : decode cL_holds 552 = .ok (.if_icmp .le 52, 3) := by decide +kernel
theorem dL_holds_555 : decode cL_holds 555 = .ok (.aload_n 0, 1) := by decide +kernel
theorem dL_holds_556 : decode cL_holds 556 = .ok (.bipush 14, 2) := by decide +kernel
theorem dL_holds_558 : decode cL_holds 558 = .ok (.iload 8, 2) := by decide +kernel
theorem dL_holds_560 : decode cL_holds 560 = .ok (.iconst 0, 1) := by decide +kernel
theorem dL_holds_561 : decode cL_holds 561 = .ok (.iconst 0, 1) := by decide +kernel
theorem dL_holds_562 : decode cL_holds 562 = .ok (.invokestatic 170, 3) := by decide +kernel
theorem dL_holds_565 : decode cL_holds 565 = .ok (.ifCond .ne 7, 3) := by decide +kernel
theorem dL_holds_568 : decode cL_holds 568 = .ok (.iconst 1, 1) := by decide +kernel
theorem dL_holds_569 : decode cL_holds 569 = .ok (.goto 4, 3) := by decide +kernel
theorem dL_holds_572 : decode cL_holds 572 = .ok (.iconst 0, 1) := by decide +kernel
theorem dL_holds_573 : decode cL_holds 573 = .ok (.iload 6, 2) := by decide +kernel
theorem dL_holds_575 : decode cL_holds 575 = .ok (.if_icmp .ne 29, 3) := by decide +kernel
theorem dL_holds_578 : decode cL_holds 578 = .ok (.aload_n 0, 1) := by decide +kernel
theorem dL_holds_579 : decode cL_holds 579 = .ok (.bipush 15, 2) := by decide +kernel
theorem dL_holds_581 : decode cL_holds 581 = .ok (.iconst 0, 1) := by decide +kernel
theorem dL_holds_582 : decode cL_holds 582 = .ok (.iconst 0, 1) := by decide +kernel
theorem dL_holds_583 : decode cL_holds 583 = .ok (.iconst 0, 1) := by decide +kernel
theorem dL_holds_584 : decode cL_holds 584 = .ok (.invokestatic 170, 3) := by decide +kernel
theorem dL_holds_587 : decode cL_holds 587 = .ok (.ifCond .ne 7, 3) := by decide +kernel
theorem dL_holds_590 : decode cL_holds 590 = .ok (.iconst 1, 1) := by decide +kernel
theorem dL_holds_591 : decode cL_holds 591 = .ok (.goto 4, 3) := by decide +kernel
theorem dL_holds_594 : decode cL_holds 594 = .ok (.iconst 0, 1) := by decide +kernel
theorem dL_holds_595 : decode cL_holds 595 = .ok (.iload 6, 2) := by decide +kernel
theorem dL_holds_597 : decode cL_holds 597 = .ok (.if_icmp .ne 7, 3) := by decide +kernel
theorem dL_holds_600 : decode cL_holds 600 = .ok (.iconst 1, 1) := by decide +kernel
theorem dL_holds_601 : decode cL_holds 601 = .ok (.goto 4, 3) := by decide +kernel
theorem dL_holds_604 : decode cL_holds 604 = .ok (.iconst 0, 1) := by decide +kernel
theorem dL_holds_605 : decode cL_holds 605 = .ok (.ireturn, 1) := by decide +kernel
set_option maxRecDepth 20000 in
theorem ggL_act_L_call : GoodIn wsL_act wsL_call := goodIn_ca (goodIn_ca (goodIn_ca (goodIn_r _ [4, 5, 6, 3, 7, 8, 9, 10, 11, 12, 13, 14, 15, 16, 17, 18, 19, 20, 21, 22, 23, 24, 25, 26, 27, 28, 29, 30, 31, 32, 33, 34, 35, 36, 37, 38, 39, 40, 41, 42, 43, 44, 45, 46, 47, 48, 49, 50, 51, 52, 53, 54, 55, 56, 57, 58, 59, 60, 61, 62, 63, 64, 65, 66, 67, 68, 69, 70, 71, 72, 73, 74, 75, 76, 77, 78, 79, 80, 81, 82, 83, 84, 85, 86, 87, 88, 89, 90, 91, 92, 93, 94, 95, 96, 97, 98, 99, 100, 101, 102, 103, 104, 105, 106, 107, 108, 109, 110, 111, 112, 113, 114, 115, 116, 117, 118, 119, 120, 121, 122, 123, 124, 125, 126, 127, 128, 129, 130, 131, 132, 133, 134, 135, 136, 137, 138, 139, 140, 141, 142, 143, 144, 145, 146, 147, 148, 149, 150, 151, 152, 153, 154, 155, 156, 157, 158, 159, 160, 161, 162, 163, 164, 165, 166, 167, 168, 169, 170, 171, 172, 173, 174, 175, 176, 177, 178, 179, 180, 181, 182, 183, 184, 185, 186, 187, 188, 189, 190, 191, 192, 193, 194, 195, 196, 197, 198, 199, 200, 201, 202, 203, 204, 205, 206, 207, 208, 209, 210, 211, 212, 213, 214, 215, 216, 217, 218, 219, 220, 221, 222, 223, 224, 225, 226, 227, 228, 229, 230, 231, 232, 233, 234, 235, 236, 237, 238, 239, 240, 241, 242, 243, 244, 245, 246, 247, 248, 249, 250, 251, 252, 253, 254, 255, 256, 257, 258, 259, 260, 261, 262, 263, 264, 265, 266, 267, 268, 269, 270, 271, 272, 273, 274, 275, 276, 277, 278, 279, 280, 281, 282, 283, 284, 285, 286, 287, 288, 289, 290, 291, 292, 293, 294, 295, 296, 297, 298, 299, 300, 301, 302, 303, 304, 305, 306, 307, 308, 309, 310, 311, 312, 313, 314, 315, 316, 317, 318, 319, 320, 321, 322, 323, 324, 325, 326, 327, 328, 329, 330, 331, 332, 333, 334, 335, 336, 337, 338, 339, 340, 341, 342, 343, 344, 345, 346, 347, 348, 349, 350, 351, 352, 353, 354, 355, 356, 357, 358, 359, 360, 361, 362, 363, 364, 365, 366, 367, 368, 369, 370, 371, 372, 373, 374, 375, 376, 377, 378, 379, 380, 381, 382, 383, 384, 385, 386, 387, 388, 389, 390, 391, 392, 393, 394, 395, 396, 397, 398, 399, 400, 401, 402, 403, 404, 405, 406, 407, 408, 409, 410, 411, 412, 413, 414, 415, 416, 417, 418, 419, 420, 421, 422, 423, 424, 425, 426, 427, 428, 429, 430, 431, 432, 433, 434, 435, 436, 437, 438, 439, 440, 441, 442, 443, 444, 445, 446, 447, 448, 449, 450, 451, 452, 453, 454, 455, 456, 457, 458, 459, 460, 475, 476, 477, 478, 479, 480, 481, 482, 483, 484, 485, 486, 487, 488, 489, 490, 491, 492, 493, 494, 495, 496, 497, 498, 499, 500, 501] (by decide +kernel) (by decide +kernel)) (goodIn_sub (fun _ h => List.mem_cons_of_mem _ (List.mem_append_left _ (List.mem_append_left _ (List.mem_append_right _ h)))) (by decide +kernel))) (goodIn_sub (fun _ h => List.mem_cons_of_mem _ (List.mem_append_left _ (List.mem_append_right _ h))) (by decide +kernel))) (goodIn_sub (fun _ h => List.mem_cons_of_mem _ (List.mem_append_right _ h)) (by decide +kernel))
set_option maxRecDepth 20000 in
theorem gL_act_L_call : GoodIn wsL_act (va_wsS RL 170 yL_call wsL_call) := goodIn_app (goodIn_of _ (by decide +kernel)) ggL_act_L_call
set_option maxRecDepth 20000 in
theorem ggL_act_L_doSimulate : GoodIn wsL_act wsL_doSimulate := goodIn_ca (goodIn_r _ [463, 8, 10, 464, 465, 466, 15, 467, 17, 18, 43, 377, 468, 339, 169, 170, 83, 171, 91, 378, 296, 297, 298, 92, 93, 94, 95, 96, 97, 98, 99, 100, 101, 85, 86, 102, 299, 300, 301, 302, 103, 469, 470, 471, 472, 473, 474, 168, 128, 129, 130, 131, 122, 123, 124, 125, 132, 133, 134, 135, 136, 137, 138, 139, 140, 141, 142, 143, 144, 145, 146, 147, 398, 188, 189, 190, 191, 192, 193, 194, 475, 476, 477, 478, 479, 487, 488, 489, 490, 491, 492, 493, 494, 495, 496, 497, 498, 499, 500, 501] (by decide +kernel) (by decide +kernel)) (goodIn_sub (fun _ h => List.mem_cons_of_mem _ (List.mem_append_left _ (List.mem_append_left _ (List.mem_append_right _ h)))) (by decide +kernel))
set_option maxRecDepth 20000 in
theorem gL_act_L_doSimulate : GoodIn wsL_act (va_wsS RL 180 yL_doSimulate wsL_doSimulate) := goodIn_app (goodIn_of _ (by decide +kernel)) ggL_act_L_doSimulate
theorem dL_act_0 : decode cL_act 0 = .ok (.aload_n 0, 1) := by decide +kernel
theorem dL_act_1 : decode cL_act 1 = .ok (.iconst 2, 1) := by decide +kernel
theorem dL_act_2 : decode cL_act 2 = .ok (.iconst 0, 1) := by decide +kernel
theorem dL_act_3 : decode cL_act 3 = .ok (.iconst 0, 1) := by decide +kernel
theorem dL_act_4 : decode cL_act 4 = .ok (.iconst 0, 1) := by decide +kernel
theorem dL_act_5 : decode cL_act 5 = .ok (.invokestatic 170, 3) := by decide +kernel
theorem dL_act_8 : decode cL_act 8 = .ok (.istore_n 2, 1) := by decide +kernel
theorem dL_act_9 : decode cL_act 9 = .ok (.iload_n 1, 1) := by decide +kernel
theorem dL_act_10 : decode cL_act 10 = .ok (.bipush 16, 2) := by decide +kernel
theorem dL_act_12 : decode cL_act 12 = .ok (.idiv, 1) := by decide +kernel
theorem dL_act_13 : decode cL_act 13 = .ok (.iload_n 2, 1) := by decide +kernel
theorem dL_act_14 : decode cL_act 14 = .ok (.irem, 1) := by decide +kernel
theorem dL_act_15 : decode cL_act 15 = .ok (.istore_n 3, 1) := by decide +kernel
theorem dL_act_16 : decode cL_act 16 = .ok (.iload_n 1, 1) := by decide +kernel
theorem dL_act_17 : decode cL_act 17 = .ok (.bipush 16, 2) := by decide +kernel
theorem dL_act_19 : decode cL_act 19 = .ok (.irem, 1) := by decide +kernel
theorem dL_act_20 : decode cL_act 20 = .ok (.tableswitch 215 0 12 #[68, 68, 68, 68, 86, 86, 86, 105, 105, 122, 143, 185, 200], 68) := by decide +kernel
theorem dL_act_88 : decode cL_act 88 = .ok (.aload_n 0, 1) := by decide +kernel
theorem dL_act_89 : decode cL_act 89 = .ok (.bipush 9, 2) := by decide +kernel
theorem dL_act_91 : decode cL_act 91 = .ok (.iload_n 3, 1) := by decide +kernel
theorem dL_act_92 : decode cL_act 92 = .ok (.iload_n 1, 1) := by decide +kernel
theorem dL_act_93 : decode cL_act 93 = .ok (.sipush 512, 3) := by decide +kernel
theorem dL_act_96 : decode cL_act 96 = .ok (.idiv, 1) := by decide +kernel
theorem dL_act_97 : decode cL_act 97 = .ok (.sipush 1000, 3) := by decide +kernel
theorem dL_act_100 : decode cL_act 100 = .ok (.irem, 1) := by decide +kernel
theorem dL_act_101 : decode cL_act 101 = .ok (.iconst 0, 1) := by decide +kernel
theorem dL_act_102 : decode cL_act 102 = .ok (.invokestatic 170, 3) := by decide +kernel
theorem dL_act_105 : decode cL_act 105 = .ok (.ireturn, 1) := by decide +kernel
theorem dL_act_106 : decode cL_act 106 = .ok (.aload_n 0, 1) := by decide +kernel
theorem dL_act_107 : decode cL_act 107 = .ok (.bipush 10, 2) := by decide +kernel
theorem dL_act_109 : decode cL_act 109 = .ok (.iload_n 3, 1) := by decide +kernel
theorem dL_act_110 : decode cL_act 110 = .ok (.iconst 1, 1) := by decide +kernel
theorem dL_act_111 : decode cL_act 111 = .ok (.iload_n 1, 1) := by decide +kernel
theorem dL_act_112 : decode cL_act 112 = .ok (.sipush 512, 3) := by decide +kernel
theorem dL_act_115 : decode cL_act 115 = .ok (.idiv, 1) := by decide +kernel
theorem dL_act_116 : decode cL_act 116 = .ok (.bipush 50, 2) := by decide +kernel
theorem dL_act_118 : decode cL_act 118 = .ok (.irem, 1) := by decide +kernel
theorem dL_act_119 : decode cL_act 119 = .ok (.iadd, 1) := by decide +kernel
theorem dL_act_120 : decode cL_act 120 = .ok (.iconst 0, 1) := by decide +kernel
theorem dL_act_121 : decode cL_act 121 = .ok (.invokestatic 170, 3) := by decide +kernel
theorem dL_act_124 : decode cL_act 124 = .ok (.ireturn, 1) := by decide +kernel
theorem dL_act_125 : decode cL_act 125 = .ok (.aload_n 0, 1) := by decide +kernel
theorem dL_act_126 : decode cL_act 126 = .ok (.bipush 11, 2) := by decide +kernel
theorem dL_act_128 : decode cL_act 128 = .ok (.iconst 1, 1) := by decide +kernel
theorem dL_act_129 : decode cL_act 129 = .ok (.iload_n 1, 1) := by decide +kernel
theorem dL_act_130 : decode cL_act 130 = .ok (.bipush 16, 2) := by decide +kernel
theorem dL_act_132 : decode cL_act 132 = .ok (.idiv, 1) := by decide +kernel
theorem dL_act_133 : decode cL_act 133 = .ok (.iconst 3, 1) := by decide +kernel
theorem dL_act_134 : decode cL_act 134 = .ok (.irem, 1) := by decide +kernel
theorem dL_act_135 : decode cL_act 135 = .ok (.iadd, 1) := by decide +kernel
theorem dL_act_136 : decode cL_act 136 = .ok (.iconst 0, 1) := by decide +kernel
theorem dL_act_137 : decode cL_act 137 = .ok (.iconst 0, 1) := by decide +kernel
theorem dL_act_138 : decode cL_act 138 = .ok (.invokestatic 170, 3) := by decide +kernel
theorem dL_act_141 : decode cL_act 141 = .ok (.ireturn, 1) := by decide +kernel
theorem dL_act_142 : decode cL_act 142 = .ok (.aload_n 0, 1) := by decide +kernel
theorem dL_act_143 : decode cL_act 143 = .ok (.bipush 12, 2) := by decide +kernel
theorem dL_act_145 : decode cL_act 145 = .ok (.iload_n 1, 1) := by decide +kernel
theorem dL_act_146 : decode cL_act 146 = .ok (.bipush 16, 2) := by decide +kernel
theorem dL_act_148 : decode cL_act 148 = .ok (.idiv, 1) := by decide +kernel
theorem dL_act_149 : decode cL_act 149 = .ok (.iconst 2, 1) := by decide +kernel
theorem dL_act_150 : decode cL_act 150 = .ok (.irem, 1) := by decide +kernel
theorem dL_act_151 : decode cL_act 151 = .ok (.iload_n 1, 1) := by decide +kernel
theorem dL_act_152 : decode cL_act 152 = .ok (.bipush 32, 2) := by decide +kernel
theorem dL_act_154 : decode cL_act 154 = .ok (.idiv, 1) := by decide +kernel
theorem dL_act_155 : decode cL_act 155 = .ok (.bipush 60, 2) := by decide +kernel
theorem dL_act_157 : decode cL_act 157 = .ok (.irem, 1) := by decide +kernel
theorem dL_act_158 : decode cL_act 158 = .ok (.iconst 0, 1) := by decide +kernel
theorem dL_act_159 : decode cL_act 159 = .ok (.invokestatic 170, 3) := by decide +kernel
theorem dL_act_162 : decode cL_act 162 = .ok (.ireturn, 1) := by decide +kernel
theorem dL_act_163 : decode cL_act 163 = .ok (.aload_n 0, 1) := by decide +kernel
theorem dL_act_164 : decode cL_act 164 = .ok (.iconst 2, 1) := by decide +kernel
theorem dL_act_165 : decode cL_act 165 = .ok (.iconst 4, 1) := by decide +kernel
theorem dL_act_166 : decode cL_act 166 = .ok (.iconst 0, 1) := by decide +kernel
theorem dL_act_167 : decode cL_act 167 = .ok (.iconst 0, 1) := by decide +kernel
theorem dL_act_168 : decode cL_act 168 = .ok (.invokestatic 170, 3) := by decide +kernel
theorem dL_act_171 : decode cL_act 171 = .ok (.sipush 600, 3) := by decide +kernel
theorem dL_act_174 : decode cL_act 174 = .ok (.if_icmp .ge 7, 3) := by decide +kernel
theorem dL_act_177 : decode cL_act 177 = .ok (.iconst (-1), 1) := by decide +kernel
theorem dL_act_178 : decode cL_act 178 = .ok (.goto 26, 3) := by decide +kernel
theorem dL_act_181 : decode cL_act 181 = .ok (.aload_n 0, 1) := by decide +kernel
theorem dL_act_182 : decode cL_act 182 = .ok (.bipush 8, 2) := by decide +kernel
theorem dL_act_184 : decode cL_act 184 = .ok (.iconst 4, 1) := by decide +kernel
theorem dL_act_185 : decode cL_act 185 = .ok (.iload_n 1, 1) := by decide +kernel
theorem dL_act_186 : decode cL_act 186 = .ok (.bipush 16, 2) := by decide +kernel
theorem dL_act_188 : decode cL_act 188 = .ok (.idiv, 1) := by decide +kernel
theorem dL_act_189 : decode cL_act 189 = .ok (.bipush 12, 2) := by decide +kernel
theorem dL_act_191 : decode cL_act 191 = .ok (.irem, 1) := by decide +kernel
theorem dL_act_192 : decode cL_act 192 = .ok (.iadd, 1) := by decide +kernel
theorem dL_act_193 : decode cL_act 193 = .ok (.iconst 1, 1) := by decide +kernel
theorem dL_act_194 : decode cL_act 194 = .ok (.iload_n 1, 1) := by decide +kernel
theorem dL_act_195 : decode cL_act 195 = .ok (.sipush 192, 3) := by decide +kernel
theorem dL_act_198 : decode cL_act 198 = .ok (.idiv, 1) := by decide +kernel
theorem dL_act_199 : decode cL_act 199 = .ok (.iconst 5, 1) := by decide +kernel
theorem dL_act_200 : decode cL_act 200 = .ok (.irem, 1) := by decide +kernel
theorem dL_act_201 : decode cL_act 201 = .ok (.invokestatic 170, 3) := by decide +kernel
theorem dL_act_204 : decode cL_act 204 = .ok (.ireturn, 1) := by decide +kernel
theorem dL_act_205 : decode cL_act 205 = .ok (.aload_n 0, 1) := by decide +kernel
theorem dL_act_206 : decode cL_act 206 = .ok (.bipush 20, 2) := by decide +kernel
theorem dL_act_208 : decode cL_act 208 = .ok (.iload_n 1, 1) := by decide +kernel
theorem dL_act_209 : decode cL_act 209 = .ok (.bipush 16, 2) := by decide +kernel
theorem dL_act_211 : decode cL_act 211 = .ok (.idiv, 1) := by decide +kernel
theorem dL_act_212 : decode cL_act 212 = .ok (.iconst 2, 1) := by decide +kernel
theorem dL_act_213 : decode cL_act 213 = .ok (.irem, 1) := by decide +kernel
theorem dL_act_214 : decode cL_act 214 = .ok (.iconst 0, 1) := by decide +kernel
theorem dL_act_215 : decode cL_act 215 = .ok (.iconst 0, 1) := by decide +kernel
theorem dL_act_216 : decode cL_act 216 = .ok (.invokestatic 170, 3) := by decide +kernel
theorem dL_act_219 : decode cL_act 219 = .ok (.ireturn, 1) := by decide +kernel
theorem dL_act_220 : decode cL_act 220 = .ok (.aload_n 0, 1) := by decide +kernel
theorem dL_act_221 : decode cL_act 221 = .ok (.bipush 21, 2) := by decide +kernel
theorem dL_act_223 : decode cL_act 223 = .ok (.iload_n 1, 1) := by decide +kernel
theorem dL_act_224 : decode cL_act 224 = .ok (.bipush 16, 2) := by decide +kernel
theorem dL_act_226 : decode cL_act 226 = .ok (.idiv, 1) := by decide +kernel
theorem dL_act_227 : decode cL_act 227 = .ok (.iconst 2, 1) := by decide +kernel
theorem dL_act_228 : decode cL_act 228 = .ok (.irem, 1) := by decide +kernel
theorem dL_act_229 : decode cL_act 229 = .ok (.iconst 0, 1) := by decide +kernel
theorem dL_act_230 : decode cL_act 230 = .ok (.iconst 0, 1) := by decide +kernel
theorem dL_act_231 : decode cL_act 231 = .ok (.invokestatic 170, 3) := by decide +kernel
theorem dL_act_234 : decode cL_act 234 = .ok (.ireturn, 1) := by decide +kernel
theorem dL_act_235 : decode cL_act 235 = .ok (.aload_n 0, 1) := by decide +kernel
theorem dL_act_236 : decode cL_act 236 = .ok (.iload_n 1, 1) := by decide +kernel
theorem dL_act_237 : decode cL_act 237 = .ok (.i2l, 1) := by decide +kernel
theorem dL_act_238 : decode cL_act 238 = .ok (.iconst 1, 1) := by decide +kernel
theorem dL_act_239 : decode cL_act 239 = .ok (.iload_n 1, 1) := by decide +kernel
theorem dL_act_240 : decode cL_act 240 = .ok (.bipush 16, 2) := by decide +kernel
theorem dL_act_242 : decode cL_act 242 = .ok (.idiv, 1) := by decide +kernel
theorem dL_act_243 : decode cL_act 243 = .ok (.bipush 100, 2) := by decide +kernel
theorem dL_act_245 : decode cL_act 245 = .ok (.irem, 1) := by decide +kernel
theorem dL_act_246 : decode cL_act 246 = .ok (.iadd, 1) := by decide +kernel
theorem dL_act_247 : decode cL_act 247 = .ok (.invokestatic 180, 3) := by decide +kernel
theorem dL_act_250 : decode cL_act 250 = .ok (.ireturn, 1) := by decide +kernel
set_option maxRecDepth 20000 in
theorem ggL_alike_L_call : GoodIn wsL_alike wsL_call := goodIn_ca (goodIn_ca (goodIn_ca (goodIn_r _ [4, 5, 6, 3, 7, 8, 9, 10, 11, 12, 13, 14, 15, 16, 17, 18, 19, 20, 21, 22, 23, 24, 25, 26, 27, 28, 29, 30, 31, 32, 33, 34, 35, 36, 37, 38, 39, 40, 41, 42, 43, 44, 45, 46, 47, 48, 49, 50, 51, 52, 53, 54, 55, 56, 57, 58, 59, 60, 61, 62, 63, 64, 65, 66, 67, 68, 69, 70, 71, 72, 73, 74, 75, 76, 77, 78, 79, 80, 81, 82, 83, 84, 85, 86, 87, 88, 89, 90, 91, 92, 93, 94, 95, 96, 97, 98, 99, 100, 101, 102, 103, 104, 105, 106, 107, 108, 109, 110, 111, 112, 113, 114, 115, 116, 117, 118, 119, 120, 121, 122, 123, 124, 125, 126, 127, 128, 129, 130, 131, 132, 133, 134, 135, 136, 137, 138, 139, 140, 141, 142, 143, 144, 145, 146, 147, 148, 149, 150, 151, 152, 153, 154, 155, 156, 157, 158, 159, 160, 161, 162, 163, 164, 165, 166, 167, 168, 169, 170, 171, 172, 173, 174, 175, 176, 177, 178, 179, 180, 181, 182, 183, 184, 185, 186, 187, 188, 189, 190, 191, 192, 193, 194, 195, 196, 197, 198, 199, 200, 201, 202, 203, 204, 205, 206, 207, 208, 209, 210, 211, 212, 213, 214, 215, 216, 217, 218, 219, 220, 221, 222, 223, 224, 225, 226, 227, 228, 229, 230, 231, 232, 233, 234, 235, 236, 237, 238, 239, 240, 241, 242, 243, 244, 245, 246, 247, 248, 249, 250, 251, 252, 253, 254, 255, 256, 257, 258, 259, 260, 261, 262, 263, 264, 265, 266, 267, 268, 269, 270, 271, 272, 273, 274, 275, 276, 277, 278, 279, 280, 281, 282, 283, 284, 285, 286, 287, 288, 289, 290, 291, 292, 293, 294, 295, 296, 297, 298, 299, 300, 301, 302, 303, 304, 305, 306, 307, 308, 309, 310, 311, 312, 313, 314, 315, 316, 317, 318, 319, 320, 321, 322, 323, 324, 325, 326, 327, 328, 329, 330, 331, 332, 333, 334, 335, 336, 337, 338, 339, 340, 341, 342, 343, 344, 345, 346, 347, 348, 349, 350, 351, 352, 353, 354, 355, 356, 357, 358, 359, 360, 361, 362, 363, 364, 365, 366, 367, 368, 369, 370, 371, 372, 373, 374, 375, 376, 377, 378, 379, 380, 381, 382, 383, 384, 385, 386, 387, 388, 389, 390, 391, 392, 393, 394, 395, 396, 397, 398, 399, 400, 401, 402, 403, 404, 405, 406, 407, 408, 409, 410, 411, 412, 413, 414, 415, 416, 417, 418, 419, 420, 421, 422, 423, 424, 425, 426, 427, 428, 429, 430, 431, 432, 433, 434, 435, 436, 437, 438, 439, 440, 441, 442, 443, 444, 445, 446, 447, 448, 449, 450, 451, 452, 453, 454, 455, 456, 457, 458, 459, 460, 475, 476, 477, 478, 479, 480, 481, 482, 483, 484, 485, 486, 487, 488, 489, 490, 491, 492, 493, 494, 495, 496, 497, 498, 499, 500, 501] (by decide +kernel) (by decide +kernel)) (goodIn_sub (fun _ h => List.mem_cons_of_mem _ (List.mem_append_left _ (List.mem_append_left _ (List.mem_append_right _ h)))) (by decide +kernel))) (goodIn_sub (fun _ h => List.mem_cons_of_mem _ (List.mem_append_left _ (List.mem_append_right _ h))) (by decide +kernel))) (goodIn_sub (fun _ h => List.mem_cons_of_mem _ (List.mem_append_right _ h)) (by decide +kernel))
set_option maxRecDepth 20000 in
theorem gL_alike_L_call : GoodIn wsL_alike (va_wsS RL 170 yL_call wsL_call) := goodIn_app (goodIn_of _ (by decide +kernel)) ggL_alike_L_call
set_option maxRecDepth 20000 in
theorem ggL_alike_L_doSimulate : GoodIn wsL_alike wsL_doSimulate := goodIn_ca (goodIn_r _ [463, 8, 10, 464, 465, 466, 15, 467, 17, 18, 43, 377, 468, 339, 169, 170, 83, 171, 91, 378, 296, 297, 298, 92, 93, 94, 95, 96, 97, 98, 99, 100, 101, 85, 86, 102, 299, 300, 301, 302, 103, 469, 470, 471, 472, 473, 474, 168, 128, 129, 130, 131, 122, 123, 124, 125, 132, 133, 134, 135, 136, 137, 138, 139, 140, 141, 142, 143, 144, 145, 146, 147, 398, 188, 189, 190, 191, 192, 193, 194, 475, 476, 477, 478, 479, 487, 488, 489, 490, 491, 492, 493, 494, 495, 496, 497, 498, 499, 500, 501] (by decide +kernel) (by decide +kernel)) (goodIn_sub (fun _ h => List.mem_cons_of_mem _ (List.mem_append_left _ (List.mem_append_left _ (List.mem_append_right _ h)))) (by decide +kernel))
set_option maxRecDepth 20000 in
theorem gL_alike_L_doSimulate : GoodIn wsL_alike (va_wsS RL 180 yL_doSimulate wsL_doSimulate) := goodIn_app (goodIn_of _ (by decide +kernel)) ggL_alike_L_doSimulate
theorem dL_alike_0 : decode cL_alike 0 = .ok (.aload_n 0, 1) := by decide +kernel
theorem dL_alike_1 : decode cL_alike 1 = .ok (.iconst 2, 1) := by decide +kernel
theorem dL_alike_2 : decode cL_alike 2 = .ok (.iconst 0, 1) := by decide +kernel
theorem dL_alike_3 : decode cL_alike 3 = .ok (.iconst 0, 1) := by decide +kernel
theorem dL_alike_4 : decode cL_alike 4 = .ok (.iconst 0, 1) := by decide +kernel
theorem dL_alike_5 : decode cL_alike 5 = .ok (.invokestatic 170, 3) := by decide +kernel
theorem dL_alike_8 : decode cL_alike 8 = .ok (.istore_n 3, 1) := by decide +kernel
theorem dL_alike_9 : decode cL_alike 9 = .ok (.aload_n 0, 1) := by decide +kernel
theorem dL_alike_10 : decode cL_alike 10 = .ok (.iload_n 2, 1) := by decide +kernel
theorem dL_alike_11 : decode cL_alike 11 = .ok (.i2l, 1) := by decide +kernel
theorem dL_alike_12 : decode cL_alike 12 = .ok (.iconst 1, 1) := by decide +kernel
theorem dL_alike_13 : decode cL_alike 13 = .ok (.iload_n 2, 1) := by decide +kernel
theorem dL_alike_14 : decode cL_alike 14 = .ok (.bipush 50, 2) := by decide +kernel
theorem dL_alike_16 : decode cL_alike 16 = .ok (.irem, 1) := by decide +kernel
theorem dL_alike_17 : decode cL_alike 17 = .ok (.iadd, 1) := by decide +kernel
theorem dL_alike_18 : decode cL_alike 18 = .ok (.invokestatic 180, 3) := by decide +kernel
theorem dL_alike_21 : decode cL_alike 21 = .ok (.aload_n 1, 1) := by decide +kernel
theorem dL_alike_22 : decode cL_alike 22 = .ok (.iload_n 2, 1) := by decide +kernel
theorem dL_alike_23 : decode cL_alike 23 = .ok (.i2l, 1) := by decide +kernel
theorem dL_alike_24 : decode cL_alike 24 = .ok (.iconst 1, 1) := by decide +kernel
theorem dL_alike_25 : decode cL_alike 25 = .ok (.iload_n 2, 1) := by decide +kernel
theorem dL_alike_26 : decode cL_alike 26 = .ok (.bipush 50, 2) := by decide +kernel
theorem dL_alike_28 : decode cL_alike 28 = .ok (.irem, 1) := by decide +kernel
theorem dL_alike_29 : decode cL_alike 29 = .ok (.iadd, 1) := by decide +kernel
theorem dL_alike_30 : decode cL_alike 30 = .ok (.invokestatic 180, 3) := by decide +kernel
theorem dL_alike_33 : decode cL_alike 33 = .ok (.if_icmp .ne 7, 3) := by decide +kernel
theorem dL_alike_36 : decode cL_alike 36 = .ok (.iconst 1, 1) := by decide +kernel
theorem dL_alike_37 : decode cL_alike 37 = .ok (.goto 4, 3) := by decide +kernel
theorem dL_alike_40 : decode cL_alike 40 = .ok (.iconst 0, 1) := by decide +kernel
theorem dL_alike_41 : decode cL_alike 41 = .ok (.istore 4, 2) := by decide +kernel
theorem dL_alike_43 : decode cL_alike 43 = .ok (.iconst 0, 1) := by decide +kernel
theorem dL_alike_44 : decode cL_alike 44 = .ok (.istore 5, 2) := by decide +kernel
theorem dL_alike_46 : decode cL_alike 46 = .ok (.iload 5, 2) := by decide +kernel
theorem dL_alike_48 : decode cL_alike 48 = .ok (.bipush 12, 2) := by decide +kernel
theorem dL_alike_50 : decode cL_alike 50 = .ok (.if_icmp .ge 65, 3) := by decide +kernel
theorem dL_alike_53 : decode cL_alike 53 = .ok (.iload 4, 2) := by decide +kernel
theorem dL_alike_55 : decode cL_alike 55 = .ok (.ifCond .eq 60, 3) := by decide +kernel
theorem dL_alike_58 : decode cL_alike 58 = .ok (.aload_n 0, 1) := by decide +kernel
theorem dL_alike_59 : decode cL_alike 59 = .ok (.iconst 2, 1) := by decide +kernel
theorem dL_alike_60 : decode cL_alike 60 = .ok (.iload 5, 2) := by decide +kernel
theorem dL_alike_62 : decode cL_alike 62 = .ok (.iconst 0, 1) := by decide +kernel
theorem dL_alike_63 : decode cL_alike 63 = .ok (.iconst 0, 1) := by decide +kernel
theorem dL_alike_64 : decode cL_alike 64 = .ok (.invokestatic 170, 3) := by decide +kernel
theorem dL_alike_67 : decode cL_alike 67 = .ok (.aload_n 1, 1) := by decide +kernel
theorem dL_alike_68 : decode cL_alike 68 = .ok (.iconst 2, 1) := by decide +kernel
theorem dL_alike_69 : decode cL_alike 69 = .ok (.iload 5, 2) := by decide +kernel
theorem dL_alike_71 : decode cL_alike 71 = .ok (.iconst 0, 1) := by decide +kernel
theorem dL_alike_72 : decode cL_alike 72 = .ok (.iconst 0, 1) := by decide +kernel
theorem dL_alike_73 : decode cL_alike 73 = .ok (.invokestatic 170, 3) := by decide +kernel
theorem dL_alike_76 : decode cL_alike 76 = .ok (.if_icmp .ne 30, 3) := by decide +kernel
theorem dL_alike_79 : decode cL_alike 79 = .ok (.aload_n 0, 1) := by decide +kernel
theorem dL_alike_80 : decode cL_alike 80 = .ok (.bipush 7, 2) := by decide +kernel
theorem dL_alike_82 : decode cL_alike 82 = .ok (.iload 5, 2) := by decide +kernel
theorem dL_alike_84 : decode cL_alike 84 = .ok (.iconst 0, 1) := by decide +kernel
theorem dL_alike_85 : decode cL_alike 85 = .ok (.iconst 0, 1) := by decide +kernel
theorem dL_alike_86 : decode cL_alike 86 = .ok (.invokestatic 170, 3) := by decide +kernel
theorem dL_alike_89 : decode cL_alike 89 = .ok (.aload_n 1, 1) := by decide +kernel
theorem dL_alike_90 : decode cL_alike 90 = .ok (.bipush 7, 2) := by decide +kernel
theorem dL_alike_92 : decode cL_alike 92 = .ok (.iload 5, 2) := by decide +kernel
theorem dL_alike_94 : decode cL_alike 94 = .ok (.iconst 0, 1) := by decide +kernel
theorem dL_alike_95 : decode cL_alike 95 = .ok (.iconst 0, 1) := by decide +kernel
theorem dL_alike_96 : decode cL_alike 96 = .ok (.invokestatic 170, 3) := by decide +kernel
theorem dL_alike_99 : decode cL_alike 99 = .ok (.if_icmp .ne 7, 3) := by decide +kernel
theorem dL_alike_102 : decode cL_alike 102 = .ok (.iconst 1, 1) := by decide +kernel
theorem dL_alike_103 : decode cL_alike 103 = .ok (.goto 4, 3) := by decide +kernel
theorem dL_alike_106 : decode cL_alike 106 = .ok (.iconst 0, 1) := by decide +kernel
theorem dL_alike_107 : decode cL_alike 107 = .ok (.istore 4, 2) := by decide +kernel
theorem dL_alike_109 : decode cL_alike 109 = .ok (.iinc 5 1, 3) := by decide +kernel
theorem dL_alike_112 : decode cL_alike 112 = .ok (.goto (-66), 3) := by decide +kernel
theorem dL_alike_115 : decode cL_alike 115 = .ok (.iconst 0, 1) := by decide +kernel
theorem dL_alike_116 : decode cL_alike 116 = .ok (.istore 5, 2) := by decide +kernel
theorem dL_alike_118 : decode cL_alike 118 = .ok (.iload 5, 2) := by decide +kernel
theorem dL_alike_120 : decode cL_alike 120 = .ok (.iload_n 3, 1) := by decide +kernel
theorem dL_alike_121 : decode cL_alike 121 = .ok (.if_icmp .gt 86, 3) := by decide +kernel
theorem dL_alike_124 : decode cL_alike 124 = .ok (.iload 4, 2) := by decide +kernel
theorem dL_alike_126 : decode cL_alike 126 = .ok (.ifCond .eq 81, 3) := by decide +kernel
theorem dL_alike_129 : decode cL_alike 129 = .ok (.aload_n 0, 1) := by decide +kernel
theorem dL_alike_130 : decode cL_alike 130 = .ok (.bipush 6, 2) := by decide +kernel
theorem dL_alike_132 : decode cL_alike 132 = .ok (.iload 5, 2) := by decide +kernel
theorem dL_alike_134 : decode cL_alike 134 = .ok (.iconst 0, 1) := by decide +kernel
theorem dL_alike_135 : decode cL_alike 135 = .ok (.iconst 0, 1) := by decide +kernel
theorem dL_alike_136 : decode cL_alike 136 = .ok (.invokestatic 170, 3) := by decide +kernel
theorem dL_alike_139 : decode cL_alike 139 = .ok (.aload_n 1, 1) := by decide +kernel
theorem dL_alike_140 : decode cL_alike 140 = .ok (.bipush 6, 2) := by decide +kernel
theorem dL_alike_142 : decode cL_alike 142 = .ok (.iload 5, 2) := by decide +kernel
theorem dL_alike_144 : decode cL_alike 144 = .ok (.iconst 0, 1) := by decide +kernel
theorem dL_alike_145 : decode cL_alike 145 = .ok (.iconst 0, 1) := by decide +kernel
theorem dL_alike_146 : decode cL_alike 146 = .ok (.invokestatic 170, 3) := by decide +kernel
theorem dL_alike_149 : decode cL_alike 149 = .ok (.if_icmp .ne 49, 3) := by decide +kernel
theorem dL_alike_152 : decode cL_alike 152 = .ok (.aload_n 0, 1) := by decide +kernel
theorem dL_alike_153 : decode cL_alike 153 = .ok (.iconst 5, 1) := by decide +kernel
theorem dL_alike_154 : decode cL_alike 154 = .ok (.iload 5, 2) := by decide +kernel
theorem dL_alike_156 : decode cL_alike 156 = .ok (.iconst 0, 1) := by decide +kernel
theorem dL_alike_157 : decode cL_alike 157 = .ok (.iconst 0, 1) := by decide +kernel
theorem dL_alike_158 : decode cL_alike 158 = .ok (.invokestatic 170, 3) := by decide +kernel
theorem dL_alike_161 : decode cL_alike 161 = .ok (.aload_n 1, 1) := by decide +kernel
theorem dL_alike_162 : decode cL_alike 162 = .ok (.iconst 5, 1) := by decide +kernel
theorem dL_alike_163 : decode cL_alike 163 = .ok (.iload 5, 2) := by decide +kernel
theorem dL_alike_165 : decode cL_alike 165 = .ok (.iconst 0, 1) := by decide +kernel
theorem dL_alike_166 : decode cL_alike 166 = .ok (.iconst 0, 1) := by decide +kernel
theorem dL_alike_167 : decode cL_alike 167 = .ok (.invokestatic 170, 3) := by decide +kernel
theorem dL_alike_170 : decode cL_alike 170 = .ok (.if_icmp .ne 28, 3) := by decide +kernel
theorem dL_alike_173 : decode cL_alike 173 = .ok (.aload_n 0, 1) := by decide +kernel
theorem dL_alike_174 : decode cL_alike 174 = .ok (.iconst 3, 1) := by decide +kernel
theorem dL_alike_175 : decode cL_alike 175 = .ok (.iload 5, 2) := by decide +kernel
theorem dL_alike_177 : decode cL_alike 177 = .ok (.iconst 0, 1) := by decide +kernel
theorem dL_alike_178 : decode cL_alike 178 = .ok (.iconst 0, 1) := by decide +kernel
theorem dL_alike_179 : decode cL_alike 179 = .ok (.invokestatic 170, 3) := by decide +kernel
theorem dL_alike_182 : decode cL_alike 182 = .ok (.aload_n 1, 1) := by decide +kernel
theorem dL_alike_183 : decode cL_alike 183 = .ok (.iconst 3, 1) := by decide +kernel
theorem dL_alike_184 : decode cL_alike 184 = .ok (.iload 5, 2) := by decide +kernel
theorem dL_alike_186 : decode cL_alike 186 = .ok (.iconst 0, 1) := by decide +kernel
theorem dL_alike_187 : decode cL_alike 187 = .ok (.iconst 0, 1) := by decide +kernel
theorem dL_alike_188 : decode cL_alike 188 = .ok (.invokestatic 170, 3) := by decide +kernel
theorem dL_alike_191 : decode cL_alike 191 = .ok (.if_icmp .ne 7, 3) := by decide +kernel
theorem dL_alike_194 : decode cL_alike 194 = .ok (.iconst 1, 1) := by decide +kernel
theorem dL_alike_195 : decode cL_alike 195 = .ok (.goto 4, 3) := by decide +kernel
theorem dL_alike_198 : decode cL_alike 198 = .ok (.iconst 0, 1) := by decide +kernel
theorem dL_alike_199 : decode cL_alike 199 = .ok (.istore 4, 2) := by decide +kernel
theorem dL_alike_201 : decode cL_alike 201 = .ok (.iinc 5 1, 3) := by decide +kernel
theorem dL_alike_204 : decode cL_alike 204 = .ok (.goto (-86), 3) := by decide +kernel
theorem dL_alike_207 : decode cL_alike 207 = .ok (.iload 4, 2) := by decide +kernel
theorem dL_alike_209 : decode cL_alike 209 = .ok (.ireturn, 1) := by decide +kernel
