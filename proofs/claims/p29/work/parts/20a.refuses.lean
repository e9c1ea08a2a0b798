set_option maxRecDepth 20000 in
theorem ggL_refuses_L_call : GoodIn wsL_refuses wsL_call := goodIn_ca (goodIn_ca (goodIn_ca (goodIn_r _ [7, 8, 9, 6, 10, 11, 12, 1, 13, 14, 15, 16, 17, 18, 19, 20, 21, 22, 23, 24, 25, 26, 27, 28, 29, 30, 31, 32, 33, 34, 35, 36, 37, 38, 39, 40, 41, 42, 43, 44, 45, 46, 47, 48, 49, 50, 51, 52, 53, 54, 55, 56, 57, 58, 59, 60, 61, 62, 63, 64, 65, 66, 67, 68, 69, 70, 71, 72, 73, 74, 75, 76, 77, 78, 79, 80, 81, 82, 83, 84, 85, 86, 87, 88, 89, 90, 91, 92, 93, 94, 95, 96, 97, 98, 99, 100, 101, 102, 103, 104, 105, 106, 107, 108, 109, 110, 111, 112, 113, 114, 115, 116, 117, 118, 119, 120, 121, 122, 123, 124, 125, 126, 127, 128, 129, 130, 131, 132, 133, 134, 135, 136, 137, 138, 139, 140, 141, 142, 143, 144, 145, 146, 147, 148, 149, 150, 151, 152, 153, 154, 155, 156, 157, 158, 159, 160, 161, 162, 163, 164, 165, 166, 167, 168, 169, 170, 171, 172, 173, 174, 175, 176, 177, 178, 179, 180, 181, 182, 183, 184, 185, 186, 187, 188, 189, 190, 191, 192, 193, 194, 195, 196, 197, 198, 199, 200, 201, 202, 203, 204, 205, 206, 207, 2, 208, 209, 210, 211, 212, 213, 214, 215, 216, 217, 218, 219, 220, 221, 222, 223, 224, 225, 226, 227, 228, 229, 230, 231, 232, 233, 234, 235, 236, 237, 238, 239, 240, 241, 242, 243, 244, 245, 246, 247, 248, 249, 250, 251, 252, 253, 254, 255, 256, 257, 258, 259, 260, 261, 262, 263, 264, 265, 266, 267, 268, 269, 270, 271, 272, 273, 274, 275, 276, 277, 278, 279, 280, 281, 282, 283, 284, 285, 286, 287, 288, 289, 290, 291, 292, 293, 294, 295, 296, 297, 298, 299, 300, 301, 302, 303, 304, 305, 306, 307, 308, 309, 310, 311, 312, 313, 314, 315, 316, 317, 318, 319, 320, 321, 322, 323, 324, 325, 326, 327, 328, 329, 330, 331, 332, 333, 334, 335, 336, 337, 338, 339, 340, 341, 342, 343, 344, 345, 346, 347, 348, 349, 350, 351, 352, 353, 354, 355, 356, 357, 358, 359, 360, 361, 362, 363, 364, 365, 366, 367, 368, 369, 370, 371, 372, 373, 374, 375, 376, 377, 378, 379, 380, 381, 382, 383, 384, 385, 386, 387, 388, 389, 390, 391, 392, 393, 394, 395, 396, 397, 398, 399, 400, 401, 402, 403, 404, 405, 406, 407, 408, 409, 410, 411, 412, 413, 414, 415, 416, 417, 418, 419, 420, 421, 422, 423, 424, 425, 426, 427, 428, 429, 430, 431, 432, 433, 434, 435, 436, 437, 438, 439, 440, 441, 442, 443, 444, 445, 446, 447, 448, 449, 450, 451, 452, 453, 454, 455, 456, 457, 458, 459, 460, 461, 508, 509, 510, 511, 512, 513, 514, 515, 516, 517, 518, 519, 520, 521, 522, 523, 524, 525, 526, 527, 528, 529, 530, 531, 532, 533, 534] (by decide +kernel) (by decide +kernel)) (goodIn_sub (fun _ h => List.mem_cons_of_mem _ (List.mem_append_left _ (List.mem_append_left _ (List.mem_append_right _ h)))) (by decide +kernel))) (goodIn_sub (fun _ h => List.mem_cons_of_mem _ (List.mem_append_left _ (List.mem_append_right _ h))) (by decide +kernel))) (goodIn_sub (fun _ h => List.mem_cons_of_mem _ (List.mem_append_right _ h)) (by decide +kernel))
set_option maxRecDepth 20000 in
theorem gL_refuses_L_call : GoodIn wsL_refuses (va_wsS RL 170 yL_call wsL_call) := goodIn_app (goodIn_of _ (by decide +kernel)) ggL_refuses_L_call
set_option maxRecDepth 20000 in
theorem ggL_refuses_L_doScript : GoodIn wsL_refuses wsL_doScript := goodIn_ca (goodIn_r _ [464, 11, 1, 465, 466, 467, 17, 468, 19, 20, 378, 45, 469, 470, 471, 472, 379, 297, 298, 85, 299, 93, 94, 95, 96, 97, 98, 99, 100, 101, 102, 103, 87, 88, 104, 300, 301, 302, 303, 105, 473, 474, 475, 476, 477, 478, 479, 480, 121, 122, 123, 124, 125, 126, 127, 128, 129, 130, 131, 132, 133, 134, 135, 136, 137, 138, 139, 140, 141, 142, 143, 144, 145, 146, 147, 148, 149, 481, 151, 152, 153, 154, 155, 156, 157, 158, 159, 160, 161, 162, 163, 482, 165, 166, 167, 168, 169, 170, 171, 172, 173, 174, 175, 176, 177, 483, 484, 485, 486, 350, 351, 487, 353, 354, 355, 488, 489, 490, 491, 240, 241, 242, 492, 255, 256, 257, 258, 493, 508, 509, 510, 511, 512, 520, 521, 522, 523, 524, 525, 526, 527, 528, 529, 530, 531, 532, 533, 534] (by decide +kernel) (by decide +kernel)) (goodIn_sub (fun _ h => List.mem_cons_of_mem _ (List.mem_append_left _ (List.mem_append_left _ (List.mem_append_right _ h)))) (by decide +kernel))
set_option maxRecDepth 20000 in
theorem gL_refuses_L_doScript : GoodIn wsL_refuses (va_wsS RL 174 yL_doScript wsL_doScript) := goodIn_app (goodIn_of _ (by decide +kernel)) ggL_refuses_L_doScript
set_option maxRecDepth 20000 in
theorem ggL_refuses_L_doSimulate : GoodIn wsL_refuses wsL_doSimulate := goodIn_ca (goodIn_r _ [496, 11, 1, 497, 498, 499, 17, 500, 19, 20, 45, 378, 501, 340, 171, 172, 85, 173, 93, 379, 297, 298, 299, 94, 95, 96, 97, 98, 99, 100, 101, 102, 103, 87, 88, 104, 300, 301, 302, 303, 105, 502, 503, 504, 505, 506, 507, 170, 130, 131, 132, 133, 124, 125, 126, 127, 134, 135, 136, 137, 138, 139, 140, 141, 142, 143, 144, 145, 146, 147, 148, 149, 399, 190, 191, 192, 193, 194, 195, 196, 508, 509, 510, 511, 512, 520, 521, 522, 523, 524, 525, 526, 527, 528, 529, 530, 531, 532, 533, 534] (by decide +kernel) (by decide +kernel)) (goodIn_sub (fun _ h => List.mem_cons_of_mem _ (List.mem_append_left _ (List.mem_append_left _ (List.mem_append_right _ h)))) (by decide +kernel))
set_option maxRecDepth 20000 in
theorem gL_refuses_L_doSimulate : GoodIn wsL_refuses (va_wsS RL 180 yL_doSimulate wsL_doSimulate) := goodIn_app (goodIn_of _ (by decide +kernel)) ggL_refuses_L_doSimulate
theorem dL_refuses_0 : decode cL_refuses 0 = .ok (.aload_n 0, 1) := by decide +kernel
theorem dL_refuses_1 : decode cL_refuses 1 = .ok (.iconst 2, 1) := by decide +kernel
theorem dL_refuses_2 : decode cL_refuses 2 = .ok (.iconst 0, 1) := by decide +kernel
theorem dL_refuses_3 : decode cL_refuses 3 = .ok (.iconst 0, 1) := by decide +kernel
theorem dL_refuses_4 : decode cL_refuses 4 = .ok (.iconst 0, 1) := by decide +kernel
theorem dL_refuses_5 : decode cL_refuses 5 = .ok (.invokestatic 170, 3) := by decide +kernel
theorem dL_refuses_8 : decode cL_refuses 8 = .ok (.istore_n 2, 1) := by decide +kernel
theorem dL_refuses_9 : decode cL_refuses 9 = .ok (.iload_n 2, 1) := by decide +kernel
theorem dL_refuses_10 : decode cL_refuses 10 = .ok (.iload_n 1, 1) := by decide +kernel
theorem dL_refuses_11 : decode cL_refuses 11 = .ok (.bipush 50, 2) := by decide +kernel
theorem dL_refuses_13 : decode cL_refuses 13 = .ok (.irem, 1) := by decide +kernel
theorem dL_refuses_14 : decode cL_refuses 14 = .ok (.iadd, 1) := by decide +kernel
theorem dL_refuses_15 : decode cL_refuses 15 = .ok (.istore_n 3, 1) := by decide +kernel
theorem dL_refuses_16 : decode cL_refuses 16 = .ok (.iload_n 1, 1) := by decide +kernel
theorem dL_refuses_17 : decode cL_refuses 17 = .ok (.iconst 2, 1) := by decide +kernel
theorem dL_refuses_18 : decode cL_refuses 18 = .ok (.irem, 1) := by decide +kernel
theorem dL_refuses_19 : decode cL_refuses 19 = .ok (.ifCond .ne 12, 3) := by decide +kernel
theorem dL_refuses_22 : decode cL_refuses 22 = .ok (.iconst (-1), 1) := by decide +kernel
theorem dL_refuses_23 : decode cL_refuses 23 = .ok (.iload_n 1, 1) := by decide +kernel
theorem dL_refuses_24 : decode cL_refuses 24 = .ok (.bipush 99, 2) := by decide +kernel
theorem dL_refuses_26 : decode cL_refuses 26 = .ok (.irem, 1) := by decide +kernel
theorem dL_refuses_27 : decode cL_refuses 27 = .ok (.isub, 1) := by decide +kernel
theorem dL_refuses_28 : decode cL_refuses 28 = .ok (.goto 11, 3) := by decide +kernel
theorem dL_refuses_31 : decode cL_refuses 31 = .ok (.sipush 1000, 3) := by decide +kernel
theorem dL_refuses_34 : decode cL_refuses 34 = .ok (.iload_n 1, 1) := by decide +kernel
theorem dL_refuses_35 : decode cL_refuses 35 = .ok (.bipush 99, 2) := by decide +kernel
theorem dL_refuses_37 : decode cL_refuses 37 = .ok (.irem, 1) := by decide +kernel
theorem dL_refuses_38 : decode cL_refuses 38 = .ok (.iadd, 1) := by decide +kernel
theorem dL_refuses_39 : decode cL_refuses 39 = .ok (.istore 4, 2) := by decide +kernel
theorem dL_refuses_41 : decode cL_refuses 41 = .ok (.aload_n 0, 1) := by decide +kernel
theorem dL_refuses_42 : decode cL_refuses 42 = .ok (.iconst 0, 1) := by decide +kernel
theorem dL_refuses_43 : decode cL_refuses 43 = .ok (.iload_n 1, 1) := by decide +kernel
theorem dL_refuses_44 : decode cL_refuses 44 = .ok (.iconst 2, 1) := by decide +kernel
theorem dL_refuses_45 : decode cL_refuses 45 = .ok (.irem, 1) := by decide +kernel
theorem dL_refuses_46 : decode cL_refuses 46 = .ok (.ifCond .ne 12, 3) := by decide +kernel
theorem dL_refuses_49 : decode cL_refuses 49 = .ok (.iconst (-1), 1) := by decide +kernel
theorem dL_refuses_50 : decode cL_refuses 50 = .ok (.iload_n 1, 1) := by decide +kernel
theorem dL_refuses_51 : decode cL_refuses 51 = .ok (.bipush 9, 2) := by decide +kernel
theorem dL_refuses_53 : decode cL_refuses 53 = .ok (.irem, 1) := by decide +kernel
theorem dL_refuses_54 : decode cL_refuses 54 = .ok (.isub, 1) := by decide +kernel
theorem dL_refuses_55 : decode cL_refuses 55 = .ok (.goto 11, 3) := by decide +kernel
theorem dL_refuses_58 : decode cL_refuses 58 = .ok (.sipush 256, 3) := by decide +kernel
theorem dL_refuses_61 : decode cL_refuses 61 = .ok (.iload_n 1, 1) := by decide +kernel
theorem dL_refuses_62 : decode cL_refuses 62 = .ok (.bipush 9, 2) := by decide +kernel
theorem dL_refuses_64 : decode cL_refuses 64 = .ok (.irem, 1) := by decide +kernel
theorem dL_refuses_65 : decode cL_refuses 65 = .ok (.iadd, 1) := by decide +kernel
theorem dL_refuses_66 : decode cL_refuses 66 = .ok (.iconst 0, 1) := by decide +kernel
theorem dL_refuses_67 : decode cL_refuses 67 = .ok (.iconst 0, 1) := by decide +kernel
theorem dL_refuses_68 : decode cL_refuses 68 = .ok (.invokestatic 170, 3) := by decide +kernel
theorem dL_refuses_71 : decode cL_refuses 71 = .ok (.ldc 15, 2) := by decide +kernel
theorem dL_refuses_73 : decode cL_refuses 73 = .ok (.if_icmp .ne 628, 3) := by decide +kernel
theorem dL_refuses_76 : decode cL_refuses 76 = .ok (.aload_n 0, 1) := by decide +kernel
theorem dL_refuses_77 : decode cL_refuses 77 = .ok (.iconst 2, 1) := by decide +kernel
theorem dL_refuses_78 : decode cL_refuses 78 = .ok (.bipush 12, 2) := by decide +kernel
theorem dL_refuses_80 : decode cL_refuses 80 = .ok (.iload_n 1, 1) := by decide +kernel
theorem dL_refuses_81 : decode cL_refuses 81 = .ok (.bipush 50, 2) := by decide +kernel
theorem dL_refuses_83 : decode cL_refuses 83 = .ok (.irem, 1) := by decide +kernel
theorem dL_refuses_84 : decode cL_refuses 84 = .ok (.iadd, 1) := by decide +kernel
theorem dL_refuses_85 : decode cL_refuses 85 = .ok (.iconst 0, 1) := by decide +kernel
theorem dL_refuses_86 : decode cL_refuses 86 = .ok (.iconst 0, 1) := by decide +kernel
theorem dL_refuses_87 : decode cL_refuses 87 = .ok (.invokestatic 170, 3) := by decide +kernel
theorem dL_refuses_90 : decode cL_refuses 90 = .ok (.ldc 15, 2) := by decide +kernel
theorem dL_refuses_92 : decode cL_refuses 92 = .ok (.if_icmp .ne 609, 3) := by decide +kernel
theorem dL_refuses_95 : decode cL_refuses 95 = .ok (.aload_n 0, 1) := by decide +kernel
theorem dL_refuses_96 : decode cL_refuses 96 = .ok (.iconst 3, 1) := by decide +kernel
theorem dL_refuses_97 : decode cL_refuses 97 = .ok (.iload_n 3, 1) := by decide +kernel
theorem dL_refuses_98 : decode cL_refuses 98 = .ok (.iconst 0, 1) := by decide +kernel
theorem dL_refuses_99 : decode cL_refuses 99 = .ok (.iconst 0, 1) := by decide +kernel
theorem dL_refuses_100 : decode cL_refuses 100 = .ok (.invokestatic 170, 3) := by decide +kernel
theorem dL_refuses_103 : decode cL_refuses 103 = .ok (.ldc 39, 2) := by decide +kernel
theorem dL_refuses_105 : decode cL_refuses 105 = .ok (.if_icmp .ne 596, 3) := by decide +kernel
theorem dL_refuses_108 : decode cL_refuses 108 = .ok (.aload_n 0, 1) := by decide +kernel
theorem dL_refuses_109 : decode cL_refuses 109 = .ok (.iconst 4, 1) := by decide +kernel
theorem dL_refuses_110 : decode cL_refuses 110 = .ok (.iload_n 3, 1) := by decide +kernel
theorem dL_refuses_111 : decode cL_refuses 111 = .ok (.iconst 0, 1) := by decide +kernel
theorem dL_refuses_112 : decode cL_refuses 112 = .ok (.iconst 0, 1) := by decide +kernel
theorem dL_refuses_113 : decode cL_refuses 113 = .ok (.invokestatic 170, 3) := by decide +kernel
theorem dL_refuses_116 : decode cL_refuses 116 = .ok (.ldc 39, 2) := by decide +kernel
theorem dL_refuses_118 : decode cL_refuses 118 = .ok (.if_icmp .ne 583, 3) := by decide +kernel
theorem dL_refuses_121 : decode cL_refuses 121 = .ok (.aload_n 0, 1) := by decide +kernel
theorem dL_refuses_122 : decode cL_refuses 122 = .ok (.iconst 5, 1) := by decide +kernel
theorem dL_refuses_123 : decode cL_refuses 123 = .ok (.iload_n 3, 1) := by decide +kernel
theorem dL_refuses_124 : decode cL_refuses 124 = .ok (.iconst 1, 1) := by decide +kernel
theorem dL_refuses_125 : decode cL_refuses 125 = .ok (.iadd, 1) := by decide +kernel
theorem dL_refuses_126 : decode cL_refuses 126 = .ok (.iconst 0, 1) := by decide +kernel
theorem dL_refuses_127 : decode cL_refuses 127 = .ok (.iconst 0, 1) := by decide +kernel
theorem dL_refuses_128 : decode cL_refuses 128 = .ok (.invokestatic 170, 3) := by decide +kernel
theorem dL_refuses_131 : decode cL_refuses 131 = .ok (.ldc 39, 2) := by decide +kernel
theorem dL_refuses_133 : decode cL_refuses 133 = .ok (.if_icmp .ne 568, 3) := by decide +kernel
theorem dL_refuses_136 : decode cL_refuses 136 = .ok (.aload_n 0, 1) := by decide +kernel
theorem dL_refuses_137 : decode cL_refuses 137 = .ok (.iconst 5, 1) := by decide +kernel
theorem dL_refuses_138 : decode cL_refuses 138 = .ok (.iconst (-1), 1) := by decide +kernel
theorem dL_refuses_139 : decode cL_refuses 139 = .ok (.iload_n 1, 1) := by decide +kernel
theorem dL_refuses_140 : decode cL_refuses 140 = .ok (.bipush 9, 2) := by decide +kernel
theorem dL_refuses_142 : decode cL_refuses 142 = .ok (.irem, 1) := by decide +kernel
theorem dL_refuses_143 : decode cL_refuses 143 = .ok (.isub, 1) := by decide +kernel
theorem dL_refuses_144 : decode cL_refuses 144 = .ok (.iconst 0, 1) := by decide +kernel
theorem dL_refuses_145 : decode cL_refuses 145 = .ok (.iconst 0, 1) := by decide +kernel
theorem dL_refuses_146 : decode cL_refuses 146 = .ok (.invokestatic 170, 3) := by decide +kernel
theorem dL_refuses_149 : decode cL_refuses 149 = .ok (.ldc 39, 2) := by decide +kernel
theorem dL_refuses_151 : decode cL_refuses 151 = .ok (.if_icmp .ne 550, 3) := by decide +kernel
theorem dL_refuses_154 : decode cL_refuses 154 = .ok (.aload_n 0, 1) := by decide +kernel
theorem dL_refuses_155 : decode cL_refuses 155 = .ok (.bipush 6, 2) := by decide +kernel
theorem dL_refuses_157 : decode cL_refuses 157 = .ok (.iload_n 3, 1) := by decide +kernel
theorem dL_refuses_158 : decode cL_refuses 158 = .ok (.iconst 1, 1) := by decide +kernel
theorem dL_refuses_159 : decode cL_refuses 159 = .ok (.iadd, 1) := by decide +kernel
theorem dL_refuses_160 : decode cL_refuses 160 = .ok (.iconst 0, 1) := by decide +kernel
theorem dL_refuses_161 : decode cL_refuses 161 = .ok (.iconst 0, 1) := by decide +kernel
theorem dL_refuses_162 : decode cL_refuses 162 = .ok (.invokestatic 170, 3) := by decide +kernel
theorem dL_refuses_165 : decode cL_refuses 165 = .ok (.ldc 39, 2) := by decide +kernel
theorem dL_refuses_167 : decode cL_refuses 167 = .ok (.if_icmp .ne 534, 3) := by decide +kernel
theorem dL_refuses_170 : decode cL_refuses 170 = .ok (.aload_n 0, 1) := by decide +kernel
theorem dL_refuses_171 : decode cL_refuses 171 = .ok (.bipush 7, 2) := by decide +kernel
theorem dL_refuses_173 : decode cL_refuses 173 = .ok (.iconst 2, 1) := by decide +kernel
theorem dL_refuses_174 : decode cL_refuses 174 = .ok (.iload_n 1, 1) := by decide +kernel
theorem dL_refuses_175 : decode cL_refuses 175 = .ok (.bipush 9, 2) := by decide +kernel
theorem dL_refuses_177 : decode cL_refuses 177 = .ok (.irem, 1) := by decide +kernel
theorem dL_refuses_178 : decode cL_refuses 178 = .ok (.iadd, 1) := by decide +kernel
theorem dL_refuses_179 : decode cL_refuses 179 = .ok (.iconst 0, 1) := by decide +kernel
theorem dL_refuses_180 : decode cL_refuses 180 = .ok (.iconst 0, 1) := by decide +kernel
theorem dL_refuses_181 : decode cL_refuses 181 = .ok (.invokestatic 170, 3) := by decide +kernel
theorem dL_refuses_184 : decode cL_refuses 184 = .ok (.ldc 15, 2) := by decide +kernel
theorem dL_refuses_186 : decode cL_refuses 186 = .ok (.if_icmp .ne 515, 3) := by decide +kernel
theorem dL_refuses_189 : decode cL_refuses 189 = .ok (.aload_n 0, 1) := by decide +kernel
theorem dL_refuses_190 : decode cL_refuses 190 = .ok (.bipush 8, 2) := by decide +kernel
theorem dL_refuses_192 : decode cL_refuses 192 = .ok (.iload_n 1, 1) := by decide +kernel
theorem dL_refuses_193 : decode cL_refuses 193 = .ok (.iconst 4, 1) := by decide +kernel
theorem dL_refuses_194 : decode cL_refuses 194 = .ok (.irem, 1) := by decide +kernel
theorem dL_refuses_195 : decode cL_refuses 195 = .ok (.iconst 1, 1) := by decide +kernel
theorem dL_refuses_196 : decode cL_refuses 196 = .ok (.iconst 0, 1) := by decide +kernel
theorem dL_refuses_197 : decode cL_refuses 197 = .ok (.invokestatic 170, 3) := by decide +kernel
theorem dL_refuses_200 : decode cL_refuses 200 = .ok (.ldc 15, 2) := by decide +kernel
theorem dL_refuses_202 : decode cL_refuses 202 = .ok (.if_icmp .ne 499, 3) := by decide +kernel
theorem dL_refuses_205 : decode cL_refuses 205 = .ok (.aload_n 0, 1) := by decide +kernel
theorem dL_refuses_206 : decode cL_refuses 206 = .ok (.bipush 8, 2) := by decide +kernel
theorem dL_refuses_208 : decode cL_refuses 208 = .ok (.bipush 33, 2) := by decide +kernel
theorem dL_refuses_210 : decode cL_refuses 210 = .ok (.iload_n 1, 1) := by decide +kernel
theorem dL_refuses_211 : decode cL_refuses 211 = .ok (.bipush 9, 2) := by decide +kernel
theorem dL_refuses_213 : decode cL_refuses 213 = .ok (.irem, 1) := by decide +kernel
theorem dL_refuses_214 : decode cL_refuses 214 = .ok (.iadd, 1) := by decide +kernel
theorem dL_refuses_215 : decode cL_refuses 215 = .ok (.iconst 1, 1) := by decide +kernel
theorem dL_refuses_216 : decode cL_refuses 216 = .ok (.iconst 0, 1) := by decide +kernel
theorem dL_refuses_217 : decode cL_refuses 217 = .ok (.invokestatic 170, 3) := by decide +kernel
theorem dL_refuses_220 : decode cL_refuses 220 = .ok (.ldc 15, 2) := by decide +kernel
theorem dL_refuses_222 : decode cL_refuses 222 = .ok (.if_icmp .ne 479, 3) := by decide +kernel
theorem dL_refuses_225 : decode cL_refuses 225 = .ok (.aload_n 0, 1) := by decide +kernel
theorem dL_refuses_226 : decode cL_refuses 226 = .ok (.bipush 8, 2) := by decide +kernel
theorem dL_refuses_228 : decode cL_refuses 228 = .ok (.iload_n 2, 1) := by decide +kernel
theorem dL_refuses_229 : decode cL_refuses 229 = .ok (.iload_n 2, 1) := by decide +kernel
theorem dL_refuses_230 : decode cL_refuses 230 = .ok (.iload_n 1, 1) := by decide +kernel
theorem dL_refuses_231 : decode cL_refuses 231 = .ok (.bipush 9, 2) := by decide +kernel
theorem dL_refuses_233 : decode cL_refuses 233 = .ok (.irem, 1) := by decide +kernel
theorem dL_refuses_234 : decode cL_refuses 234 = .ok (.iadd, 1) := by decide +kernel
theorem dL_refuses_235 : decode cL_refuses 235 = .ok (.iconst 0, 1) := by decide +kernel
theorem dL_refuses_236 : decode cL_refuses 236 = .ok (.invokestatic 170, 3) := by decide +kernel
theorem dL_refuses_239 : decode cL_refuses 239 = .ok (.ldc 15, 2) := by decide +kernel
theorem dL_refuses_241 : decode cL_refuses 241 = .ok (.if_icmp .ne 460, 3) := by decide +kernel
theorem dL_refuses_244 : decode cL_refuses 244 = .ok (.aload_n 0, 1) := by decide +kernel
theorem dL_refuses_245 : decode cL_refuses 245 = .ok (.bipush 8, 2) := by decide +kernel
theorem dL_refuses_247 : decode cL_refuses 247 = .ok (.iload_n 2, 1) := by decide +kernel
theorem dL_refuses_248 : decode cL_refuses 248 = .ok (.iconst 0, 1) := by decide +kernel
theorem dL_refuses_249 : decode cL_refuses 249 = .ok (.iconst 0, 1) := by decide +kernel
theorem dL_refuses_250 : decode cL_refuses 250 = .ok (.invokestatic 170, 3) := by decide +kernel
theorem dL_refuses_253 : decode cL_refuses 253 = .ok (.ldc 15, 2) := by decide +kernel
theorem dL_refuses_255 : decode cL_refuses 255 = .ok (.if_icmp .ne 446, 3) := by decide +kernel
theorem dL_refuses_258 : decode cL_refuses 258 = .ok (.aload_n 0, 1) := by decide +kernel
theorem dL_refuses_259 : decode cL_refuses 259 = .ok (.bipush 8, 2) := by decide +kernel
theorem dL_refuses_261 : decode cL_refuses 261 = .ok (.iload_n 2, 1) := by decide +kernel
theorem dL_refuses_262 : decode cL_refuses 262 = .ok (.iconst 1, 1) := by decide +kernel
theorem dL_refuses_263 : decode cL_refuses 263 = .ok (.iconst 5, 1) := by decide +kernel
theorem dL_refuses_264 : decode cL_refuses 264 = .ok (.iload_n 1, 1) := by decide +kernel
theorem dL_refuses_265 : decode cL_refuses 265 = .ok (.bipush 9, 2) := by decide +kernel
theorem dL_refuses_267 : decode cL_refuses 267 = .ok (.irem, 1) := by decide +kernel
theorem dL_refuses_268 : decode cL_refuses 268 = .ok (.iadd, 1) := by decide +kernel
theorem dL_refuses_269 : decode cL_refuses 269 = .ok (.invokestatic 170, 3) := by decide +kernel
theorem dL_refuses_272 : decode cL_refuses 272 = .ok (.ldc 15, 2) := by decide +kernel
theorem dL_refuses_274 : decode cL_refuses 274 = .ok (.if_icmp .ne 427, 3) := by decide +kernel
theorem dL_refuses_277 : decode cL_refuses 277 = .ok (.aload_n 0, 1) := by decide +kernel
theorem dL_refuses_278 : decode cL_refuses 278 = .ok (.bipush 8, 2) := by decide +kernel
theorem dL_refuses_280 : decode cL_refuses 280 = .ok (.iconst 4, 1) := by decide +kernel
theorem dL_refuses_281 : decode cL_refuses 281 = .ok (.iconst 2, 1) := by decide +kernel
theorem dL_refuses_282 : decode cL_refuses 282 = .ok (.iload_n 1, 1) := by decide +kernel
theorem dL_refuses_283 : decode cL_refuses 283 = .ok (.bipush 14, 2) := by decide +kernel
theorem dL_refuses_285 : decode cL_refuses 285 = .ok (.irem, 1) := by decide +kernel
theorem dL_refuses_286 : decode cL_refuses 286 = .ok (.imul, 1) := by decide +kernel
theorem dL_refuses_287 : decode cL_refuses 287 = .ok (.iadd, 1) := by decide +kernel
theorem dL_refuses_288 : decode cL_refuses 288 = .ok (.iconst 2, 1) := by decide +kernel
theorem dL_refuses_289 : decode cL_refuses 289 = .ok (.iconst 0, 1) := by decide +kernel
theorem dL_refuses_290 : decode cL_refuses 290 = .ok (.invokestatic 170, 3) := by decide +kernel
theorem dL_refuses_293 : decode cL_refuses 293 = .ok (.ldc 15, 2) := by decide +kernel
theorem dL_refuses_295 : decode cL_refuses 295 = .ok (.if_icmp .ne 406, 3) := by decide +kernel
theorem dL_refuses_298 : decode cL_refuses 298 = .ok (.aload_n 0, 1) := by decide +kernel
theorem dL_refuses_299 : decode cL_refuses 299 = .ok (.bipush 9, 2) := by decide +kernel
theorem dL_refuses_301 : decode cL_refuses 301 = .ok (.iload_n 3, 1) := by decide +kernel
theorem dL_refuses_302 : decode cL_refuses 302 = .ok (.iload 4, 2) := by decide +kernel
theorem dL_refuses_304 : decode cL_refuses 304 = .ok (.iconst 0, 1) := by decide +kernel
theorem dL_refuses_305 : decode cL_refuses 305 = .ok (.invokestatic 170, 3) := by decide +kernel
theorem dL_refuses_308 : decode cL_refuses 308 = .ok (.ldc 39, 2) := by decide +kernel
theorem dL_refuses_310 : decode cL_refuses 310 = .ok (.if_icmp .ne 391, 3) := by decide +kernel
theorem dL_refuses_313 : decode cL_refuses 313 = .ok (.aload_n 0, 1) := by decide +kernel
theorem dL_refuses_314 : decode cL_refuses 314 = .ok (.bipush 9, 2) := by decide +kernel
theorem dL_refuses_316 : decode cL_refuses 316 = .ok (.iload_n 1, 1) := by decide +kernel
theorem dL_refuses_317 : decode cL_refuses 317 = .ok (.iload_n 2, 1) := by decide +kernel
theorem dL_refuses_318 : decode cL_refuses 318 = .ok (.irem, 1) := by decide +kernel
theorem dL_refuses_319 : decode cL_refuses 319 = .ok (.iload 4, 2) := by decide +kernel
theorem dL_refuses_321 : decode cL_refuses 321 = .ok (.iconst 0, 1) := by decide +kernel
theorem dL_refuses_322 : decode cL_refuses 322 = .ok (.invokestatic 170, 3) := by decide +kernel
theorem dL_refuses_325 : decode cL_refuses 325 = .ok (.ldc 15, 2) := by decide +kernel
theorem dL_refuses_327 : decode cL_refuses 327 = .ok (.if_icmp .ne 374, 3) := by decide +kernel
theorem dL_refuses_330 : decode cL_refuses 330 = .ok (.aload_n 0, 1) := by decide +kernel
theorem dL_refuses_331 : decode cL_refuses 331 = .ok (.bipush 10, 2) := by decide +kernel
theorem dL_refuses_333 : decode cL_refuses 333 = .ok (.iload_n 3, 1) := by decide +kernel
theorem dL_refuses_334 : decode cL_refuses 334 = .ok (.iload 4, 2) := by decide +kernel
theorem dL_refuses_336 : decode cL_refuses 336 = .ok (.iconst 0, 1) := by decide +kernel
theorem dL_refuses_337 : decode cL_refuses 337 = .ok (.invokestatic 170, 3) := by decide +kernel
theorem dL_refuses_340 : decode cL_refuses 340 = .ok (.ldc 39, 2) := by decide +kernel
theorem dL_refuses_342 : decode cL_refuses 342 = .ok (.if_icmp .ne 359, 3) := by decide +kernel
theorem dL_refuses_345 : decode cL_refuses 345 = .ok (.aload_n 0, 1) := by decide +kernel
theorem dL_refuses_346 : decode cL_refuses 346 = .ok (.bipush 10, 2) := by decide +kernel
theorem dL_refuses_348 : decode cL_refuses 348 = .ok (.iload_n 1, 1) := by decide +kernel
theorem dL_refuses_349 : decode cL_refuses 349 = .ok (.iload_n 2, 1) := by decide +kernel
theorem dL_refuses_350 : decode cL_refuses 350 = .ok (.irem, 1) := by decide +kernel
theorem dL_refuses_351 : decode cL_refuses 351 = .ok (.iload_n 1, 1) := by decide +kernel
theorem dL_refuses_352 : decode cL_refuses 352 = .ok (.iconst 2, 1) := by decide +kernel
theorem dL_refuses_353 : decode cL_refuses 353 = .ok (.irem, 1) := by decide +kernel
theorem dL_refuses_354 : decode cL_refuses 354 = .ok (.ifCond .ne 7, 3) := by decide +kernel
theorem dL_refuses_357 : decode cL_refuses 357 = .ok (.iconst 0, 1) := by decide +kernel
theorem dL_refuses_358 : decode cL_refuses 358 = .ok (.goto 11, 3) := by decide +kernel
theorem dL_refuses_361 : decode cL_refuses 361 = .ok (.sipush 501, 3) := by decide +kernel
theorem dL_refuses_364 : decode cL_refuses 364 = .ok (.iload_n 1, 1) := by decide +kernel
theorem dL_refuses_365 : decode cL_refuses 365 = .ok (.bipush 9, 2) := by decide +kernel
theorem dL_refuses_367 : decode cL_refuses 367 = .ok (.irem, 1) := by decide +kernel
theorem dL_refuses_368 : decode cL_refuses 368 = .ok (.iadd, 1) := by decide +kernel
theorem dL_refuses_369 : decode cL_refuses 369 = .ok (.iconst 0, 1) := by decide +kernel
theorem dL_refuses_370 : decode cL_refuses 370 = .ok (.invokestatic 170, 3) := by decide +kernel
theorem dL_refuses_373 : decode cL_refuses 373 = .ok (.ldc 15, 2) := by decide +kernel
theorem dL_refuses_375 : decode cL_refuses 375 = .ok (.if_icmp .ne 326, 3) := by decide +kernel
theorem dL_refuses_378 : decode cL_refuses 378 = .ok (.aload_n 0, 1) := by decide +kernel
theorem dL_refuses_379 : decode cL_refuses 379 = .ok (.bipush 11, 2) := by decide +kernel
theorem dL_refuses_381 : decode cL_refuses 381 = .ok (.iload_n 1, 1) := by decide +kernel
theorem dL_refuses_382 : decode cL_refuses 382 = .ok (.iconst 2, 1) := by decide +kernel
theorem dL_refuses_383 : decode cL_refuses 383 = .ok (.irem, 1) := by decide +kernel
theorem dL_refuses_384 : decode cL_refuses 384 = .ok (.ifCond .ne 7, 3) := by decide +kernel
theorem dL_refuses_387 : decode cL_refuses 387 = .ok (.iconst 0, 1) := by decide +kernel
theorem dL_refuses_388 : decode cL_refuses 388 = .ok (.goto 10, 3) := by decide +kernel
theorem dL_refuses_391 : decode cL_refuses 391 = .ok (.bipush 51, 2) := by decide +kernel
theorem dL_refuses_393 : decode cL_refuses 393 = .ok (.iload_n 1, 1) := by decide +kernel
theorem dL_refuses_394 : decode cL_refuses 394 = .ok (.bipush 9, 2) := by decide +kernel
theorem dL_refuses_396 : decode cL_refuses 396 = .ok (.irem, 1) := by decide +kernel
theorem dL_refuses_397 : decode cL_refuses 397 = .ok (.iadd, 1) := by decide +kernel
theorem dL_refuses_398 : decode cL_refuses 398 = .ok (.iconst 0, 1) := by decide +kernel
theorem dL_refuses_399 : decode cL_refuses 399 = .ok (.iconst 0, 1) := by decide +kernel
theorem dL_refuses_400 : decode cL_refuses 400 = .ok (.invokestatic 170, 3) := by decide +kernel
theorem dL_refuses_403 : decode cL_refuses 403 = .ok (.ldc 15, 2) := by decide +kernel
theorem dL_refuses_405 : decode cL_refuses 405 = .ok (.if_icmp .ne 296, 3) := by decide +kernel
theorem dL_refuses_408 : decode cL_refuses 408 = .ok (.aload_n 0, 1) := by decide +kernel
theorem dL_refuses_409 : decode cL_refuses 409 = .ok (.bipush 12, 2) := by decide +kernel
theorem dL_refuses_411 : decode cL_refuses 411 = .ok (.iconst 0, 1) := by decide +kernel
theorem dL_refuses_412 : decode cL_refuses 412 = .ok (.iload_n 1, 1) := by decide +kernel
theorem dL_refuses_413 : decode cL_refuses 413 = .ok (.iconst 5, 1) := by decide +kernel
theorem dL_refuses_414 : decode cL_refuses 414 = .ok (.irem, 1) := by decide +kernel
theorem dL_refuses_415 : decode cL_refuses 415 = .ok (.iconst 0, 1) := by decide +kernel
theorem dL_refuses_416 : decode cL_refuses 416 = .ok (.invokestatic 170, 3) := by decide +kernel
theorem dL_refuses_419 : decode cL_refuses 419 = .ok (.ldc 15, 2) := by decide +kernel
theorem dL_refuses_421 : decode cL_refuses 421 = .ok (.if_icmp .ne 280, 3) := by decide +kernel
theorem dL_refuses_424 : decode cL_refuses 424 = .ok (.aload_n 0, 1) := by decide +kernel
theorem dL_refuses_425 : decode cL_refuses 425 = .ok (.bipush 12, 2) := by decide +kernel
theorem dL_refuses_427 : decode cL_refuses 427 = .ok (.iload_n 1, 1) := by decide +kernel
theorem dL_refuses_428 : decode cL_refuses 428 = .ok (.iconst 2, 1) := by decide +kernel
theorem dL_refuses_429 : decode cL_refuses 429 = .ok (.irem, 1) := by decide +kernel
theorem dL_refuses_430 : decode cL_refuses 430 = .ok (.iload 4, 2) := by decide +kernel
theorem dL_refuses_432 : decode cL_refuses 432 = .ok (.iconst 0, 1) := by decide +kernel
theorem dL_refuses_433 : decode cL_refuses 433 = .ok (.invokestatic 170, 3) := by decide +kernel
theorem dL_refuses_436 : decode cL_refuses 436 = .ok (.ldc 15, 2) := by decide +kernel
theorem dL_refuses_438 : decode cL_refuses 438 = .ok (.if_icmp .ne 263, 3) := by decide +kernel
theorem dL_refuses_441 : decode cL_refuses 441 = .ok (.aload_n 0, 1) := by decide +kernel
theorem dL_refuses_442 : decode cL_refuses 442 = .ok (.bipush 12, 2) := by decide +kernel
theorem dL_refuses_444 : decode cL_refuses 444 = .ok (.iconst 2, 1) := by decide +kernel
theorem dL_refuses_445 : decode cL_refuses 445 = .ok (.iload_n 1, 1) := by decide +kernel
theorem dL_refuses_446 : decode cL_refuses 446 = .ok (.bipush 9, 2) := by decide +kernel
theorem dL_refuses_448 : decode cL_refuses 448 = .ok (.irem, 1) := by decide +kernel
theorem dL_refuses_449 : decode cL_refuses 449 = .ok (.iadd, 1) := by decide +kernel
theorem dL_refuses_450 : decode cL_refuses 450 = .ok (.bipush 10, 2) := by decide +kernel
theorem dL_refuses_452 : decode cL_refuses 452 = .ok (.iconst 0, 1) := by decide +kernel
theorem dL_refuses_453 : decode cL_refuses 453 = .ok (.invokestatic 170, 3) := by decide +kernel
theorem dL_refuses_456 : decode cL_refuses 456 = .ok (.ldc 15, 2) := by decide +kernel
theorem dL_refuses_458 : decode cL_refuses 458 = .ok (.if_icmp .ne 243, 3) := by decide +kernel
theorem dL_refuses_461 : decode cL_refuses 461 = .ok (.aload_n 0, 1) := by decide +kernel
theorem dL_refuses_462 : decode cL_refuses 462 = .ok (.bipush 14, 2) := by decide +kernel
theorem dL_refuses_464 : decode cL_refuses 464 = .ok (.iload_n 3, 1) := by decide +kernel
theorem dL_refuses_465 : decode cL_refuses 465 = .ok (.iconst 0, 1) := by decide +kernel
theorem dL_refuses_466 : decode cL_refuses 466 = .ok (.iconst 0, 1) := by decide +kernel
theorem dL_refuses_467 : decode cL_refuses 467 = .ok (.invokestatic 170, 3) := by decide +kernel
theorem dL_refuses_470 : decode cL_refuses 470 = .ok (.ldc 39, 2) := by decide +kernel
theorem dL_refuses_472 : decode cL_refuses 472 = .ok (.if_icmp .ne 229, 3) := by decide +kernel
theorem dL_refuses_475 : decode cL_refuses 475 = .ok (.aload_n 0, 1) := by decide +kernel
theorem dL_refuses_476 : decode cL_refuses 476 = .ok (.bipush 16, 2) := by decide +kernel
theorem dL_refuses_478 : decode cL_refuses 478 = .ok (.iload_n 3, 1) := by decide +kernel
theorem dL_refuses_479 : decode cL_refuses 479 = .ok (.iconst 0, 1) := by decide +kernel
theorem dL_refuses_480 : decode cL_refuses 480 = .ok (.iconst 0, 1) := by decide +kernel
theorem dL_refuses_481 : decode cL_refuses 481 = .ok (.invokestatic 170, 3) := by decide +kernel
theorem dL_refuses_484 : decode cL_refuses 484 = .ok (.ldc 39, 2) := by decide +kernel
theorem dL_refuses_486 : decode cL_refuses 486 = .ok (.if_icmp .ne 215, 3) := by decide +kernel
theorem dL_refuses_489 : decode cL_refuses 489 = .ok (.aload_n 0, 1) := by decide +kernel
theorem dL_refuses_490 : decode cL_refuses 490 = .ok (.bipush 16, 2) := by decide +kernel
theorem dL_refuses_492 : decode cL_refuses 492 = .ok (.iload_n 1, 1) := by decide +kernel
theorem dL_refuses_493 : decode cL_refuses 493 = .ok (.iload_n 2, 1) := by decide +kernel
theorem dL_refuses_494 : decode cL_refuses 494 = .ok (.irem, 1) := by decide +kernel
theorem dL_refuses_495 : decode cL_refuses 495 = .ok (.bipush 51, 2) := by decide +kernel
theorem dL_refuses_497 : decode cL_refuses 497 = .ok (.iload_n 1, 1) := by decide +kernel
theorem dL_refuses_498 : decode cL_refuses 498 = .ok (.bipush 9, 2) := by decide +kernel
theorem dL_refuses_500 : decode cL_refuses 500 = .ok (.irem, 1) := by decide +kernel
theorem dL_refuses_501 : decode cL_refuses 501 = .ok (.iadd, 1) := by decide +kernel
theorem dL_refuses_502 : decode cL_refuses 502 = .ok (.iconst 1, 1) := by decide +kernel
theorem dL_refuses_503 : decode cL_refuses 503 = .ok (.invokestatic 170, 3) := by decide +kernel
theorem dL_refuses_506 : decode cL_refuses 506 = .ok (.ldc 15, 2) := by decide +kernel
theorem dL_refuses_508 : decode cL_refuses 508 = .ok (.if_icmp .ne 193, 3) := by decide +kernel
theorem dL_refuses_511 : decode cL_refuses 511 = .ok (.aload_n 0, 1) := by decide +kernel
theorem dL_refuses_512 : decode cL_refuses 512 = .ok (.bipush 16, 2) := by decide +kernel
theorem dL_refuses_514 : decode cL_refuses 514 = .ok (.iload_n 1, 1) := by decide +kernel
theorem dL_refuses_515 : decode cL_refuses 515 = .ok (.iload_n 2, 1) := by decide +kernel
theorem dL_refuses_516 : decode cL_refuses 516 = .ok (.irem, 1) := by decide +kernel
theorem dL_refuses_517 : decode cL_refuses 517 = .ok (.iconst 1, 1) := by decide +kernel
theorem dL_refuses_518 : decode cL_refuses 518 = .ok (.iconst 0, 1) := by decide +kernel
theorem dL_refuses_519 : decode cL_refuses 519 = .ok (.invokestatic 170, 3) := by decide +kernel
theorem dL_refuses_522 : decode cL_refuses 522 = .ok (.ldc 15, 2) := by decide +kernel
theorem dL_refuses_524 : decode cL_refuses 524 = .ok (.if_icmp .ne 177, 3) := by decide +kernel
theorem dL_refuses_527 : decode cL_refuses 527 = .ok (.aload_n 0, 1) := by decide +kernel
theorem dL_refuses_528 : decode cL_refuses 528 = .ok (.bipush 17, 2) := by decide +kernel
theorem dL_refuses_530 : decode cL_refuses 530 = .ok (.iload_n 3, 1) := by decide +kernel
theorem dL_refuses_531 : decode cL_refuses 531 = .ok (.iconst 0, 1) := by decide +kernel
theorem dL_refuses_532 : decode cL_refuses 532 = .ok (.iconst 0, 1) := by decide +kernel
theorem dL_refuses_533 : decode cL_refuses 533 = .ok (.invokestatic 170, 3) := by decide +kernel
theorem dL_refuses_536 : decode cL_refuses 536 = .ok (.ldc 39, 2) := by decide +kernel
theorem dL_refuses_538 : decode cL_refuses 538 = .ok (.if_icmp .ne 163, 3) := by decide +kernel
theorem dL_refuses_541 : decode cL_refuses 541 = .ok (.aload_n 0, 1) := by decide +kernel
theorem dL_refuses_542 : decode cL_refuses 542 = .ok (.bipush 17, 2) := by decide +kernel
theorem dL_refuses_544 : decode cL_refuses 544 = .ok (.iload_n 1, 1) := by decide +kernel
theorem dL_refuses_545 : decode cL_refuses 545 = .ok (.iload_n 2, 1) := by decide +kernel
theorem dL_refuses_546 : decode cL_refuses 546 = .ok (.irem, 1) := by decide +kernel
theorem dL_refuses_547 : decode cL_refuses 547 = .ok (.sipush 501, 3) := by decide +kernel
theorem dL_refuses_550 : decode cL_refuses 550 = .ok (.iload_n 1, 1) := by decide +kernel
theorem dL_refuses_551 : decode cL_refuses 551 = .ok (.bipush 9, 2) := by decide +kernel
theorem dL_refuses_553 : decode cL_refuses 553 = .ok (.irem, 1) := by decide +kernel
theorem dL_refuses_554 : decode cL_refuses 554 = .ok (.iadd, 1) := by decide +kernel
theorem dL_refuses_555 : decode cL_refuses 555 = .ok (.iconst 0, 1) := by decide +kernel
theorem dL_refuses_556 : decode cL_refuses 556 = .ok (.invokestatic 170, 3) := by decide +kernel
theorem dL_refuses_559 : decode cL_refuses 559 = .ok (.ldc 15, 2) := by decide +kernel
theorem dL_refuses_561 : decode cL_refuses 561 = .ok (.if_icmp .ne 140, 3) := by decide +kernel
theorem dL_refuses_564 : decode cL_refuses 564 = .ok (.aload_n 0, 1) := by decide +kernel
theorem dL_refuses_565 : decode cL_refuses 565 = .ok (.bipush 18, 2) := by decide +kernel
theorem dL_refuses_567 : decode cL_refuses 567 = .ok (.iload_n 3, 1) := by decide +kernel
theorem dL_refuses_568 : decode cL_refuses 568 = .ok (.iconst 0, 1) := by decide +kernel
theorem dL_refuses_569 : decode cL_refuses 569 = .ok (.iconst 0, 1) := by decide +kernel
theorem dL_refuses_570 : decode cL_refuses 570 = .ok (.invokestatic 170, 3) := by decide +kernel
theorem dL_refuses_573 : decode cL_refuses 573 = .ok (.ldc 39, 2) := by decide +kernel
theorem dL_refuses_575 : decode cL_refuses 575 = .ok (.if_icmp .ne 126, 3) := by decide +kernel
theorem dL_refuses_578 : decode cL_refuses 578 = .ok (.aload_n 0, 1) := by decide +kernel
theorem dL_refuses_579 : decode cL_refuses 579 = .ok (.bipush 19, 2) := by decide +kernel
theorem dL_refuses_581 : decode cL_refuses 581 = .ok (.iload_n 3, 1) := by decide +kernel
theorem dL_refuses_582 : decode cL_refuses 582 = .ok (.iconst (-1), 1) := by decide +kernel
theorem dL_refuses_583 : decode cL_refuses 583 = .ok (.iconst 0, 1) := by decide +kernel
theorem dL_refuses_584 : decode cL_refuses 584 = .ok (.invokestatic 170, 3) := by decide +kernel
theorem dL_refuses_587 : decode cL_refuses 587 = .ok (.ldc 39, 2) := by decide +kernel
theorem dL_refuses_589 : decode cL_refuses 589 = .ok (.if_icmp .ne 112, 3) := by decide +kernel
theorem dL_refuses_592 : decode cL_refuses 592 = .ok (.aload_n 0, 1) := by decide +kernel
theorem dL_refuses_593 : decode cL_refuses 593 = .ok (.bipush 19, 2) := by decide +kernel
theorem dL_refuses_595 : decode cL_refuses 595 = .ok (.iload_n 1, 1) := by decide +kernel
theorem dL_refuses_596 : decode cL_refuses 596 = .ok (.iload_n 2, 1) := by decide +kernel
theorem dL_refuses_597 : decode cL_refuses 597 = .ok (.irem, 1) := by decide +kernel
theorem dL_refuses_598 : decode cL_refuses 598 = .ok (.iconst (-1), 1) := by decide +kernel
theorem dL_refuses_599 : decode cL_refuses 599 = .ok (.iload_n 1, 1) := by decide +kernel
theorem dL_refuses_600 : decode cL_refuses 600 = .ok (.bipush 9, 2) := by decide +kernel
theorem dL_refuses_602 : decode cL_refuses 602 = .ok (.irem, 1) := by decide +kernel
theorem dL_refuses_603 : decode cL_refuses 603 = .ok (.isub, 1) := by decide +kernel
theorem dL_refuses_604 : decode cL_refuses 604 = .ok (.iconst 0, 1) := by decide +kernel
theorem dL_refuses_605 : decode cL_refuses 605 = .ok (.invokestatic 170, 3) := by decide +kernel
theorem dL_refuses_608 : decode cL_refuses 608 = .ok (.ldc 15, 2) := by decide +kernel
theorem dL_refuses_610 : decode cL_refuses 610 = .ok (.if_icmp .ne 91, 3) := by decide +kernel
theorem dL_refuses_613 : decode cL_refuses 613 = .ok (.aload_n 0, 1) := by decide +kernel
theorem dL_refuses_614 : decode cL_refuses 614 = .ok (.bipush 20, 2) := by decide +kernel
theorem dL_refuses_616 : decode cL_refuses 616 = .ok (.iconst 2, 1) := by decide +kernel
theorem dL_refuses_617 : decode cL_refuses 617 = .ok (.iload_n 1, 1) := by decide +kernel
theorem dL_refuses_618 : decode cL_refuses 618 = .ok (.bipush 50, 2) := by decide +kernel
theorem dL_refuses_620 : decode cL_refuses 620 = .ok (.irem, 1) := by decide +kernel
theorem dL_refuses_621 : decode cL_refuses 621 = .ok (.iadd, 1) := by decide +kernel
theorem dL_refuses_622 : decode cL_refuses 622 = .ok (.iconst 0, 1) := by decide +kernel
theorem dL_refuses_623 : decode cL_refuses 623 = .ok (.iconst 0, 1) := by decide +kernel
theorem dL_refuses_624 : decode cL_refuses 624 = .ok (.invokestatic 170, 3) := by decide +kernel
theorem dL_refuses_627 : decode cL_refuses 627 = .ok (.ldc 39, 2) := by decide +kernel
theorem dL_refuses_629 : decode cL_refuses 629 = .ok (.if_icmp .ne 72, 3) := by decide +kernel
theorem dL_refuses_632 : decode cL_refuses 632 = .ok (.aload_n 0, 1) := by decide +kernel
theorem dL_refuses_633 : decode cL_refuses 633 = .ok (.bipush 21, 2) := by decide +kernel
theorem dL_refuses_635 : decode cL_refuses 635 = .ok (.iconst (-1), 1) := by decide +kernel
theorem dL_refuses_636 : decode cL_refuses 636 = .ok (.iload_n 1, 1) := by decide +kernel
theorem dL_refuses_637 : decode cL_refuses 637 = .ok (.bipush 9, 2) := by decide +kernel
theorem dL_refuses_639 : decode cL_refuses 639 = .ok (.irem, 1) := by decide +kernel
theorem dL_refuses_640 : decode cL_refuses 640 = .ok (.isub, 1) := by decide +kernel
theorem dL_refuses_641 : decode cL_refuses 641 = .ok (.iconst 0, 1) := by decide +kernel
theorem dL_refuses_642 : decode cL_refuses 642 = .ok (.iconst 0, 1) := by decide +kernel
theorem dL_refuses_643 : decode cL_refuses 643 = .ok (.invokestatic 170, 3) := by decide +kernel
theorem dL_refuses_646 : decode cL_refuses 646 = .ok (.ldc 39, 2) := by decide +kernel
theorem dL_refuses_648 : decode cL_refuses 648 = .ok (.if_icmp .ne 53, 3) := by decide +kernel
theorem dL_refuses_651 : decode cL_refuses 651 = .ok (.aload_n 0, 1) := by decide +kernel
theorem dL_refuses_652 : decode cL_refuses 652 = .ok (.iconst 0, 1) := by decide +kernel
theorem dL_refuses_653 : decode cL_refuses 653 = .ok (.lconst 0, 1) := by decide +kernel
theorem dL_refuses_654 : decode cL_refuses 654 = .ok (.invokestatic 174, 3) := by decide +kernel
theorem dL_refuses_657 : decode cL_refuses 657 = .ok (.ldc 15, 2) := by decide +kernel
theorem dL_refuses_659 : decode cL_refuses 659 = .ok (.if_icmp .ne 42, 3) := by decide +kernel
theorem dL_refuses_662 : decode cL_refuses 662 = .ok (.aload_n 0, 1) := by decide +kernel
theorem dL_refuses_663 : decode cL_refuses 663 = .ok (.iconst 1, 1) := by decide +kernel
theorem dL_refuses_664 : decode cL_refuses 664 = .ok (.ldc2_w 178, 3) := by decide +kernel
theorem dL_refuses_667 : decode cL_refuses 667 = .ok (.iload_n 1, 1) := by decide +kernel
theorem dL_refuses_668 : decode cL_refuses 668 = .ok (.i2l, 1) := by decide +kernel
theorem dL_refuses_669 : decode cL_refuses 669 = .ok (.ladd, 1) := by decide +kernel
theorem dL_refuses_670 : decode cL_refuses 670 = .ok (.invokestatic 174, 3) := by decide +kernel
theorem dL_refuses_673 : decode cL_refuses 673 = .ok (.ldc 15, 2) := by decide +kernel
theorem dL_refuses_675 : decode cL_refuses 675 = .ok (.if_icmp .ne 26, 3) := by decide +kernel
theorem dL_refuses_678 : decode cL_refuses 678 = .ok (.aload_n 0, 1) := by decide +kernel
theorem dL_refuses_679 : decode cL_refuses 679 = .ok (.iload_n 1, 1) := by decide +kernel
theorem dL_refuses_680 : decode cL_refuses 680 = .ok (.i2l, 1) := by decide +kernel
theorem dL_refuses_681 : decode cL_refuses 681 = .ok (.sipush 301, 3) := by decide +kernel
theorem dL_refuses_684 : decode cL_refuses 684 = .ok (.iload_n 1, 1) := by decide +kernel
theorem dL_refuses_685 : decode cL_refuses 685 = .ok (.bipush 9, 2) := by decide +kernel
theorem dL_refuses_687 : decode cL_refuses 687 = .ok (.irem, 1) := by decide +kernel
theorem dL_refuses_688 : decode cL_refuses 688 = .ok (.iadd, 1) := by decide +kernel
theorem dL_refuses_689 : decode cL_refuses 689 = .ok (.invokestatic 180, 3) := by decide +kernel
theorem dL_refuses_692 : decode cL_refuses 692 = .ok (.ldc 15, 2) := by decide +kernel
theorem dL_refuses_694 : decode cL_refuses 694 = .ok (.if_icmp .ne 7, 3) := by decide +kernel
theorem dL_refuses_697 : decode cL_refuses 697 = .ok (.iconst 1, 1) := by decide +kernel
theorem dL_refuses_698 : decode cL_refuses 698 = .ok (.goto 4, 3) := by decide +kernel
theorem dL_refuses_701 : decode cL_refuses 701 = .ok (.iconst 0, 1) := by decide +kernel
theorem dL_refuses_702 : decode cL_refuses 702 = .ok (.ireturn, 1) := by decide +kernel
