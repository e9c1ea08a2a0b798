set_option maxRecDepth 20000 in
theorem ggL_holds_L_call : GoodIn wsL_holds wsL_call := goodIn_ca (goodIn_ca (goodIn_ca (goodIn_r _ [5, 6, 7, 4, 8, 9, 10, 11, 12, 13, 14, 15, 16, 17, 18, 19, 20, 21, 22, 23, 24, 25, 26, 27, 28, 29, 30, 31, 32, 33, 34, 35, 36, 37, 38, 39, 40, 41, 42, 43, 44, 45, 46, 47, 48, 49, 50, 51, 52, 53, 54, 55, 56, 57, 58, 59, 60, 61, 62, 63, 64, 65, 66, 67, 68, 69, 70, 71, 72, 73, 74, 75, 76, 77, 78, 79, 80, 81, 82, 83, 84, 85, 86, 87, 88, 89, 90, 91, 92, 93, 94, 95, 96, 97, 98, 99, 100, 101, 102, 103, 104, 105, 106, 107, 108, 109, 110, 111, 112, 113, 114, 115, 116, 117, 118, 119, 120, 121, 122, 123, 124, 125, 126, 127, 128, 129, 130, 131, 132, 133, 134, 135, 136, 137, 138, 139, 140, 141, 142, 143, 144, 145, 146, 147, 148, 149, 150, 151, 152, 153, 154, 155, 156, 157, 158, 159, 160, 161, 162, 163, 164, 165, 166, 167, 168, 169, 170, 171, 172, 173, 174, 175, 176, 177, 178, 179, 180, 181, 182, 183, 184, 185, 186, 187, 188, 189, 190, 191, 192, 193, 194, 195, 196, 197, 198, 199, 200, 201, 202, 203, 204, 205, 206, 207, 208, 209, 210, 211, 212, 213, 214, 215, 216, 217, 218, 219, 220, 221, 222, 223, 224, 225, 226, 227, 228, 229, 230, 231, 232, 233, 234, 235, 236, 237, 238, 239, 240, 241, 242, 243, 244, 245, 246, 247, 248, 249, 250, 251, 252, 253, 254, 255, 256, 257, 258, 259, 260, 261, 262, 263, 264, 265, 266, 267, 268, 269, 270, 271, 272, 273, 274, 275, 276, 277, 278, 279, 280, 281, 282, 283, 284, 285, 286, 287, 288, 289, 290, 291, 292, 293, 294, 295, 296, 297, 298, 299, 300, 301, 302, 303, 304, 305, 306, 307, 308, 309, 310, 311, 312, 313, 314, 315, 316, 317, 318, 319, 320, 321, 322, 323, 324, 325, 326, 327, 328, 329, 330, 331, 332, 333, 334, 335, 336, 337, 338, 339, 340, 341, 342, 343, 344, 345, 346, 347, 348, 349, 350, 351, 352, 353, 354, 355, 356, 357, 358, 359, 360, 361, 362, 363, 364, 365, 366, 367, 368, 369, 370, 371, 372, 373, 374, 375, 376, 377, 378, 379, 380, 381, 382, 383, 384, 385, 386, 387, 388, 389, 390, 391, 392, 393, 394, 395, 396, 397, 398, 399, 400, 401, 402, 403, 404, 405, 406, 407, 408, 409, 410, 411, 412, 413, 414, 415, 416, 417, 418, 419, 420, 421, 422, 423, 424, 425, 426, 427, 428, 429, 430, 431, 432, 433, 434, 435, 436, 437, 438, 439, 440, 441, 442, 443, 444, 445, 446, 447, 448, 449, 450, 451, 452, 453, 454, 455, 456, 457, 458, 459, 460, 461, 462, 463, 464, 465, 466, 467, 468, 469, 470, 471, 472, 473, 474, 475, 476, 477, 478, 479, 480, 481, 482, 483, 484, 485, 486, 487, 488] (by decide +kernel) (by decide +kernel)) (goodIn_sub (fun _ h => List.mem_cons_of_mem _ (List.mem_append_left _ (List.mem_append_left _ (List.mem_append_right _ h)))) (by decide +kernel))) (goodIn_sub (fun _ h => List.mem_cons_of_mem _ (List.mem_append_left _ (List.mem_append_right _ h))) (by decide +kernel))) (goodIn_sub (fun _ h => List.mem_cons_of_mem _ (List.mem_append_right _ h)) (by decide +kernel))
set_option maxRecDepth 20000 in
theorem gL_holds_L_call : GoodIn wsL_holds (va_wsS RL 170 yL_call wsL_call) := goodIn_app (goodIn_of _ (by decide +kernel)) ggL_holds_L_call
theorem dL_holds_0 : decode cL_holds 0 = .ok (.aload_n 0, 1) := by decide +kernel
theorem dL_holds_1 : decode cL_holds 1 = .ok (.iconst 2, 1) := by decide +kernel
theorem dL_holds_2 : decode cL_holds 2 = .ok (.iconst 0, 1) := by decide +kernel
theorem dL_holds_3 : decode cL_holds 3 = .ok (.iconst 0, 1) := by decide +kernel
theorem dL_holds_4 : decode cL_holds 4 = .ok (.iconst 0, 1) := by decide +kernel
theorem dL_holds_5 : decode cL_holds 5 = .ok (.invokestatic 170, 3) := by decide +kernel
theorem dL_holds_8 : decode cL_holds 8 = .ok (.istore_n 2, 1) := by decide +kernel
theorem dL_holds_9 : decode cL_holds 9 = .ok (.aload_n 0, 1) := by decide +kernel
theorem dL_holds_10 : decode cL_holds 10 = .ok (.iconst 2, 1) := by decide +kernel
theorem dL_holds_11 : decode cL_holds 11 = .ok (.iconst 2, 1) := by decide +kernel
theorem dL_holds_12 : decode cL_holds 12 = .ok (.iconst 0, 1) := by decide +kernel
theorem dL_holds_13 : decode cL_holds 13 = .ok (.iconst 0, 1) := by decide +kernel
theorem dL_holds_14 : decode cL_holds 14 = .ok (.invokestatic 170, 3) := by decide +kernel
theorem dL_holds_17 : decode cL_holds 17 = .ok (.istore_n 3, 1) := by decide +kernel
theorem dL_holds_18 : decode cL_holds 18 = .ok (.iconst 0, 1) := by decide +kernel
theorem dL_holds_19 : decode cL_holds 19 = .ok (.istore 4, 2) := by decide +kernel
theorem dL_holds_21 : decode cL_holds 21 = .ok (.ldc 184, 2) := by decide +kernel
theorem dL_holds_23 : decode cL_holds 23 = .ok (.istore 5, 2) := by decide +kernel
theorem dL_holds_25 : decode cL_holds 25 = .ok (.aload_n 0, 1) := by decide +kernel
theorem dL_holds_26 : decode cL_holds 26 = .ok (.iconst 2, 1) := by decide +kernel
theorem dL_holds_27 : decode cL_holds 27 = .ok (.bipush 9, 2) := by decide +kernel
theorem dL_holds_29 : decode cL_holds 29 = .ok (.iconst 0, 1) := by decide +kernel
theorem dL_holds_30 : decode cL_holds 30 = .ok (.iconst 0, 1) := by decide +kernel
theorem dL_holds_31 : decode cL_holds 31 = .ok (.invokestatic 170, 3) := by decide +kernel
theorem dL_holds_34 : decode cL_holds 34 = .ok (.iconst 1, 1) := by decide +kernel
theorem dL_holds_35 : decode cL_holds 35 = .ok (.if_icmp .ne 7, 3) := by decide +kernel
theorem dL_holds_38 : decode cL_holds 38 = .ok (.iconst 1, 1) := by decide +kernel
theorem dL_holds_39 : decode cL_holds 39 = .ok (.goto 4, 3) := by decide +kernel
theorem dL_holds_42 : decode cL_holds 42 = .ok (.iconst 0, 1) := by decide +kernel
theorem dL_holds_43 : decode cL_holds 43 = .ok (.istore 6, 2) := by decide +kernel
theorem dL_holds_45 : decode cL_holds 45 = .ok (.iload_n 2, 1) := by decide +kernel
theorem dL_holds_46 : decode cL_holds 46 = .ok (.iconst 4, 1) := by decide +kernel
theorem dL_holds_47 : decode cL_holds 47 = .ok (.if_icmp .lt 123, 3) := by decide +kernel
theorem dL_holds_50 : decode cL_holds 50 = .ok (.iload_n 2, 1) := by decide +kernel
theorem dL_holds_51 : decode cL_holds 51 = .ok (.bipush 32, 2) := by decide +kernel
theorem dL_holds_53 : decode cL_holds 53 = .ok (.if_icmp .gt 117, 3) := by decide +kernel
theorem dL_holds_56 : decode cL_holds 56 = .ok (.iload_n 3, 1) := by decide +kernel
theorem dL_holds_57 : decode cL_holds 57 = .ok (.ifCond .lt 113, 3) := by decide +kernel
theorem dL_holds_60 : decode cL_holds 60 = .ok (.iload_n 3, 1) := by decide +kernel
theorem dL_holds_61 : decode cL_holds 61 = .ok (.iload_n 2, 1) := by decide +kernel
theorem dL_holds_62 : decode cL_holds 62 = .ok (.if_icmp .gt 108, 3) := by decide +kernel
theorem dL_holds_65 : decode cL_holds 65 = .ok (.aload_n 0, 1) := by decide +kernel
theorem dL_holds_66 : decode cL_holds 66 = .ok (.iconst 2, 1) := by decide +kernel
theorem dL_holds_67 : decode cL_holds 67 = .ok (.iconst 1, 1) := by decide +kernel
theorem dL_holds_68 : decode cL_holds 68 = .ok (.iconst 0, 1) := by decide +kernel
theorem dL_holds_69 : decode cL_holds 69 = .ok (.iconst 0, 1) := by decide +kernel
theorem dL_holds_70 : decode cL_holds 70 = .ok (.invokestatic 170, 3) := by decide +kernel
theorem dL_holds_73 : decode cL_holds 73 = .ok (.iload_n 2, 1) := by decide +kernel
theorem dL_holds_74 : decode cL_holds 74 = .ok (.if_icmp .ge 96, 3) := by decide +kernel
theorem dL_holds_77 : decode cL_holds 77 = .ok (.aload_n 0, 1) := by decide +kernel
theorem dL_holds_78 : decode cL_holds 78 = .ok (.iconst 5, 1) := by decide +kernel
theorem dL_holds_79 : decode cL_holds 79 = .ok (.iload_n 3, 1) := by decide +kernel
theorem dL_holds_80 : decode cL_holds 80 = .ok (.iconst 0, 1) := by decide +kernel
theorem dL_holds_81 : decode cL_holds 81 = .ok (.iconst 0, 1) := by decide +kernel
theorem dL_holds_82 : decode cL_holds 82 = .ok (.invokestatic 170, 3) := by decide +kernel
theorem dL_holds_85 : decode cL_holds 85 = .ok (.iconst (-1), 1) := by decide +kernel
theorem dL_holds_86 : decode cL_holds 86 = .ok (.if_icmp .ne 84, 3) := by decide +kernel
theorem dL_holds_89 : decode cL_holds 89 = .ok (.aload_n 0, 1) := by decide +kernel
theorem dL_holds_90 : decode cL_holds 90 = .ok (.iconst 2, 1) := by decide +kernel
theorem dL_holds_91 : decode cL_holds 91 = .ok (.iconst 3, 1) := by decide +kernel
theorem dL_holds_92 : decode cL_holds 92 = .ok (.iconst 0, 1) := by decide +kernel
theorem dL_holds_93 : decode cL_holds 93 = .ok (.iconst 0, 1) := by decide +kernel
theorem dL_holds_94 : decode cL_holds 94 = .ok (.invokestatic 170, 3) := by decide +kernel
theorem dL_holds_97 : decode cL_holds 97 = .ok (.aload_n 0, 1) := by decide +kernel
theorem dL_holds_98 : decode cL_holds 98 = .ok (.iconst 2, 1) := by decide +kernel
theorem dL_holds_99 : decode cL_holds 99 = .ok (.bipush 10, 2) := by decide +kernel
theorem dL_holds_101 : decode cL_holds 101 = .ok (.iconst 0, 1) := by decide +kernel
theorem dL_holds_102 : decode cL_holds 102 = .ok (.iconst 0, 1) := by decide +kernel
theorem dL_holds_103 : decode cL_holds 103 = .ok (.invokestatic 170, 3) := by decide +kernel
theorem dL_holds_106 : decode cL_holds 106 = .ok (.iadd, 1) := by decide +kernel
theorem dL_holds_107 : decode cL_holds 107 = .ok (.iconst 4, 1) := by decide +kernel
theorem dL_holds_108 : decode cL_holds 108 = .ok (.if_icmp .gt 62, 3) := by decide +kernel
theorem dL_holds_111 : decode cL_holds 111 = .ok (.aload_n 0, 1) := by decide +kernel
theorem dL_holds_112 : decode cL_holds 112 = .ok (.iconst 2, 1) := by decide +kernel
theorem dL_holds_113 : decode cL_holds 113 = .ok (.bipush 11, 2) := by decide +kernel
theorem dL_holds_115 : decode cL_holds 115 = .ok (.iconst 0, 1) := by decide +kernel
theorem dL_holds_116 : decode cL_holds 116 = .ok (.iconst 0, 1) := by decide +kernel
theorem dL_holds_117 : decode cL_holds 117 = .ok (.invokestatic 170, 3) := by decide +kernel
theorem dL_holds_120 : decode cL_holds 120 = .ok (.aload_n 0, 1) := by decide +kernel
theorem dL_holds_121 : decode cL_holds 121 = .ok (.iconst 2, 1) := by decide +kernel
theorem dL_holds_122 : decode cL_holds 122 = .ok (.iconst 4, 1) := by decide +kernel
theorem dL_holds_123 : decode cL_holds 123 = .ok (.iconst 0, 1) := by decide +kernel
theorem dL_holds_124 : decode cL_holds 124 = .ok (.iconst 0, 1) := by decide +kernel
theorem dL_holds_125 : decode cL_holds 125 = .ok (.invokestatic 170, 3) := by decide +kernel
theorem dL_holds_128 : decode cL_holds 128 = .ok (.aload_n 0, 1) := by decide +kernel
theorem dL_holds_129 : decode cL_holds 129 = .ok (.iconst 2, 1) := by decide +kernel
theorem dL_holds_130 : decode cL_holds 130 = .ok (.iconst 5, 1) := by decide +kernel
theorem dL_holds_131 : decode cL_holds 131 = .ok (.iconst 0, 1) := by decide +kernel
theorem dL_holds_132 : decode cL_holds 132 = .ok (.iconst 0, 1) := by decide +kernel
theorem dL_holds_133 : decode cL_holds 133 = .ok (.invokestatic 170, 3) := by decide +kernel
theorem dL_holds_136 : decode cL_holds 136 = .ok (.iadd, 1) := by decide +kernel
theorem dL_holds_137 : decode cL_holds 137 = .ok (.aload_n 0, 1) := by decide +kernel
theorem dL_holds_138 : decode cL_holds 138 = .ok (.iconst 2, 1) := by decide +kernel
theorem dL_holds_139 : decode cL_holds 139 = .ok (.bipush 10, 2) := by decide +kernel
theorem dL_holds_141 : decode cL_holds 141 = .ok (.iconst 0, 1) := by decide +kernel
theorem dL_holds_142 : decode cL_holds 142 = .ok (.iconst 0, 1) := by decide +kernel
theorem dL_holds_143 : decode cL_holds 143 = .ok (.invokestatic 170, 3) := by decide +kernel
theorem dL_holds_146 : decode cL_holds 146 = .ok (.iadd, 1) := by decide +kernel
theorem dL_holds_147 : decode cL_holds 147 = .ok (.if_icmp .ne 23, 3) := by decide +kernel
theorem dL_holds_150 : decode cL_holds 150 = .ok (.iload 6, 2) := by decide +kernel
theorem dL_holds_152 : decode cL_holds 152 = .ok (.ifCond .eq 14, 3) := by decide +kernel
theorem dL_holds_155 : decode cL_holds 155 = .ok (.aload_n 0, 1) := by decide +kernel
theorem dL_holds_156 : decode cL_holds 156 = .ok (.iconst 2, 1) := by decide +kernel
theorem dL_holds_157 : decode cL_holds 157 = .ok (.iconst 3, 1) := by decide +kernel
theorem dL_holds_158 : decode cL_holds 158 = .ok (.iconst 0, 1) := by decide +kernel
theorem dL_holds_159 : decode cL_holds 159 = .ok (.iconst 0, 1) := by decide +kernel
theorem dL_holds_160 : decode cL_holds 160 = .ok (.invokestatic 170, 3) := by decide +kernel
theorem dL_holds_163 : decode cL_holds 163 = .ok (.ifCond .ne 7, 3) := by decide +kernel
theorem dL_holds_166 : decode cL_holds 166 = .ok (.iconst 1, 1) := by decide +kernel
theorem dL_holds_167 : decode cL_holds 167 = .ok (.goto 4, 3) := by decide +kernel
theorem dL_holds_170 : decode cL_holds 170 = .ok (.iconst 0, 1) := by decide +kernel
theorem dL_holds_171 : decode cL_holds 171 = .ok (.istore 7, 2) := by decide +kernel
theorem dL_holds_173 : decode cL_holds 173 = .ok (.iconst 0, 1) := by decide +kernel
theorem dL_holds_174 : decode cL_holds 174 = .ok (.istore 8, 2) := by decide +kernel
theorem dL_holds_176 : decode cL_holds 176 = .ok (.iload 8, 2) := by decide +kernel
theorem dL_holds_178 : decode cL_holds 178 = .ok (.iload_n 2, 1) := by decide +kernel
theorem dL_holds_179 : decode cL_holds 179 = .ok (.if_icmp .gt 121, 3) := by decide +kernel
theorem dL_holds_182 : decode cL_holds 182 = .ok (.iload 7, 2) := by decide +kernel
theorem dL_holds_184 : decode cL_holds 184 = .ok (.ifCond .eq 116, 3) := by decide +kernel
theorem dL_holds_187 : decode cL_holds 187 = .ok (.aload_n 0, 1) := by decide +kernel
theorem dL_holds_188 : decode cL_holds 188 = .ok (.iconst 5, 1) := by decide +kernel
theorem dL_holds_189 : decode cL_holds 189 = .ok (.iload 8, 2) := by decide +kernel
theorem dL_holds_191 : decode cL_holds 191 = .ok (.iconst 0, 1) := by decide +kernel
theorem dL_holds_192 : decode cL_holds 192 = .ok (.iconst 0, 1) := by decide +kernel
theorem dL_holds_193 : decode cL_holds 193 = .ok (.invokestatic 170, 3) := by decide +kernel
theorem dL_holds_196 : decode cL_holds 196 = .ok (.istore 9, 2) := by decide +kernel
theorem dL_holds_198 : decode cL_holds 198 = .ok (.aload_n 0, 1) := by decide +kernel
theorem dL_holds_199 : decode cL_holds 199 = .ok (.bipush 6, 2) := by decide +kernel
theorem dL_holds_201 : decode cL_holds 201 = .ok (.iload 8, 2) := by decide +kernel
theorem dL_holds_203 : decode cL_holds 203 = .ok (.iconst 0, 1) := by decide +kernel
theorem dL_holds_204 : decode cL_holds 204 = .ok (.iconst 0, 1) := by decide +kernel
theorem dL_holds_205 : decode cL_holds 205 = .ok (.invokestatic 170, 3) := by decide +kernel
theorem dL_holds_208 : decode cL_holds 208 = .ok (.istore 10, 2) := by decide +kernel
theorem dL_holds_210 : decode cL_holds 210 = .ok (.iload 10, 2) := by decide +kernel
theorem dL_holds_212 : decode cL_holds 212 = .ok (.iload 4, 2) := by decide +kernel
theorem dL_holds_214 : decode cL_holds 214 = .ok (.if_icmp .le 8, 3) := by decide +kernel
theorem dL_holds_217 : decode cL_holds 217 = .ok (.iload 10, 2) := by decide +kernel
theorem dL_holds_219 : decode cL_holds 219 = .ok (.goto 5, 3) := by decide +kernel
theorem dL_holds_222 : decode cL_holds 222 = .ok (.iload 4, 2) := by decide +kernel
theorem dL_holds_224 : decode cL_holds 224 = .ok (.istore 4, 2) := by decide +kernel
theorem dL_holds_226 : decode cL_holds 226 = .ok (.iload 10, 2) := by decide +kernel
theorem dL_holds_228 : decode cL_holds 228 = .ok (.iload 5, 2) := by decide +kernel
theorem dL_holds_230 : decode cL_holds 230 = .ok (.if_icmp .ge 8, 3) := by decide +kernel
theorem dL_holds_233 : decode cL_holds 233 = .ok (.iload 10, 2) := by decide +kernel
theorem dL_holds_235 : decode cL_holds 235 = .ok (.goto 5, 3) := by decide +kernel
theorem dL_holds_238 : decode cL_holds 238 = .ok (.iload 5, 2) := by decide +kernel
theorem dL_holds_240 : decode cL_holds 240 = .ok (.istore 5, 2) := by decide +kernel
theorem dL_holds_242 : decode cL_holds 242 = .ok (.iload 10, 2) := by decide +kernel
theorem dL_holds_244 : decode cL_holds 244 = .ok (.ifCond .lt 47, 3) := by decide +kernel
theorem dL_holds_247 : decode cL_holds 247 = .ok (.iload 8, 2) := by decide +kernel
theorem dL_holds_249 : decode cL_holds 249 = .ok (.iload_n 3, 1) := by decide +kernel
theorem dL_holds_250 : decode cL_holds 250 = .ok (.if_icmp .ne 12, 3) := by decide +kernel
theorem dL_holds_253 : decode cL_holds 253 = .ok (.iload 9, 2) := by decide +kernel
theorem dL_holds_255 : decode cL_holds 255 = .ok (.iconst (-1), 1) := by decide +kernel
theorem dL_holds_256 : decode cL_holds 256 = .ok (.if_icmp .ne 35, 3) := by decide +kernel
theorem dL_holds_259 : decode cL_holds 259 = .ok (.goto 28, 3) := by decide +kernel
theorem dL_holds_262 : decode cL_holds 262 = .ok (.iload 9, 2) := by decide +kernel
theorem dL_holds_264 : decode cL_holds 264 = .ok (.ifCond .lt 27, 3) := by decide +kernel
theorem dL_holds_267 : decode cL_holds 267 = .ok (.iload 9, 2) := by decide +kernel
theorem dL_holds_269 : decode cL_holds 269 = .ok (.iload_n 2, 1) := by decide +kernel
theorem dL_holds_270 : decode cL_holds 270 = .ok (.if_icmp .ge 21, 3) := by decide +kernel
theorem dL_holds_273 : decode cL_holds 273 = .ok (.aload_n 0, 1) := by decide +kernel
theorem dL_holds_274 : decode cL_holds 274 = .ok (.iconst 4, 1) := by decide +kernel
theorem dL_holds_275 : decode cL_holds 275 = .ok (.iload 9, 2) := by decide +kernel
theorem dL_holds_277 : decode cL_holds 277 = .ok (.iconst 0, 1) := by decide +kernel
theorem dL_holds_278 : decode cL_holds 278 = .ok (.iconst 0, 1) := by decide +kernel
theorem dL_holds_279 : decode cL_holds 279 = .ok (.invokestatic 170, 3) := by decide +kernel
theorem dL_holds_282 : decode cL_holds 282 = .ok (.iload 8, 2) := by decide +kernel
theorem dL_holds_284 : decode cL_holds 284 = .ok (.if_icmp .ne 7, 3) := by decide +kernel
theorem dL_holds_287 : decode cL_holds 287 = .ok (.iconst 1, 1) := by decide +kernel
theorem dL_holds_288 : decode cL_holds 288 = .ok (.goto 4, 3) := by decide +kernel
theorem dL_holds_291 : decode cL_holds 291 = .ok (.iconst 0, 1) := by decide +kernel
theorem dL_holds_292 : decode cL_holds 292 = .ok (.istore 7, 2) := by decide +kernel
theorem dL_holds_294 : decode cL_holds 294 = .ok (.iinc 8 1, 3) := by decide +kernel
theorem dL_holds_297 : decode cL_holds 297 = .ok (.goto (-121), 3) := by decide +kernel
theorem dL_holds_300 : decode cL_holds 300 = .ok (.iload_n 1, 1) := by decide +kernel
theorem dL_holds_301 : decode cL_holds 301 = .ok (.iload_n 2, 1) := by decide +kernel
theorem dL_holds_302 : decode cL_holds 302 = .ok (.irem, 1) := by decide +kernel
theorem dL_holds_303 : decode cL_holds 303 = .ok (.istore 8, 2) := by decide +kernel
theorem dL_holds_305 : decode cL_holds 305 = .ok (.aload_n 0, 1) := by decide +kernel
theorem dL_holds_306 : decode cL_holds 306 = .ok (.bipush 18, 2) := by decide +kernel
theorem dL_holds_308 : decode cL_holds 308 = .ok (.iload 8, 2) := by decide +kernel
theorem dL_holds_310 : decode cL_holds 310 = .ok (.iconst 0, 1) := by decide +kernel
theorem dL_holds_311 : decode cL_holds 311 = .ok (.iconst 0, 1) := by decide +kernel
theorem dL_holds_312 : decode cL_holds 312 = .ok (.invokestatic 170, 3) := by decide +kernel
theorem dL_holds_315 : decode cL_holds 315 = .ok (.istore 9, 2) := by decide +kernel
theorem dL_holds_317 : decode cL_holds 317 = .ok (.aload_n 0, 1) := by decide +kernel
theorem dL_holds_318 : decode cL_holds 318 = .ok (.iconst 4, 1) := by decide +kernel
theorem dL_holds_319 : decode cL_holds 319 = .ok (.iload 8, 2) := by decide +kernel
theorem dL_holds_321 : decode cL_holds 321 = .ok (.iconst 0, 1) := by decide +kernel
theorem dL_holds_322 : decode cL_holds 322 = .ok (.iconst 0, 1) := by decide +kernel
theorem dL_holds_323 : decode cL_holds 323 = .ok (.invokestatic 170, 3) := by decide +kernel
theorem dL_holds_326 : decode cL_holds 326 = .ok (.istore 10, 2) := by decide +kernel
theorem dL_holds_328 : decode cL_holds 328 = .ok (.iload 7, 2) := by decide +kernel
theorem dL_holds_330 : decode cL_holds 330 = .ok (.ifCond .eq 120, 3) := by decide +kernel
theorem dL_holds_333 : decode cL_holds 333 = .ok (.aload_n 0, 1) := by decide +kernel
theorem dL_holds_334 : decode cL_holds 334 = .ok (.iconst 2, 1) := by decide +kernel
theorem dL_holds_335 : decode cL_holds 335 = .ok (.bipush 6, 2) := by decide +kernel
theorem dL_holds_337 : decode cL_holds 337 = .ok (.iconst 0, 1) := by decide +kernel
theorem dL_holds_338 : decode cL_holds 338 = .ok (.iconst 0, 1) := by decide +kernel
theorem dL_holds_339 : decode cL_holds 339 = .ok (.invokestatic 170, 3) := by decide +kernel
theorem dL_holds_342 : decode cL_holds 342 = .ok (.iload 4, 2) := by decide +kernel
theorem dL_holds_344 : decode cL_holds 344 = .ok (.if_icmp .ne 106, 3) := by decide +kernel
theorem dL_holds_347 : decode cL_holds 347 = .ok (.aload_n 0, 1) := by decide +kernel
theorem dL_holds_348 : decode cL_holds 348 = .ok (.iconst 2, 1) := by decide +kernel
theorem dL_holds_349 : decode cL_holds 349 = .ok (.bipush 7, 2) := by decide +kernel
theorem dL_holds_351 : decode cL_holds 351 = .ok (.iconst 0, 1) := by decide +kernel
theorem dL_holds_352 : decode cL_holds 352 = .ok (.iconst 0, 1) := by decide +kernel
theorem dL_holds_353 : decode cL_holds 353 = .ok (.invokestatic 170, 3) := by decide +kernel
theorem dL_holds_356 : decode cL_holds 356 = .ok (.iload 5, 2) := by decide +kernel
theorem dL_holds_358 : decode cL_holds 358 = .ok (.if_icmp .ne 92, 3) := by decide +kernel
theorem dL_holds_361 : decode cL_holds 361 = .ok (.iload 9, 2) := by decide +kernel
theorem dL_holds_363 : decode cL_holds 363 = .ok (.ifCond .le 87, 3) := by decide +kernel
theorem dL_holds_366 : decode cL_holds 366 = .ok (.iload 9, 2) := by decide +kernel
theorem dL_holds_368 : decode cL_holds 368 = .ok (.iload_n 2, 1) := by decide +kernel
theorem dL_holds_369 : decode cL_holds 369 = .ok (.if_icmp .gt 81, 3) := by decide +kernel
theorem dL_holds_372 : decode cL_holds 372 = .ok (.aload_n 0, 1) := by decide +kernel
theorem dL_holds_373 : decode cL_holds 373 = .ok (.bipush 19, 2) := by decide +kernel
theorem dL_holds_375 : decode cL_holds 375 = .ok (.iload 8, 2) := by decide +kernel
theorem dL_holds_377 : decode cL_holds 377 = .ok (.iconst 0, 1) := by decide +kernel
theorem dL_holds_378 : decode cL_holds 378 = .ok (.iconst 0, 1) := by decide +kernel
theorem dL_holds_379 : decode cL_holds 379 = .ok (.invokestatic 170, 3) := by decide +kernel
theorem dL_holds_382 : decode cL_holds 382 = .ok (.iload 10, 2) := by decide +kernel
theorem dL_holds_384 : decode cL_holds 384 = .ok (.if_icmp .ne 66, 3) := by decide +kernel
theorem dL_holds_387 : decode cL_holds 387 = .ok (.aload_n 0, 1) := by decide +kernel
theorem dL_holds_388 : decode cL_holds 388 = .ok (.bipush 19, 2) := by decide +kernel
theorem dL_holds_390 : decode cL_holds 390 = .ok (.iload 8, 2) := by decide +kernel
theorem dL_holds_392 : decode cL_holds 392 = .ok (.iload 9, 2) := by decide +kernel
theorem dL_holds_394 : decode cL_holds 394 = .ok (.iconst 1, 1) := by decide +kernel
theorem dL_holds_395 : decode cL_holds 395 = .ok (.isub, 1) := by decide +kernel
theorem dL_holds_396 : decode cL_holds 396 = .ok (.iconst 0, 1) := by decide +kernel
theorem dL_holds_397 : decode cL_holds 397 = .ok (.invokestatic 170, 3) := by decide +kernel
theorem dL_holds_400 : decode cL_holds 400 = .ok (.iload 10, 2) := by decide +kernel
theorem dL_holds_402 : decode cL_holds 402 = .ok (.if_icmp .ne 48, 3) := by decide +kernel
theorem dL_holds_405 : decode cL_holds 405 = .ok (.aload_n 0, 1) := by decide +kernel
theorem dL_holds_406 : decode cL_holds 406 = .ok (.bipush 19, 2) := by decide +kernel
theorem dL_holds_408 : decode cL_holds 408 = .ok (.iload 8, 2) := by decide +kernel
theorem dL_holds_410 : decode cL_holds 410 = .ok (.iload 9, 2) := by decide +kernel
theorem dL_holds_412 : decode cL_holds 412 = .ok (.iconst 0, 1) := by decide +kernel
theorem dL_holds_413 : decode cL_holds 413 = .ok (.invokestatic 170, 3) := by decide +kernel
theorem dL_holds_416 : decode cL_holds 416 = .ok (.iload 10, 2) := by decide +kernel
theorem dL_holds_418 : decode cL_holds 418 = .ok (.iconst 1, 1) := by decide +kernel
theorem dL_holds_419 : decode cL_holds 419 = .ok (.iadd, 1) := by decide +kernel
theorem dL_holds_420 : decode cL_holds 420 = .ok (.iload_n 2, 1) := by decide +kernel
theorem dL_holds_421 : decode cL_holds 421 = .ok (.iconst 1, 1) := by decide +kernel
theorem dL_holds_422 : decode cL_holds 422 = .ok (.iadd, 1) := by decide +kernel
theorem dL_holds_423 : decode cL_holds 423 = .ok (.irem, 1) := by decide +kernel
theorem dL_holds_424 : decode cL_holds 424 = .ok (.if_icmp .ne 26, 3) := by decide +kernel
theorem dL_holds_427 : decode cL_holds 427 = .ok (.aload_n 0, 1) := by decide +kernel
theorem dL_holds_428 : decode cL_holds 428 = .ok (.bipush 19, 2) := by decide +kernel
theorem dL_holds_430 : decode cL_holds 430 = .ok (.iload 8, 2) := by decide +kernel
theorem dL_holds_432 : decode cL_holds 432 = .ok (.iload_n 2, 1) := by decide +kernel
theorem dL_holds_433 : decode cL_holds 433 = .ok (.iload_n 2, 1) := by decide +kernel
theorem dL_holds_434 : decode cL_holds 434 = .ok (.iconst 1, 1) := by decide +kernel
theorem dL_holds_435 : decode cL_holds 435 = .ok (.iadd, 1) := by decide +kernel
theorem dL_holds_436 : decode cL_holds 436 = .ok (.imul, 1) := by decide +kernel
theorem dL_holds_437 : decode cL_holds 437 = .ok (.iconst 0, 1) := by decide +kernel
theorem dL_holds_438 : decode cL_holds 438 = .ok (.invokestatic 170, 3) := by decide +kernel
theorem dL_holds_441 : decode cL_holds 441 = .ok (.iload 10, 2) := by decide +kernel
theorem dL_holds_443 : decode cL_holds 443 = .ok (.if_icmp .ne 7, 3) := by decide +kernel
theorem dL_holds_446 : decode cL_holds 446 = .ok (.iconst 1, 1) := by decide +kernel
theorem dL_holds_447 : decode cL_holds 447 = .ok (.goto 4, 3) := by decide +kernel
theorem dL_holds_450 : decode cL_holds 450 = .ok (.iconst 0, 1) := by decide +kernel
theorem dL_holds_451 : decode cL_holds 451 = .ok (.istore 7, 2) := by decide +kernel
theorem dL_holds_453 : decode cL_holds 453 = .ok (.iconst 1, 1) := by decide +kernel
theorem dL_holds_454 : decode cL_holds 454 = .ok (.iload_n 1, 1) := by decide +kernel
theorem dL_holds_455 : decode cL_holds 455 = .ok (.bipush 32, 2) := by decide +kernel
theorem dL_holds_457 : decode cL_holds 457 = .ok (.idiv, 1) := by decide +kernel
theorem dL_holds_458 : decode cL_holds 458 = .ok (.bipush 60, 2) := by decide +kernel
theorem dL_holds_460 : decode cL_holds 460 = .ok (.irem, 1) := by decide +kernel
theorem dL_holds_461 : decode cL_holds 461 = .ok (.iadd, 1) := by decide +kernel
theorem dL_holds_462 : decode cL_holds 462 = .ok (.istore 11, 2) := by decide +kernel
theorem dL_holds_464 : decode cL_holds 464 = .ok (.aload_n 0, 1) := by decide +kernel
theorem dL_holds_465 : decode cL_holds 465 = .ok (.bipush 17, 2) := by decide +kernel
theorem dL_holds_467 : decode cL_holds 467 = .ok (.iload 8, 2) := by decide +kernel
theorem dL_holds_469 : decode cL_holds 469 = .ok (.iload 11, 2) := by decide +kernel
theorem dL_holds_471 : decode cL_holds 471 = .ok (.iconst 0, 1) := by decide +kernel
theorem dL_holds_472 : decode cL_holds 472 = .ok (.invokestatic 170, 3) := by decide +kernel
theorem dL_holds_475 : decode cL_holds 475 = .ok (.istore 12, 2) := by decide +kernel
theorem dL_holds_477 : decode cL_holds 477 = .ok (.iconst 1, 1) := by decide +kernel
theorem dL_holds_478 : decode cL_holds 478 = .ok (.iload_n 1, 1) := by decide +kernel
theorem dL_holds_479 : decode cL_holds 479 = .ok (.sipush 1920, 3) := by decide +kernel
theorem dL_holds_482 : decode cL_holds 482 = .ok (.idiv, 1) := by decide +kernel
theorem dL_holds_483 : decode cL_holds 483 = .ok (.bipush 50, 2) := by decide +kernel
theorem dL_holds_485 : decode cL_holds 485 = .ok (.irem, 1) := by decide +kernel
theorem dL_holds_486 : decode cL_holds 486 = .ok (.iadd, 1) := by decide +kernel
theorem dL_holds_487 : decode cL_holds 487 = .ok (.istore 13, 2) := by decide +kernel
theorem dL_holds_489 : decode cL_holds 489 = .ok (.iload 7, 2) := by decide +kernel
theorem dL_holds_491 : decode cL_holds 491 = .ok (.ifCond .eq 113, 3) := by decide +kernel
theorem dL_holds_494 : decode cL_holds 494 = .ok (.aload_n 0, 1) := by decide +kernel
theorem dL_holds_495 : decode cL_holds 495 = .ok (.bipush 16, 2) := by decide +kernel
theorem dL_holds_497 : decode cL_holds 497 = .ok (.iload 8, 2) := by decide +kernel
theorem dL_holds_499 : decode cL_holds 499 = .ok (.iload 12, 2) := by decide +kernel
theorem dL_holds_501 : decode cL_holds 501 = .ok (.iload 11, 2) := by decide +kernel
theorem dL_holds_503 : decode cL_holds 503 = .ok (.invokestatic 170, 3) := by decide +kernel
theorem dL_holds_506 : decode cL_holds 506 = .ok (.aload_n 0, 1) := by decide +kernel
theorem dL_holds_507 : decode cL_holds 507 = .ok (.bipush 16, 2) := by decide +kernel
theorem dL_holds_509 : decode cL_holds 509 = .ok (.iload 8, 2) := by decide +kernel
theorem dL_holds_511 : decode cL_holds 511 = .ok (.iload 13, 2) := by decide +kernel
theorem dL_holds_513 : decode cL_holds 513 = .ok (.iload 11, 2) := by decide +kernel
theorem dL_holds_515 : decode cL_holds 515 = .ok (.invokestatic 170, 3) := by decide +kernel
theorem dL_holds_518 : decode cL_holds 518 = .ok (.if_icmp .gt 86, 3) := by decide +kernel
theorem dL_holds_521 : decode cL_holds 521 = .ok (.iload 13, 2) := by decide +kernel
theorem dL_holds_523 : decode cL_holds 523 = .ok (.iload 12, 2) := by decide +kernel
theorem dL_holds_525 : decode cL_holds 525 = .ok (.if_icmp .le 30, 3) := by decide +kernel
theorem dL_holds_528 : decode cL_holds 528 = .ok (.aload_n 0, 1) := by decide +kernel
theorem dL_holds_529 : decode cL_holds 529 = .ok (.bipush 16, 2) := by decide +kernel
theorem dL_holds_531 : decode cL_holds 531 = .ok (.iload 8, 2) := by decide +kernel
theorem dL_holds_533 : decode cL_holds 533 = .ok (.iload 13, 2) := by decide +kernel
theorem dL_holds_535 : decode cL_holds 535 = .ok (.iload 11, 2) := by decide +kernel
theorem dL_holds_537 : decode cL_holds 537 = .ok (.invokestatic 170, 3) := by decide +kernel
theorem dL_holds_540 : decode cL_holds 540 = .ok (.aload_n 0, 1) := by decide +kernel
theorem dL_holds_541 : decode cL_holds 541 = .ok (.bipush 16, 2) := by decide +kernel
theorem dL_holds_543 : decode cL_holds 543 = .ok (.iload 8, 2) := by decide +kernel
theorem dL_holds_545 : decode cL_holds 545 = .ok (.iload 12, 2) := by decide +kernel
theorem dL_holds_547 : decode cL_holds 547 = .ok (.iload 11, 2) := by decide +kernel
theorem dL_holds_549 : decode cL_holds 549 = .ok (.invokestatic 170, 3) := by decide +kernel
theorem dL_holds_552 : decode cL_holds 552 = .ok (.if_icmp .le 52, 3) := by decide +kernel
theorem dL_holds_555 : decode cL_holds 555 = .ok (.aload_n 0, 1) := by decide +kernel
theorem dL_holds_556 : decode cL_holds 556 = .ok (.bipush 14, 2) := by decide +kernel
theorem dL_holds_558 : decode cL_holds 558 = .ok (.iload 8, 2) := by decide +kernel
theorem dL_holds_560 : decode cL_holds 560 = .ok (.iconst 0, 1) := by decide +kernel
theorem dL_holds_561 : decode cL_holds 561 = .ok (.iconst 0, 1) := by decide +kernel
theorem dL_holds_562 : decode cL_holds 562 = .ok (.invokestatic 170, 3) := by decide +kernel
theorem dL_holds_565 : decode cL_holds 565 = .ok (.ifCond .ne 7, 3) := by decide +kernel
theorem dL_holds_568 : decode cL_holds 568 = .ok (.iconst 1, 1) := by decide +kernel
theorem dL_holds_569 : decode cL_holds 569 = .ok (.goto 4, 3) := by decide +kernel
theorem dL_holds_572 : decode cL_holds 572 = .ok (.iconst 0, 1) := by decide +kernel
theorem dL_holds_573 : decode cL_holds 573 = .ok (.iload 6, 2) := by decide +kernel
theorem dL_holds_575 : decode cL_holds 575 = .ok (.if_icmp .ne 29, 3) := by decide +kernel
theorem dL_holds_578 : decode cL_holds 578 = .ok (.aload_n 0, 1) := by decide +kernel
theorem dL_holds_579 : decode cL_holds 579 = .ok (.bipush 15, 2) := by decide +kernel
theorem dL_holds_581 : decode cL_holds 581 = .ok (.iconst 0, 1) := by decide +kernel
theorem dL_holds_582 : decode cL_holds 582 = .ok (.iconst 0, 1) := by decide +kernel
theorem dL_holds_583 : decode cL_holds 583 = .ok (.iconst 0, 1) := by decide +kernel
theorem dL_holds_584 : decode cL_holds 584 = .ok (.invokestatic 170, 3) := by decide +kernel
theorem dL_holds_587 : decode cL_holds 587 = .ok (.ifCond .ne 7, 3) := by decide +kernel
theorem dL_holds_590 : decode cL_holds 590 = .ok (.iconst 1, 1) := by decide +kernel
theorem dL_holds_591 : decode cL_holds 591 = .ok (.goto 4, 3) := by decide +kernel
theorem dL_holds_594 : decode cL_holds 594 = .ok (.iconst 0, 1) := by decide +kernel
theorem dL_holds_595 : decode cL_holds 595 = .ok (.iload 6, 2) := by decide +kernel
theorem dL_holds_597 : decode cL_holds 597 = .ok (.if_icmp .ne 7, 3) := by decide +kernel
theorem dL_holds_600 : decode cL_holds 600 = .ok (.iconst 1, 1) := by decide +kernel
theorem dL_holds_601 : decode cL_holds 601 = .ok (.goto 4, 3) := by decide +kernel
theorem dL_holds_604 : decode cL_holds 604 = .ok (.iconst 0, 1) := by decide +kernel
theorem dL_holds_605 : decode cL_holds 605 = .ok (.ireturn, 1) := by decide +kernel
