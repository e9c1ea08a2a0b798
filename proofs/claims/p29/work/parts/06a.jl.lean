theorem dJ9_max_7cf53_0 : decode cJ9_max_7cf53 0 = .ok (.iload_n 0, 1) := by decide +kernel
theorem dJ9_max_7cf53_1 : decode cJ9_max_7cf53 1 = .ok (.iload_n 1, 1) := by decide +kernel
theorem dJ9_max_7cf53_2 : decode cJ9_max_7cf53 2 = .ok (.if_icmp .lt 7, 3) := by decide +kernel
theorem dJ9_max_7cf53_5 : decode cJ9_max_7cf53 5 = .ok (.iload_n 0, 1) := by decide +kernel
theorem dJ9_max_7cf53_6 : decode cJ9_max_7cf53 6 = .ok (.goto 4, 3) := by decide +kernel
theorem dJ9_max_7cf53_9 : decode cJ9_max_7cf53 9 = .ok (.iload_n 1, 1) := by decide +kernel
theorem dJ9_max_7cf53_10 : decode cJ9_max_7cf53 10 = .ok (.ireturn, 1) := by decide +kernel
theorem dJ9_min_7cf53_0 : decode cJ9_min_7cf53 0 = .ok (.iload_n 0, 1) := by decide +kernel
theorem dJ9_min_7cf53_1 : decode cJ9_min_7cf53 1 = .ok (.iload_n 1, 1) := by decide +kernel
theorem dJ9_min_7cf53_2 : decode cJ9_min_7cf53 2 = .ok (.if_icmp .gt 7, 3) := by decide +kernel
theorem dJ9_min_7cf53_5 : decode cJ9_min_7cf53 5 = .ok (.iload_n 0, 1) := by decide +kernel
theorem dJ9_min_7cf53_6 : decode cJ9_min_7cf53 6 = .ok (.goto 4, 3) := by decide +kernel
theorem dJ9_min_7cf53_9 : decode cJ9_min_7cf53 9 = .ok (.iload_n 1, 1) := by decide +kernel
theorem dJ9_min_7cf53_10 : decode cJ9_min_7cf53 10 = .ok (.ireturn, 1) := by decide +kernel
set_option maxRecDepth 20000 in
theorem ggL_doScript_X5_runScript : GoodIn wsL_doScript wsX5_runScript := goodIn_ca (goodIn_r _ [7, 8, 9, 10, 11, 12, 13, 14, 6, 15, 16, 17, 18, 19, 20, 21, 22, 23, 24, 25, 26, 27, 28, 29, 30, 31, 32, 33, 34, 35, 36, 37, 38, 39, 40, 41, 42, 43, 44, 45, 46, 47, 48, 49, 50, 51, 52, 53, 54, 55, 56, 57, 58, 59, 60, 61, 62, 63, 64, 65, 66, 67, 68, 69, 70, 71, 72, 73, 74, 75, 76, 77, 78, 79, 80, 81, 82, 83, 84, 85, 86, 87, 88, 89, 90, 91, 92, 93, 94, 95, 96, 97, 98, 99, 100, 101, 102, 103, 104, 105, 106, 107, 108, 109, 110, 111, 112, 113, 114, 115, 116, 117, 118, 119, 120, 121, 122, 123, 124, 125, 126, 127, 128, 129, 130, 131, 132, 133, 134, 135, 136, 137, 138, 139, 140, 141, 142, 143, 144, 145, 146, 147] (by decide +kernel) (by decide +kernel)) (goodIn_sub (fun _ h => List.mem_cons_of_mem _ (List.mem_append_right _ h)) (by decide +kernel))
set_option maxRecDepth 20000 in
theorem gL_doScript_X5_runScript : GoodIn wsL_doScript (wsV RL 7 RX5 yX5_runScript wsX5_runScript) := goodIn_app (goodIn_of _ (by decide +kernel)) ggL_doScript_X5_runScript
theorem dL_doScript_0 : decode cL_doScript 0 = .ok (.aload_n 0, 1) := by decide +kernel
theorem dL_doScript_1 : decode cL_doScript 1 = .ok (.iload_n 1, 1) := by decide +kernel
theorem dL_doScript_2 : decode cL_doScript 2 = .ok (.lload_n 2, 1) := by decide +kernel
theorem dL_doScript_3 : decode cL_doScript 3 = .ok (.invokevirtual 7, 3) := by decide +kernel
theorem dL_doScript_6 : decode cL_doScript 6 = .ok (.ireturn, 1) := by decide +kernel
theorem dL_doScript_7 : decode cL_doScript 7 = .ok (.astore 4, 2) := by decide +kernel
theorem dL_doScript_9 : decode cL_doScript 9 = .ok (.ldc 15, 2) := by decide +kernel
theorem dL_doScript_11 : decode cL_doScript 11 = .ok (.ireturn, 1) := by decide +kernel
set_option maxRecDepth 20000 in
theorem ggL_doSimulate_X5_simulate : GoodIn wsL_doSimulate wsX5_simulate := goodIn_ca (goodIn_r _ [7, 8, 9, 10, 11, 12, 13, 14, 15, 16, 17, 18, 19, 20, 21, 22, 23, 24, 25, 26, 27, 28, 29, 30, 31, 32, 33, 34, 35, 36, 37, 38, 39, 40, 41, 42, 43, 44, 45, 46, 47, 48, 49, 50, 51, 52, 53, 54, 55, 56, 57, 58, 59, 60, 61, 62, 63, 64, 65, 66, 67, 68, 69, 70, 71, 72, 73, 74, 75, 76, 77, 78, 79, 80, 81, 82, 83, 84, 85, 86, 87, 88, 89, 90, 91, 92, 93, 94, 95, 96, 97, 98, 99] (by decide +kernel) (by decide +kernel)) (goodIn_sub (fun _ h => List.mem_cons_of_mem _ (List.mem_append_right _ h)) (by decide +kernel))
set_option maxRecDepth 20000 in
theorem gL_doSimulate_X5_simulate : GoodIn wsL_doSimulate (wsV RL 16 RX5 yX5_simulate wsX5_simulate) := goodIn_app (goodIn_of _ (by decide +kernel)) ggL_doSimulate_X5_simulate
theorem dL_doSimulate_0 : decode cL_doSimulate 0 = .ok (.aload_n 0, 1) := by decide +kernel
theorem dL_doSimulate_1 : decode cL_doSimulate 1 = .ok (.lload_n 1, 1) := by decide +kernel
theorem dL_doSimulate_2 : decode cL_doSimulate 2 = .ok (.iload_n 3, 1) := by decide +kernel
theorem dL_doSimulate_3 : decode cL_doSimulate 3 = .ok (.invokevirtual 16, 3) := by decide +kernel
theorem dL_doSimulate_6 : decode cL_doSimulate 6 = .ok (.ireturn, 1) := by decide +kernel
theorem dL_doSimulate_7 : decode cL_doSimulate 7 = .ok (.astore 4, 2) := by decide +kernel
theorem dL_doSimulate_9 : decode cL_doSimulate 9 = .ok (.ldc 15, 2) := by decide +kernel
theorem dL_doSimulate_11 : decode cL_doSimulate 11 = .ok (.ireturn, 1) := by decide +kernel
set_option maxRecDepth 20000 in
theorem ggL_tryAppend_X5_append : GoodIn wsL_tryAppend wsX5_append := goodIn_ca (goodIn_ca (goodIn_r _ [9, 10, 11, 12, 13, 14, 15, 16, 17, 18, 19, 20, 21, 22, 23, 24, 25, 26, 27, 28, 29, 30, 31, 32, 33] (by decide +kernel) (by decide +kernel)) (goodIn_sub (fun _ h => List.mem_cons_of_mem _ (List.mem_append_left _ (List.mem_append_right _ h))) (by decide +kernel))) (goodIn_sub (fun _ h => List.mem_cons_of_mem _ (List.mem_append_right _ h)) (by decide +kernel))
set_option maxRecDepth 20000 in
theorem gL_tryAppend_X5_append : GoodIn wsL_tryAppend (wsV RL 20 RX5 yX5_append wsX5_append) := goodIn_app (goodIn_of _ (by decide +kernel)) ggL_tryAppend_X5_append
theorem dL_tryAppend_0 : decode cL_tryAppend 0 = .ok (.aload_n 0, 1) := by decide +kernel
theorem dL_tryAppend_1 : decode cL_tryAppend 1 = .ok (.iload_n 1, 1) := by decide +kernel
theorem dL_tryAppend_2 : decode cL_tryAppend 2 = .ok (.invokevirtual 20, 3) := by decide +kernel
theorem dL_tryAppend_5 : decode cL_tryAppend 5 = .ok (.ireturn, 1) := by decide +kernel
theorem dL_tryAppend_6 : decode cL_tryAppend 6 = .ok (.astore_n 2, 1) := by decide +kernel
theorem dL_tryAppend_7 : decode cL_tryAppend 7 = .ok (.ldc 15, 2) := by decide +kernel
theorem dL_tryAppend_9 : decode cL_tryAppend 9 = .ok (.ireturn, 1) := by decide +kernel
theorem dL_tryAppend_10 : decode cL_tryAppend 10 = .ok (.astore_n 2, 1) := by decide +kernel
theorem dL_tryAppend_11 : decode cL_tryAppend 11 = .ok (.ldc 26, 2) := by decide +kernel
theorem dL_tryAppend_13 : decode cL_tryAppend 13 = .ok (.ireturn, 1) := by decide +kernel
set_option maxRecDepth 20000 in
theorem ggL_tryLoad_X5_load : GoodIn wsL_tryLoad wsX5_load := goodIn_ca (goodIn_r _ [7, 8, 9, 10, 11, 12, 13, 14, 15, 16, 17, 18, 19, 20, 21, 22, 23, 24, 25, 26, 27, 28, 29, 30, 31, 32, 33, 34, 35, 36, 37, 38, 39, 40, 41, 42, 43, 44, 45, 46, 47, 48, 49, 50, 51, 52, 53, 54, 55, 56, 57, 58, 59, 60, 61, 62, 63, 64, 65, 66, 67, 68, 69, 70, 71, 72, 73, 74, 75, 76, 77, 78, 79, 80, 81, 82, 83, 84, 85, 6, 86, 87, 88, 89, 90, 91, 92, 93, 94, 95, 96, 97, 98, 99, 100, 101, 102, 103, 104, 105, 106, 107, 108, 109, 110, 111, 112, 113, 114, 115, 116, 117, 118, 119, 120, 121, 122, 123, 124, 125, 126, 127, 128, 129, 130, 131, 132, 133, 134, 135, 136, 137, 138, 139, 140, 141, 142, 143, 144, 145, 146, 147, 148, 149, 150, 151, 152, 153, 154, 155, 156, 157, 158, 159, 160, 161, 162, 163, 164, 165, 166, 167, 168, 169, 170, 171, 172, 173, 174, 175] (by decide +kernel) (by decide +kernel)) (goodIn_sub (fun _ h => List.mem_cons_of_mem _ (List.mem_append_right _ h)) (by decide +kernel))
set_option maxRecDepth 20000 in
theorem gL_tryLoad_X5_load : GoodIn wsL_tryLoad (wsV RL 27 RX5 yX5_load wsX5_load) := goodIn_app (goodIn_of _ (by decide +kernel)) ggL_tryLoad_X5_load
theorem dL_tryLoad_0 : decode cL_tryLoad 0 = .ok (.aload_n 0, 1) := by decide +kernel
theorem dL_tryLoad_1 : decode cL_tryLoad 1 = .ok (.invokevirtual 27, 3) := by decide +kernel
theorem dL_tryLoad_4 : decode cL_tryLoad 4 = .ok (.ireturn, 1) := by decide +kernel
theorem dL_tryLoad_5 : decode cL_tryLoad 5 = .ok (.astore_n 1, 1) := by decide +kernel
theorem dL_tryLoad_6 : decode cL_tryLoad 6 = .ok (.ldc 26, 2) := by decide +kernel
theorem dL_tryLoad_8 : decode cL_tryLoad 8 = .ok (.ireturn, 1) := by decide +kernel
set_option maxRecDepth 20000 in
theorem ggL_tryAbout_X5_about : GoodIn wsL_tryAbout wsX5_about := goodIn_ca (goodIn_r _ [7, 8, 9, 10, 11, 12, 13, 14, 15, 16, 17, 18, 19, 20, 21, 22, 23, 24, 25, 26, 27, 28, 29, 30, 31, 32, 33, 34, 35, 36, 37, 38, 39, 40, 41, 42, 43, 44, 45, 46, 47, 48, 49, 50, 51, 52, 53, 54, 55, 56, 57, 58, 59, 60, 61] (by decide +kernel) (by decide +kernel)) (goodIn_sub (fun _ h => List.mem_cons_of_mem _ (List.mem_append_right _ h)) (by decide +kernel))
set_option maxRecDepth 20000 in
theorem gL_tryAbout_X5_about : GoodIn wsL_tryAbout (wsV RL 31 RX5 yX5_about wsX5_about) := goodIn_app (goodIn_of _ (by decide +kernel)) ggL_tryAbout_X5_about
theorem dL_tryAbout_0 : decode cL_tryAbout 0 = .ok (.aload_n 0, 1) := by decide +kernel
theorem dL_tryAbout_1 : decode cL_tryAbout 1 = .ok (.iload_n 1, 1) := by decide +kernel
theorem dL_tryAbout_2 : decode cL_tryAbout 2 = .ok (.invokevirtual 31, 3) := by decide +kernel
theorem dL_tryAbout_5 : decode cL_tryAbout 5 = .ok (.ireturn, 1) := by decide +kernel
theorem dL_tryAbout_6 : decode cL_tryAbout 6 = .ok (.astore_n 2, 1) := by decide +kernel
theorem dL_tryAbout_7 : decode cL_tryAbout 7 = .ok (.ldc 15, 2) := by decide +kernel
theorem dL_tryAbout_9 : decode cL_tryAbout 9 = .ok (.ireturn, 1) := by decide +kernel
set_option maxRecDepth 20000 in
theorem ggL_tryRead_X5_read : GoodIn wsL_tryRead wsX5_read := goodIn_ca (goodIn_r _ [7, 8, 9, 10, 11, 6, 12, 13, 14, 15, 16, 17, 18, 19, 20, 21, 22, 23, 24, 25, 26, 27, 28, 29, 30, 31, 32, 33, 34, 35, 36, 37, 38, 39, 40, 41, 42, 43, 44, 45, 46] (by decide +kernel) (by decide +kernel)) (goodIn_sub (fun _ h => List.mem_cons_of_mem _ (List.mem_append_right _ h)) (by decide +kernel))
set_option maxRecDepth 20000 in
theorem gL_tryRead_X5_read : GoodIn wsL_tryRead (wsV RL 34 RX5 yX5_read wsX5_read) := goodIn_app (goodIn_of _ (by decide +kernel)) ggL_tryRead_X5_read
theorem dL_tryRead_0 : decode cL_tryRead 0 = .ok (.aload_n 0, 1) := by decide +kernel
theorem dL_tryRead_1 : decode cL_tryRead 1 = .ok (.iload_n 1, 1) := by decide +kernel
theorem dL_tryRead_2 : decode cL_tryRead 2 = .ok (.invokevirtual 34, 3) := by decide +kernel
theorem dL_tryRead_5 : decode cL_tryRead 5 = .ok (.ireturn, 1) := by decide +kernel
theorem dL_tryRead_6 : decode cL_tryRead 6 = .ok (.astore_n 2, 1) := by decide +kernel
theorem dL_tryRead_7 : decode cL_tryRead 7 = .ok (.ldc 39, 2) := by decide +kernel
theorem dL_tryRead_9 : decode cL_tryRead 9 = .ok (.ireturn, 1) := by decide +kernel
set_option maxRecDepth 20000 in
theorem ggL_tryPlace_X5_place : GoodIn wsL_tryPlace wsX5_place := goodIn_ca (goodIn_r _ [7, 8, 9, 10, 11, 6, 12, 13, 14, 15, 16, 17, 18, 19, 20, 21, 22, 23, 24, 25, 26, 27, 28, 29, 30, 31, 32, 33, 34, 35, 36, 37, 38, 39, 40, 41, 42, 43, 44, 45, 46, 47, 48, 49, 50, 51] (by decide +kernel) (by decide +kernel)) (goodIn_sub (fun _ h => List.mem_cons_of_mem _ (List.mem_append_right _ h)) (by decide +kernel))
set_option maxRecDepth 20000 in
theorem gL_tryPlace_X5_place : GoodIn wsL_tryPlace (wsV RL 40 RX5 yX5_place wsX5_place) := goodIn_app (goodIn_of _ (by decide +kernel)) ggL_tryPlace_X5_place
theorem dL_tryPlace_0 : decode cL_tryPlace 0 = .ok (.aload_n 0, 1) := by decide +kernel
theorem dL_tryPlace_1 : decode cL_tryPlace 1 = .ok (.iload_n 1, 1) := by decide +kernel
theorem dL_tryPlace_2 : decode cL_tryPlace 2 = .ok (.invokevirtual 40, 3) := by decide +kernel
theorem dL_tryPlace_5 : decode cL_tryPlace 5 = .ok (.ireturn, 1) := by decide +kernel
theorem dL_tryPlace_6 : decode cL_tryPlace 6 = .ok (.astore_n 2, 1) := by decide +kernel
theorem dL_tryPlace_7 : decode cL_tryPlace 7 = .ok (.ldc 39, 2) := by decide +kernel
theorem dL_tryPlace_9 : decode cL_tryPlace 9 = .ok (.ireturn, 1) := by decide +kernel
set_option maxRecDepth 20000 in
theorem ggL_tryLine_X5_line : GoodIn wsL_tryLine wsX5_line := goodIn_ca (goodIn_r _ [7, 8, 9, 10, 11, 6, 12, 13, 14, 15, 16, 17, 18, 19, 20, 21, 22, 23, 24, 25, 26, 27, 28, 29, 30, 31, 32, 33, 34, 35, 36, 37, 38, 39, 40, 41, 42, 43, 44, 45, 46, 47, 48, 49, 50, 51] (by decide +kernel) (by decide +kernel)) (goodIn_sub (fun _ h => List.mem_cons_of_mem _ (List.mem_append_right _ h)) (by decide +kernel))
set_option maxRecDepth 20000 in
theorem gL_tryLine_X5_line : GoodIn wsL_tryLine (wsV RL 43 RX5 yX5_line wsX5_line) := goodIn_app (goodIn_of _ (by decide +kernel)) ggL_tryLine_X5_line
theorem dL_tryLine_0 : decode cL_tryLine 0 = .ok (.aload_n 0, 1) := by decide +kernel
theorem dL_tryLine_1 : decode cL_tryLine 1 = .ok (.iload_n 1, 1) := by decide +kernel
theorem dL_tryLine_2 : decode cL_tryLine 2 = .ok (.invokevirtual 43, 3) := by decide +kernel
theorem dL_tryLine_5 : decode cL_tryLine 5 = .ok (.ireturn, 1) := by decide +kernel
theorem dL_tryLine_6 : decode cL_tryLine 6 = .ok (.astore_n 2, 1) := by decide +kernel
theorem dL_tryLine_7 : decode cL_tryLine 7 = .ok (.ldc 39, 2) := by decide +kernel
theorem dL_tryLine_9 : decode cL_tryLine 9 = .ok (.ireturn, 1) := by decide +kernel
set_option maxRecDepth 20000 in
theorem ggL_tryWear_X5_wear : GoodIn wsL_tryWear wsX5_wear := goodIn_ca (goodIn_r _ [7, 8, 9, 10, 11, 6, 12, 13, 14, 15, 16, 17, 18, 19, 20, 21, 22, 23, 24, 25, 26, 27, 28, 29, 30, 31, 32, 33, 34, 35, 36, 37, 38, 39, 40, 41, 42, 43, 44, 45, 46] (by decide +kernel) (by decide +kernel)) (goodIn_sub (fun _ h => List.mem_cons_of_mem _ (List.mem_append_right _ h)) (by decide +kernel))
set_option maxRecDepth 20000 in
theorem gL_tryWear_X5_wear : GoodIn wsL_tryWear (wsV RL 46 RX5 yX5_wear wsX5_wear) := goodIn_app (goodIn_of _ (by decide +kernel)) ggL_tryWear_X5_wear
theorem dL_tryWear_0 : decode cL_tryWear 0 = .ok (.aload_n 0, 1) := by decide +kernel
theorem dL_tryWear_1 : decode cL_tryWear 1 = .ok (.iload_n 1, 1) := by decide +kernel
theorem dL_tryWear_2 : decode cL_tryWear 2 = .ok (.invokevirtual 46, 3) := by decide +kernel
theorem dL_tryWear_5 : decode cL_tryWear 5 = .ok (.ireturn, 1) := by decide +kernel
theorem dL_tryWear_6 : decode cL_tryWear 6 = .ok (.astore_n 2, 1) := by decide +kernel
theorem dL_tryWear_7 : decode cL_tryWear 7 = .ok (.ldc 39, 2) := by decide +kernel
theorem dL_tryWear_9 : decode cL_tryWear 9 = .ok (.ireturn, 1) := by decide +kernel
set_option maxRecDepth 20000 in
theorem ggL_trySetting_X5_setting : GoodIn wsL_trySetting wsX5_setting := goodIn_ca (goodIn_r _ [7, 8, 9, 10, 6, 11, 12, 13, 14, 15, 16, 17, 18, 19, 20, 21, 22, 23, 24, 25, 26, 27, 28, 29, 30, 31, 32, 33, 34, 35, 36, 37, 38, 39, 40] (by decide +kernel) (by decide +kernel)) (goodIn_sub (fun _ h => List.mem_cons_of_mem _ (List.mem_append_right _ h)) (by decide +kernel))
set_option maxRecDepth 20000 in
theorem gL_trySetting_X5_setting : GoodIn wsL_trySetting (wsV RL 49 RX5 yX5_setting wsX5_setting) := goodIn_app (goodIn_of _ (by decide +kernel)) ggL_trySetting_X5_setting
theorem dL_trySetting_0 : decode cL_trySetting 0 = .ok (.aload_n 0, 1) := by decide +kernel
theorem dL_trySetting_1 : decode cL_trySetting 1 = .ok (.iload_n 1, 1) := by decide +kernel
theorem dL_trySetting_2 : decode cL_trySetting 2 = .ok (.invokevirtual 49, 3) := by decide +kernel
theorem dL_trySetting_5 : decode cL_trySetting 5 = .ok (.ireturn, 1) := by decide +kernel
theorem dL_trySetting_6 : decode cL_trySetting 6 = .ok (.astore_n 2, 1) := by decide +kernel
theorem dL_trySetting_7 : decode cL_trySetting 7 = .ok (.ldc 15, 2) := by decide +kernel
theorem dL_trySetting_9 : decode cL_trySetting 9 = .ok (.ireturn, 1) := by decide +kernel
set_option maxRecDepth 20000 in
theorem ggL_tryMake_X5_make : GoodIn wsL_tryMake wsX5_make := goodIn_ca (goodIn_r _ [7, 8, 9, 10, 11, 12, 13, 6, 14, 15, 16, 17, 18, 19, 20, 21, 22, 23, 24, 25, 26, 27, 28, 29, 30, 31, 32, 33, 34, 35, 36, 37, 38, 39, 40, 41, 42, 43, 44, 45, 46, 47, 48, 49, 50, 51, 52, 53, 54, 55, 56, 57, 58, 59, 60, 61, 62, 63, 64, 65, 66, 67, 68, 69, 70, 71, 72, 73, 74, 75, 76, 77, 78, 79, 80, 81, 82, 83, 84, 85, 86, 87, 88, 89, 90, 91, 92, 93, 94, 95, 96] (by decide +kernel) (by decide +kernel)) (goodIn_sub (fun _ h => List.mem_cons_of_mem _ (List.mem_append_right _ h)) (by decide +kernel))
set_option maxRecDepth 20000 in
theorem gL_tryMake_X5_make : GoodIn wsL_tryMake (wsV RL 52 RX5 yX5_make wsX5_make) := goodIn_app (goodIn_of _ (by decide +kernel)) ggL_tryMake_X5_make
theorem dL_tryMake_0 : decode cL_tryMake 0 = .ok (.aload_n 0, 1) := by decide +kernel
theorem dL_tryMake_1 : decode cL_tryMake 1 = .ok (.iload_n 1, 1) := by decide +kernel
theorem dL_tryMake_2 : decode cL_tryMake 2 = .ok (.iload_n 2, 1) := by decide +kernel
theorem dL_tryMake_3 : decode cL_tryMake 3 = .ok (.iload_n 3, 1) := by decide +kernel
theorem dL_tryMake_4 : decode cL_tryMake 4 = .ok (.invokevirtual 52, 3) := by decide +kernel
theorem dL_tryMake_7 : decode cL_tryMake 7 = .ok (.ireturn, 1) := by decide +kernel
theorem dL_tryMake_8 : decode cL_tryMake 8 = .ok (.astore 4, 2) := by decide +kernel
theorem dL_tryMake_10 : decode cL_tryMake 10 = .ok (.ldc 15, 2) := by decide +kernel
theorem dL_tryMake_12 : decode cL_tryMake 12 = .ok (.ireturn, 1) := by decide +kernel
set_option maxRecDepth 20000 in
theorem ggL_tryWrite_X5_write : GoodIn wsL_tryWrite wsX5_write := goodIn_ca (goodIn_ca (goodIn_ca (goodIn_r _ [11, 12, 13, 14, 15, 16, 17, 18, 19, 20, 21, 10, 22, 23, 24, 25, 26, 27, 28, 29, 30, 31, 32, 33, 34, 35, 36, 37, 38, 39, 40, 41, 42, 43, 44, 45, 46, 47, 48, 49, 50, 51, 52, 53, 54, 55, 56, 57, 58, 59, 60, 61, 62, 63, 64, 65, 66, 67, 68, 69, 70, 71, 72, 73, 74, 75, 76, 77, 78, 79, 80, 81, 82, 83, 84, 85, 86, 87, 88, 89, 90, 91, 92, 93, 94, 95, 96, 97, 98, 99, 100, 101, 102, 103, 104, 105, 106, 107, 108, 109, 110, 111, 112, 113, 114, 115, 116, 117, 118, 119] (by decide +kernel) (by decide +kernel)) (goodIn_sub (fun _ h => List.mem_cons_of_mem _ (List.mem_append_left _ (List.mem_append_left _ (List.mem_append_right _ h)))) (by decide +kernel))) (goodIn_sub (fun _ h => List.mem_cons_of_mem _ (List.mem_append_left _ (List.mem_append_right _ h))) (by decide +kernel))) (goodIn_sub (fun _ h => List.mem_cons_of_mem _ (List.mem_append_right _ h)) (by decide +kernel))
set_option maxRecDepth 20000 in
theorem gL_tryWrite_X5_write : GoodIn wsL_tryWrite (wsV RL 56 RX5 yX5_write wsX5_write) := goodIn_app (goodIn_of _ (by decide +kernel)) ggL_tryWrite_X5_write
theorem dL_tryWrite_0 : decode cL_tryWrite 0 = .ok (.aload_n 0, 1) := by decide +kernel
theorem dL_tryWrite_1 : decode cL_tryWrite 1 = .ok (.iload_n 1, 1) := by decide +kernel
theorem dL_tryWrite_2 : decode cL_tryWrite 2 = .ok (.iload_n 2, 1) := by decide +kernel
theorem dL_tryWrite_3 : decode cL_tryWrite 3 = .ok (.invokevirtual 56, 3) := by decide +kernel
theorem dL_tryWrite_6 : decode cL_tryWrite 6 = .ok (.ireturn, 1) := by decide +kernel
theorem dL_tryWrite_7 : decode cL_tryWrite 7 = .ok (.astore_n 3, 1) := by decide +kernel
theorem dL_tryWrite_8 : decode cL_tryWrite 8 = .ok (.ldc 39, 2) := by decide +kernel
theorem dL_tryWrite_10 : decode cL_tryWrite 10 = .ok (.ireturn, 1) := by decide +kernel
theorem dL_tryWrite_11 : decode cL_tryWrite 11 = .ok (.astore_n 3, 1) := by decide +kernel
theorem dL_tryWrite_12 : decode cL_tryWrite 12 = .ok (.ldc 15, 2) := by decide +kernel
theorem dL_tryWrite_14 : decode cL_tryWrite 14 = .ok (.ireturn, 1) := by decide +kernel
theorem dL_tryWrite_15 : decode cL_tryWrite 15 = .ok (.astore_n 3, 1) := by decide +kernel
theorem dL_tryWrite_16 : decode cL_tryWrite 16 = .ok (.ldc 26, 2) := by decide +kernel
theorem dL_tryWrite_18 : decode cL_tryWrite 18 = .ok (.ireturn, 1) := by decide +kernel
set_option maxRecDepth 20000 in
theorem ggL_tryHammer_X5_hammer : GoodIn wsL_tryHammer wsX5_hammer := goodIn_ca (goodIn_ca (goodIn_r _ [9, 10, 11, 12, 13, 14, 8, 15, 16, 17, 18, 19, 20, 21, 22, 23, 24, 25, 26, 27, 28, 29, 30, 31, 32, 33, 34, 35, 36, 37, 38, 39, 40, 41, 42, 43, 44, 45, 46, 47, 48, 49, 50, 51, 52, 53, 54, 55, 56, 57, 58, 59, 60, 61, 62, 63, 64, 65, 66, 67, 68, 69, 70, 71, 72, 73, 74, 75, 76, 77, 78, 79, 80, 81, 82, 83, 84, 85, 86, 87, 88, 89, 90, 91, 92, 93, 94, 95, 96, 97, 98, 99, 100, 101, 102, 103, 104, 105, 106, 107, 108, 109, 110, 111, 112, 113, 114, 115, 116, 117, 118, 119, 120, 121, 122, 123, 124, 125] (by decide +kernel) (by decide +kernel)) (goodIn_sub (fun _ h => List.mem_cons_of_mem _ (List.mem_append_left _ (List.mem_append_right _ h))) (by decide +kernel))) (goodIn_sub (fun _ h => List.mem_cons_of_mem _ (List.mem_append_right _ h)) (by decide +kernel))
set_option maxRecDepth 20000 in
theorem gL_tryHammer_X5_hammer : GoodIn wsL_tryHammer (wsV RL 60 RX5 yX5_hammer wsX5_hammer) := goodIn_app (goodIn_of _ (by decide +kernel)) ggL_tryHammer_X5_hammer
theorem dL_tryHammer_0 : decode cL_tryHammer 0 = .ok (.aload_n 0, 1) := by decide +kernel
theorem dL_tryHammer_1 : decode cL_tryHammer 1 = .ok (.iload_n 1, 1) := by decide +kernel
theorem dL_tryHammer_2 : decode cL_tryHammer 2 = .ok (.iload_n 2, 1) := by decide +kernel
theorem dL_tryHammer_3 : decode cL_tryHammer 3 = .ok (.invokevirtual 60, 3) := by decide +kernel
theorem dL_tryHammer_6 : decode cL_tryHammer 6 = .ok (.ireturn, 1) := by decide +kernel
theorem dL_tryHammer_7 : decode cL_tryHammer 7 = .ok (.astore_n 3, 1) := by decide +kernel
theorem dL_tryHammer_8 : decode cL_tryHammer 8 = .ok (.ldc 39, 2) := by decide +kernel
theorem dL_tryHammer_10 : decode cL_tryHammer 10 = .ok (.ireturn, 1) := by decide +kernel
theorem dL_tryHammer_11 : decode cL_tryHammer 11 = .ok (.astore_n 3, 1) := by decide +kernel
theorem dL_tryHammer_12 : decode cL_tryHammer 12 = .ok (.ldc 15, 2) := by decide +kernel
theorem dL_tryHammer_14 : decode cL_tryHammer 14 = .ok (.ireturn, 1) := by decide +kernel
set_option maxRecDepth 20000 in
theorem ggL_tryAll_X5_all : GoodIn wsL_tryAll wsX5_all := goodIn_ca (goodIn_ca (goodIn_r _ [9, 10, 11, 12, 13, 14, 15, 16, 8, 17, 18, 19, 20, 21, 22, 23, 24, 25, 26, 27, 28, 29, 30, 31, 32, 33, 34, 35, 36, 37, 38, 39, 40, 41, 42, 43, 44, 45, 46, 47, 48, 49, 50, 51, 52, 53, 54, 55, 56, 57, 58, 59, 60, 61, 62, 63, 64, 65, 66, 67, 68, 69, 70, 71, 72, 73, 74, 75, 76, 77, 78, 79, 80, 81, 82, 83, 84, 85, 86, 87, 88, 89, 90, 91, 92, 93, 94, 95, 96, 97, 98, 99, 100, 101, 102, 103, 104, 105, 106, 107, 108, 109, 110, 111, 112, 113, 114, 115, 116, 117, 118, 119, 120, 121, 122, 123, 124, 125, 126] (by decide +kernel) (by decide +kernel)) (goodIn_sub (fun _ h => List.mem_cons_of_mem _ (List.mem_append_left _ (List.mem_append_right _ h))) (by decide +kernel))) (goodIn_sub (fun _ h => List.mem_cons_of_mem _ (List.mem_append_right _ h)) (by decide +kernel))
set_option maxRecDepth 20000 in
theorem gL_tryAll_X5_all : GoodIn wsL_tryAll (wsV RL 63 RX5 yX5_all wsX5_all) := goodIn_app (goodIn_of _ (by decide +kernel)) ggL_tryAll_X5_all
theorem dL_tryAll_0 : decode cL_tryAll 0 = .ok (.aload_n 0, 1) := by decide +kernel
theorem dL_tryAll_1 : decode cL_tryAll 1 = .ok (.iload_n 1, 1) := by decide +kernel
theorem dL_tryAll_2 : decode cL_tryAll 2 = .ok (.invokevirtual 63, 3) := by decide +kernel
theorem dL_tryAll_5 : decode cL_tryAll 5 = .ok (.ireturn, 1) := by decide +kernel
theorem dL_tryAll_6 : decode cL_tryAll 6 = .ok (.astore_n 2, 1) := by decide +kernel
theorem dL_tryAll_7 : decode cL_tryAll 7 = .ok (.ldc 15, 2) := by decide +kernel
theorem dL_tryAll_9 : decode cL_tryAll 9 = .ok (.ireturn, 1) := by decide +kernel
theorem dL_tryAll_10 : decode cL_tryAll 10 = .ok (.astore_n 2, 1) := by decide +kernel
theorem dL_tryAll_11 : decode cL_tryAll 11 = .ok (.ldc 26, 2) := by decide +kernel
theorem dL_tryAll_13 : decode cL_tryAll 13 = .ok (.ireturn, 1) := by decide +kernel
set_option maxRecDepth 20000 in
theorem ggL_tryLay_X5_set : GoodIn wsL_tryLay wsX5_set := goodIn_ca (goodIn_r _ [7, 8, 9, 10, 11, 12, 13, 6, 14, 15, 16, 17, 18, 19, 20, 21, 22, 23, 24, 25, 26, 27, 28, 29, 30, 31, 32, 33, 34, 35, 36, 37, 38, 39, 40, 41, 42, 43, 44, 45, 46, 47, 48, 49, 50, 51, 52, 53, 54, 55, 56, 57, 58, 59, 60, 61, 62, 63, 64, 65, 66, 67, 68, 69, 70, 71, 72, 73, 74, 75, 76, 77, 78, 79, 80, 81, 82, 83, 84, 85, 86, 87, 88, 89] (by decide +kernel) (by decide +kernel)) (goodIn_sub (fun _ h => List.mem_cons_of_mem _ (List.mem_append_right _ h)) (by decide +kernel))
set_option maxRecDepth 20000 in
theorem gL_tryLay_X5_set : GoodIn wsL_tryLay (wsV RL 66 RX5 yX5_set wsX5_set) := goodIn_app (goodIn_of _ (by decide +kernel)) ggL_tryLay_X5_set
theorem dL_tryLay_0 : decode cL_tryLay 0 = .ok (.aload_n 0, 1) := by decide +kernel
theorem dL_tryLay_1 : decode cL_tryLay 1 = .ok (.iload_n 1, 1) := by decide +kernel
theorem dL_tryLay_2 : decode cL_tryLay 2 = .ok (.iload_n 2, 1) := by decide +kernel
theorem dL_tryLay_3 : decode cL_tryLay 3 = .ok (.invokevirtual 66, 3) := by decide +kernel
theorem dL_tryLay_6 : decode cL_tryLay 6 = .ok (.ireturn, 1) := by decide +kernel
theorem dL_tryLay_7 : decode cL_tryLay 7 = .ok (.astore_n 3, 1) := by decide +kernel
theorem dL_tryLay_8 : decode cL_tryLay 8 = .ok (.ldc 15, 2) := by decide +kernel
theorem dL_tryLay_10 : decode cL_tryLay 10 = .ok (.ireturn, 1) := by decide +kernel
set_option maxRecDepth 20000 in
theorem ggL_tryUndo_X5_undo : GoodIn wsL_tryUndo wsX5_undo := goodIn_ca (goodIn_r _ [7, 8, 9, 10, 11, 12, 13, 14, 15, 16, 17, 18, 19, 20, 21, 22, 23, 24, 25, 26, 27, 28, 29, 30, 31, 32, 33, 34, 35, 36, 37, 38, 39, 40, 41, 42, 43, 44, 45, 46, 47, 48, 49, 50, 51, 52, 53, 54, 55, 56, 57, 58, 59, 60, 61, 62, 63, 64, 65, 66, 67, 68, 69, 70] (by decide +kernel) (by decide +kernel)) (goodIn_sub (fun _ h => List.mem_cons_of_mem _ (List.mem_append_right _ h)) (by decide +kernel))
set_option maxRecDepth 20000 in
theorem gL_tryUndo_X5_undo : GoodIn wsL_tryUndo (wsV RL 69 RX5 yX5_undo wsX5_undo) := goodIn_app (goodIn_of _ (by decide +kernel)) ggL_tryUndo_X5_undo
theorem dL_tryUndo_0 : decode cL_tryUndo 0 = .ok (.aload_n 0, 1) := by decide +kernel
theorem dL_tryUndo_1 : decode cL_tryUndo 1 = .ok (.invokevirtual 69, 3) := by decide +kernel
theorem dL_tryUndo_4 : decode cL_tryUndo 4 = .ok (.ireturn, 1) := by decide +kernel
theorem dL_tryUndo_5 : decode cL_tryUndo 5 = .ok (.astore_n 1, 1) := by decide +kernel
theorem dL_tryUndo_6 : decode cL_tryUndo 6 = .ok (.ldc 26, 2) := by decide +kernel
theorem dL_tryUndo_8 : decode cL_tryUndo 8 = .ok (.ireturn, 1) := by decide +kernel
set_option maxRecDepth 20000 in
theorem ggL_tryLife_X5_life : GoodIn wsL_tryLife wsX5_life := goodIn_ca (goodIn_r _ [7, 8, 9, 10, 11, 12, 6, 13, 14, 15, 16, 17, 18, 19, 20, 21, 22, 23, 24, 25, 26, 27, 28, 29, 30, 31, 32, 33, 34, 35, 36, 37, 38, 39, 40, 41, 42, 43, 44, 45, 46, 47, 48, 49, 50, 51, 52, 53, 54, 55, 56, 57, 58, 59, 60, 61, 62, 63, 64, 65, 66, 67, 68, 69, 70, 71, 72, 73, 74, 75, 76, 77, 78, 79, 80, 81, 82, 83, 84, 85, 86, 87, 88, 89, 90, 91, 92] (by decide +kernel) (by decide +kernel)) (goodIn_sub (fun _ h => List.mem_cons_of_mem _ (List.mem_append_right _ h)) (by decide +kernel))
set_option maxRecDepth 20000 in
theorem gL_tryLife_X5_life : GoodIn wsL_tryLife (wsV RL 72 RX5 yX5_life wsX5_life) := goodIn_app (goodIn_of _ (by decide +kernel)) ggL_tryLife_X5_life
theorem dL_tryLife_0 : decode cL_tryLife 0 = .ok (.aload_n 0, 1) := by decide +kernel
theorem dL_tryLife_1 : decode cL_tryLife 1 = .ok (.iload_n 1, 1) := by decide +kernel
theorem dL_tryLife_2 : decode cL_tryLife 2 = .ok (.invokevirtual 72, 3) := by decide +kernel
theorem dL_tryLife_5 : decode cL_tryLife 5 = .ok (.ireturn, 1) := by decide +kernel
theorem dL_tryLife_6 : decode cL_tryLife 6 = .ok (.astore_n 2, 1) := by decide +kernel
theorem dL_tryLife_7 : decode cL_tryLife 7 = .ok (.ldc 39, 2) := by decide +kernel
theorem dL_tryLife_9 : decode cL_tryLife 9 = .ok (.ireturn, 1) := by decide +kernel
set_option maxRecDepth 20000 in
theorem ggL_tryLong_X5_lifeOfAll : GoodIn wsL_tryLong wsX5_lifeOfAll := goodIn_ca (goodIn_r _ [7, 8, 9, 10, 11, 12, 6, 13, 14, 15, 16, 17, 18, 19, 20, 21, 22, 23, 24, 25, 26, 27, 28, 29, 30, 31, 32, 33, 34, 35, 36, 37, 38, 39, 40, 41, 42, 43, 44, 45, 46, 47, 48, 49, 50, 51, 52, 53, 54, 55, 56, 57, 58, 59, 60, 61, 62, 63, 64, 65, 66, 67, 68, 69, 70, 71, 72, 73, 74, 75, 76, 77, 78, 79, 80, 81, 82, 83, 84, 85, 86, 87, 88, 89, 90, 91, 92, 93, 94, 95] (by decide +kernel) (by decide +kernel)) (goodIn_sub (fun _ h => List.mem_cons_of_mem _ (List.mem_append_right _ h)) (by decide +kernel))
set_option maxRecDepth 20000 in
theorem gL_tryLong_X5_lifeOfAll : GoodIn wsL_tryLong (wsV RL 75 RX5 yX5_lifeOfAll wsX5_lifeOfAll) := goodIn_app (goodIn_of _ (by decide +kernel)) ggL_tryLong_X5_lifeOfAll
theorem dL_tryLong_0 : decode cL_tryLong 0 = .ok (.aload_n 0, 1) := by decide +kernel
theorem dL_tryLong_1 : decode cL_tryLong 1 = .ok (.invokevirtual 75, 3) := by decide +kernel
theorem dL_tryLong_4 : decode cL_tryLong 4 = .ok (.ireturn, 1) := by decide +kernel
theorem dL_tryLong_5 : decode cL_tryLong 5 = .ok (.astore_n 1, 1) := by decide +kernel
theorem dL_tryLong_6 : decode cL_tryLong 6 = .ok (.ldc 26, 2) := by decide +kernel
theorem dL_tryLong_8 : decode cL_tryLong 8 = .ok (.ireturn, 1) := by decide +kernel
set_option maxRecDepth 20000 in
theorem ggL_tryEvery_X5_ifEvery : GoodIn wsL_tryEvery wsX5_ifEvery := goodIn_ca (goodIn_ca (goodIn_r _ [9, 10, 11, 12, 13, 14, 8, 15, 16, 17, 18, 19, 20, 21, 22, 23, 24, 25, 26, 27, 28, 29, 30, 31, 32, 33, 34, 35, 36, 37, 38, 39, 40, 41, 42, 43, 44, 45, 46, 47, 48, 49, 50, 51, 52, 53, 54, 55, 56, 57, 58, 59, 60, 61, 62, 63, 64, 65, 66, 67, 68, 69, 70, 71, 72, 73, 74, 75, 76, 77, 78, 79, 80, 81, 82, 83, 84, 85, 86, 87, 88, 89, 90, 91, 92, 93, 94, 95, 96, 97, 98, 99, 100, 101, 102, 103, 104, 105, 106, 107, 108, 109, 110, 111, 112, 113, 114, 115] (by decide +kernel) (by decide +kernel)) (goodIn_sub (fun _ h => List.mem_cons_of_mem _ (List.mem_append_left _ (List.mem_append_right _ h))) (by decide +kernel))) (goodIn_sub (fun _ h => List.mem_cons_of_mem _ (List.mem_append_right _ h)) (by decide +kernel))
set_option maxRecDepth 20000 in
theorem gL_tryEvery_X5_ifEvery : GoodIn wsL_tryEvery (wsV RL 78 RX5 yX5_ifEvery wsX5_ifEvery) := goodIn_app (goodIn_of _ (by decide +kernel)) ggL_tryEvery_X5_ifEvery
theorem dL_tryEvery_0 : decode cL_tryEvery 0 = .ok (.aload_n 0, 1) := by decide +kernel
theorem dL_tryEvery_1 : decode cL_tryEvery 1 = .ok (.iload_n 1, 1) := by decide +kernel
theorem dL_tryEvery_2 : decode cL_tryEvery 2 = .ok (.iload_n 2, 1) := by decide +kernel
theorem dL_tryEvery_3 : decode cL_tryEvery 3 = .ok (.iload_n 3, 1) := by decide +kernel
theorem dL_tryEvery_4 : decode cL_tryEvery 4 = .ok (.invokevirtual 78, 3) := by decide +kernel
theorem dL_tryEvery_7 : decode cL_tryEvery 7 = .ok (.ireturn, 1) := by decide +kernel
theorem dL_tryEvery_8 : decode cL_tryEvery 8 = .ok (.astore 4, 2) := by decide +kernel
theorem dL_tryEvery_10 : decode cL_tryEvery 10 = .ok (.ldc 39, 2) := by decide +kernel
theorem dL_tryEvery_12 : decode cL_tryEvery 12 = .ok (.ireturn, 1) := by decide +kernel
theorem dL_tryEvery_13 : decode cL_tryEvery 13 = .ok (.astore 4, 2) := by decide +kernel
theorem dL_tryEvery_15 : decode cL_tryEvery 15 = .ok (.ldc 15, 2) := by decide +kernel
theorem dL_tryEvery_17 : decode cL_tryEvery 17 = .ok (.ireturn, 1) := by decide +kernel
set_option maxRecDepth 20000 in
theorem ggL_tryBest_X5_bestEvery : GoodIn wsL_tryBest wsX5_bestEvery := goodIn_ca (goodIn_ca (goodIn_r _ [9, 10, 11, 12, 8, 13, 14, 15, 16, 17, 18, 19, 20, 21, 22, 23, 24, 25, 26, 27, 28, 29, 30, 31, 32, 33, 34, 35, 36, 37, 38, 39, 40, 41, 42, 43, 44, 45, 46, 47, 48, 49, 50, 51, 52, 53, 54, 55, 56, 57, 58, 59, 60, 61, 62, 63, 64, 65, 66, 67, 68, 69, 70, 71, 72, 73, 74, 75, 76, 77, 78, 79, 80, 81, 82, 83, 84, 85, 86, 87, 88, 89, 90, 91, 92, 93, 94, 95, 96, 97, 98, 99, 100, 101, 102, 103, 104, 105, 106, 107, 108, 109, 110, 111, 112, 113, 114, 115] (by decide +kernel) (by decide +kernel)) (goodIn_sub (fun _ h => List.mem_cons_of_mem _ (List.mem_append_left _ (List.mem_append_right _ h))) (by decide +kernel))) (goodIn_sub (fun _ h => List.mem_cons_of_mem _ (List.mem_append_right _ h)) (by decide +kernel))
set_option maxRecDepth 20000 in
theorem gL_tryBest_X5_bestEvery : GoodIn wsL_tryBest (wsV RL 81 RX5 yX5_bestEvery wsX5_bestEvery) := goodIn_app (goodIn_of _ (by decide +kernel)) ggL_tryBest_X5_bestEvery
theorem dL_tryBest_0 : decode cL_tryBest 0 = .ok (.aload_n 0, 1) := by decide +kernel
theorem dL_tryBest_1 : decode cL_tryBest 1 = .ok (.iload_n 1, 1) := by decide +kernel
theorem dL_tryBest_2 : decode cL_tryBest 2 = .ok (.iload_n 2, 1) := by decide +kernel
theorem dL_tryBest_3 : decode cL_tryBest 3 = .ok (.invokevirtual 81, 3) := by decide +kernel
theorem dL_tryBest_6 : decode cL_tryBest 6 = .ok (.ireturn, 1) := by decide +kernel
theorem dL_tryBest_7 : decode cL_tryBest 7 = .ok (.astore_n 3, 1) := by decide +kernel
theorem dL_tryBest_8 : decode cL_tryBest 8 = .ok (.ldc 39, 2) := by decide +kernel
theorem dL_tryBest_10 : decode cL_tryBest 10 = .ok (.ireturn, 1) := by decide +kernel
theorem dL_tryBest_11 : decode cL_tryBest 11 = .ok (.astore_n 3, 1) := by decide +kernel
theorem dL_tryBest_12 : decode cL_tryBest 12 = .ok (.ldc 15, 2) := by decide +kernel
theorem dL_tryBest_14 : decode cL_tryBest 14 = .ok (.ireturn, 1) := by decide +kernel
set_option maxRecDepth 20000 in
theorem ggL_tryMoves_X5_movesTo : GoodIn wsL_tryMoves wsX5_movesTo := goodIn_ca (goodIn_r _ [7, 8, 9, 10, 11, 6, 12, 13, 14, 15, 16, 17, 18, 19, 20, 21, 22, 23, 24, 25, 26, 27, 28, 29, 30, 31, 32, 33, 34, 35, 36, 37, 38, 39, 40, 41, 42, 43, 44, 45, 46, 47, 48, 49, 50, 51] (by decide +kernel) (by decide +kernel)) (goodIn_sub (fun _ h => List.mem_cons_of_mem _ (List.mem_append_right _ h)) (by decide +kernel))
set_option maxRecDepth 20000 in
theorem gL_tryMoves_X5_movesTo : GoodIn wsL_tryMoves (wsV RL 84 RX5 yX5_movesTo wsX5_movesTo) := goodIn_app (goodIn_of _ (by decide +kernel)) ggL_tryMoves_X5_movesTo
theorem dL_tryMoves_0 : decode cL_tryMoves 0 = .ok (.aload_n 0, 1) := by decide +kernel
theorem dL_tryMoves_1 : decode cL_tryMoves 1 = .ok (.iload_n 1, 1) := by decide +kernel
theorem dL_tryMoves_2 : decode cL_tryMoves 2 = .ok (.invokevirtual 84, 3) := by decide +kernel
theorem dL_tryMoves_5 : decode cL_tryMoves 5 = .ok (.ireturn, 1) := by decide +kernel
theorem dL_tryMoves_6 : decode cL_tryMoves 6 = .ok (.astore_n 2, 1) := by decide +kernel
theorem dL_tryMoves_7 : decode cL_tryMoves 7 = .ok (.ldc 39, 2) := by decide +kernel
theorem dL_tryMoves_9 : decode cL_tryMoves 9 = .ok (.ireturn, 1) := by decide +kernel
set_option maxRecDepth 20000 in
theorem ggL_tryBehind_X5_placeBehind : GoodIn wsL_tryBehind wsX5_placeBehind := goodIn_ca (goodIn_ca (goodIn_r _ [9, 10, 11, 12, 13, 14, 15, 8, 16, 17, 18, 19, 20, 21, 22, 23, 24, 25, 26, 27, 28, 29, 30, 31, 32, 33, 34, 35, 36, 37, 38, 39, 40, 41, 42, 43, 44, 45, 46, 47, 48, 49, 50, 51, 52, 53, 54, 55, 56] (by decide +kernel) (by decide +kernel)) (goodIn_sub (fun _ h => List.mem_cons_of_mem _ (List.mem_append_left _ (List.mem_append_right _ h))) (by decide +kernel))) (goodIn_sub (fun _ h => List.mem_cons_of_mem _ (List.mem_append_right _ h)) (by decide +kernel))
set_option maxRecDepth 20000 in
theorem gL_tryBehind_X5_placeBehind : GoodIn wsL_tryBehind (wsV RL 87 RX5 yX5_placeBehind wsX5_placeBehind) := goodIn_app (goodIn_of _ (by decide +kernel)) ggL_tryBehind_X5_placeBehind
theorem dL_tryBehind_0 : decode cL_tryBehind 0 = .ok (.aload_n 0, 1) := by decide +kernel
theorem dL_tryBehind_1 : decode cL_tryBehind 1 = .ok (.iload_n 1, 1) := by decide +kernel
theorem dL_tryBehind_2 : decode cL_tryBehind 2 = .ok (.iload_n 2, 1) := by decide +kernel
theorem dL_tryBehind_3 : decode cL_tryBehind 3 = .ok (.invokevirtual 87, 3) := by decide +kernel
theorem dL_tryBehind_6 : decode cL_tryBehind 6 = .ok (.ireturn, 1) := by decide +kernel
theorem dL_tryBehind_7 : decode cL_tryBehind 7 = .ok (.astore_n 3, 1) := by decide +kernel
theorem dL_tryBehind_8 : decode cL_tryBehind 8 = .ok (.ldc 39, 2) := by decide +kernel
theorem dL_tryBehind_10 : decode cL_tryBehind 10 = .ok (.ireturn, 1) := by decide +kernel
theorem dL_tryBehind_11 : decode cL_tryBehind 11 = .ok (.astore_n 3, 1) := by decide +kernel
theorem dL_tryBehind_12 : decode cL_tryBehind 12 = .ok (.ldc 15, 2) := by decide +kernel
theorem dL_tryBehind_14 : decode cL_tryBehind 14 = .ok (.ireturn, 1) := by decide +kernel
set_option maxRecDepth 20000 in
theorem ggL_tryKeep_X5_save : GoodIn wsL_tryKeep wsX5_save := goodIn_ca (goodIn_r _ [7, 8, 9, 10, 11, 12, 6, 13, 14, 15, 16, 17, 18, 19, 20, 21, 22, 23, 24, 25, 26, 27, 28, 29, 30, 31, 32, 33, 34, 35, 36, 37, 38, 39, 40, 41, 42, 43, 44, 45, 46, 47, 48, 49, 50, 51, 52, 53, 54, 55, 56, 57, 58, 59, 60, 61, 62, 63, 64, 65, 66, 67, 68, 69, 70, 71, 72, 73, 74, 75, 76, 77, 78, 79, 80] (by decide +kernel) (by decide +kernel)) (goodIn_sub (fun _ h => List.mem_cons_of_mem _ (List.mem_append_right _ h)) (by decide +kernel))
set_option maxRecDepth 20000 in
theorem gL_tryKeep_X5_save : GoodIn wsL_tryKeep (wsV RL 90 RX5 yX5_save wsX5_save) := goodIn_app (goodIn_of _ (by decide +kernel)) ggL_tryKeep_X5_save
theorem dL_tryKeep_0 : decode cL_tryKeep 0 = .ok (.aload_n 0, 1) := by decide +kernel
theorem dL_tryKeep_1 : decode cL_tryKeep 1 = .ok (.iload_n 1, 1) := by decide +kernel
theorem dL_tryKeep_2 : decode cL_tryKeep 2 = .ok (.invokevirtual 90, 3) := by decide +kernel
theorem dL_tryKeep_5 : decode cL_tryKeep 5 = .ok (.ireturn, 1) := by decide +kernel
theorem dL_tryKeep_6 : decode cL_tryKeep 6 = .ok (.astore_n 2, 1) := by decide +kernel
theorem dL_tryKeep_7 : decode cL_tryKeep 7 = .ok (.ldc 39, 2) := by decide +kernel
theorem dL_tryKeep_9 : decode cL_tryKeep 9 = .ok (.ireturn, 1) := by decide +kernel
set_option maxRecDepth 20000 in
theorem ggL_tryBack_X5_restore : GoodIn wsL_tryBack wsX5_restore := goodIn_ca (goodIn_ca (goodIn_r _ [9, 10, 11, 12, 13, 14, 15, 16, 17, 8, 18, 19, 20, 21, 22, 23, 24, 25, 26, 27, 28, 29, 30, 31, 32, 33, 34, 35, 36, 37, 38, 39, 40, 41, 42, 43, 44, 45, 46, 47, 48, 49, 50, 51, 52, 53, 54, 55, 56, 57, 58, 59, 60, 61, 62, 63, 64, 65, 66, 67, 68, 69, 70, 71, 72, 73, 74, 75, 76, 77, 78, 79, 80, 81, 82, 83, 84, 85, 86] (by decide +kernel) (by decide +kernel)) (goodIn_sub (fun _ h => List.mem_cons_of_mem _ (List.mem_append_left _ (List.mem_append_right _ h))) (by decide +kernel))) (goodIn_sub (fun _ h => List.mem_cons_of_mem _ (List.mem_append_right _ h)) (by decide +kernel))
set_option maxRecDepth 20000 in
theorem gL_tryBack_X5_restore : GoodIn wsL_tryBack (wsV RL 93 RX5 yX5_restore wsX5_restore) := goodIn_app (goodIn_of _ (by decide +kernel)) ggL_tryBack_X5_restore
theorem dL_tryBack_0 : decode cL_tryBack 0 = .ok (.aload_n 0, 1) := by decide +kernel
theorem dL_tryBack_1 : decode cL_tryBack 1 = .ok (.iload_n 1, 1) := by decide +kernel
theorem dL_tryBack_2 : decode cL_tryBack 2 = .ok (.invokevirtual 93, 3) := by decide +kernel
theorem dL_tryBack_5 : decode cL_tryBack 5 = .ok (.ireturn, 1) := by decide +kernel
theorem dL_tryBack_6 : decode cL_tryBack 6 = .ok (.astore_n 2, 1) := by decide +kernel
theorem dL_tryBack_7 : decode cL_tryBack 7 = .ok (.ldc 39, 2) := by decide +kernel
theorem dL_tryBack_9 : decode cL_tryBack 9 = .ok (.ireturn, 1) := by decide +kernel
theorem dL_tryBack_10 : decode cL_tryBack 10 = .ok (.astore_n 2, 1) := by decide +kernel
theorem dL_tryBack_11 : decode cL_tryBack 11 = .ok (.ldc 26, 2) := by decide +kernel
theorem dL_tryBack_13 : decode cL_tryBack 13 = .ok (.ireturn, 1) := by decide +kernel
set_option maxRecDepth 20000 in
theorem ggL_call_L_tryAppend : GoodIn wsL_call wsL_tryAppend := goodIn_ca (goodIn_ca (goodIn_r _ [4, 5, 6, 7, 8, 9, 10, 11, 12, 13, 14, 15, 16, 17, 18, 19, 20, 21, 22, 23, 24, 25, 26, 27, 28, 29, 30, 458, 459, 460, 461, 462, 463, 464] (by decide +kernel) (by decide +kernel)) (goodIn_sub (fun _ h => List.mem_cons_of_mem _ (List.mem_append_left _ (List.mem_append_left _ (List.mem_append_right _ h)))) (by decide +kernel))) (goodIn_sub (fun _ h => List.mem_cons_of_mem _ (List.mem_append_left _ (List.mem_append_right _ h))) (by decide +kernel))
set_option maxRecDepth 20000 in
theorem gL_call_L_tryAppend : GoodIn wsL_call (va_wsS RL 96 yL_tryAppend wsL_tryAppend) := goodIn_app (goodIn_of _ (by decide +kernel)) ggL_call_L_tryAppend
set_option maxRecDepth 20000 in
theorem ggL_call_L_tryLoad : GoodIn wsL_call wsL_tryLoad := goodIn_ca (goodIn_r _ [33, 6, 8, 34, 35, 36, 12, 37, 16, 17, 18, 38, 39, 40, 41, 42, 43, 22, 44, 24, 45, 46, 47, 48, 49, 50, 51, 52, 29, 53, 54, 55, 56, 57, 58, 59, 60, 61, 62, 63, 64, 65, 66, 67, 68, 69, 70, 71, 72, 73, 74, 75, 76, 77, 78, 79, 80, 81, 82, 83, 84, 85, 86, 87, 88, 89, 90, 91, 92, 93, 94, 95, 96, 97, 98, 99, 100, 101, 102, 103, 104, 105, 106, 107, 108, 109, 110, 111, 112, 113, 114, 115, 116, 117, 118, 119, 120, 121, 122, 123, 124, 125, 126, 127, 128, 129, 130, 131, 132, 133, 134, 135, 136, 137, 138, 139, 140, 141, 142, 143, 144, 145, 146, 147, 148, 149, 150, 151, 152, 153, 154, 155, 156, 157, 158, 159, 160, 161, 162, 163, 164, 165, 166, 167, 168, 169, 170, 171, 172, 458, 459, 460, 461, 462, 463, 464, 465, 466, 467, 468, 469, 470, 471, 472, 473, 474, 475, 476, 477, 478, 479, 480, 481, 482, 483, 484] (by decide +kernel) (by decide +kernel)) (goodIn_sub (fun _ h => List.mem_cons_of_mem _ (List.mem_append_left _ (List.mem_append_right _ h))) (by decide +kernel))
set_option maxRecDepth 20000 in
theorem gL_call_L_tryLoad : GoodIn wsL_call (va_wsS RL 102 yL_tryLoad wsL_tryLoad) := goodIn_app (goodIn_of _ (by decide +kernel)) ggL_call_L_tryLoad
set_option maxRecDepth 20000 in
theorem ggL_call_L_tryAbout : GoodIn wsL_call wsL_tryAbout := goodIn_ca (goodIn_r _ [175, 5, 7, 176, 177, 178, 12, 179, 14, 15, 40, 180, 181, 182, 80, 183, 88, 90, 91, 92, 93, 94, 95, 98, 96, 97, 184, 185, 186, 187, 100, 188, 189, 190, 191, 192, 193, 194, 195, 196, 197, 198, 458, 459, 460, 461, 462, 470, 471, 472, 473, 474, 475, 476, 477, 478, 479, 480, 481, 482, 483, 484] (by decide +kernel) (by decide +kernel)) (goodIn_sub (fun _ h => List.mem_cons_of_mem _ (List.mem_append_left _ (List.mem_append_left _ (List.mem_append_right _ h)))) (by decide +kernel))
set_option maxRecDepth 20000 in
theorem gL_call_L_tryAbout : GoodIn wsL_call (va_wsS RL 106 yL_tryAbout wsL_tryAbout) := goodIn_app (goodIn_of _ (by decide +kernel)) ggL_call_L_tryAbout
set_option maxRecDepth 20000 in
theorem ggL_call_L_tryRead : GoodIn wsL_call wsL_tryRead := goodIn_ca (goodIn_r _ [201, 202, 203, 204, 205, 206, 12, 207, 40, 208, 209, 210, 211, 212, 213, 214, 120, 121, 80, 122, 88, 215, 156, 157, 158, 99, 119, 458, 459, 460, 461, 462, 470, 471, 472, 473, 474, 475, 476, 477, 478, 479, 480, 481, 482, 483, 484] (by decide +kernel) (by decide +kernel)) (goodIn_sub (fun _ h => List.mem_cons_of_mem _ (List.mem_append_right _ h)) (by decide +kernel))
set_option maxRecDepth 20000 in
theorem gL_call_L_tryRead : GoodIn wsL_call (va_wsS RL 109 yL_tryRead wsL_tryRead) := goodIn_app (goodIn_of _ (by decide +kernel)) ggL_call_L_tryRead
set_option maxRecDepth 20000 in
theorem ggL_call_L_tryPlace : GoodIn wsL_call wsL_tryPlace := goodIn_ca (goodIn_r _ [218, 202, 203, 219, 220, 221, 12, 222, 40, 208, 209, 210, 211, 212, 213, 214, 120, 121, 80, 122, 88, 223, 130, 131, 132, 90, 91, 133, 134, 135, 136, 89, 458, 459, 460, 461, 462, 470, 471, 472, 473, 474, 475, 476, 477, 478, 479, 480, 481, 482, 483, 484] (by decide +kernel) (by decide +kernel)) (goodIn_sub (fun _ h => List.mem_cons_of_mem _ (List.mem_append_right _ h)) (by decide +kernel))
set_option maxRecDepth 20000 in
theorem gL_call_L_tryPlace : GoodIn wsL_call (va_wsS RL 112 yL_tryPlace wsL_tryPlace) := goodIn_app (goodIn_of _ (by decide +kernel)) ggL_call_L_tryPlace
set_option maxRecDepth 20000 in
theorem ggL_call_L_tryLine : GoodIn wsL_call wsL_tryLine := goodIn_ca (goodIn_r _ [226, 202, 203, 227, 228, 229, 12, 230, 40, 231, 232, 233, 234, 212, 213, 235, 236, 237, 80, 238, 88, 239, 240, 241, 242, 91, 90, 133, 134, 135, 136, 89, 458, 459, 460, 461, 462, 470, 471, 472, 473, 474, 475, 476, 477, 478, 479, 480, 481, 482, 483, 484] (by decide +kernel) (by decide +kernel)) (goodIn_sub (fun _ h => List.mem_cons_of_mem _ (List.mem_append_right _ h)) (by decide +kernel))
set_option maxRecDepth 20000 in
theorem gL_call_L_tryLine : GoodIn wsL_call (va_wsS RL 115 yL_tryLine wsL_tryLine) := goodIn_app (goodIn_of _ (by decide +kernel)) ggL_call_L_tryLine
set_option maxRecDepth 20000 in
theorem ggL_call_L_tryWear : GoodIn wsL_call wsL_tryWear := goodIn_ca (goodIn_r _ [245, 202, 203, 246, 247, 248, 12, 249, 40, 231, 232, 233, 234, 212, 213, 235, 236, 237, 80, 238, 88, 250, 251, 252, 253, 100, 254, 458, 459, 460, 461, 462, 470, 471, 472, 473, 474, 475, 476, 477, 478, 479, 480, 481, 482, 483, 484] (by decide +kernel) (by decide +kernel)) (goodIn_sub (fun _ h => List.mem_cons_of_mem _ (List.mem_append_right _ h)) (by decide +kernel))
set_option maxRecDepth 20000 in
theorem gL_call_L_tryWear : GoodIn wsL_call (va_wsS RL 118 yL_tryWear wsL_tryWear) := goodIn_app (goodIn_of _ (by decide +kernel)) ggL_call_L_tryWear
set_option maxRecDepth 20000 in
theorem ggL_call_L_trySetting : GoodIn wsL_call wsL_trySetting := goodIn_ca (goodIn_r _ [257, 5, 7, 258, 259, 260, 12, 261, 40, 262, 263, 264, 14, 15, 265, 266, 267, 80, 268, 82, 83, 458, 459, 460, 461, 462, 470, 471, 472, 473, 474, 475, 476, 477, 478, 479, 480, 481, 482, 483, 484] (by decide +kernel) (by decide +kernel)) (goodIn_sub (fun _ h => List.mem_cons_of_mem _ (List.mem_append_left _ (List.mem_append_left _ (List.mem_append_right _ h)))) (by decide +kernel))
set_option maxRecDepth 20000 in
theorem gL_call_L_trySetting : GoodIn wsL_call (va_wsS RL 121 yL_trySetting wsL_trySetting) := goodIn_app (goodIn_of _ (by decide +kernel)) ggL_call_L_trySetting
set_option maxRecDepth 20000 in
theorem ggL_call_L_tryMake : GoodIn wsL_call wsL_tryMake := goodIn_ca (goodIn_r _ [271, 5, 7, 272, 273, 274, 12, 275, 14, 15, 38, 40, 276, 109, 110, 111, 112, 113, 277, 278, 279, 68, 280, 281, 282, 283, 284, 80, 70, 285, 197, 190, 198, 286, 287, 288, 289, 290, 82, 83, 291, 99, 100, 292, 293, 294, 295, 88, 89, 90, 91, 92, 93, 94, 95, 96, 97, 98, 296, 297, 298, 299, 300, 85, 86, 87, 223, 130, 131, 132, 133, 134, 135, 136, 458, 459, 460, 461, 462, 465, 466, 467, 470, 471, 472, 473, 474, 475, 476, 477, 478, 479, 480, 481, 482, 483, 484] (by decide +kernel) (by decide +kernel)) (goodIn_sub (fun _ h => List.mem_cons_of_mem _ (List.mem_append_left _ (List.mem_append_left _ (List.mem_append_right _ h)))) (by decide +kernel))
set_option maxRecDepth 20000 in
theorem gL_call_L_tryMake : GoodIn wsL_call (va_wsS RL 124 yL_tryMake wsL_tryMake) := goodIn_app (goodIn_of _ (by decide +kernel)) ggL_call_L_tryMake
set_option maxRecDepth 20000 in
theorem ggL_call_L_tryWrite : GoodIn wsL_call wsL_tryWrite := goodIn_ca (goodIn_ca (goodIn_ca (goodIn_r _ [303, 202, 5, 6, 203, 7, 8, 304, 305, 306, 12, 307, 14, 15, 16, 17, 40, 308, 38, 208, 209, 210, 211, 212, 213, 214, 120, 121, 80, 122, 88, 309, 123, 124, 277, 278, 279, 68, 280, 281, 282, 283, 284, 70, 285, 197, 190, 198, 286, 287, 288, 289, 290, 82, 83, 291, 99, 100, 292, 293, 294, 295, 89, 90, 91, 92, 93, 94, 95, 96, 97, 98, 296, 297, 298, 299, 310, 126, 127, 128, 119, 129, 130, 131, 132, 133, 134, 135, 136, 137, 138, 139, 140, 141, 142, 143, 144, 458, 459, 460, 461, 462, 470, 471, 472, 473, 474, 475, 476, 477, 478, 479, 480, 481, 482, 483, 484, 465, 466, 467] (by decide +kernel) (by decide +kernel)) (goodIn_sub (fun _ h => List.mem_cons_of_mem _ (List.mem_append_left _ (List.mem_append_left _ (List.mem_append_right _ h)))) (by decide +kernel))) (goodIn_sub (fun _ h => List.mem_cons_of_mem _ (List.mem_append_left _ (List.mem_append_right _ h))) (by decide +kernel))) (goodIn_sub (fun _ h => List.mem_cons_of_mem _ (List.mem_append_right _ h)) (by decide +kernel))
set_option maxRecDepth 20000 in
theorem gL_call_L_tryWrite : GoodIn wsL_call (va_wsS RL 128 yL_tryWrite wsL_tryWrite) := goodIn_app (goodIn_of _ (by decide +kernel)) ggL_call_L_tryWrite
set_option maxRecDepth 20000 in
theorem ggL_call_L_tryHammer : GoodIn wsL_call wsL_tryHammer := goodIn_ca (goodIn_ca (goodIn_r _ [313, 202, 5, 203, 7, 314, 315, 316, 12, 317, 38, 40, 208, 209, 210, 211, 212, 213, 214, 120, 121, 80, 122, 88, 318, 319, 320, 14, 15, 321, 149, 150, 277, 278, 279, 68, 280, 281, 282, 283, 284, 70, 285, 197, 190, 198, 286, 287, 288, 289, 290, 82, 83, 291, 99, 100, 292, 293, 294, 295, 89, 90, 91, 92, 93, 94, 95, 96, 97, 98, 296, 297, 298, 299, 322, 152, 153, 154, 155, 156, 157, 158, 119, 125, 126, 127, 128, 129, 130, 131, 132, 133, 134, 135, 136, 137, 138, 139, 140, 141, 142, 143, 144, 458, 459, 460, 461, 462, 470, 471, 472, 473, 474, 475, 476, 477, 478, 479, 480, 481, 482, 483, 484, 465, 466, 467] (by decide +kernel) (by decide +kernel)) (goodIn_sub (fun _ h => List.mem_cons_of_mem _ (List.mem_append_right _ h)) (by decide +kernel))) (goodIn_sub (fun _ h => List.mem_cons_of_mem _ (List.mem_append_left _ (List.mem_append_left _ (List.mem_append_right _ h)))) (by decide +kernel))
set_option maxRecDepth 20000 in
theorem gL_call_L_tryHammer : GoodIn wsL_call (va_wsS RL 132 yL_tryHammer wsL_tryHammer) := goodIn_app (goodIn_of _ (by decide +kernel)) ggL_call_L_tryHammer
set_option maxRecDepth 20000 in
theorem ggL_call_L_tryAll : GoodIn wsL_call wsL_tryAll := goodIn_ca (goodIn_ca (goodIn_r _ [325, 5, 6, 7, 8, 326, 327, 328, 12, 329, 14, 15, 38, 40, 330, 331, 163, 164, 332, 333, 334, 335, 16, 17, 336, 166, 167, 80, 168, 88, 277, 278, 279, 68, 280, 281, 282, 283, 284, 70, 285, 197, 190, 198, 286, 287, 288, 289, 290, 82, 83, 291, 99, 100, 292, 293, 294, 295, 89, 90, 91, 92, 93, 94, 95, 96, 97, 98, 296, 297, 298, 299, 337, 170, 171, 172, 155, 156, 157, 158, 119, 120, 121, 122, 125, 126, 127, 128, 129, 130, 131, 132, 133, 134, 135, 136, 137, 138, 139, 140, 141, 142, 143, 144, 458, 459, 460, 461, 462, 470, 471, 472, 473, 474, 475, 476, 477, 478, 479, 480, 481, 482, 483, 484, 465, 466, 467] (by decide +kernel) (by decide +kernel)) (goodIn_sub (fun _ h => List.mem_cons_of_mem _ (List.mem_append_left _ (List.mem_append_left _ (List.mem_append_right _ h)))) (by decide +kernel))) (goodIn_sub (fun _ h => List.mem_cons_of_mem _ (List.mem_append_left _ (List.mem_append_right _ h))) (by decide +kernel))
set_option maxRecDepth 20000 in
theorem gL_call_L_tryAll : GoodIn wsL_call (va_wsS RL 135 yL_tryAll wsL_tryAll) := goodIn_app (goodIn_of _ (by decide +kernel)) ggL_call_L_tryAll
set_option maxRecDepth 20000 in
theorem ggL_call_L_tryLay : GoodIn wsL_call wsL_tryLay := goodIn_ca (goodIn_r _ [340, 5, 7, 341, 342, 343, 12, 344, 14, 15, 38, 40, 345, 346, 347, 277, 278, 279, 68, 280, 281, 282, 283, 284, 80, 70, 285, 197, 190, 198, 286, 287, 288, 289, 290, 82, 83, 291, 99, 100, 292, 293, 294, 295, 88, 89, 90, 91, 92, 93, 94, 95, 96, 97, 98, 296, 297, 298, 299, 265, 266, 267, 268, 348, 349, 350, 351, 458, 459, 460, 461, 462, 465, 466, 467, 470, 471, 472, 473, 474, 475, 476, 477, 478, 479, 480, 481, 482, 483, 484] (by decide +kernel) (by decide +kernel)) (goodIn_sub (fun _ h => List.mem_cons_of_mem _ (List.mem_append_left _ (List.mem_append_left _ (List.mem_append_right _ h)))) (by decide +kernel))
set_option maxRecDepth 20000 in
theorem gL_call_L_tryLay : GoodIn wsL_call (va_wsS RL 138 yL_tryLay wsL_tryLay) := goodIn_app (goodIn_of _ (by decide +kernel)) ggL_call_L_tryLay
set_option maxRecDepth 20000 in
theorem ggL_call_L_tryUndo : GoodIn wsL_call wsL_tryUndo := goodIn_ca (goodIn_r _ [354, 6, 8, 355, 356, 357, 12, 358, 16, 17, 38, 40, 359, 360, 361, 68, 362, 282, 70, 281, 292, 293, 294, 80, 295, 88, 89, 90, 91, 92, 93, 94, 95, 96, 97, 98, 82, 83, 99, 296, 297, 298, 299, 100, 363, 364, 365, 366, 458, 459, 460, 461, 462, 465, 466, 467, 470, 471, 472, 473, 474, 475, 476, 477, 478, 479, 480, 481, 482, 483, 484] (by decide +kernel) (by decide +kernel)) (goodIn_sub (fun _ h => List.mem_cons_of_mem _ (List.mem_append_left _ (List.mem_append_right _ h))) (by decide +kernel))
set_option maxRecDepth 20000 in
theorem gL_call_L_tryUndo : GoodIn wsL_call (va_wsS RL 141 yL_tryUndo wsL_tryUndo) := goodIn_app (goodIn_of _ (by decide +kernel)) ggL_call_L_tryUndo
set_option maxRecDepth 20000 in
theorem ggL_call_L_tryLife : GoodIn wsL_call wsL_tryLife := goodIn_ca (goodIn_r _ [369, 202, 203, 370, 371, 372, 12, 373, 374, 40, 208, 209, 210, 211, 212, 213, 214, 120, 121, 80, 122, 88, 375, 293, 294, 295, 89, 90, 91, 92, 93, 94, 95, 96, 97, 98, 82, 83, 99, 296, 297, 298, 299, 100, 322, 152, 153, 154, 155, 156, 157, 158, 119, 125, 126, 127, 128, 129, 130, 131, 132, 133, 134, 135, 136, 137, 138, 139, 140, 141, 142, 143, 144, 458, 459, 460, 461, 462, 470, 471, 472, 473, 474, 475, 476, 477, 478, 479, 480, 481, 482, 483, 484] (by decide +kernel) (by decide +kernel)) (goodIn_sub (fun _ h => List.mem_cons_of_mem _ (List.mem_append_right _ h)) (by decide +kernel))
set_option maxRecDepth 20000 in
theorem gL_call_L_tryLife : GoodIn wsL_call (va_wsS RL 144 yL_tryLife wsL_tryLife) := goodIn_app (goodIn_of _ (by decide +kernel)) ggL_call_L_tryLife
set_option maxRecDepth 20000 in
theorem ggL_call_L_tryLong : GoodIn wsL_call wsL_tryLong := goodIn_ca (goodIn_r _ [378, 6, 8, 379, 380, 381, 12, 382, 374, 40, 332, 333, 334, 335, 16, 17, 336, 166, 167, 80, 168, 88, 375, 293, 294, 295, 89, 90, 91, 92, 93, 94, 95, 96, 97, 98, 82, 83, 99, 296, 297, 298, 299, 100, 337, 170, 171, 172, 155, 156, 157, 158, 119, 120, 121, 122, 125, 126, 127, 128, 129, 130, 131, 132, 133, 134, 135, 136, 137, 138, 139, 140, 141, 142, 143, 144, 458, 459, 460, 461, 462, 470, 471, 472, 473, 474, 475, 476, 477, 478, 479, 480, 481, 482, 483, 484] (by decide +kernel) (by decide +kernel)) (goodIn_sub (fun _ h => List.mem_cons_of_mem _ (List.mem_append_left _ (List.mem_append_right _ h))) (by decide +kernel))
set_option maxRecDepth 20000 in
theorem gL_call_L_tryLong : GoodIn wsL_call (va_wsS RL 147 yL_tryLong wsL_tryLong) := goodIn_app (goodIn_of _ (by decide +kernel)) ggL_call_L_tryLong
set_option maxRecDepth 20000 in
theorem ggL_call_L_tryEvery : GoodIn wsL_call wsL_tryEvery := goodIn_ca (goodIn_ca (goodIn_r _ [385, 202, 5, 203, 7, 386, 387, 388, 12, 389, 14, 15, 208, 209, 210, 211, 212, 213, 40, 214, 120, 121, 80, 122, 88, 318, 319, 320, 321, 149, 150, 390, 391, 392, 393, 374, 394, 375, 293, 294, 295, 89, 90, 91, 92, 93, 94, 95, 96, 97, 98, 82, 83, 99, 296, 297, 298, 299, 100, 322, 152, 153, 154, 155, 156, 157, 158, 119, 125, 126, 127, 128, 129, 130, 131, 132, 133, 134, 135, 136, 137, 138, 139, 140, 141, 142, 143, 144, 395, 185, 186, 187, 188, 189, 190, 191, 458, 459, 460, 461, 462, 470, 471, 472, 473, 474, 475, 476, 477, 478, 479, 480, 481, 482, 483, 484] (by decide +kernel) (by decide +kernel)) (goodIn_sub (fun _ h => List.mem_cons_of_mem _ (List.mem_append_left _ (List.mem_append_left _ (List.mem_append_right _ h)))) (by decide +kernel))) (goodIn_sub (fun _ h => List.mem_cons_of_mem _ (List.mem_append_right _ h)) (by decide +kernel))
set_option maxRecDepth 20000 in
theorem gL_call_L_tryEvery : GoodIn wsL_call (va_wsS RL 150 yL_tryEvery wsL_tryEvery) := goodIn_app (goodIn_of _ (by decide +kernel)) ggL_call_L_tryEvery
set_option maxRecDepth 20000 in
theorem ggL_call_L_tryBest : GoodIn wsL_call wsL_tryBest := goodIn_ca (goodIn_ca (goodIn_r _ [398, 202, 5, 203, 7, 399, 400, 401, 12, 402, 208, 209, 210, 211, 212, 213, 40, 214, 120, 121, 80, 122, 88, 318, 319, 320, 14, 15, 321, 149, 150, 390, 391, 392, 393, 374, 394, 375, 293, 294, 295, 89, 90, 91, 92, 93, 94, 95, 96, 97, 98, 82, 83, 99, 296, 297, 298, 299, 100, 322, 152, 153, 154, 155, 156, 157, 158, 119, 125, 126, 127, 128, 129, 130, 131, 132, 133, 134, 135, 136, 137, 138, 139, 140, 141, 142, 143, 144, 395, 185, 186, 187, 188, 189, 190, 191, 458, 459, 460, 461, 462, 470, 471, 472, 473, 474, 475, 476, 477, 478, 479, 480, 481, 482, 483, 484] (by decide +kernel) (by decide +kernel)) (goodIn_sub (fun _ h => List.mem_cons_of_mem _ (List.mem_append_right _ h)) (by decide +kernel))) (goodIn_sub (fun _ h => List.mem_cons_of_mem _ (List.mem_append_left _ (List.mem_append_left _ (List.mem_append_right _ h)))) (by decide +kernel))
set_option maxRecDepth 20000 in
theorem gL_call_L_tryBest : GoodIn wsL_call (va_wsS RL 153 yL_tryBest wsL_tryBest) := goodIn_app (goodIn_of _ (by decide +kernel)) ggL_call_L_tryBest
set_option maxRecDepth 20000 in
theorem ggL_call_L_tryMoves : GoodIn wsL_call wsL_tryMoves := goodIn_ca (goodIn_r _ [405, 202, 203, 406, 407, 408, 12, 409, 40, 208, 209, 210, 211, 212, 213, 214, 120, 121, 80, 122, 88, 410, 411, 412, 413, 90, 91, 133, 134, 135, 136, 89, 458, 459, 460, 461, 462, 470, 471, 472, 473, 474, 475, 476, 477, 478, 479, 480, 481, 482, 483, 484] (by decide +kernel) (by decide +kernel)) (goodIn_sub (fun _ h => List.mem_cons_of_mem _ (List.mem_append_right _ h)) (by decide +kernel))
set_option maxRecDepth 20000 in
theorem gL_call_L_tryMoves : GoodIn wsL_call (va_wsS RL 156 yL_tryMoves wsL_tryMoves) := goodIn_app (goodIn_of _ (by decide +kernel)) ggL_call_L_tryMoves
set_option maxRecDepth 20000 in
theorem ggL_call_L_tryBehind : GoodIn wsL_call wsL_tryBehind := goodIn_ca (goodIn_ca (goodIn_r _ [416, 202, 5, 203, 7, 417, 418, 419, 12, 420, 14, 15, 40, 208, 209, 210, 211, 212, 213, 214, 120, 121, 80, 122, 88, 421, 422, 423, 424, 91, 90, 119, 133, 134, 135, 136, 89, 458, 459, 460, 461, 462, 470, 471, 472, 473, 474, 475, 476, 477, 478, 479, 480, 481, 482, 483, 484] (by decide +kernel) (by decide +kernel)) (goodIn_sub (fun _ h => List.mem_cons_of_mem _ (List.mem_append_left _ (List.mem_append_left _ (List.mem_append_right _ h)))) (by decide +kernel))) (goodIn_sub (fun _ h => List.mem_cons_of_mem _ (List.mem_append_right _ h)) (by decide +kernel))
set_option maxRecDepth 20000 in
theorem gL_call_L_tryBehind : GoodIn wsL_call (va_wsS RL 159 yL_tryBehind wsL_tryBehind) := goodIn_app (goodIn_of _ (by decide +kernel)) ggL_call_L_tryBehind
set_option maxRecDepth 20000 in
theorem ggL_call_L_tryKeep : GoodIn wsL_call wsL_tryKeep := goodIn_ca (goodIn_r _ [427, 202, 203, 428, 429, 430, 12, 431, 39, 40, 432, 433, 434, 435, 212, 213, 436, 437, 74, 438, 439, 440, 441, 442, 443, 444, 284, 80, 76, 445, 286, 287, 288, 289, 290, 82, 83, 291, 99, 100, 446, 293, 294, 295, 88, 89, 90, 91, 92, 93, 94, 95, 96, 97, 98, 296, 297, 298, 299, 458, 459, 460, 461, 462, 470, 471, 472, 473, 474, 475, 476, 477, 478, 479, 480, 481, 482, 483, 484, 468, 469] (by decide +kernel) (by decide +kernel)) (goodIn_sub (fun _ h => List.mem_cons_of_mem _ (List.mem_append_right _ h)) (by decide +kernel))
set_option maxRecDepth 20000 in
theorem gL_call_L_tryKeep : GoodIn wsL_call (va_wsS RL 162 yL_tryKeep wsL_tryKeep) := goodIn_app (goodIn_of _ (by decide +kernel)) ggL_call_L_tryKeep
set_option maxRecDepth 20000 in
theorem ggL_call_L_tryBack : GoodIn wsL_call wsL_tryBack := goodIn_ca (goodIn_ca (goodIn_r _ [449, 202, 6, 203, 8, 450, 451, 452, 12, 453, 16, 17, 39, 40, 38, 432, 433, 434, 435, 212, 213, 436, 437, 74, 438, 454, 455, 456, 457, 76, 443, 445, 446, 293, 294, 80, 295, 88, 89, 90, 91, 92, 93, 94, 95, 96, 97, 98, 82, 83, 99, 296, 297, 298, 299, 100, 65, 66, 67, 68, 69, 70, 458, 459, 460, 461, 462, 470, 471, 472, 473, 474, 475, 476, 477, 478, 479, 480, 481, 482, 483, 484, 468, 469, 465, 466, 467] (by decide +kernel) (by decide +kernel)) (goodIn_sub (fun _ h => List.mem_cons_of_mem _ (List.mem_append_left _ (List.mem_append_right _ h))) (by decide +kernel))) (goodIn_sub (fun _ h => List.mem_cons_of_mem _ (List.mem_append_right _ h)) (by decide +kernel))
set_option maxRecDepth 20000 in
theorem gL_call_L_tryBack : GoodIn wsL_call (va_wsS RL 165 yL_tryBack wsL_tryBack) := goodIn_app (goodIn_of _ (by decide +kernel)) ggL_call_L_tryBack
theorem dL_call_0 : decode cL_call 0 = .ok (.iload_n 1, 1) := by decide +kernel
theorem dL_call_1 : decode cL_call 1 = .ok (.tableswitch 233 0 20 #[99, 105, 110, 116, 122, 128, 134, 140, 146, 155, 162, 169, 175, 182, 187, 193, 198, 207, 214, 220, 227], 99) := by decide +kernel
theorem dL_call_100 : decode cL_call 100 = .ok (.aload_n 0, 1) := by decide +kernel
theorem dL_call_101 : decode cL_call 101 = .ok (.iload_n 2, 1) := by decide +kernel
theorem dL_call_102 : decode cL_call 102 = .ok (.invokestatic 96, 3) := by decide +kernel
theorem dL_call_105 : decode cL_call 105 = .ok (.ireturn, 1) := by decide +kernel
theorem dL_call_106 : decode cL_call 106 = .ok (.aload_n 0, 1) := by decide +kernel
theorem dL_call_107 : decode cL_call 107 = .ok (.invokestatic 102, 3) := by decide +kernel
theorem dL_call_110 : decode cL_call 110 = .ok (.ireturn, 1) := by decide +kernel
theorem dL_call_111 : decode cL_call 111 = .ok (.aload_n 0, 1) := by decide +kernel
theorem dL_call_112 : decode cL_call 112 = .ok (.iload_n 2, 1) := by decide +kernel
theorem dL_call_113 : decode cL_call 113 = .ok (.invokestatic 106, 3) := by decide +kernel
theorem dL_call_116 : decode cL_call 116 = .ok (.ireturn, 1) := by decide +kernel
theorem dL_call_117 : decode cL_call 117 = .ok (.aload_n 0, 1) := by decide +kernel
theorem dL_call_118 : decode cL_call 118 = .ok (.iload_n 2, 1) := by decide +kernel
theorem dL_call_119 : decode cL_call 119 = .ok (.invokestatic 109, 3) := by decide +kernel
theorem dL_call_122 : decode cL_call 122 = .ok (.ireturn, 1) := by decide +kernel
theorem dL_call_123 : decode cL_call 123 = .ok (.aload_n 0, 1) := by decide +kernel
theorem dL_call_124 : decode cL_call 124 = .ok (.iload_n 2, 1) := by decide +kernel
theorem dL_call_125 : decode cL_call 125 = .ok (.invokestatic 112, 3) := by decide +kernel
theorem dL_call_128 : decode cL_call 128 = .ok (.ireturn, 1) := by decide +kernel
theorem dL_call_129 : decode cL_call 129 = .ok (.aload_n 0, 1) := by decide +kernel
theorem dL_call_130 : decode cL_call 130 = .ok (.iload_n 2, 1) := by decide +kernel
theorem dL_call_131 : decode cL_call 131 = .ok (.invokestatic 115, 3) := by decide +kernel
theorem dL_call_134 : decode cL_call 134 = .ok (.ireturn, 1) := by decide +kernel
theorem dL_call_135 : decode cL_call 135 = .ok (.aload_n 0, 1) := by decide +kernel
theorem dL_call_136 : decode cL_call 136 = .ok (.iload_n 2, 1) := by decide +kernel
theorem dL_call_137 : decode cL_call 137 = .ok (.invokestatic 118, 3) := by decide +kernel
theorem dL_call_140 : decode cL_call 140 = .ok (.ireturn, 1) := by decide +kernel
theorem dL_call_141 : decode cL_call 141 = .ok (.aload_n 0, 1) := by decide +kernel
theorem dL_call_142 : decode cL_call 142 = .ok (.iload_n 2, 1) := by decide +kernel
theorem dL_call_143 : decode cL_call 143 = .ok (.invokestatic 121, 3) := by decide +kernel
theorem dL_call_146 : decode cL_call 146 = .ok (.ireturn, 1) := by decide +kernel
theorem dL_call_147 : decode cL_call 147 = .ok (.aload_n 0, 1) := by decide +kernel
theorem dL_call_148 : decode cL_call 148 = .ok (.iload_n 2, 1) := by decide +kernel
theorem dL_call_149 : decode cL_call 149 = .ok (.iload_n 3, 1) := by decide +kernel
theorem dL_call_150 : decode cL_call 150 = .ok (.iload 4, 2) := by decide +kernel
theorem dL_call_152 : decode cL_call 152 = .ok (.invokestatic 124, 3) := by decide +kernel
theorem dL_call_155 : decode cL_call 155 = .ok (.ireturn, 1) := by decide +kernel
theorem dL_call_156 : decode cL_call 156 = .ok (.aload_n 0, 1) := by decide +kernel
theorem dL_call_157 : decode cL_call 157 = .ok (.iload_n 2, 1) := by decide +kernel
theorem dL_call_158 : decode cL_call 158 = .ok (.iload_n 3, 1) := by decide +kernel
theorem dL_call_159 : decode cL_call 159 = .ok (.invokestatic 128, 3) := by decide +kernel
theorem dL_call_162 : decode cL_call 162 = .ok (.ireturn, 1) := by decide +kernel
theorem dL_call_163 : decode cL_call 163 = .ok (.aload_n 0, 1) := by decide +kernel
theorem dL_call_164 : decode cL_call 164 = .ok (.iload_n 2, 1) := by decide +kernel
theorem dL_call_165 : decode cL_call 165 = .ok (.iload_n 3, 1) := by decide +kernel
theorem dL_call_166 : decode cL_call 166 = .ok (.invokestatic 132, 3) := by decide +kernel
theorem dL_call_169 : decode cL_call 169 = .ok (.ireturn, 1) := by decide +kernel
theorem dL_call_170 : decode cL_call 170 = .ok (.aload_n 0, 1) := by decide +kernel
theorem dL_call_171 : decode cL_call 171 = .ok (.iload_n 2, 1) := by decide +kernel
theorem dL_call_172 : decode cL_call 172 = .ok (.invokestatic 135, 3) := by decide +kernel
theorem dL_call_175 : decode cL_call 175 = .ok (.ireturn, 1) := by decide +kernel
theorem dL_call_176 : decode cL_call 176 = .ok (.aload_n 0, 1) := by decide +kernel
theorem dL_call_177 : decode cL_call 177 = .ok (.iload_n 2, 1) := by decide +kernel
theorem dL_call_178 : decode cL_call 178 = .ok (.iload_n 3, 1) := by decide +kernel
theorem dL_call_179 : decode cL_call 179 = .ok (.invokestatic 138, 3) := by decide +kernel
theorem dL_call_182 : decode cL_call 182 = .ok (.ireturn, 1) := by decide +kernel
theorem dL_call_183 : decode cL_call 183 = .ok (.aload_n 0, 1) := by decide +kernel
theorem dL_call_184 : decode cL_call 184 = .ok (.invokestatic 141, 3) := by decide +kernel
theorem dL_call_187 : decode cL_call 187 = .ok (.ireturn, 1) := by decide +kernel
theorem dL_call_188 : decode cL_call 188 = .ok (.aload_n 0, 1) := by decide +kernel
theorem dL_call_189 : decode cL_call 189 = .ok (.iload_n 2, 1) := by decide +kernel
theorem dL_call_190 : decode cL_call 190 = .ok (.invokestatic 144, 3) := by decide +kernel
theorem dL_call_193 : decode cL_call 193 = .ok (.ireturn, 1) := by decide +kernel
theorem dL_call_194 : decode cL_call 194 = .ok (.aload_n 0, 1) := by decide +kernel
theorem dL_call_195 : decode cL_call 195 = .ok (.invokestatic 147, 3) := by decide +kernel
theorem dL_call_198 : decode cL_call 198 = .ok (.ireturn, 1) := by decide +kernel
theorem dL_call_199 : decode cL_call 199 = .ok (.aload_n 0, 1) := by decide +kernel
theorem dL_call_200 : decode cL_call 200 = .ok (.iload_n 2, 1) := by decide +kernel
theorem dL_call_201 : decode cL_call 201 = .ok (.iload_n 3, 1) := by decide +kernel
theorem dL_call_202 : decode cL_call 202 = .ok (.iload 4, 2) := by decide +kernel
theorem dL_call_204 : decode cL_call 204 = .ok (.invokestatic 150, 3) := by decide +kernel
theorem dL_call_207 : decode cL_call 207 = .ok (.ireturn, 1) := by decide +kernel
theorem dL_call_208 : decode cL_call 208 = .ok (.aload_n 0, 1) := by decide +kernel
theorem dL_call_209 : decode cL_call 209 = .ok (.iload_n 2, 1) := by decide +kernel
theorem dL_call_210 : decode cL_call 210 = .ok (.iload_n 3, 1) := by decide +kernel
theorem dL_call_211 : decode cL_call 211 = .ok (.invokestatic 153, 3) := by decide +kernel
theorem dL_call_214 : decode cL_call 214 = .ok (.ireturn, 1) := by decide +kernel
theorem dL_call_215 : decode cL_call 215 = .ok (.aload_n 0, 1) := by decide +kernel
theorem dL_call_216 : decode cL_call 216 = .ok (.iload_n 2, 1) := by decide +kernel
theorem dL_call_217 : decode cL_call 217 = .ok (.invokestatic 156, 3) := by decide +kernel
theorem dL_call_220 : decode cL_call 220 = .ok (.ireturn, 1) := by decide +kernel
theorem dL_call_221 : decode cL_call 221 = .ok (.aload_n 0, 1) := by decide +kernel
theorem dL_call_222 : decode cL_call 222 = .ok (.iload_n 2, 1) := by decide +kernel
theorem dL_call_223 : decode cL_call 223 = .ok (.iload_n 3, 1) := by decide +kernel
theorem dL_call_224 : decode cL_call 224 = .ok (.invokestatic 159, 3) := by decide +kernel
theorem dL_call_227 : decode cL_call 227 = .ok (.ireturn, 1) := by decide +kernel
theorem dL_call_228 : decode cL_call 228 = .ok (.aload_n 0, 1) := by decide +kernel
theorem dL_call_229 : decode cL_call 229 = .ok (.iload_n 2, 1) := by decide +kernel
theorem dL_call_230 : decode cL_call 230 = .ok (.invokestatic 162, 3) := by decide +kernel
theorem dL_call_233 : decode cL_call 233 = .ok (.ireturn, 1) := by decide +kernel
theorem dL_call_234 : decode cL_call 234 = .ok (.aload_n 0, 1) := by decide +kernel
theorem dL_call_235 : decode cL_call 235 = .ok (.iload_n 2, 1) := by decide +kernel
theorem dL_call_236 : decode cL_call 236 = .ok (.invokestatic 165, 3) := by decide +kernel
theorem dL_call_239 : decode cL_call 239 = .ok (.ireturn, 1) := by decide +kernel
theorem dL_cell_0 : decode cL_cell 0 = .ok (.iload_n 1, 1) := by decide +kernel
theorem dL_cell_1 : decode cL_cell 1 = .ok (.aload_n 0, 1) := by decide +kernel
theorem dL_cell_2 : decode cL_cell 2 = .ok (.arraylength, 1) := by decide +kernel
theorem dL_cell_3 : decode cL_cell 3 = .ok (.if_icmp .ge 9, 3) := by decide +kernel
theorem dL_cell_6 : decode cL_cell 6 = .ok (.aload_n 0, 1) := by decide +kernel
theorem dL_cell_7 : decode cL_cell 7 = .ok (.iload_n 1, 1) := by decide +kernel
theorem dL_cell_8 : decode cL_cell 8 = .ok (.iaload, 1) := by decide +kernel
theorem dL_cell_9 : decode cL_cell 9 = .ok (.goto 13, 3) := by decide +kernel
theorem dL_cell_12 : decode cL_cell 12 = .ok (.ldc 168, 2) := by decide +kernel
theorem dL_cell_14 : decode cL_cell 14 = .ok (.iload_n 1, 1) := by decide +kernel
theorem dL_cell_15 : decode cL_cell 15 = .ok (.iconst 3, 1) := by decide +kernel
theorem dL_cell_16 : decode cL_cell 16 = .ok (.iadd, 1) := by decide +kernel
theorem dL_cell_17 : decode cL_cell 17 = .ok (.imul, 1) := by decide +kernel
theorem dL_cell_18 : decode cL_cell 18 = .ok (.sipush 11171, 3) := by decide +kernel
theorem dL_cell_21 : decode cL_cell 21 = .ok (.iadd, 1) := by decide +kernel
theorem dL_cell_22 : decode cL_cell 22 = .ok (.ldc 169, 2) := by decide +kernel
theorem dL_cell_24 : decode cL_cell 24 = .ok (.iand, 1) := by decide +kernel
theorem dL_cell_25 : decode cL_cell 25 = .ok (.ireturn, 1) := by decide +kernel
theorem dL_thrown_0 : decode cL_thrown 0 = .ok (.iload_n 0, 1) := by decide +kernel
theorem dL_thrown_1 : decode cL_thrown 1 = .ok (.ldc 39, 2) := by decide +kernel
theorem dL_thrown_3 : decode cL_thrown 3 = .ok (.if_icmp .eq 15, 3) := by decide +kernel
theorem dL_thrown_6 : decode cL_thrown 6 = .ok (.iload_n 0, 1) := by decide +kernel
theorem dL_thrown_7 : decode cL_thrown 7 = .ok (.ldc 15, 2) := by decide +kernel
theorem dL_thrown_9 : decode cL_thrown 9 = .ok (.if_icmp .eq 9, 3) := by decide +kernel
theorem dL_thrown_12 : decode cL_thrown 12 = .ok (.iload_n 0, 1) := by decide +kernel
theorem dL_thrown_13 : decode cL_thrown 13 = .ok (.ldc 26, 2) := by decide +kernel
theorem dL_thrown_15 : decode cL_thrown 15 = .ok (.if_icmp .ne 7, 3) := by decide +kernel
theorem dL_thrown_18 : decode cL_thrown 18 = .ok (.iconst 1, 1) := by decide +kernel
theorem dL_thrown_19 : decode cL_thrown 19 = .ok (.goto 4, 3) := by decide +kernel
theorem dL_thrown_22 : decode cL_thrown 22 = .ok (.iconst 0, 1) := by decide +kernel
theorem dL_thrown_23 : decode cL_thrown 23 = .ok (.ireturn, 1) := by decide +kernel
