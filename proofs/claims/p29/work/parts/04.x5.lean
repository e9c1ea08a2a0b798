set_option maxRecDepth 20000 in
theorem ggX5_init_X4_init : GoodIn wsX5_init wsX4_init := goodIn_r _ [22, 23, 2, 3, 24, 25, 46, 47] (by decide +kernel) (by decide +kernel)
set_option maxRecDepth 20000 in
theorem gX5_init_X4_init_n9 : GoodIn wsX5_init (wsX4_init) := ggX5_init_X4_init
set_option maxRecDepth 20000 in
theorem ggX5_init_X3_init : GoodIn wsX5_init wsX3_init := goodIn_r _ [27, 28, 2, 3, 29, 30, 31, 32, 33, 53, 54, 55, 56, 57, 58, 59, 60, 61, 62, 63, 64, 65, 66, 67] (by decide +kernel) (by decide +kernel)
set_option maxRecDepth 20000 in
theorem gX5_init_X3_init_n18 : GoodIn wsX5_init (wsX3_init) := ggX5_init_X3_init
set_option maxRecDepth 20000 in
theorem ggX5_init_X0_init : GoodIn wsX5_init wsX0_init := goodIn_r _ [35, 36, 2, 3, 37, 38, 68, 69, 70] (by decide +kernel) (by decide +kernel)
set_option maxRecDepth 20000 in
theorem gX5_init_X0_init_n28 : GoodIn wsX5_init (wsX0_init) := ggX5_init_X0_init
set_option maxRecDepth 20000 in
theorem ggX5_init_X2_init : GoodIn wsX5_init wsX2_init := goodIn_r _ [40, 41, 2, 3, 42, 43, 44, 45, 71, 72] (by decide +kernel) (by decide +kernel)
set_option maxRecDepth 20000 in
theorem gX5_init_X2_init_n35 : GoodIn wsX5_init (wsX2_init) := ggX5_init_X2_init
theorem dX5_init_0 : decode cX5_init 0 = .ok (.aload_n 0, 1) := by decide +kernel
theorem dX5_init_1 : decode cX5_init 1 = .ok (.invokespecial 1, 3) := by decide +kernel
theorem dX5_init_4 : decode cX5_init 4 = .ok (.aload_n 0, 1) := by decide +kernel
theorem dX5_init_5 : decode cX5_init 5 = .ok (.new 7, 3) := by decide +kernel
theorem dX5_init_8 : decode cX5_init 8 = .ok (.dup, 1) := by decide +kernel
theorem dX5_init_9 : decode cX5_init 9 = .ok (.invokespecial 9, 3) := by decide +kernel
theorem dX5_init_12 : decode cX5_init 12 = .ok (.putfield 10, 3) := by decide +kernel
theorem dX5_init_15 : decode cX5_init 15 = .ok (.aload_n 0, 1) := by decide +kernel
theorem dX5_init_16 : decode cX5_init 16 = .ok (.new 16, 3) := by decide +kernel
theorem dX5_init_19 : decode cX5_init 19 = .ok (.dup, 1) := by decide +kernel
theorem dX5_init_20 : decode cX5_init 20 = .ok (.invokespecial 18, 3) := by decide +kernel
theorem dX5_init_23 : decode cX5_init 23 = .ok (.putfield 19, 3) := by decide +kernel
theorem dX5_init_26 : decode cX5_init 26 = .ok (.aload_n 0, 1) := by decide +kernel
theorem dX5_init_27 : decode cX5_init 27 = .ok (.new 16, 3) := by decide +kernel
theorem dX5_init_30 : decode cX5_init 30 = .ok (.dup, 1) := by decide +kernel
theorem dX5_init_31 : decode cX5_init 31 = .ok (.invokespecial 18, 3) := by decide +kernel
theorem dX5_init_34 : decode cX5_init 34 = .ok (.putfield 23, 3) := by decide +kernel
theorem dX5_init_37 : decode cX5_init 37 = .ok (.aload_n 0, 1) := by decide +kernel
theorem dX5_init_38 : decode cX5_init 38 = .ok (.new 26, 3) := by decide +kernel
theorem dX5_init_41 : decode cX5_init 41 = .ok (.dup, 1) := by decide +kernel
theorem dX5_init_42 : decode cX5_init 42 = .ok (.invokespecial 28, 3) := by decide +kernel
theorem dX5_init_45 : decode cX5_init 45 = .ok (.putfield 29, 3) := by decide +kernel
theorem dX5_init_48 : decode cX5_init 48 = .ok (.aload_n 0, 1) := by decide +kernel
theorem dX5_init_49 : decode cX5_init 49 = .ok (.new 33, 3) := by decide +kernel
theorem dX5_init_52 : decode cX5_init 52 = .ok (.dup, 1) := by decide +kernel
theorem dX5_init_53 : decode cX5_init 53 = .ok (.invokespecial 35, 3) := by decide +kernel
theorem dX5_init_56 : decode cX5_init 56 = .ok (.putfield 36, 3) := by decide +kernel
theorem dX5_init_59 : decode cX5_init 59 = .ok (.return_, 1) := by decide +kernel
set_option maxRecDepth 20000 in
theorem ggX5_append_X4_isFull : GoodIn wsX5_append wsX4_isFull := goodIn_r _ [10, 11, 23, 24] (by decide +kernel) (by decide +kernel)
set_option maxRecDepth 20000 in
theorem gX5_append_X4_isFull : GoodIn wsX5_append (wsV RX5 47 RX4 yX4_isFull wsX4_isFull) := goodIn_app (goodIn_of _ (by decide +kernel)) ggX5_append_X4_isFull
set_option maxRecDepth 20000 in
theorem ggX5_append_X4_add : GoodIn wsX5_append wsX4_add := goodIn_r _ [15, 16, 11, 17, 7, 8, 9, 10, 23, 24] (by decide +kernel) (by decide +kernel)
set_option maxRecDepth 20000 in
theorem gX5_append_X4_add : GoodIn wsX5_append (wsV RX5 56 RX4 yX4_add wsX4_add) := goodIn_app (goodIn_of _ (by decide +kernel)) ggX5_append_X4_add
theorem dX5_append_0 : decode cX5_append 0 = .ok (.iload_n 1, 1) := by decide +kernel
theorem dX5_append_1 : decode cX5_append 1 = .ok (.ifCond .lt 10, 3) := by decide +kernel
theorem dX5_append_4 : decode cX5_append 4 = .ok (.iload_n 1, 1) := by decide +kernel
theorem dX5_append_5 : decode cX5_append 5 = .ok (.sipush 255, 3) := by decide +kernel
theorem dX5_append_8 : decode cX5_append 8 = .ok (.if_icmp .le 13, 3) := by decide +kernel
theorem dX5_append_11 : decode cX5_append 11 = .ok (.new 40, 3) := by decide +kernel
theorem dX5_append_14 : decode cX5_append 14 = .ok (.dup, 1) := by decide +kernel
theorem dX5_append_15 : decode cX5_append 15 = .ok (.ldc 42, 2) := by decide +kernel
theorem dX5_append_17 : decode cX5_append 17 = .ok (.invokespecial 44, 3) := by decide +kernel
theorem dX5_append_20 : decode cX5_append 20 = .ok (.athrow, 1) := by decide +kernel
theorem dX5_append_21 : decode cX5_append 21 = .ok (.aload_n 0, 1) := by decide +kernel
theorem dX5_append_22 : decode cX5_append 22 = .ok (.getfield 10, 3) := by decide +kernel
theorem dX5_append_25 : decode cX5_append 25 = .ok (.invokevirtual 47, 3) := by decide +kernel
theorem dX5_append_28 : decode cX5_append 28 = .ok (.ifCond .eq 13, 3) := by decide +kernel
theorem dX5_append_31 : decode cX5_append 31 = .ok (.new 51, 3) := by decide +kernel
theorem dX5_append_34 : decode cX5_append 34 = .ok (.dup, 1) := by decide +kernel
theorem dX5_append_35 : decode cX5_append 35 = .ok (.ldc 53, 2) := by decide +kernel
theorem dX5_append_37 : decode cX5_append 37 = .ok (.invokespecial 55, 3) := by decide +kernel
theorem dX5_append_40 : decode cX5_append 40 = .ok (.athrow, 1) := by decide +kernel
theorem dX5_append_41 : decode cX5_append 41 = .ok (.aload_n 0, 1) := by decide +kernel
theorem dX5_append_42 : decode cX5_append 42 = .ok (.getfield 10, 3) := by decide +kernel
theorem dX5_append_45 : decode cX5_append 45 = .ok (.iload_n 1, 1) := by decide +kernel
theorem dX5_append_46 : decode cX5_append 46 = .ok (.i2c, 1) := by decide +kernel
theorem dX5_append_47 : decode cX5_append 47 = .ok (.invokevirtual 56, 3) := by decide +kernel
theorem dX5_append_50 : decode cX5_append 50 = .ok (.ireturn, 1) := by decide +kernel
set_option maxRecDepth 20000 in
theorem ggX5_load_X4_firstError : GoodIn wsX5_load wsX4_firstError := goodIn_r _ [11, 12, 13, 14, 15, 10, 16, 17, 18, 19, 20, 21, 22, 23, 24, 25, 26, 27, 28, 29, 30, 31, 32, 33, 148, 149] (by decide +kernel) (by decide +kernel)
set_option maxRecDepth 20000 in
theorem gX5_load_X4_firstError : GoodIn wsX5_load (wsV RX5 64 RX4 yX4_firstError wsX4_firstError) := goodIn_app (goodIn_of _ (by decide +kernel)) ggX5_load_X4_firstError
set_option maxRecDepth 20000 in
theorem ggX5_load_X0_forgetAll : GoodIn wsX5_load wsX0_forgetAll := goodIn_r _ [38, 39, 150, 151, 152] (by decide +kernel) (by decide +kernel)
set_option maxRecDepth 20000 in
theorem gX5_load_X0_forgetAll : GoodIn wsX5_load (wsV RX5 69 RX0 yX0_forgetAll wsX0_forgetAll) := goodIn_app (goodIn_of _ (by decide +kernel)) ggX5_load_X0_forgetAll
set_option maxRecDepth 20000 in
theorem ggX5_load_X2_forgetAll : GoodIn wsX5_load wsX2_forgetAll := goodIn_r _ [44, 45, 153, 154] (by decide +kernel) (by decide +kernel)
set_option maxRecDepth 20000 in
theorem gX5_load_X2_forgetAll : GoodIn wsX5_load (wsV RX5 72 RX2 yX2_forgetAll wsX2_forgetAll) := goodIn_app (goodIn_of _ (by decide +kernel)) ggX5_load_X2_forgetAll
set_option maxRecDepth 20000 in
theorem ggX5_load_X3_beginAnew : GoodIn wsX5_load wsX3_beginAnew := goodIn_r _ [50, 51, 52, 53, 54, 55, 49, 56, 57, 58, 59, 60, 61, 62, 63, 64, 65, 66, 67, 68, 69, 155, 156, 157, 158, 159, 160, 161, 162, 163, 164, 165, 166, 167, 168, 169] (by decide +kernel) (by decide +kernel)
set_option maxRecDepth 20000 in
theorem gX5_load_X3_beginAnew : GoodIn wsX5_load (wsV RX5 73 RX3 yX3_beginAnew wsX3_beginAnew) := goodIn_app (goodIn_of _ (by decide +kernel)) ggX5_load_X3_beginAnew
set_option maxRecDepth 20000 in
theorem ggX5_load_X4_tellTo : GoodIn wsX5_load wsX4_tellTo := goodIn_r _ [73, 12, 74, 75, 76, 10, 77, 17, 18, 19, 20, 21, 78, 79, 80, 81, 82, 83, 84, 54, 55, 49, 56, 57, 58, 59, 60, 61, 62, 63, 64, 65, 66, 67, 68, 69, 30, 31, 32, 33, 85, 86, 87, 88, 89, 90, 91, 92, 93, 94, 95, 96, 97, 98, 52, 99, 100, 101, 102, 103, 104, 105, 106, 107, 108, 109, 110, 51, 111, 112, 113, 114, 115, 116, 117, 118, 119, 120, 121, 122, 123, 124, 125, 126, 127, 128, 129, 130, 131, 132, 133, 134, 135, 136, 137, 138, 139, 140, 141, 142, 148, 149, 155, 156, 157, 158, 159, 160, 161, 162, 163, 164, 165, 166, 167, 168, 169] (by decide +kernel) (by decide +kernel)
set_option maxRecDepth 20000 in
theorem gX5_load_X4_tellTo : GoodIn wsX5_load (wsV RX5 76 RX4 yX4_tellTo wsX4_tellTo) := goodIn_app (goodIn_of _ (by decide +kernel)) ggX5_load_X4_tellTo
theorem dX5_load_0 : decode cX5_load 0 = .ok (.aload_n 0, 1) := by decide +kernel
theorem dX5_load_1 : decode cX5_load 1 = .ok (.getfield 10, 3) := by decide +kernel
theorem dX5_load_4 : decode cX5_load 4 = .ok (.invokevirtual 64, 3) := by decide +kernel
theorem dX5_load_7 : decode cX5_load 7 = .ok (.iconst (-1), 1) := by decide +kernel
theorem dX5_load_8 : decode cX5_load 8 = .ok (.if_icmp .eq 13, 3) := by decide +kernel
theorem dX5_load_11 : decode cX5_load 11 = .ok (.new 51, 3) := by decide +kernel
theorem dX5_load_14 : decode cX5_load 14 = .ok (.dup, 1) := by decide +kernel
theorem dX5_load_15 : decode cX5_load 15 = .ok (.ldc 67, 2) := by decide +kernel
theorem dX5_load_17 : decode cX5_load 17 = .ok (.invokespecial 55, 3) := by decide +kernel
theorem dX5_load_20 : decode cX5_load 20 = .ok (.athrow, 1) := by decide +kernel
theorem dX5_load_21 : decode cX5_load 21 = .ok (.aload_n 0, 1) := by decide +kernel
theorem dX5_load_22 : decode cX5_load 22 = .ok (.getfield 29, 3) := by decide +kernel
theorem dX5_load_25 : decode cX5_load 25 = .ok (.invokevirtual 69, 3) := by decide +kernel
theorem dX5_load_28 : decode cX5_load 28 = .ok (.aload_n 0, 1) := by decide +kernel
theorem dX5_load_29 : decode cX5_load 29 = .ok (.getfield 36, 3) := by decide +kernel
theorem dX5_load_32 : decode cX5_load 32 = .ok (.invokevirtual 72, 3) := by decide +kernel
theorem dX5_load_35 : decode cX5_load 35 = .ok (.aload_n 0, 1) := by decide +kernel
theorem dX5_load_36 : decode cX5_load 36 = .ok (.getfield 19, 3) := by decide +kernel
theorem dX5_load_39 : decode cX5_load 39 = .ok (.invokevirtual 73, 3) := by decide +kernel
theorem dX5_load_42 : decode cX5_load 42 = .ok (.aload_n 0, 1) := by decide +kernel
theorem dX5_load_43 : decode cX5_load 43 = .ok (.getfield 10, 3) := by decide +kernel
theorem dX5_load_46 : decode cX5_load 46 = .ok (.aload_n 0, 1) := by decide +kernel
theorem dX5_load_47 : decode cX5_load 47 = .ok (.getfield 19, 3) := by decide +kernel
theorem dX5_load_50 : decode cX5_load 50 = .ok (.invokevirtual 76, 3) := by decide +kernel
theorem dX5_load_53 : decode cX5_load 53 = .ok (.ireturn, 1) := by decide +kernel
set_option maxRecDepth 20000 in
theorem ggX5_about_X3_number : GoodIn wsX5_about wsX3_number := goodIn_r _ [8, 9, 10, 11, 12, 13, 14, 15, 16, 17, 18, 19, 20, 21, 7, 22, 23, 24, 25, 26, 27, 28, 29, 30, 31, 32, 33, 34, 40, 41, 42, 43, 44, 45, 46, 47, 48, 49, 50, 51, 52, 53, 54] (by decide +kernel) (by decide +kernel)
set_option maxRecDepth 20000 in
theorem gX5_about_X3_number : GoodIn wsX5_about (wsV RX5 82 RX3 yX3_number wsX3_number) := goodIn_app (goodIn_of _ (by decide +kernel)) ggX5_about_X3_number
theorem dX5_about_0 : decode cX5_about 0 = .ok (.iload_n 1, 1) := by decide +kernel
theorem dX5_about_1 : decode cX5_about 1 = .ok (.ifCond .lt 9, 3) := by decide +kernel
theorem dX5_about_4 : decode cX5_about 4 = .ok (.iload_n 1, 1) := by decide +kernel
theorem dX5_about_5 : decode cX5_about 5 = .ok (.bipush 11, 2) := by decide +kernel
theorem dX5_about_7 : decode cX5_about 7 = .ok (.if_icmp .le 13, 3) := by decide +kernel
theorem dX5_about_10 : decode cX5_about 10 = .ok (.new 40, 3) := by decide +kernel
theorem dX5_about_13 : decode cX5_about 13 = .ok (.dup, 1) := by decide +kernel
theorem dX5_about_14 : decode cX5_about 14 = .ok (.ldc 80, 2) := by decide +kernel
theorem dX5_about_16 : decode cX5_about 16 = .ok (.invokespecial 44, 3) := by decide +kernel
theorem dX5_about_19 : decode cX5_about 19 = .ok (.athrow, 1) := by decide +kernel
theorem dX5_about_20 : decode cX5_about 20 = .ok (.aload_n 0, 1) := by decide +kernel
theorem dX5_about_21 : decode cX5_about 21 = .ok (.getfield 19, 3) := by decide +kernel
theorem dX5_about_24 : decode cX5_about 24 = .ok (.iload_n 1, 1) := by decide +kernel
theorem dX5_about_25 : decode cX5_about 25 = .ok (.invokevirtual 82, 3) := by decide +kernel
theorem dX5_about_28 : decode cX5_about 28 = .ok (.ireturn, 1) := by decide +kernel
set_option maxRecDepth 20000 in
theorem ggX5_read_X5_requireLine : GoodIn wsX5_read wsX5_requireLine := goodIn_ca (goodIn_r _ [6, 7, 8, 1, 9, 10, 11, 12, 13, 14, 21, 22, 23, 24, 25, 26, 27, 28, 29, 30, 31, 32, 33, 34, 35, 36, 37, 38, 39, 40] (by decide +kernel) (by decide +kernel)) (goodIn_sub (fun _ h => List.mem_cons_of_mem _ (List.mem_append_right _ h)) (by decide +kernel))
set_option maxRecDepth 20000 in
theorem gX5_read_X5_requireLine : GoodIn wsX5_read (wsV RX5 86 RX5 yX5_requireLine wsX5_requireLine) := goodIn_app (goodIn_of _ (by decide +kernel)) ggX5_read_X5_requireLine
set_option maxRecDepth 20000 in
theorem ggX5_read_X3_valueOf : GoodIn wsX5_read wsX3_valueOf := goodIn_r _ [18, 19, 20, 10, 11, 12, 13, 14, 26, 27, 28, 29, 30, 31, 32, 33, 34, 35, 36, 37, 38, 39, 40] (by decide +kernel) (by decide +kernel)
set_option maxRecDepth 20000 in
theorem gX5_read_X3_valueOf : GoodIn wsX5_read (wsV RX5 90 RX3 yX3_valueOf wsX3_valueOf) := goodIn_app (goodIn_of _ (by decide +kernel)) ggX5_read_X3_valueOf
theorem dX5_read_0 : decode cX5_read 0 = .ok (.aload_n 0, 1) := by decide +kernel
theorem dX5_read_1 : decode cX5_read 1 = .ok (.iload_n 1, 1) := by decide +kernel
theorem dX5_read_2 : decode cX5_read 2 = .ok (.invokevirtual 86, 3) := by decide +kernel
theorem dX5_read_5 : decode cX5_read 5 = .ok (.aload_n 0, 1) := by decide +kernel
theorem dX5_read_6 : decode cX5_read 6 = .ok (.getfield 19, 3) := by decide +kernel
theorem dX5_read_9 : decode cX5_read 9 = .ok (.iload_n 1, 1) := by decide +kernel
theorem dX5_read_10 : decode cX5_read 10 = .ok (.invokevirtual 90, 3) := by decide +kernel
theorem dX5_read_13 : decode cX5_read 13 = .ok (.ireturn, 1) := by decide +kernel
set_option maxRecDepth 20000 in
theorem ggX5_place_X5_requireLine : GoodIn wsX5_place wsX5_requireLine := goodIn_ca (goodIn_r _ [6, 7, 8, 1, 9, 10, 11, 12, 13, 14, 26, 27, 28, 29, 30, 31, 32, 33, 34, 35, 36, 37, 38, 39, 40, 41, 42, 43, 44, 45] (by decide +kernel) (by decide +kernel)) (goodIn_sub (fun _ h => List.mem_cons_of_mem _ (List.mem_append_right _ h)) (by decide +kernel))
set_option maxRecDepth 20000 in
theorem gX5_place_X5_requireLine : GoodIn wsX5_place (wsV RX5 86 RX5 yX5_requireLine wsX5_requireLine) := goodIn_app (goodIn_of _ (by decide +kernel)) ggX5_place_X5_requireLine
set_option maxRecDepth 20000 in
theorem ggX5_place_X3_placeOf : GoodIn wsX5_place wsX3_placeOf := goodIn_r _ [18, 19, 20, 21, 22, 23, 12, 24, 14, 25, 31, 32, 33, 34, 35, 36, 37, 38, 39, 40, 41, 42, 43, 44, 45] (by decide +kernel) (by decide +kernel)
set_option maxRecDepth 20000 in
theorem gX5_place_X3_placeOf : GoodIn wsX5_place (wsV RX5 93 RX3 yX3_placeOf wsX3_placeOf) := goodIn_app (goodIn_of _ (by decide +kernel)) ggX5_place_X3_placeOf
theorem dX5_place_0 : decode cX5_place 0 = .ok (.aload_n 0, 1) := by decide +kernel
theorem dX5_place_1 : decode cX5_place 1 = .ok (.iload_n 1, 1) := by decide +kernel
theorem dX5_place_2 : decode cX5_place 2 = .ok (.invokevirtual 86, 3) := by decide +kernel
theorem dX5_place_5 : decode cX5_place 5 = .ok (.aload_n 0, 1) := by decide +kernel
theorem dX5_place_6 : decode cX5_place 6 = .ok (.getfield 19, 3) := by decide +kernel
theorem dX5_place_9 : decode cX5_place 9 = .ok (.iload_n 1, 1) := by decide +kernel
theorem dX5_place_10 : decode cX5_place 10 = .ok (.invokevirtual 93, 3) := by decide +kernel
theorem dX5_place_13 : decode cX5_place 13 = .ok (.ireturn, 1) := by decide +kernel
set_option maxRecDepth 20000 in
theorem ggX5_line_X5_requirePlace : GoodIn wsX5_line wsX5_requirePlace := goodIn_ca (goodIn_r _ [6, 7, 8, 1, 9, 10, 11, 12, 13, 14, 26, 27, 28, 29, 30, 31, 32, 33, 34, 35, 36, 37, 38, 39, 40, 41, 42, 43, 44, 45] (by decide +kernel) (by decide +kernel)) (goodIn_sub (fun _ h => List.mem_cons_of_mem _ (List.mem_append_right _ h)) (by decide +kernel))
set_option maxRecDepth 20000 in
theorem gX5_line_X5_requirePlace : GoodIn wsX5_line (wsV RX5 96 RX5 yX5_requirePlace wsX5_requirePlace) := goodIn_app (goodIn_of _ (by decide +kernel)) ggX5_line_X5_requirePlace
set_option maxRecDepth 20000 in
theorem ggX5_line_X3_lineAt : GoodIn wsX5_line wsX3_lineAt := goodIn_r _ [18, 19, 14, 20, 21, 22, 23, 12, 24, 25, 31, 32, 33, 34, 35, 36, 37, 38, 39, 40, 41, 42, 43, 44, 45] (by decide +kernel) (by decide +kernel)
set_option maxRecDepth 20000 in
theorem gX5_line_X3_lineAt : GoodIn wsX5_line (wsV RX5 99 RX3 yX3_lineAt wsX3_lineAt) := goodIn_app (goodIn_of _ (by decide +kernel)) ggX5_line_X3_lineAt
theorem dX5_line_0 : decode cX5_line 0 = .ok (.aload_n 0, 1) := by decide +kernel
theorem dX5_line_1 : decode cX5_line 1 = .ok (.iload_n 1, 1) := by decide +kernel
theorem dX5_line_2 : decode cX5_line 2 = .ok (.invokevirtual 96, 3) := by decide +kernel
theorem dX5_line_5 : decode cX5_line 5 = .ok (.aload_n 0, 1) := by decide +kernel
theorem dX5_line_6 : decode cX5_line 6 = .ok (.getfield 19, 3) := by decide +kernel
theorem dX5_line_9 : decode cX5_line 9 = .ok (.iload_n 1, 1) := by decide +kernel
theorem dX5_line_10 : decode cX5_line 10 = .ok (.invokevirtual 99, 3) := by decide +kernel
theorem dX5_line_13 : decode cX5_line 13 = .ok (.ireturn, 1) := by decide +kernel
set_option maxRecDepth 20000 in
theorem ggX5_wear_X5_requirePlace : GoodIn wsX5_wear wsX5_requirePlace := goodIn_ca (goodIn_r _ [6, 7, 8, 1, 9, 10, 11, 12, 13, 14, 21, 22, 23, 24, 25, 26, 27, 28, 29, 30, 31, 32, 33, 34, 35, 36, 37, 38, 39, 40] (by decide +kernel) (by decide +kernel)) (goodIn_sub (fun _ h => List.mem_cons_of_mem _ (List.mem_append_right _ h)) (by decide +kernel))
set_option maxRecDepth 20000 in
theorem gX5_wear_X5_requirePlace : GoodIn wsX5_wear (wsV RX5 96 RX5 yX5_requirePlace wsX5_requirePlace) := goodIn_app (goodIn_of _ (by decide +kernel)) ggX5_wear_X5_requirePlace
set_option maxRecDepth 20000 in
theorem ggX5_wear_X3_wearOf : GoodIn wsX5_wear wsX3_wearOf := goodIn_r _ [18, 19, 20, 10, 11, 12, 13, 14, 26, 27, 28, 29, 30, 31, 32, 33, 34, 35, 36, 37, 38, 39, 40] (by decide +kernel) (by decide +kernel)
set_option maxRecDepth 20000 in
theorem gX5_wear_X3_wearOf : GoodIn wsX5_wear (wsV RX5 102 RX3 yX3_wearOf wsX3_wearOf) := goodIn_app (goodIn_of _ (by decide +kernel)) ggX5_wear_X3_wearOf
theorem dX5_wear_0 : decode cX5_wear 0 = .ok (.aload_n 0, 1) := by decide +kernel
theorem dX5_wear_1 : decode cX5_wear 1 = .ok (.iload_n 1, 1) := by decide +kernel
theorem dX5_wear_2 : decode cX5_wear 2 = .ok (.invokevirtual 96, 3) := by decide +kernel
theorem dX5_wear_5 : decode cX5_wear 5 = .ok (.aload_n 0, 1) := by decide +kernel
theorem dX5_wear_6 : decode cX5_wear 6 = .ok (.getfield 19, 3) := by decide +kernel
theorem dX5_wear_9 : decode cX5_wear 9 = .ok (.iload_n 1, 1) := by decide +kernel
theorem dX5_wear_10 : decode cX5_wear 10 = .ok (.invokevirtual 102, 3) := by decide +kernel
theorem dX5_wear_13 : decode cX5_wear 13 = .ok (.ireturn, 1) := by decide +kernel
set_option maxRecDepth 20000 in
theorem ggX5_setting_X5_requireSetting : GoodIn wsX5_setting wsX5_requireSetting := goodIn_ca (goodIn_r _ [5, 6, 7] (by decide +kernel) (by decide +kernel)) (goodIn_sub (fun _ h => List.mem_cons_of_mem _ (List.mem_append_right _ h)) (by decide +kernel))
set_option maxRecDepth 20000 in
theorem gX5_setting_X5_requireSetting : GoodIn wsX5_setting (va_wsS RX5 105 yX5_requireSetting wsX5_requireSetting) := goodIn_app (goodIn_of _ (by decide +kernel)) ggX5_setting_X5_requireSetting
set_option maxRecDepth 20000 in
theorem ggX5_setting_X3_settingOf : GoodIn wsX5_setting wsX3_settingOf := goodIn_r _ [12, 13, 14, 20, 21, 22, 23, 24, 25, 26, 27, 28, 29, 30, 31, 32, 33, 34] (by decide +kernel) (by decide +kernel)
set_option maxRecDepth 20000 in
theorem gX5_setting_X3_settingOf : GoodIn wsX5_setting (wsV RX5 108 RX3 yX3_settingOf wsX3_settingOf) := goodIn_app (goodIn_of _ (by decide +kernel)) ggX5_setting_X3_settingOf
theorem dX5_setting_0 : decode cX5_setting 0 = .ok (.iload_n 1, 1) := by decide +kernel
theorem dX5_setting_1 : decode cX5_setting 1 = .ok (.invokestatic 105, 3) := by decide +kernel
theorem dX5_setting_4 : decode cX5_setting 4 = .ok (.aload_n 0, 1) := by decide +kernel
theorem dX5_setting_5 : decode cX5_setting 5 = .ok (.getfield 19, 3) := by decide +kernel
theorem dX5_setting_8 : decode cX5_setting 8 = .ok (.iload_n 1, 1) := by decide +kernel
theorem dX5_setting_9 : decode cX5_setting 9 = .ok (.invokevirtual 108, 3) := by decide +kernel
theorem dX5_setting_12 : decode cX5_setting 12 = .ok (.ireturn, 1) := by decide +kernel
set_option maxRecDepth 20000 in
theorem ggX5_make_X5_isShape : GoodIn wsX5_make wsX5_isShape := goodIn_r _ [8, 9, 10, 7, 11] (by decide +kernel) (by decide +kernel)
set_option maxRecDepth 20000 in
theorem gX5_make_X5_isShape : GoodIn wsX5_make (va_wsS RX5 111 yX5_isShape wsX5_isShape) := goodIn_app (goodIn_of _ (by decide +kernel)) ggX5_make_X5_isShape
set_option maxRecDepth 20000 in
theorem ggX5_make_X0_remember : GoodIn wsX5_make wsX0_remember := goodIn_r _ [16, 17, 18, 19, 20, 21, 22, 23, 24, 25, 26, 27, 28, 29, 30, 31, 32, 33, 34, 35, 36, 37, 38, 39, 40, 41, 42, 43, 44, 45, 46, 47, 48, 49, 50, 51, 52, 53, 54, 55, 73, 74, 75, 76, 77, 78, 79, 80, 81, 82, 83, 84, 85, 86, 87, 88, 89, 90] (by decide +kernel) (by decide +kernel)
set_option maxRecDepth 20000 in
theorem gX5_make_X0_remember : GoodIn wsX5_make (wsV RX5 119 RX0 yX0_remember wsX0_remember) := goodIn_app (goodIn_of _ (by decide +kernel)) ggX5_make_X0_remember
set_option maxRecDepth 20000 in
theorem ggX5_make_X3_begin : GoodIn wsX5_make wsX3_begin := goodIn_r _ [59, 41, 42, 43, 44, 45, 46, 47, 48, 49, 50, 51, 35, 36, 76, 77, 78, 79, 80, 81, 82, 83, 84, 85, 86, 87, 88, 89, 90] (by decide +kernel) (by decide +kernel)
set_option maxRecDepth 20000 in
theorem gX5_make_X3_begin : GoodIn wsX5_make (wsV RX5 123 RX3 yX3_begin wsX3_begin) := goodIn_app (goodIn_of _ (by decide +kernel)) ggX5_make_X3_begin
set_option maxRecDepth 20000 in
theorem ggX5_make_X3_placeOf : GoodIn wsX5_make wsX3_placeOf := goodIn_r _ [63, 43, 44, 64, 65, 66, 21, 67, 41, 42, 76, 77, 78, 79, 80, 81, 82, 83, 84, 85, 86, 87, 88, 89, 90] (by decide +kernel) (by decide +kernel)
set_option maxRecDepth 20000 in
theorem gX5_make_X3_placeOf : GoodIn wsX5_make (wsV RX5 93 RX3 yX3_placeOf wsX3_placeOf) := goodIn_app (goodIn_of _ (by decide +kernel)) ggX5_make_X3_placeOf
theorem dX5_make_0 : decode cX5_make 0 = .ok (.iload_n 1, 1) := by decide +kernel
theorem dX5_make_1 : decode cX5_make 1 = .ok (.iload_n 2, 1) := by decide +kernel
theorem dX5_make_2 : decode cX5_make 2 = .ok (.invokestatic 111, 3) := by decide +kernel
theorem dX5_make_5 : decode cX5_make 5 = .ok (.ifCond .ne 13, 3) := by decide +kernel
theorem dX5_make_8 : decode cX5_make 8 = .ok (.new 40, 3) := by decide +kernel
theorem dX5_make_11 : decode cX5_make 11 = .ok (.dup, 1) := by decide +kernel
theorem dX5_make_12 : decode cX5_make 12 = .ok (.ldc 115, 2) := by decide +kernel
theorem dX5_make_14 : decode cX5_make 14 = .ok (.invokespecial 44, 3) := by decide +kernel
theorem dX5_make_17 : decode cX5_make 17 = .ok (.athrow, 1) := by decide +kernel
theorem dX5_make_18 : decode cX5_make 18 = .ok (.iload_n 3, 1) := by decide +kernel
theorem dX5_make_19 : decode cX5_make 19 = .ok (.ifCond .lt 8, 3) := by decide +kernel
theorem dX5_make_22 : decode cX5_make 22 = .ok (.iload_n 3, 1) := by decide +kernel
theorem dX5_make_23 : decode cX5_make 23 = .ok (.iconst 4, 1) := by decide +kernel
theorem dX5_make_24 : decode cX5_make 24 = .ok (.if_icmp .le 13, 3) := by decide +kernel
theorem dX5_make_27 : decode cX5_make 27 = .ok (.new 40, 3) := by decide +kernel
theorem dX5_make_30 : decode cX5_make 30 = .ok (.dup, 1) := by decide +kernel
theorem dX5_make_31 : decode cX5_make 31 = .ok (.ldc 117, 2) := by decide +kernel
theorem dX5_make_33 : decode cX5_make 33 = .ok (.invokespecial 44, 3) := by decide +kernel
theorem dX5_make_36 : decode cX5_make 36 = .ok (.athrow, 1) := by decide +kernel
theorem dX5_make_37 : decode cX5_make 37 = .ok (.aload_n 0, 1) := by decide +kernel
theorem dX5_make_38 : decode cX5_make 38 = .ok (.getfield 29, 3) := by decide +kernel
theorem dX5_make_41 : decode cX5_make 41 = .ok (.aload_n 0, 1) := by decide +kernel
theorem dX5_make_42 : decode cX5_make 42 = .ok (.getfield 19, 3) := by decide +kernel
theorem dX5_make_45 : decode cX5_make 45 = .ok (.invokevirtual 119, 3) := by decide +kernel
theorem dX5_make_48 : decode cX5_make 48 = .ok (.aload_n 0, 1) := by decide +kernel
theorem dX5_make_49 : decode cX5_make 49 = .ok (.getfield 19, 3) := by decide +kernel
theorem dX5_make_52 : decode cX5_make 52 = .ok (.iload_n 1, 1) := by decide +kernel
theorem dX5_make_53 : decode cX5_make 53 = .ok (.iload_n 2, 1) := by decide +kernel
theorem dX5_make_54 : decode cX5_make 54 = .ok (.iload_n 3, 1) := by decide +kernel
theorem dX5_make_55 : decode cX5_make 55 = .ok (.invokevirtual 123, 3) := by decide +kernel
theorem dX5_make_58 : decode cX5_make 58 = .ok (.aload_n 0, 1) := by decide +kernel
theorem dX5_make_59 : decode cX5_make 59 = .ok (.getfield 19, 3) := by decide +kernel
theorem dX5_make_62 : decode cX5_make 62 = .ok (.iconst 1, 1) := by decide +kernel
theorem dX5_make_63 : decode cX5_make 63 = .ok (.invokevirtual 93, 3) := by decide +kernel
theorem dX5_make_66 : decode cX5_make 66 = .ok (.ireturn, 1) := by decide +kernel
set_option maxRecDepth 20000 in
theorem ggX5_write_X5_requireLine : GoodIn wsX5_write wsX5_requireLine := goodIn_ca (goodIn_r _ [12, 13, 14, 5, 15, 16, 17, 18, 19, 20, 87, 88, 89, 90, 91, 92, 93, 94, 95, 96, 97, 98, 99, 100, 101, 102, 103, 104, 105, 106] (by decide +kernel) (by decide +kernel)) (goodIn_sub (fun _ h => List.mem_cons_of_mem _ (List.mem_append_right _ h)) (by decide +kernel))
set_option maxRecDepth 20000 in
theorem gX5_write_X5_requireLine : GoodIn wsX5_write (wsV RX5 86 RX5 yX5_requireLine wsX5_requireLine) := goodIn_app (goodIn_of _ (by decide +kernel)) ggX5_write_X5_requireLine
set_option maxRecDepth 20000 in
theorem ggX5_write_X5_isValue : GoodIn wsX5_write wsX5_isValue := goodIn_r _ [23] (by decide +kernel) (by decide +kernel)
set_option maxRecDepth 20000 in
theorem gX5_write_X5_isValue : GoodIn wsX5_write (va_wsS RX5 127 yX5_isValue wsX5_isValue) := goodIn_app (goodIn_of _ (by decide +kernel)) ggX5_write_X5_isValue
set_option maxRecDepth 20000 in
theorem ggX5_write_X0_remember : GoodIn wsX5_write wsX0_remember := goodIn_r _ [28, 29, 30, 31, 32, 18, 33, 34, 35, 36, 37, 38, 39, 40, 41, 42, 43, 44, 45, 46, 47, 48, 49, 50, 51, 20, 52, 53, 54, 55, 56, 57, 58, 59, 60, 61, 62, 63, 64, 65, 107, 108, 109, 92, 93, 94, 95, 96, 97, 98, 99, 100, 101, 102, 103, 104, 105, 106] (by decide +kernel) (by decide +kernel)
set_option maxRecDepth 20000 in
theorem gX5_write_X0_remember : GoodIn wsX5_write (wsV RX5 119 RX0 yX0_remember wsX0_remember) := goodIn_app (goodIn_of _ (by decide +kernel)) ggX5_write_X0_remember
set_option maxRecDepth 20000 in
theorem ggX5_write_X3_writeLine : GoodIn wsX5_write wsX3_writeLine := goodIn_r _ [69, 46, 56, 58, 61, 44, 70, 16, 17, 18, 19, 20, 71, 72, 73, 74, 53, 54, 75, 76, 77, 78, 52, 79, 80, 81, 82, 47, 60, 43, 55, 59, 83, 84, 85, 86, 57, 92, 93, 94, 95, 96, 97, 98, 99, 100, 101, 102, 103, 104, 105, 106] (by decide +kernel) (by decide +kernel)
set_option maxRecDepth 20000 in
theorem gX5_write_X3_writeLine : GoodIn wsX5_write (wsV RX5 139 RX3 yX3_writeLine wsX3_writeLine) := goodIn_app (goodIn_of _ (by decide +kernel)) ggX5_write_X3_writeLine
theorem dX5_write_0 : decode cX5_write 0 = .ok (.aload_n 0, 1) := by decide +kernel
theorem dX5_write_1 : decode cX5_write 1 = .ok (.iload_n 1, 1) := by decide +kernel
theorem dX5_write_2 : decode cX5_write 2 = .ok (.invokevirtual 86, 3) := by decide +kernel
theorem dX5_write_5 : decode cX5_write 5 = .ok (.iload_n 2, 1) := by decide +kernel
theorem dX5_write_6 : decode cX5_write 6 = .ok (.invokestatic 127, 3) := by decide +kernel
theorem dX5_write_9 : decode cX5_write 9 = .ok (.ifCond .ne 13, 3) := by decide +kernel
theorem dX5_write_12 : decode cX5_write 12 = .ok (.new 40, 3) := by decide +kernel
theorem dX5_write_15 : decode cX5_write 15 = .ok (.dup, 1) := by decide +kernel
theorem dX5_write_16 : decode cX5_write 16 = .ok (.ldc 131, 2) := by decide +kernel
theorem dX5_write_18 : decode cX5_write 18 = .ok (.invokespecial 44, 3) := by decide +kernel
theorem dX5_write_21 : decode cX5_write 21 = .ok (.athrow, 1) := by decide +kernel
theorem dX5_write_22 : decode cX5_write 22 = .ok (.aload_n 0, 1) := by decide +kernel
theorem dX5_write_23 : decode cX5_write 23 = .ok (.getfield 19, 3) := by decide +kernel
theorem dX5_write_26 : decode cX5_write 26 = .ok (.getfield 133, 3) := by decide +kernel
theorem dX5_write_29 : decode cX5_write 29 = .ok (.ifCond .eq 13, 3) := by decide +kernel
theorem dX5_write_32 : decode cX5_write 32 = .ok (.new 51, 3) := by decide +kernel
theorem dX5_write_35 : decode cX5_write 35 = .ok (.dup, 1) := by decide +kernel
theorem dX5_write_36 : decode cX5_write 36 = .ok (.ldc 137, 2) := by decide +kernel
theorem dX5_write_38 : decode cX5_write 38 = .ok (.invokespecial 55, 3) := by decide +kernel
theorem dX5_write_41 : decode cX5_write 41 = .ok (.athrow, 1) := by decide +kernel
theorem dX5_write_42 : decode cX5_write 42 = .ok (.aload_n 0, 1) := by decide +kernel
theorem dX5_write_43 : decode cX5_write 43 = .ok (.getfield 29, 3) := by decide +kernel
theorem dX5_write_46 : decode cX5_write 46 = .ok (.aload_n 0, 1) := by decide +kernel
theorem dX5_write_47 : decode cX5_write 47 = .ok (.getfield 19, 3) := by decide +kernel
theorem dX5_write_50 : decode cX5_write 50 = .ok (.invokevirtual 119, 3) := by decide +kernel
theorem dX5_write_53 : decode cX5_write 53 = .ok (.aload_n 0, 1) := by decide +kernel
theorem dX5_write_54 : decode cX5_write 54 = .ok (.getfield 19, 3) := by decide +kernel
theorem dX5_write_57 : decode cX5_write 57 = .ok (.iload_n 1, 1) := by decide +kernel
theorem dX5_write_58 : decode cX5_write 58 = .ok (.iload_n 2, 1) := by decide +kernel
theorem dX5_write_59 : decode cX5_write 59 = .ok (.invokevirtual 139, 3) := by decide +kernel
theorem dX5_write_62 : decode cX5_write 62 = .ok (.ireturn, 1) := by decide +kernel
set_option maxRecDepth 20000 in
theorem ggX5_hammer_X5_requireLine : GoodIn wsX5_hammer wsX5_requireLine := goodIn_ca (goodIn_r _ [7, 8, 9, 2, 10, 11, 12, 13, 14, 15, 95, 96, 97, 98, 99, 100, 101, 102, 103, 104, 105, 106, 107, 108, 109, 110, 111, 112, 113, 114] (by decide +kernel) (by decide +kernel)) (goodIn_sub (fun _ h => List.mem_cons_of_mem _ (List.mem_append_left _ (List.mem_append_right _ h))) (by decide +kernel))
set_option maxRecDepth 20000 in
theorem gX5_hammer_X5_requireLine : GoodIn wsX5_hammer (wsV RX5 86 RX5 yX5_requireLine wsX5_requireLine) := goodIn_app (goodIn_of _ (by decide +kernel)) ggX5_hammer_X5_requireLine
set_option maxRecDepth 20000 in
theorem ggX5_hammer_X5_requireHammered : GoodIn wsX5_hammer wsX5_requireHammered := goodIn_ca (goodIn_r _ [18, 19, 20, 21, 22, 6, 23] (by decide +kernel) (by decide +kernel)) (goodIn_sub (fun _ h => List.mem_cons_of_mem _ (List.mem_append_right _ h)) (by decide +kernel))
set_option maxRecDepth 20000 in
theorem gX5_hammer_X5_requireHammered : GoodIn wsX5_hammer (va_wsS RX5 143 yX5_requireHammered wsX5_requireHammered) := goodIn_app (goodIn_of _ (by decide +kernel)) ggX5_hammer_X5_requireHammered
set_option maxRecDepth 20000 in
theorem ggX5_hammer_X0_remember : GoodIn wsX5_hammer wsX0_remember := goodIn_r _ [28, 29, 30, 31, 32, 13, 33, 34, 35, 36, 37, 38, 39, 40, 41, 42, 43, 44, 45, 46, 47, 48, 49, 50, 51, 15, 52, 53, 54, 55, 56, 57, 58, 59, 60, 61, 62, 63, 64, 65, 115, 116, 117, 100, 101, 102, 103, 104, 105, 106, 107, 108, 109, 110, 111, 112, 113, 114] (by decide +kernel) (by decide +kernel)
set_option maxRecDepth 20000 in
theorem gX5_hammer_X0_remember : GoodIn wsX5_hammer (wsV RX5 119 RX0 yX0_remember wsX0_remember) := goodIn_app (goodIn_of _ (by decide +kernel)) ggX5_hammer_X0_remember
set_option maxRecDepth 20000 in
theorem ggX5_hammer_X3_hammerLine : GoodIn wsX5_hammer wsX3_hammerLine := goodIn_r _ [69, 61, 70, 71, 72, 13, 73, 46, 74, 11, 12, 14, 15, 75, 76, 77, 78, 56, 58, 44, 79, 80, 81, 82, 53, 54, 83, 84, 85, 86, 52, 87, 88, 89, 90, 47, 60, 43, 55, 59, 91, 92, 93, 94, 57, 100, 101, 102, 103, 104, 105, 106, 107, 108, 109, 110, 111, 112, 113, 114] (by decide +kernel) (by decide +kernel)
set_option maxRecDepth 20000 in
theorem gX5_hammer_X3_hammerLine : GoodIn wsX5_hammer (wsV RX5 146 RX3 yX3_hammerLine wsX3_hammerLine) := goodIn_app (goodIn_of _ (by decide +kernel)) ggX5_hammer_X3_hammerLine
theorem dX5_hammer_0 : decode cX5_hammer 0 = .ok (.aload_n 0, 1) := by decide +kernel
theorem dX5_hammer_1 : decode cX5_hammer 1 = .ok (.iload_n 1, 1) := by decide +kernel
theorem dX5_hammer_2 : decode cX5_hammer 2 = .ok (.invokevirtual 86, 3) := by decide +kernel
theorem dX5_hammer_5 : decode cX5_hammer 5 = .ok (.iload_n 2, 1) := by decide +kernel
theorem dX5_hammer_6 : decode cX5_hammer 6 = .ok (.invokestatic 143, 3) := by decide +kernel
theorem dX5_hammer_9 : decode cX5_hammer 9 = .ok (.aload_n 0, 1) := by decide +kernel
theorem dX5_hammer_10 : decode cX5_hammer 10 = .ok (.getfield 29, 3) := by decide +kernel
theorem dX5_hammer_13 : decode cX5_hammer 13 = .ok (.aload_n 0, 1) := by decide +kernel
theorem dX5_hammer_14 : decode cX5_hammer 14 = .ok (.getfield 19, 3) := by decide +kernel
theorem dX5_hammer_17 : decode cX5_hammer 17 = .ok (.invokevirtual 119, 3) := by decide +kernel
theorem dX5_hammer_20 : decode cX5_hammer 20 = .ok (.aload_n 0, 1) := by decide +kernel
theorem dX5_hammer_21 : decode cX5_hammer 21 = .ok (.getfield 19, 3) := by decide +kernel
theorem dX5_hammer_24 : decode cX5_hammer 24 = .ok (.iload_n 1, 1) := by decide +kernel
theorem dX5_hammer_25 : decode cX5_hammer 25 = .ok (.iload_n 2, 1) := by decide +kernel
theorem dX5_hammer_26 : decode cX5_hammer 26 = .ok (.invokevirtual 146, 3) := by decide +kernel
theorem dX5_hammer_29 : decode cX5_hammer 29 = .ok (.ireturn, 1) := by decide +kernel
set_option maxRecDepth 20000 in
theorem ggX5_all_X5_isRounds : GoodIn wsX5_all wsX5_isRounds := goodIn_r _ [9] (by decide +kernel) (by decide +kernel)
set_option maxRecDepth 20000 in
theorem gX5_all_X5_isRounds : GoodIn wsX5_all (va_wsS RX5 149 yX5_isRounds wsX5_isRounds) := goodIn_app (goodIn_of _ (by decide +kernel)) ggX5_all_X5_isRounds
set_option maxRecDepth 20000 in
theorem ggX5_all_X5_requireStore : GoodIn wsX5_all wsX5_requireStore := goodIn_ca (goodIn_r _ [13, 14, 15, 4, 16, 17, 18, 19, 20, 21, 96, 97, 98, 99, 100, 101, 102, 103, 104, 105, 106, 107, 108, 109, 110, 111, 112, 113, 114, 115] (by decide +kernel) (by decide +kernel)) (goodIn_sub (fun _ h => List.mem_cons_of_mem _ (List.mem_append_right _ h)) (by decide +kernel))
set_option maxRecDepth 20000 in
theorem gX5_all_X5_requireStore : GoodIn wsX5_all (wsV RX5 154 RX5 yX5_requireStore wsX5_requireStore) := goodIn_app (goodIn_of _ (by decide +kernel)) ggX5_all_X5_requireStore
set_option maxRecDepth 20000 in
theorem ggX5_all_X0_remember : GoodIn wsX5_all wsX0_remember := goodIn_r _ [26, 27, 28, 29, 30, 19, 31, 32, 33, 34, 35, 36, 37, 38, 39, 40, 41, 42, 43, 44, 45, 46, 47, 48, 49, 21, 50, 51, 52, 53, 54, 55, 56, 57, 58, 59, 60, 61, 62, 63, 116, 117, 118, 101, 102, 103, 104, 105, 106, 107, 108, 109, 110, 111, 112, 113, 114, 115] (by decide +kernel) (by decide +kernel)
set_option maxRecDepth 20000 in
theorem gX5_all_X0_remember : GoodIn wsX5_all (wsV RX5 119 RX0 yX0_remember wsX0_remember) := goodIn_app (goodIn_of _ (by decide +kernel)) ggX5_all_X0_remember
set_option maxRecDepth 20000 in
theorem ggX5_all_X3_writeInTurn : GoodIn wsX5_all wsX3_writeInTurn := goodIn_r _ [67, 59, 21, 68, 69, 70, 19, 71, 44, 72, 73, 74, 75, 76, 77, 78, 79, 54, 56, 42, 80, 81, 82, 83, 51, 52, 84, 85, 86, 87, 50, 88, 89, 90, 91, 45, 58, 41, 53, 57, 92, 93, 94, 95, 55, 101, 102, 103, 104, 105, 106, 107, 108, 109, 110, 111, 112, 113, 114, 115] (by decide +kernel) (by decide +kernel)
set_option maxRecDepth 20000 in
theorem gX5_all_X3_writeInTurn : GoodIn wsX5_all (wsV RX5 161 RX3 yX3_writeInTurn wsX3_writeInTurn) := goodIn_app (goodIn_of _ (by decide +kernel)) ggX5_all_X3_writeInTurn
theorem dX5_all_0 : decode cX5_all 0 = .ok (.iload_n 1, 1) := by decide +kernel
theorem dX5_all_1 : decode cX5_all 1 = .ok (.invokestatic 149, 3) := by decide +kernel
theorem dX5_all_4 : decode cX5_all 4 = .ok (.ifCond .ne 13, 3) := by decide +kernel
theorem dX5_all_7 : decode cX5_all 7 = .ok (.new 40, 3) := by decide +kernel
theorem dX5_all_10 : decode cX5_all 10 = .ok (.dup, 1) := by decide +kernel
theorem dX5_all_11 : decode cX5_all 11 = .ok (.ldc 152, 2) := by decide +kernel
theorem dX5_all_13 : decode cX5_all 13 = .ok (.invokespecial 44, 3) := by decide +kernel
theorem dX5_all_16 : decode cX5_all 16 = .ok (.athrow, 1) := by decide +kernel
theorem dX5_all_17 : decode cX5_all 17 = .ok (.aload_n 0, 1) := by decide +kernel
theorem dX5_all_18 : decode cX5_all 18 = .ok (.invokevirtual 154, 3) := by decide +kernel
theorem dX5_all_21 : decode cX5_all 21 = .ok (.aload_n 0, 1) := by decide +kernel
theorem dX5_all_22 : decode cX5_all 22 = .ok (.getfield 29, 3) := by decide +kernel
theorem dX5_all_25 : decode cX5_all 25 = .ok (.aload_n 0, 1) := by decide +kernel
theorem dX5_all_26 : decode cX5_all 26 = .ok (.getfield 19, 3) := by decide +kernel
theorem dX5_all_29 : decode cX5_all 29 = .ok (.invokevirtual 119, 3) := by decide +kernel
theorem dX5_all_32 : decode cX5_all 32 = .ok (.aload_n 0, 1) := by decide +kernel
theorem dX5_all_33 : decode cX5_all 33 = .ok (.getfield 19, 3) := by decide +kernel
theorem dX5_all_36 : decode cX5_all 36 = .ok (.iload_n 1, 1) := by decide +kernel
theorem dX5_all_37 : decode cX5_all 37 = .ok (.aload_n 0, 1) := by decide +kernel
theorem dX5_all_38 : decode cX5_all 38 = .ok (.getfield 19, 3) := by decide +kernel
theorem dX5_all_41 : decode cX5_all 41 = .ok (.getfield 157, 3) := by decide +kernel
theorem dX5_all_44 : decode cX5_all 44 = .ok (.imul, 1) := by decide +kernel
theorem dX5_all_45 : decode cX5_all 45 = .ok (.invokevirtual 161, 3) := by decide +kernel
theorem dX5_all_48 : decode cX5_all 48 = .ok (.ireturn, 1) := by decide +kernel
set_option maxRecDepth 20000 in
theorem ggX5_set_X5_isSettingValue : GoodIn wsX5_set wsX5_isSettingValue := goodIn_r _ [8] (by decide +kernel) (by decide +kernel)
set_option maxRecDepth 20000 in
theorem gX5_set_X5_isSettingValue : GoodIn wsX5_set (va_wsS RX5 164 yX5_isSettingValue wsX5_isSettingValue) := goodIn_app (goodIn_of _ (by decide +kernel)) ggX5_set_X5_isSettingValue
set_option maxRecDepth 20000 in
theorem ggX5_set_X0_remember : GoodIn wsX5_set wsX0_remember := goodIn_r _ [13, 14, 15, 16, 17, 18, 19, 20, 21, 22, 23, 24, 25, 26, 27, 28, 29, 30, 31, 32, 33, 34, 35, 36, 37, 38, 39, 40, 41, 42, 43, 44, 45, 46, 47, 48, 49, 50, 51, 52, 66, 67, 68, 69, 70, 71, 72, 73, 74, 75, 76, 77, 78, 79, 80, 81, 82, 83] (by decide +kernel) (by decide +kernel)
set_option maxRecDepth 20000 in
theorem gX5_set_X0_remember : GoodIn wsX5_set (wsV RX5 119 RX0 yX0_remember wsX0_remember) := goodIn_app (goodIn_of _ (by decide +kernel)) ggX5_set_X0_remember
set_option maxRecDepth 20000 in
theorem ggX5_set_X3_settingOf : GoodIn wsX5_set wsX3_settingOf := goodIn_r _ [56, 29, 30, 69, 70, 71, 72, 73, 74, 75, 76, 77, 78, 79, 80, 81, 82, 83] (by decide +kernel) (by decide +kernel)
set_option maxRecDepth 20000 in
theorem gX5_set_X3_settingOf : GoodIn wsX5_set (wsV RX5 108 RX3 yX3_settingOf wsX3_settingOf) := goodIn_app (goodIn_of _ (by decide +kernel)) ggX5_set_X3_settingOf
set_option maxRecDepth 20000 in
theorem ggX5_set_X3_changeSetting : GoodIn wsX5_set wsX3_changeSetting := goodIn_r _ [60, 29, 30, 69, 70, 71, 72, 73, 74, 75, 76, 77, 78, 79, 80, 81, 82, 83] (by decide +kernel) (by decide +kernel)
set_option maxRecDepth 20000 in
theorem gX5_set_X3_changeSetting : GoodIn wsX5_set (wsV RX5 169 RX3 yX3_changeSetting wsX3_changeSetting) := goodIn_app (goodIn_of _ (by decide +kernel)) ggX5_set_X3_changeSetting
theorem dX5_set_0 : decode cX5_set 0 = .ok (.iload_n 1, 1) := by decide +kernel
theorem dX5_set_1 : decode cX5_set 1 = .ok (.iload_n 2, 1) := by decide +kernel
theorem dX5_set_2 : decode cX5_set 2 = .ok (.invokestatic 164, 3) := by decide +kernel
theorem dX5_set_5 : decode cX5_set 5 = .ok (.ifCond .ne 13, 3) := by decide +kernel
theorem dX5_set_8 : decode cX5_set 8 = .ok (.new 40, 3) := by decide +kernel
theorem dX5_set_11 : decode cX5_set 11 = .ok (.dup, 1) := by decide +kernel
theorem dX5_set_12 : decode cX5_set 12 = .ok (.ldc 167, 2) := by decide +kernel
theorem dX5_set_14 : decode cX5_set 14 = .ok (.invokespecial 44, 3) := by decide +kernel
theorem dX5_set_17 : decode cX5_set 17 = .ok (.athrow, 1) := by decide +kernel
theorem dX5_set_18 : decode cX5_set 18 = .ok (.aload_n 0, 1) := by decide +kernel
theorem dX5_set_19 : decode cX5_set 19 = .ok (.getfield 29, 3) := by decide +kernel
theorem dX5_set_22 : decode cX5_set 22 = .ok (.aload_n 0, 1) := by decide +kernel
theorem dX5_set_23 : decode cX5_set 23 = .ok (.getfield 19, 3) := by decide +kernel
theorem dX5_set_26 : decode cX5_set 26 = .ok (.invokevirtual 119, 3) := by decide +kernel
theorem dX5_set_29 : decode cX5_set 29 = .ok (.aload_n 0, 1) := by decide +kernel
theorem dX5_set_30 : decode cX5_set 30 = .ok (.getfield 19, 3) := by decide +kernel
theorem dX5_set_33 : decode cX5_set 33 = .ok (.iload_n 1, 1) := by decide +kernel
theorem dX5_set_34 : decode cX5_set 34 = .ok (.invokevirtual 108, 3) := by decide +kernel
theorem dX5_set_37 : decode cX5_set 37 = .ok (.istore_n 3, 1) := by decide +kernel
theorem dX5_set_38 : decode cX5_set 38 = .ok (.aload_n 0, 1) := by decide +kernel
theorem dX5_set_39 : decode cX5_set 39 = .ok (.getfield 19, 3) := by decide +kernel
theorem dX5_set_42 : decode cX5_set 42 = .ok (.iload_n 1, 1) := by decide +kernel
theorem dX5_set_43 : decode cX5_set 43 = .ok (.iload_n 2, 1) := by decide +kernel
theorem dX5_set_44 : decode cX5_set 44 = .ok (.invokevirtual 169, 3) := by decide +kernel
theorem dX5_set_47 : decode cX5_set 47 = .ok (.iload_n 3, 1) := by decide +kernel
theorem dX5_set_48 : decode cX5_set 48 = .ok (.ireturn, 1) := by decide +kernel
set_option maxRecDepth 20000 in
theorem ggX5_undo_X0_takeBack : GoodIn wsX5_undo wsX0_takeBack := goodIn_r _ [9, 10, 11, 12, 13, 14, 15, 16, 17, 18, 19, 20, 21, 22, 23, 24, 25, 26, 27, 28, 29, 30, 31, 32, 33, 34, 35, 36, 46, 47, 48, 49, 50, 51, 52, 53, 54, 55, 56, 57, 58, 59, 60, 61, 62, 63] (by decide +kernel) (by decide +kernel)
set_option maxRecDepth 20000 in
theorem gX5_undo_X0_takeBack : GoodIn wsX5_undo (wsV RX5 173 RX0 yX0_takeBack wsX0_takeBack) := goodIn_app (goodIn_of _ (by decide +kernel)) ggX5_undo_X0_takeBack
set_option maxRecDepth 20000 in
theorem ggX5_undo_X0_size : GoodIn wsX5_undo wsX0_size := goodIn_r _ [40, 11, 46, 47, 48] (by decide +kernel) (by decide +kernel)
set_option maxRecDepth 20000 in
theorem gX5_undo_X0_size : GoodIn wsX5_undo (wsV RX5 179 RX0 yX0_size wsX0_size) := goodIn_app (goodIn_of _ (by decide +kernel)) ggX5_undo_X0_size
theorem dX5_undo_0 : decode cX5_undo 0 = .ok (.aload_n 0, 1) := by decide +kernel
theorem dX5_undo_1 : decode cX5_undo 1 = .ok (.getfield 29, 3) := by decide +kernel
theorem dX5_undo_4 : decode cX5_undo 4 = .ok (.aload_n 0, 1) := by decide +kernel
theorem dX5_undo_5 : decode cX5_undo 5 = .ok (.getfield 19, 3) := by decide +kernel
theorem dX5_undo_8 : decode cX5_undo 8 = .ok (.invokevirtual 173, 3) := by decide +kernel
theorem dX5_undo_11 : decode cX5_undo 11 = .ok (.ifCond .ne 13, 3) := by decide +kernel
theorem dX5_undo_14 : decode cX5_undo 14 = .ok (.new 51, 3) := by decide +kernel
theorem dX5_undo_17 : decode cX5_undo 17 = .ok (.dup, 1) := by decide +kernel
theorem dX5_undo_18 : decode cX5_undo 18 = .ok (.ldc 177, 2) := by decide +kernel
theorem dX5_undo_20 : decode cX5_undo 20 = .ok (.invokespecial 55, 3) := by decide +kernel
theorem dX5_undo_23 : decode cX5_undo 23 = .ok (.athrow, 1) := by decide +kernel
theorem dX5_undo_24 : decode cX5_undo 24 = .ok (.aload_n 0, 1) := by decide +kernel
theorem dX5_undo_25 : decode cX5_undo 25 = .ok (.getfield 29, 3) := by decide +kernel
theorem dX5_undo_28 : decode cX5_undo 28 = .ok (.invokevirtual 179, 3) := by decide +kernel
theorem dX5_undo_31 : decode cX5_undo 31 = .ok (.ireturn, 1) := by decide +kernel
set_option maxRecDepth 20000 in
theorem ggX5_life_X5_requireLine : GoodIn wsX5_life wsX5_requireLine := goodIn_ca (goodIn_r _ [7, 8, 9, 2, 10, 11, 12, 13, 14, 15, 67, 68, 69, 70, 71, 72, 73, 74, 75, 76, 77, 78, 79, 80, 81, 82, 83, 84, 85, 86] (by decide +kernel) (by decide +kernel)) (goodIn_sub (fun _ h => List.mem_cons_of_mem _ (List.mem_append_right _ h)) (by decide +kernel))
set_option maxRecDepth 20000 in
theorem gX5_life_X5_requireLine : GoodIn wsX5_life (wsV RX5 86 RX5 yX5_requireLine wsX5_requireLine) := goodIn_app (goodIn_of _ (by decide +kernel)) ggX5_life_X5_requireLine
set_option maxRecDepth 20000 in
theorem ggX5_life_X3_copyFrom : GoodIn wsX5_life wsX3_copyFrom := goodIn_r _ [19, 15, 20, 21, 22, 23, 24, 25, 26, 27, 28, 29, 30, 31, 32, 33, 34, 35, 36, 37, 72, 73, 74, 75, 76, 77, 78, 79, 80, 81, 82, 83, 84, 85, 86] (by decide +kernel) (by decide +kernel)
set_option maxRecDepth 20000 in
theorem gX5_life_X3_copyFrom : GoodIn wsX5_life (wsV RX5 182 RX3 yX3_copyFrom wsX3_copyFrom) := goodIn_app (goodIn_of _ (by decide +kernel)) ggX5_life_X3_copyFrom
set_option maxRecDepth 20000 in
theorem ggX5_life_X3_hammerLine : GoodIn wsX5_life wsX3_hammerLine := goodIn_r _ [41, 29, 42, 43, 44, 13, 45, 32, 46, 11, 12, 14, 15, 47, 48, 49, 50, 24, 26, 31, 51, 52, 53, 54, 21, 22, 55, 56, 57, 58, 20, 59, 60, 61, 62, 37, 28, 30, 23, 27, 63, 64, 65, 66, 25, 72, 73, 74, 75, 76, 77, 78, 79, 80, 81, 82, 83, 84, 85, 86] (by decide +kernel) (by decide +kernel)
set_option maxRecDepth 20000 in
theorem gX5_life_X3_hammerLine : GoodIn wsX5_life (wsV RX5 146 RX3 yX3_hammerLine wsX3_hammerLine) := goodIn_app (goodIn_of _ (by decide +kernel)) ggX5_life_X3_hammerLine
theorem dX5_life_0 : decode cX5_life 0 = .ok (.aload_n 0, 1) := by decide +kernel
theorem dX5_life_1 : decode cX5_life 1 = .ok (.iload_n 1, 1) := by decide +kernel
theorem dX5_life_2 : decode cX5_life 2 = .ok (.invokevirtual 86, 3) := by decide +kernel
theorem dX5_life_5 : decode cX5_life 5 = .ok (.aload_n 0, 1) := by decide +kernel
theorem dX5_life_6 : decode cX5_life 6 = .ok (.getfield 23, 3) := by decide +kernel
theorem dX5_life_9 : decode cX5_life 9 = .ok (.aload_n 0, 1) := by decide +kernel
theorem dX5_life_10 : decode cX5_life 10 = .ok (.getfield 19, 3) := by decide +kernel
theorem dX5_life_13 : decode cX5_life 13 = .ok (.invokevirtual 182, 3) := by decide +kernel
theorem dX5_life_16 : decode cX5_life 16 = .ok (.aload_n 0, 1) := by decide +kernel
theorem dX5_life_17 : decode cX5_life 17 = .ok (.getfield 23, 3) := by decide +kernel
theorem dX5_life_20 : decode cX5_life 20 = .ok (.iload_n 1, 1) := by decide +kernel
theorem dX5_life_21 : decode cX5_life 21 = .ok (.sipush 2000, 3) := by decide +kernel
theorem dX5_life_24 : decode cX5_life 24 = .ok (.invokevirtual 146, 3) := by decide +kernel
theorem dX5_life_27 : decode cX5_life 27 = .ok (.ireturn, 1) := by decide +kernel
set_option maxRecDepth 20000 in
theorem ggX5_lifeOfAll_X5_requireStore : GoodIn wsX5_lifeOfAll wsX5_requireStore := goodIn_ca (goodIn_r _ [7, 8, 9, 2, 10, 11, 12, 13, 14, 15, 70, 71, 72, 73, 74, 75, 76, 77, 78, 79, 80, 81, 82, 83, 84, 85, 86, 87, 88, 89] (by decide +kernel) (by decide +kernel)) (goodIn_sub (fun _ h => List.mem_cons_of_mem _ (List.mem_append_right _ h)) (by decide +kernel))
set_option maxRecDepth 20000 in
theorem gX5_lifeOfAll_X5_requireStore : GoodIn wsX5_lifeOfAll (wsV RX5 154 RX5 yX5_requireStore wsX5_requireStore) := goodIn_app (goodIn_of _ (by decide +kernel)) ggX5_lifeOfAll_X5_requireStore
set_option maxRecDepth 20000 in
theorem ggX5_lifeOfAll_X3_copyFrom : GoodIn wsX5_lifeOfAll wsX3_copyFrom := goodIn_r _ [19, 15, 20, 21, 22, 23, 24, 25, 26, 27, 28, 29, 30, 31, 32, 33, 34, 35, 36, 37, 75, 76, 77, 78, 79, 80, 81, 82, 83, 84, 85, 86, 87, 88, 89] (by decide +kernel) (by decide +kernel)
set_option maxRecDepth 20000 in
theorem gX5_lifeOfAll_X3_copyFrom : GoodIn wsX5_lifeOfAll (wsV RX5 182 RX3 yX3_copyFrom wsX3_copyFrom) := goodIn_app (goodIn_of _ (by decide +kernel)) ggX5_lifeOfAll_X3_copyFrom
set_option maxRecDepth 20000 in
theorem ggX5_lifeOfAll_X3_writeInTurn : GoodIn wsX5_lifeOfAll wsX3_writeInTurn := goodIn_r _ [41, 29, 15, 42, 43, 44, 13, 45, 32, 46, 47, 48, 49, 50, 51, 52, 53, 24, 26, 31, 54, 55, 56, 57, 21, 22, 58, 59, 60, 61, 20, 62, 63, 64, 65, 37, 28, 30, 23, 27, 66, 67, 68, 69, 25, 75, 76, 77, 78, 79, 80, 81, 82, 83, 84, 85, 86, 87, 88, 89] (by decide +kernel) (by decide +kernel)
set_option maxRecDepth 20000 in
theorem gX5_lifeOfAll_X3_writeInTurn : GoodIn wsX5_lifeOfAll (wsV RX5 161 RX3 yX3_writeInTurn wsX3_writeInTurn) := goodIn_app (goodIn_of _ (by decide +kernel)) ggX5_lifeOfAll_X3_writeInTurn
theorem dX5_lifeOfAll_0 : decode cX5_lifeOfAll 0 = .ok (.aload_n 0, 1) := by decide +kernel
theorem dX5_lifeOfAll_1 : decode cX5_lifeOfAll 1 = .ok (.invokevirtual 154, 3) := by decide +kernel
theorem dX5_lifeOfAll_4 : decode cX5_lifeOfAll 4 = .ok (.aload_n 0, 1) := by decide +kernel
theorem dX5_lifeOfAll_5 : decode cX5_lifeOfAll 5 = .ok (.getfield 23, 3) := by decide +kernel
theorem dX5_lifeOfAll_8 : decode cX5_lifeOfAll 8 = .ok (.aload_n 0, 1) := by decide +kernel
theorem dX5_lifeOfAll_9 : decode cX5_lifeOfAll 9 = .ok (.getfield 19, 3) := by decide +kernel
theorem dX5_lifeOfAll_12 : decode cX5_lifeOfAll 12 = .ok (.invokevirtual 182, 3) := by decide +kernel
theorem dX5_lifeOfAll_15 : decode cX5_lifeOfAll 15 = .ok (.aload_n 0, 1) := by decide +kernel
theorem dX5_lifeOfAll_16 : decode cX5_lifeOfAll 16 = .ok (.getfield 23, 3) := by decide +kernel
theorem dX5_lifeOfAll_19 : decode cX5_lifeOfAll 19 = .ok (.sipush 4000, 3) := by decide +kernel
theorem dX5_lifeOfAll_22 : decode cX5_lifeOfAll 22 = .ok (.invokevirtual 161, 3) := by decide +kernel
theorem dX5_lifeOfAll_25 : decode cX5_lifeOfAll 25 = .ok (.ireturn, 1) := by decide +kernel
set_option maxRecDepth 20000 in
theorem ggX5_ifEvery_X5_requireLine : GoodIn wsX5_ifEvery wsX5_requireLine := goodIn_ca (goodIn_r _ [7, 8, 9, 10, 11, 12, 13, 14, 15, 16, 88, 89, 90, 91, 92, 93, 94, 95, 96, 97, 98, 99, 100, 101, 102, 103, 104, 105, 106, 107] (by decide +kernel) (by decide +kernel)) (goodIn_sub (fun _ h => List.mem_cons_of_mem _ (List.mem_append_right _ h)) (by decide +kernel))
set_option maxRecDepth 20000 in
theorem gX5_ifEvery_X5_requireLine : GoodIn wsX5_ifEvery (wsV RX5 86 RX5 yX5_requireLine wsX5_requireLine) := goodIn_app (goodIn_of _ (by decide +kernel)) ggX5_ifEvery_X5_requireLine
set_option maxRecDepth 20000 in
theorem ggX5_ifEvery_X5_requireHammered : GoodIn wsX5_ifEvery wsX5_requireHammered := goodIn_ca (goodIn_r _ [19, 1, 2, 20, 21, 6, 22] (by decide +kernel) (by decide +kernel)) (goodIn_sub (fun _ h => List.mem_cons_of_mem _ (List.mem_append_left _ (List.mem_append_right _ h))) (by decide +kernel))
set_option maxRecDepth 20000 in
theorem gX5_ifEvery_X5_requireHammered : GoodIn wsX5_ifEvery (va_wsS RX5 143 yX5_requireHammered wsX5_requireHammered) := goodIn_app (goodIn_of _ (by decide +kernel)) ggX5_ifEvery_X5_requireHammered
set_option maxRecDepth 20000 in
theorem ggX5_ifEvery_X5_wearIfEvery : GoodIn wsX5_ifEvery wsX5_wearIfEvery := goodIn_r _ [26, 27, 10, 28, 29, 30, 31, 14, 32, 16, 33, 34, 35, 36, 37, 38, 39, 40, 41, 42, 43, 44, 45, 46, 47, 48, 49, 50, 51, 52, 53, 54, 55, 56, 57, 58, 59, 12, 13, 15, 60, 61, 62, 63, 64, 65, 66, 67, 68, 69, 70, 71, 72, 73, 74, 75, 76, 77, 78, 79, 80, 81, 82, 83, 84, 85, 86, 87, 88, 89, 90, 91, 92, 93, 94, 95, 96, 97, 98, 99, 100, 101, 102, 103, 104, 105, 106, 107] (by decide +kernel) (by decide +kernel)
set_option maxRecDepth 20000 in
theorem gX5_ifEvery_X5_wearIfEvery : GoodIn wsX5_ifEvery (wsV RX5 187 RX5 yX5_wearIfEvery wsX5_wearIfEvery) := goodIn_app (goodIn_of _ (by decide +kernel)) ggX5_ifEvery_X5_wearIfEvery
theorem dX5_ifEvery_0 : decode cX5_ifEvery 0 = .ok (.aload_n 0, 1) := by decide +kernel
theorem dX5_ifEvery_1 : decode cX5_ifEvery 1 = .ok (.iload_n 1, 1) := by decide +kernel
theorem dX5_ifEvery_2 : decode cX5_ifEvery 2 = .ok (.invokevirtual 86, 3) := by decide +kernel
theorem dX5_ifEvery_5 : decode cX5_ifEvery 5 = .ok (.iload_n 2, 1) := by decide +kernel
theorem dX5_ifEvery_6 : decode cX5_ifEvery 6 = .ok (.iconst 1, 1) := by decide +kernel
theorem dX5_ifEvery_7 : decode cX5_ifEvery 7 = .ok (.if_icmp .lt 9, 3) := by decide +kernel
theorem dX5_ifEvery_10 : decode cX5_ifEvery 10 = .ok (.iload_n 2, 1) := by decide +kernel
theorem dX5_ifEvery_11 : decode cX5_ifEvery 11 = .ok (.bipush 50, 2) := by decide +kernel
theorem dX5_ifEvery_13 : decode cX5_ifEvery 13 = .ok (.if_icmp .le 13, 3) := by decide +kernel
theorem dX5_ifEvery_16 : decode cX5_ifEvery 16 = .ok (.new 40, 3) := by decide +kernel
theorem dX5_ifEvery_19 : decode cX5_ifEvery 19 = .ok (.dup, 1) := by decide +kernel
theorem dX5_ifEvery_20 : decode cX5_ifEvery 20 = .ok (.ldc 185, 2) := by decide +kernel
theorem dX5_ifEvery_22 : decode cX5_ifEvery 22 = .ok (.invokespecial 44, 3) := by decide +kernel
theorem dX5_ifEvery_25 : decode cX5_ifEvery 25 = .ok (.athrow, 1) := by decide +kernel
theorem dX5_ifEvery_26 : decode cX5_ifEvery 26 = .ok (.iload_n 3, 1) := by decide +kernel
theorem dX5_ifEvery_27 : decode cX5_ifEvery 27 = .ok (.invokestatic 143, 3) := by decide +kernel
theorem dX5_ifEvery_30 : decode cX5_ifEvery 30 = .ok (.aload_n 0, 1) := by decide +kernel
theorem dX5_ifEvery_31 : decode cX5_ifEvery 31 = .ok (.iload_n 1, 1) := by decide +kernel
theorem dX5_ifEvery_32 : decode cX5_ifEvery 32 = .ok (.iload_n 2, 1) := by decide +kernel
theorem dX5_ifEvery_33 : decode cX5_ifEvery 33 = .ok (.iload_n 3, 1) := by decide +kernel
theorem dX5_ifEvery_34 : decode cX5_ifEvery 34 = .ok (.invokevirtual 187, 3) := by decide +kernel
theorem dX5_ifEvery_37 : decode cX5_ifEvery 37 = .ok (.ireturn, 1) := by decide +kernel
set_option maxRecDepth 20000 in
theorem ggX5_bestEvery_X5_requireLine : GoodIn wsX5_bestEvery wsX5_requireLine := goodIn_ca (goodIn_r _ [5, 6, 7, 8, 9, 10, 11, 12, 13, 14, 88, 89, 90, 91, 92, 93, 94, 95, 96, 97, 98, 99, 100, 101, 102, 103, 104, 105, 106, 107] (by decide +kernel) (by decide +kernel)) (goodIn_sub (fun _ h => List.mem_cons_of_mem _ (List.mem_append_left _ (List.mem_append_right _ h))) (by decide +kernel))
set_option maxRecDepth 20000 in
theorem gX5_bestEvery_X5_requireLine : GoodIn wsX5_bestEvery (wsV RX5 86 RX5 yX5_requireLine wsX5_requireLine) := goodIn_app (goodIn_of _ (by decide +kernel)) ggX5_bestEvery_X5_requireLine
set_option maxRecDepth 20000 in
theorem ggX5_bestEvery_X5_requireHammered : GoodIn wsX5_bestEvery wsX5_requireHammered := goodIn_ca (goodIn_r _ [17, 18, 19, 20, 21, 4, 22] (by decide +kernel) (by decide +kernel)) (goodIn_sub (fun _ h => List.mem_cons_of_mem _ (List.mem_append_right _ h)) (by decide +kernel))
set_option maxRecDepth 20000 in
theorem gX5_bestEvery_X5_requireHammered : GoodIn wsX5_bestEvery (va_wsS RX5 143 yX5_requireHammered wsX5_requireHammered) := goodIn_app (goodIn_of _ (by decide +kernel)) ggX5_bestEvery_X5_requireHammered
set_option maxRecDepth 20000 in
theorem ggX5_bestEvery_X5_wearIfEvery : GoodIn wsX5_bestEvery wsX5_wearIfEvery := goodIn_r _ [26, 27, 8, 28, 29, 30, 31, 12, 32, 14, 33, 34, 35, 36, 37, 38, 39, 40, 41, 42, 43, 44, 45, 46, 47, 48, 49, 50, 51, 52, 53, 54, 55, 56, 57, 58, 59, 10, 11, 13, 60, 61, 62, 63, 64, 65, 66, 67, 68, 69, 70, 71, 72, 73, 74, 75, 76, 77, 78, 79, 80, 81, 82, 83, 84, 85, 86, 87, 88, 89, 90, 91, 92, 93, 94, 95, 96, 97, 98, 99, 100, 101, 102, 103, 104, 105, 106, 107] (by decide +kernel) (by decide +kernel)
set_option maxRecDepth 20000 in
theorem gX5_bestEvery_X5_wearIfEvery : GoodIn wsX5_bestEvery (wsV RX5 187 RX5 yX5_wearIfEvery wsX5_wearIfEvery) := goodIn_app (goodIn_of _ (by decide +kernel)) ggX5_bestEvery_X5_wearIfEvery
theorem dX5_bestEvery_0 : decode cX5_bestEvery 0 = .ok (.aload_n 0, 1) := by decide +kernel
theorem dX5_bestEvery_1 : decode cX5_bestEvery 1 = .ok (.iload_n 1, 1) := by decide +kernel
theorem dX5_bestEvery_2 : decode cX5_bestEvery 2 = .ok (.invokevirtual 86, 3) := by decide +kernel
theorem dX5_bestEvery_5 : decode cX5_bestEvery 5 = .ok (.iload_n 2, 1) := by decide +kernel
theorem dX5_bestEvery_6 : decode cX5_bestEvery 6 = .ok (.invokestatic 143, 3) := by decide +kernel
theorem dX5_bestEvery_9 : decode cX5_bestEvery 9 = .ok (.bipush 50, 2) := by decide +kernel
theorem dX5_bestEvery_11 : decode cX5_bestEvery 11 = .ok (.istore_n 3, 1) := by decide +kernel
theorem dX5_bestEvery_12 : decode cX5_bestEvery 12 = .ok (.aload_n 0, 1) := by decide +kernel
theorem dX5_bestEvery_13 : decode cX5_bestEvery 13 = .ok (.iload_n 1, 1) := by decide +kernel
theorem dX5_bestEvery_14 : decode cX5_bestEvery 14 = .ok (.iload_n 3, 1) := by decide +kernel
theorem dX5_bestEvery_15 : decode cX5_bestEvery 15 = .ok (.iload_n 2, 1) := by decide +kernel
theorem dX5_bestEvery_16 : decode cX5_bestEvery 16 = .ok (.invokevirtual 187, 3) := by decide +kernel
theorem dX5_bestEvery_19 : decode cX5_bestEvery 19 = .ok (.istore 4, 2) := by decide +kernel
theorem dX5_bestEvery_21 : decode cX5_bestEvery 21 = .ok (.bipush 49, 2) := by decide +kernel
theorem dX5_bestEvery_23 : decode cX5_bestEvery 23 = .ok (.istore 5, 2) := by decide +kernel
theorem dX5_bestEvery_25 : decode cX5_bestEvery 25 = .ok (.iload 5, 2) := by decide +kernel
theorem dX5_bestEvery_27 : decode cX5_bestEvery 27 = .ok (.iconst 1, 1) := by decide +kernel
theorem dX5_bestEvery_28 : decode cX5_bestEvery 28 = .ok (.if_icmp .lt 33, 3) := by decide +kernel
theorem dX5_bestEvery_31 : decode cX5_bestEvery 31 = .ok (.aload_n 0, 1) := by decide +kernel
theorem dX5_bestEvery_32 : decode cX5_bestEvery 32 = .ok (.iload_n 1, 1) := by decide +kernel
theorem dX5_bestEvery_33 : decode cX5_bestEvery 33 = .ok (.iload 5, 2) := by decide +kernel
theorem dX5_bestEvery_35 : decode cX5_bestEvery 35 = .ok (.iload_n 2, 1) := by decide +kernel
theorem dX5_bestEvery_36 : decode cX5_bestEvery 36 = .ok (.invokevirtual 187, 3) := by decide +kernel
theorem dX5_bestEvery_39 : decode cX5_bestEvery 39 = .ok (.istore 6, 2) := by decide +kernel
theorem dX5_bestEvery_41 : decode cX5_bestEvery 41 = .ok (.iload 6, 2) := by decide +kernel
theorem dX5_bestEvery_43 : decode cX5_bestEvery 43 = .ok (.iload 4, 2) := by decide +kernel
theorem dX5_bestEvery_45 : decode cX5_bestEvery 45 = .ok (.if_icmp .ge 10, 3) := by decide +kernel
theorem dX5_bestEvery_48 : decode cX5_bestEvery 48 = .ok (.iload 6, 2) := by decide +kernel
theorem dX5_bestEvery_50 : decode cX5_bestEvery 50 = .ok (.istore 4, 2) := by decide +kernel
theorem dX5_bestEvery_52 : decode cX5_bestEvery 52 = .ok (.iload 5, 2) := by decide +kernel
theorem dX5_bestEvery_54 : decode cX5_bestEvery 54 = .ok (.istore_n 3, 1) := by decide +kernel
theorem dX5_bestEvery_55 : decode cX5_bestEvery 55 = .ok (.iinc 5 (-1), 3) := by decide +kernel
theorem dX5_bestEvery_58 : decode cX5_bestEvery 58 = .ok (.goto (-33), 3) := by decide +kernel
theorem dX5_bestEvery_61 : decode cX5_bestEvery 61 = .ok (.iload_n 3, 1) := by decide +kernel
theorem dX5_bestEvery_62 : decode cX5_bestEvery 62 = .ok (.ireturn, 1) := by decide +kernel
set_option maxRecDepth 20000 in
theorem ggX5_movesTo_X5_requireLine : GoodIn wsX5_movesTo wsX5_requireLine := goodIn_ca (goodIn_r _ [6, 7, 8, 1, 9, 10, 11, 12, 13, 14, 26, 27, 28, 29, 30, 31, 32, 33, 34, 35, 36, 37, 38, 39, 40, 41, 42, 43, 44, 45] (by decide +kernel) (by decide +kernel)) (goodIn_sub (fun _ h => List.mem_cons_of_mem _ (List.mem_append_right _ h)) (by decide +kernel))
set_option maxRecDepth 20000 in
theorem gX5_movesTo_X5_requireLine : GoodIn wsX5_movesTo (wsV RX5 86 RX5 yX5_requireLine wsX5_requireLine) := goodIn_app (goodIn_of _ (by decide +kernel)) ggX5_movesTo_X5_requireLine
set_option maxRecDepth 20000 in
theorem ggX5_movesTo_X3_movesUntilMoved : GoodIn wsX5_movesTo wsX3_movesUntilMoved := goodIn_r _ [18, 19, 20, 14, 21, 22, 23, 12, 24, 25, 31, 32, 33, 34, 35, 36, 37, 38, 39, 40, 41, 42, 43, 44, 45] (by decide +kernel) (by decide +kernel)
set_option maxRecDepth 20000 in
theorem gX5_movesTo_X3_movesUntilMoved : GoodIn wsX5_movesTo (wsV RX5 191 RX3 yX3_movesUntilMoved wsX3_movesUntilMoved) := goodIn_app (goodIn_of _ (by decide +kernel)) ggX5_movesTo_X3_movesUntilMoved
theorem dX5_movesTo_0 : decode cX5_movesTo 0 = .ok (.aload_n 0, 1) := by decide +kernel
theorem dX5_movesTo_1 : decode cX5_movesTo 1 = .ok (.iload_n 1, 1) := by decide +kernel
theorem dX5_movesTo_2 : decode cX5_movesTo 2 = .ok (.invokevirtual 86, 3) := by decide +kernel
theorem dX5_movesTo_5 : decode cX5_movesTo 5 = .ok (.aload_n 0, 1) := by decide +kernel
theorem dX5_movesTo_6 : decode cX5_movesTo 6 = .ok (.getfield 19, 3) := by decide +kernel
theorem dX5_movesTo_9 : decode cX5_movesTo 9 = .ok (.iload_n 1, 1) := by decide +kernel
theorem dX5_movesTo_10 : decode cX5_movesTo 10 = .ok (.invokevirtual 191, 3) := by decide +kernel
theorem dX5_movesTo_13 : decode cX5_movesTo 13 = .ok (.ireturn, 1) := by decide +kernel
set_option maxRecDepth 20000 in
theorem ggX5_placeBehind_X5_requireLine : GoodIn wsX5_placeBehind wsX5_requireLine := goodIn_ca (goodIn_r _ [8, 9, 10, 3, 11, 12, 13, 14, 15, 16, 29, 30, 31, 32, 33, 34, 35, 36, 37, 38, 39, 40, 41, 42, 43, 44, 45, 46, 47, 48] (by decide +kernel) (by decide +kernel)) (goodIn_sub (fun _ h => List.mem_cons_of_mem _ (List.mem_append_right _ h)) (by decide +kernel))
set_option maxRecDepth 20000 in
theorem gX5_placeBehind_X5_requireLine : GoodIn wsX5_placeBehind (wsV RX5 86 RX5 yX5_requireLine wsX5_requireLine) := goodIn_app (goodIn_of _ (by decide +kernel)) ggX5_placeBehind_X5_requireLine
set_option maxRecDepth 20000 in
theorem ggX5_placeBehind_X3_placeAfterMoves : GoodIn wsX5_placeBehind wsX3_placeAfterMoves := goodIn_r _ [20, 16, 21, 22, 23, 12, 13, 14, 15, 24, 25, 26, 27, 28, 34, 35, 36, 37, 38, 39, 40, 41, 42, 43, 44, 45, 46, 47, 48] (by decide +kernel) (by decide +kernel)
set_option maxRecDepth 20000 in
theorem gX5_placeBehind_X3_placeAfterMoves : GoodIn wsX5_placeBehind (wsV RX5 196 RX3 yX3_placeAfterMoves wsX3_placeAfterMoves) := goodIn_app (goodIn_of _ (by decide +kernel)) ggX5_placeBehind_X3_placeAfterMoves
theorem dX5_placeBehind_0 : decode cX5_placeBehind 0 = .ok (.aload_n 0, 1) := by decide +kernel
theorem dX5_placeBehind_1 : decode cX5_placeBehind 1 = .ok (.iload_n 1, 1) := by decide +kernel
theorem dX5_placeBehind_2 : decode cX5_placeBehind 2 = .ok (.invokevirtual 86, 3) := by decide +kernel
theorem dX5_placeBehind_5 : decode cX5_placeBehind 5 = .ok (.iload_n 2, 1) := by decide +kernel
theorem dX5_placeBehind_6 : decode cX5_placeBehind 6 = .ok (.ifCond .lt 10, 3) := by decide +kernel
theorem dX5_placeBehind_9 : decode cX5_placeBehind 9 = .ok (.iload_n 2, 1) := by decide +kernel
theorem dX5_placeBehind_10 : decode cX5_placeBehind 10 = .ok (.sipush 9999, 3) := by decide +kernel
theorem dX5_placeBehind_13 : decode cX5_placeBehind 13 = .ok (.if_icmp .le 13, 3) := by decide +kernel
theorem dX5_placeBehind_16 : decode cX5_placeBehind 16 = .ok (.new 40, 3) := by decide +kernel
theorem dX5_placeBehind_19 : decode cX5_placeBehind 19 = .ok (.dup, 1) := by decide +kernel
theorem dX5_placeBehind_20 : decode cX5_placeBehind 20 = .ok (.ldc 194, 2) := by decide +kernel
theorem dX5_placeBehind_22 : decode cX5_placeBehind 22 = .ok (.invokespecial 44, 3) := by decide +kernel
theorem dX5_placeBehind_25 : decode cX5_placeBehind 25 = .ok (.athrow, 1) := by decide +kernel
theorem dX5_placeBehind_26 : decode cX5_placeBehind 26 = .ok (.aload_n 0, 1) := by decide +kernel
theorem dX5_placeBehind_27 : decode cX5_placeBehind 27 = .ok (.getfield 19, 3) := by decide +kernel
theorem dX5_placeBehind_30 : decode cX5_placeBehind 30 = .ok (.iload_n 1, 1) := by decide +kernel
theorem dX5_placeBehind_31 : decode cX5_placeBehind 31 = .ok (.iload_n 2, 1) := by decide +kernel
theorem dX5_placeBehind_32 : decode cX5_placeBehind 32 = .ok (.invokevirtual 196, 3) := by decide +kernel
theorem dX5_placeBehind_35 : decode cX5_placeBehind 35 = .ok (.ireturn, 1) := by decide +kernel
set_option maxRecDepth 20000 in
theorem ggX5_runScript_X5_withoutLastCommands : GoodIn wsX5_runScript wsX5_withoutLastCommands := goodIn_r _ [9, 5] (by decide +kernel) (by decide +kernel)
set_option maxRecDepth 20000 in
theorem gX5_runScript_X5_withoutLastCommands : GoodIn wsX5_runScript (va_wsS RX5 201 yX5_withoutLastCommands wsX5_withoutLastCommands) := goodIn_app (goodIn_of _ (by decide +kernel)) ggX5_runScript_X5_withoutLastCommands
set_option maxRecDepth 20000 in
theorem ggX5_runScript_X3_copyFrom : GoodIn wsX5_runScript wsX3_copyFrom := goodIn_r _ [14, 15, 16, 17, 18, 19, 20, 21, 22, 23, 24, 25, 26, 27, 28, 29, 30, 31, 32, 33, 127, 128, 129, 130, 131, 132, 133, 134, 135, 136, 137, 138, 139, 140, 141] (by decide +kernel) (by decide +kernel)
set_option maxRecDepth 20000 in
theorem gX5_runScript_X3_copyFrom : GoodIn wsX5_runScript (wsV RX5 182 RX3 yX3_copyFrom wsX3_copyFrom) := goodIn_app (goodIn_of _ (by decide +kernel)) ggX5_runScript_X3_copyFrom
set_option maxRecDepth 20000 in
theorem ggX5_runScript_X1_succeeds : GoodIn wsX5_runScript wsX1_succeeds := goodIn_r _ [37, 38, 39, 40, 41, 42, 43, 13, 44, 25, 45, 46, 47, 48, 15, 49, 8, 50, 51, 52, 53, 54, 28, 20, 22, 27, 55, 56, 57, 58, 17, 18, 59, 60, 61, 62, 16, 63, 64, 65, 66, 33, 24, 26, 19, 23, 67, 68, 69, 70, 21, 71, 72, 73, 74, 75, 76, 77, 78, 79, 80, 81, 82, 83, 84, 85, 86, 87, 88, 89, 90, 91, 92, 93, 94, 95, 96, 97, 98, 99, 100, 101, 102, 103, 104, 105, 106, 107, 108, 109, 110, 111, 112, 113, 114, 115, 116, 117, 118, 119, 120, 121, 127, 128, 129, 130, 131, 132, 133, 134, 135, 136, 137, 138, 139, 140, 141] (by decide +kernel) (by decide +kernel)
set_option maxRecDepth 20000 in
theorem gX5_runScript_X1_succeeds : GoodIn wsX5_runScript (va_wsS RX5 209 yX1_succeeds wsX1_succeeds) := goodIn_app (goodIn_of _ (by decide +kernel)) ggX5_runScript_X1_succeeds
theorem dX5_runScript_0 : decode cX5_runScript 0 = .ok (.iload_n 1, 1) := by decide +kernel
theorem dX5_runScript_1 : decode cX5_runScript 1 = .ok (.iconst 1, 1) := by decide +kernel
theorem dX5_runScript_2 : decode cX5_runScript 2 = .ok (.if_icmp .lt 8, 3) := by decide +kernel
theorem dX5_runScript_5 : decode cX5_runScript 5 = .ok (.iload_n 1, 1) := by decide +kernel
theorem dX5_runScript_6 : decode cX5_runScript 6 = .ok (.iconst 3, 1) := by decide +kernel
theorem dX5_runScript_7 : decode cX5_runScript 7 = .ok (.if_icmp .le 13, 3) := by decide +kernel
theorem dX5_runScript_10 : decode cX5_runScript 10 = .ok (.new 40, 3) := by decide +kernel
theorem dX5_runScript_13 : decode cX5_runScript 13 = .ok (.dup, 1) := by decide +kernel
theorem dX5_runScript_14 : decode cX5_runScript 14 = .ok (.ldc 199, 2) := by decide +kernel
theorem dX5_runScript_16 : decode cX5_runScript 16 = .ok (.invokespecial 44, 3) := by decide +kernel
theorem dX5_runScript_19 : decode cX5_runScript 19 = .ok (.athrow, 1) := by decide +kernel
theorem dX5_runScript_20 : decode cX5_runScript 20 = .ok (.lload_n 2, 1) := by decide +kernel
theorem dX5_runScript_21 : decode cX5_runScript 21 = .ok (.lconst 0, 1) := by decide +kernel
theorem dX5_runScript_22 : decode cX5_runScript 22 = .ok (.lcmp, 1) := by decide +kernel
theorem dX5_runScript_23 : decode cX5_runScript 23 = .ok (.ifCond .lt 13, 3) := by decide +kernel
theorem dX5_runScript_26 : decode cX5_runScript 26 = .ok (.lload_n 2, 1) := by decide +kernel
theorem dX5_runScript_27 : decode cX5_runScript 27 = .ok (.iload_n 1, 1) := by decide +kernel
theorem dX5_runScript_28 : decode cX5_runScript 28 = .ok (.invokestatic 201, 3) := by decide +kernel
theorem dX5_runScript_31 : decode cX5_runScript 31 = .ok (.lconst 0, 1) := by decide +kernel
theorem dX5_runScript_32 : decode cX5_runScript 32 = .ok (.lcmp, 1) := by decide +kernel
theorem dX5_runScript_33 : decode cX5_runScript 33 = .ok (.ifCond .eq 13, 3) := by decide +kernel
theorem dX5_runScript_36 : decode cX5_runScript 36 = .ok (.new 40, 3) := by decide +kernel
theorem dX5_runScript_39 : decode cX5_runScript 39 = .ok (.dup, 1) := by decide +kernel
theorem dX5_runScript_40 : decode cX5_runScript 40 = .ok (.ldc 205, 2) := by decide +kernel
theorem dX5_runScript_42 : decode cX5_runScript 42 = .ok (.invokespecial 44, 3) := by decide +kernel
theorem dX5_runScript_45 : decode cX5_runScript 45 = .ok (.athrow, 1) := by decide +kernel
theorem dX5_runScript_46 : decode cX5_runScript 46 = .ok (.aload_n 0, 1) := by decide +kernel
theorem dX5_runScript_47 : decode cX5_runScript 47 = .ok (.getfield 23, 3) := by decide +kernel
theorem dX5_runScript_50 : decode cX5_runScript 50 = .ok (.aload_n 0, 1) := by decide +kernel
theorem dX5_runScript_51 : decode cX5_runScript 51 = .ok (.getfield 19, 3) := by decide +kernel
theorem dX5_runScript_54 : decode cX5_runScript 54 = .ok (.invokevirtual 182, 3) := by decide +kernel
theorem dX5_runScript_57 : decode cX5_runScript 57 = .ok (.iconst 0, 1) := by decide +kernel
theorem dX5_runScript_58 : decode cX5_runScript 58 = .ok (.istore 4, 2) := by decide +kernel
theorem dX5_runScript_60 : decode cX5_runScript 60 = .ok (.iload 4, 2) := by decide +kernel
theorem dX5_runScript_62 : decode cX5_runScript 62 = .ok (.iload_n 1, 1) := by decide +kernel
theorem dX5_runScript_63 : decode cX5_runScript 63 = .ok (.if_icmp .ge 41, 3) := by decide +kernel
theorem dX5_runScript_66 : decode cX5_runScript 66 = .ok (.lload_n 2, 1) := by decide +kernel
theorem dX5_runScript_67 : decode cX5_runScript 67 = .ok (.iload_n 1, 1) := by decide +kernel
theorem dX5_runScript_68 : decode cX5_runScript 68 = .ok (.iconst 1, 1) := by decide +kernel
theorem dX5_runScript_69 : decode cX5_runScript 69 = .ok (.isub, 1) := by decide +kernel
theorem dX5_runScript_70 : decode cX5_runScript 70 = .ok (.iload 4, 2) := by decide +kernel
theorem dX5_runScript_72 : decode cX5_runScript 72 = .ok (.isub, 1) := by decide +kernel
theorem dX5_runScript_73 : decode cX5_runScript 73 = .ok (.invokestatic 201, 3) := by decide +kernel
theorem dX5_runScript_76 : decode cX5_runScript 76 = .ok (.ldc2_w 207, 3) := by decide +kernel
theorem dX5_runScript_79 : decode cX5_runScript 79 = .ok (.lrem, 1) := by decide +kernel
theorem dX5_runScript_80 : decode cX5_runScript 80 = .ok (.l2i, 1) := by decide +kernel
theorem dX5_runScript_81 : decode cX5_runScript 81 = .ok (.istore 5, 2) := by decide +kernel
theorem dX5_runScript_83 : decode cX5_runScript 83 = .ok (.aload_n 0, 1) := by decide +kernel
theorem dX5_runScript_84 : decode cX5_runScript 84 = .ok (.getfield 23, 3) := by decide +kernel
theorem dX5_runScript_87 : decode cX5_runScript 87 = .ok (.iload 5, 2) := by decide +kernel
theorem dX5_runScript_89 : decode cX5_runScript 89 = .ok (.invokestatic 209, 3) := by decide +kernel
theorem dX5_runScript_92 : decode cX5_runScript 92 = .ok (.ifCond .ne 6, 3) := by decide +kernel
theorem dX5_runScript_95 : decode cX5_runScript 95 = .ok (.iload 4, 2) := by decide +kernel
theorem dX5_runScript_97 : decode cX5_runScript 97 = .ok (.ireturn, 1) := by decide +kernel
theorem dX5_runScript_98 : decode cX5_runScript 98 = .ok (.iinc 4 1, 3) := by decide +kernel
theorem dX5_runScript_101 : decode cX5_runScript 101 = .ok (.goto (-41), 3) := by decide +kernel
theorem dX5_runScript_104 : decode cX5_runScript 104 = .ok (.iconst (-1), 1) := by decide +kernel
theorem dX5_runScript_105 : decode cX5_runScript 105 = .ok (.ireturn, 1) := by decide +kernel
set_option maxRecDepth 20000 in
theorem ggX5_simulate_X3_exists : GoodIn wsX5_simulate wsX3_exists := goodIn_r _ [10, 11, 78, 79, 80, 81, 82, 83, 84, 85, 86, 87, 88, 89, 90, 91, 92] (by decide +kernel) (by decide +kernel)
set_option maxRecDepth 20000 in
theorem gX5_simulate_X3_exists : GoodIn wsX5_simulate (wsV RX5 217 RX3 yX3_exists wsX3_exists) := goodIn_app (goodIn_of _ (by decide +kernel)) ggX5_simulate_X3_exists
set_option maxRecDepth 20000 in
theorem ggX5_simulate_X3_copyFrom : GoodIn wsX5_simulate wsX3_copyFrom := goodIn_r _ [15, 11, 16, 17, 18, 19, 20, 21, 22, 23, 24, 25, 26, 27, 28, 29, 30, 31, 32, 33, 78, 79, 80, 81, 82, 83, 84, 85, 86, 87, 88, 89, 90, 91, 92] (by decide +kernel) (by decide +kernel)
set_option maxRecDepth 20000 in
theorem gX5_simulate_X3_copyFrom : GoodIn wsX5_simulate (wsV RX5 182 RX3 yX3_copyFrom wsX3_copyFrom) := goodIn_app (goodIn_of _ (by decide +kernel)) ggX5_simulate_X3_copyFrom
set_option maxRecDepth 20000 in
theorem ggX5_simulate_X3_writeByChance : GoodIn wsX5_simulate wsX3_writeByChance := goodIn_r _ [37, 38, 39, 11, 25, 40, 7, 8, 9, 10, 41, 42, 43, 44, 28, 20, 22, 27, 45, 46, 47, 48, 49, 50, 51, 52, 17, 18, 53, 54, 55, 56, 16, 57, 58, 59, 60, 33, 24, 26, 19, 23, 61, 62, 63, 64, 21, 78, 79, 80, 81, 82, 83, 84, 85, 86, 87, 88, 89, 90, 91, 92] (by decide +kernel) (by decide +kernel)
set_option maxRecDepth 20000 in
theorem gX5_simulate_X3_writeByChance : GoodIn wsX5_simulate (wsV RX5 220 RX3 yX3_writeByChance wsX3_writeByChance) := goodIn_app (goodIn_of _ (by decide +kernel)) ggX5_simulate_X3_writeByChance
set_option maxRecDepth 20000 in
theorem ggX5_simulate_X3_greatestWear : GoodIn wsX5_simulate wsX3_greatestWear := goodIn_r _ [68, 33, 11, 69, 70, 71, 72, 78, 79, 80, 81, 82, 83, 84, 85, 86, 87, 88, 89, 90, 91, 92] (by decide +kernel) (by decide +kernel)
set_option maxRecDepth 20000 in
theorem gX5_simulate_X3_greatestWear : GoodIn wsX5_simulate (wsV RX5 227 RX3 yX3_greatestWear wsX3_greatestWear) := goodIn_app (goodIn_of _ (by decide +kernel)) ggX5_simulate_X3_greatestWear
theorem dX5_simulate_0 : decode cX5_simulate 0 = .ok (.iload_n 3, 1) := by decide +kernel
theorem dX5_simulate_1 : decode cX5_simulate 1 = .ok (.iconst 1, 1) := by decide +kernel
theorem dX5_simulate_2 : decode cX5_simulate 2 = .ok (.if_icmp .lt 10, 3) := by decide +kernel
theorem dX5_simulate_5 : decode cX5_simulate 5 = .ok (.iload_n 3, 1) := by decide +kernel
theorem dX5_simulate_6 : decode cX5_simulate 6 = .ok (.sipush 300, 3) := by decide +kernel
theorem dX5_simulate_9 : decode cX5_simulate 9 = .ok (.if_icmp .le 13, 3) := by decide +kernel
theorem dX5_simulate_12 : decode cX5_simulate 12 = .ok (.new 40, 3) := by decide +kernel
theorem dX5_simulate_15 : decode cX5_simulate 15 = .ok (.dup, 1) := by decide +kernel
theorem dX5_simulate_16 : decode cX5_simulate 16 = .ok (.ldc 215, 2) := by decide +kernel
theorem dX5_simulate_18 : decode cX5_simulate 18 = .ok (.invokespecial 44, 3) := by decide +kernel
theorem dX5_simulate_21 : decode cX5_simulate 21 = .ok (.athrow, 1) := by decide +kernel
theorem dX5_simulate_22 : decode cX5_simulate 22 = .ok (.aload_n 0, 1) := by decide +kernel
theorem dX5_simulate_23 : decode cX5_simulate 23 = .ok (.getfield 19, 3) := by decide +kernel
theorem dX5_simulate_26 : decode cX5_simulate 26 = .ok (.invokevirtual 217, 3) := by decide +kernel
theorem dX5_simulate_29 : decode cX5_simulate 29 = .ok (.ifCond .ne 5, 3) := by decide +kernel
theorem dX5_simulate_32 : decode cX5_simulate 32 = .ok (.iconst 0, 1) := by decide +kernel
theorem dX5_simulate_33 : decode cX5_simulate 33 = .ok (.ireturn, 1) := by decide +kernel
theorem dX5_simulate_34 : decode cX5_simulate 34 = .ok (.aload_n 0, 1) := by decide +kernel
theorem dX5_simulate_35 : decode cX5_simulate 35 = .ok (.getfield 23, 3) := by decide +kernel
theorem dX5_simulate_38 : decode cX5_simulate 38 = .ok (.aload_n 0, 1) := by decide +kernel
theorem dX5_simulate_39 : decode cX5_simulate 39 = .ok (.getfield 19, 3) := by decide +kernel
theorem dX5_simulate_42 : decode cX5_simulate 42 = .ok (.invokevirtual 182, 3) := by decide +kernel
theorem dX5_simulate_45 : decode cX5_simulate 45 = .ok (.aload_n 0, 1) := by decide +kernel
theorem dX5_simulate_46 : decode cX5_simulate 46 = .ok (.getfield 23, 3) := by decide +kernel
theorem dX5_simulate_49 : decode cX5_simulate 49 = .ok (.lload_n 1, 1) := by decide +kernel
theorem dX5_simulate_50 : decode cX5_simulate 50 = .ok (.iload_n 3, 1) := by decide +kernel
theorem dX5_simulate_51 : decode cX5_simulate 51 = .ok (.invokevirtual 220, 3) := by decide +kernel
theorem dX5_simulate_54 : decode cX5_simulate 54 = .ok (.sipush 1000, 3) := by decide +kernel
theorem dX5_simulate_57 : decode cX5_simulate 57 = .ok (.aload_n 0, 1) := by decide +kernel
theorem dX5_simulate_58 : decode cX5_simulate 58 = .ok (.getfield 23, 3) := by decide +kernel
theorem dX5_simulate_61 : decode cX5_simulate 61 = .ok (.getfield 224, 3) := by decide +kernel
theorem dX5_simulate_64 : decode cX5_simulate 64 = .ok (.aload_n 0, 1) := by decide +kernel
theorem dX5_simulate_65 : decode cX5_simulate 65 = .ok (.getfield 19, 3) := by decide +kernel
theorem dX5_simulate_68 : decode cX5_simulate 68 = .ok (.getfield 224, 3) := by decide +kernel
theorem dX5_simulate_71 : decode cX5_simulate 71 = .ok (.isub, 1) := by decide +kernel
theorem dX5_simulate_72 : decode cX5_simulate 72 = .ok (.imul, 1) := by decide +kernel
theorem dX5_simulate_73 : decode cX5_simulate 73 = .ok (.aload_n 0, 1) := by decide +kernel
theorem dX5_simulate_74 : decode cX5_simulate 74 = .ok (.getfield 23, 3) := by decide +kernel
theorem dX5_simulate_77 : decode cX5_simulate 77 = .ok (.invokevirtual 227, 3) := by decide +kernel
theorem dX5_simulate_80 : decode cX5_simulate 80 = .ok (.iadd, 1) := by decide +kernel
theorem dX5_simulate_81 : decode cX5_simulate 81 = .ok (.ireturn, 1) := by decide +kernel
set_option maxRecDepth 20000 in
theorem ggX5_save_X5_requireSlot : GoodIn wsX5_save wsX5_requireSlot := goodIn_ca (goodIn_r _ [7, 8, 9, 10, 11, 12, 13] (by decide +kernel) (by decide +kernel)) (goodIn_sub (fun _ h => List.mem_cons_of_mem _ (List.mem_append_right _ h)) (by decide +kernel))
set_option maxRecDepth 20000 in
theorem gX5_save_X5_requireSlot : GoodIn wsX5_save (va_wsS RX5 230 yX5_requireSlot wsX5_requireSlot) := goodIn_app (goodIn_of _ (by decide +kernel)) ggX5_save_X5_requireSlot
set_option maxRecDepth 20000 in
theorem ggX5_save_X2_keep : GoodIn wsX5_save wsX2_keep := goodIn_r _ [17, 18, 19, 20, 21, 22, 23, 11, 12, 13, 24, 25, 26, 27, 28, 29, 30, 31, 32, 33, 34, 35, 36, 37, 38, 39, 40, 41, 42, 43, 44, 45, 46, 47, 48, 49, 50, 51, 52, 73, 74, 58, 59, 60, 61, 62, 63, 64, 65, 66, 67, 68, 69, 70, 71, 72] (by decide +kernel) (by decide +kernel)
set_option maxRecDepth 20000 in
theorem gX5_save_X2_keep : GoodIn wsX5_save (wsV RX5 233 RX2 yX2_keep wsX2_keep) := goodIn_app (goodIn_of _ (by decide +kernel)) ggX5_save_X2_keep
theorem dX5_save_0 : decode cX5_save 0 = .ok (.iload_n 1, 1) := by decide +kernel
theorem dX5_save_1 : decode cX5_save 1 = .ok (.invokestatic 230, 3) := by decide +kernel
theorem dX5_save_4 : decode cX5_save 4 = .ok (.aload_n 0, 1) := by decide +kernel
theorem dX5_save_5 : decode cX5_save 5 = .ok (.getfield 36, 3) := by decide +kernel
theorem dX5_save_8 : decode cX5_save 8 = .ok (.iload_n 1, 1) := by decide +kernel
theorem dX5_save_9 : decode cX5_save 9 = .ok (.aload_n 0, 1) := by decide +kernel
theorem dX5_save_10 : decode cX5_save 10 = .ok (.getfield 19, 3) := by decide +kernel
theorem dX5_save_13 : decode cX5_save 13 = .ok (.invokevirtual 233, 3) := by decide +kernel
theorem dX5_save_16 : decode cX5_save 16 = .ok (.aload_n 0, 1) := by decide +kernel
theorem dX5_save_17 : decode cX5_save 17 = .ok (.getfield 19, 3) := by decide +kernel
theorem dX5_save_20 : decode cX5_save 20 = .ok (.getfield 237, 3) := by decide +kernel
theorem dX5_save_23 : decode cX5_save 23 = .ok (.ireturn, 1) := by decide +kernel
set_option maxRecDepth 20000 in
theorem ggX5_restore_X5_requireSlot : GoodIn wsX5_restore wsX5_requireSlot := goodIn_ca (goodIn_r _ [10, 11, 12, 13, 14, 15, 16] (by decide +kernel) (by decide +kernel)) (goodIn_sub (fun _ h => List.mem_cons_of_mem _ (List.mem_append_right _ h)) (by decide +kernel))
set_option maxRecDepth 20000 in
theorem gX5_restore_X5_requireSlot : GoodIn wsX5_restore (va_wsS RX5 230 yX5_requireSlot wsX5_requireSlot) := goodIn_app (goodIn_of _ (by decide +kernel)) ggX5_restore_X5_requireSlot
set_option maxRecDepth 20000 in
theorem ggX5_restore_X2_bringBack : GoodIn wsX5_restore wsX2_bringBack := goodIn_r _ [20, 21, 22, 23, 14, 15, 16, 24, 25, 26, 27, 28, 29, 30, 31, 32, 33, 34, 35, 36, 37, 38, 39, 40, 41, 42, 43, 44, 45, 46, 47, 74, 75, 59, 60, 61, 62, 63, 64, 65, 66, 67, 68, 69, 70, 71, 72, 73] (by decide +kernel) (by decide +kernel)
set_option maxRecDepth 20000 in
theorem gX5_restore_X2_bringBack : GoodIn wsX5_restore (wsV RX5 240 RX2 yX2_bringBack wsX2_bringBack) := goodIn_app (goodIn_of _ (by decide +kernel)) ggX5_restore_X2_bringBack
set_option maxRecDepth 20000 in
theorem ggX5_restore_X0_forgetAll : GoodIn wsX5_restore wsX0_forgetAll := goodIn_r _ [52, 53, 76, 77, 78] (by decide +kernel) (by decide +kernel)
set_option maxRecDepth 20000 in
theorem gX5_restore_X0_forgetAll : GoodIn wsX5_restore (wsV RX5 69 RX0 yX0_forgetAll wsX0_forgetAll) := goodIn_app (goodIn_of _ (by decide +kernel)) ggX5_restore_X0_forgetAll
theorem dX5_restore_0 : decode cX5_restore 0 = .ok (.iload_n 1, 1) := by decide +kernel
theorem dX5_restore_1 : decode cX5_restore 1 = .ok (.invokestatic 230, 3) := by decide +kernel
theorem dX5_restore_4 : decode cX5_restore 4 = .ok (.aload_n 0, 1) := by decide +kernel
theorem dX5_restore_5 : decode cX5_restore 5 = .ok (.getfield 36, 3) := by decide +kernel
theorem dX5_restore_8 : decode cX5_restore 8 = .ok (.iload_n 1, 1) := by decide +kernel
theorem dX5_restore_9 : decode cX5_restore 9 = .ok (.aload_n 0, 1) := by decide +kernel
theorem dX5_restore_10 : decode cX5_restore 10 = .ok (.getfield 19, 3) := by decide +kernel
theorem dX5_restore_13 : decode cX5_restore 13 = .ok (.invokevirtual 240, 3) := by decide +kernel
theorem dX5_restore_16 : decode cX5_restore 16 = .ok (.ifCond .ne 13, 3) := by decide +kernel
theorem dX5_restore_19 : decode cX5_restore 19 = .ok (.new 51, 3) := by decide +kernel
theorem dX5_restore_22 : decode cX5_restore 22 = .ok (.dup, 1) := by decide +kernel
theorem dX5_restore_23 : decode cX5_restore 23 = .ok (.ldc 244, 2) := by decide +kernel
theorem dX5_restore_25 : decode cX5_restore 25 = .ok (.invokespecial 55, 3) := by decide +kernel
theorem dX5_restore_28 : decode cX5_restore 28 = .ok (.athrow, 1) := by decide +kernel
theorem dX5_restore_29 : decode cX5_restore 29 = .ok (.aload_n 0, 1) := by decide +kernel
theorem dX5_restore_30 : decode cX5_restore 30 = .ok (.getfield 29, 3) := by decide +kernel
theorem dX5_restore_33 : decode cX5_restore 33 = .ok (.invokevirtual 69, 3) := by decide +kernel
theorem dX5_restore_36 : decode cX5_restore 36 = .ok (.aload_n 0, 1) := by decide +kernel
theorem dX5_restore_37 : decode cX5_restore 37 = .ok (.getfield 19, 3) := by decide +kernel
theorem dX5_restore_40 : decode cX5_restore 40 = .ok (.getfield 237, 3) := by decide +kernel
theorem dX5_restore_43 : decode cX5_restore 43 = .ok (.ireturn, 1) := by decide +kernel
set_option maxRecDepth 20000 in
theorem ggX5_requireLine_X3_hasLine : GoodIn wsX5_requireLine wsX3_hasLine := goodIn_r _ [8, 9, 15, 16, 17, 18, 19, 20, 21, 22, 23, 24, 25, 26, 27, 28, 29] (by decide +kernel) (by decide +kernel)
set_option maxRecDepth 20000 in
theorem gX5_requireLine_X3_hasLine : GoodIn wsX5_requireLine (wsV RX5 246 RX3 yX3_hasLine wsX3_hasLine) := goodIn_app (goodIn_of _ (by decide +kernel)) ggX5_requireLine_X3_hasLine
theorem dX5_requireLine_0 : decode cX5_requireLine 0 = .ok (.aload_n 0, 1) := by decide +kernel
theorem dX5_requireLine_1 : decode cX5_requireLine 1 = .ok (.getfield 19, 3) := by decide +kernel
theorem dX5_requireLine_4 : decode cX5_requireLine 4 = .ok (.iload_n 1, 1) := by decide +kernel
theorem dX5_requireLine_5 : decode cX5_requireLine 5 = .ok (.invokevirtual 246, 3) := by decide +kernel
theorem dX5_requireLine_8 : decode cX5_requireLine 8 = .ok (.ifCond .ne 13, 3) := by decide +kernel
theorem dX5_requireLine_11 : decode cX5_requireLine 11 = .ok (.new 249, 3) := by decide +kernel
theorem dX5_requireLine_14 : decode cX5_requireLine 14 = .ok (.dup, 1) := by decide +kernel
theorem dX5_requireLine_15 : decode cX5_requireLine 15 = .ok (.ldc 251, 2) := by decide +kernel
theorem dX5_requireLine_17 : decode cX5_requireLine 17 = .ok (.invokespecial 253, 3) := by decide +kernel
theorem dX5_requireLine_20 : decode cX5_requireLine 20 = .ok (.athrow, 1) := by decide +kernel
theorem dX5_requireLine_21 : decode cX5_requireLine 21 = .ok (.return_, 1) := by decide +kernel
set_option maxRecDepth 20000 in
theorem ggX5_requirePlace_X3_hasPlace : GoodIn wsX5_requirePlace wsX3_hasPlace := goodIn_r _ [8, 9, 15, 16, 17, 18, 19, 20, 21, 22, 23, 24, 25, 26, 27, 28, 29] (by decide +kernel) (by decide +kernel)
set_option maxRecDepth 20000 in
theorem gX5_requirePlace_X3_hasPlace : GoodIn wsX5_requirePlace (wsV RX5 254 RX3 yX3_hasPlace wsX3_hasPlace) := goodIn_app (goodIn_of _ (by decide +kernel)) ggX5_requirePlace_X3_hasPlace
theorem dX5_requirePlace_0 : decode cX5_requirePlace 0 = .ok (.aload_n 0, 1) := by decide +kernel
theorem dX5_requirePlace_1 : decode cX5_requirePlace 1 = .ok (.getfield 19, 3) := by decide +kernel
theorem dX5_requirePlace_4 : decode cX5_requirePlace 4 = .ok (.iload_n 1, 1) := by decide +kernel
theorem dX5_requirePlace_5 : decode cX5_requirePlace 5 = .ok (.invokevirtual 254, 3) := by decide +kernel
theorem dX5_requirePlace_8 : decode cX5_requirePlace 8 = .ok (.ifCond .ne 14, 3) := by decide +kernel
theorem dX5_requirePlace_11 : decode cX5_requirePlace 11 = .ok (.new 249, 3) := by decide +kernel
theorem dX5_requirePlace_14 : decode cX5_requirePlace 14 = .ok (.dup, 1) := by decide +kernel
theorem dX5_requirePlace_15 : decode cX5_requirePlace 15 = .ok (.ldc_w 257, 3) := by decide +kernel
theorem dX5_requirePlace_18 : decode cX5_requirePlace 18 = .ok (.invokespecial 253, 3) := by decide +kernel
theorem dX5_requirePlace_21 : decode cX5_requirePlace 21 = .ok (.athrow, 1) := by decide +kernel
theorem dX5_requirePlace_22 : decode cX5_requirePlace 22 = .ok (.return_, 1) := by decide +kernel
set_option maxRecDepth 20000 in
theorem ggX5_requireStore_X3_exists : GoodIn wsX5_requireStore wsX3_exists := goodIn_r _ [8, 9, 15, 16, 17, 18, 19, 20, 21, 22, 23, 24, 25, 26, 27, 28, 29] (by decide +kernel) (by decide +kernel)
set_option maxRecDepth 20000 in
theorem gX5_requireStore_X3_exists : GoodIn wsX5_requireStore (wsV RX5 217 RX3 yX3_exists wsX3_exists) := goodIn_app (goodIn_of _ (by decide +kernel)) ggX5_requireStore_X3_exists
theorem dX5_requireStore_0 : decode cX5_requireStore 0 = .ok (.aload_n 0, 1) := by decide +kernel
theorem dX5_requireStore_1 : decode cX5_requireStore 1 = .ok (.getfield 19, 3) := by decide +kernel
theorem dX5_requireStore_4 : decode cX5_requireStore 4 = .ok (.invokevirtual 217, 3) := by decide +kernel
theorem dX5_requireStore_7 : decode cX5_requireStore 7 = .ok (.ifCond .ne 14, 3) := by decide +kernel
theorem dX5_requireStore_10 : decode cX5_requireStore 10 = .ok (.new 51, 3) := by decide +kernel
theorem dX5_requireStore_13 : decode cX5_requireStore 13 = .ok (.dup, 1) := by decide +kernel
theorem dX5_requireStore_14 : decode cX5_requireStore 14 = .ok (.ldc_w 259, 3) := by decide +kernel
theorem dX5_requireStore_17 : decode cX5_requireStore 17 = .ok (.invokespecial 55, 3) := by decide +kernel
theorem dX5_requireStore_20 : decode cX5_requireStore 20 = .ok (.athrow, 1) := by decide +kernel
theorem dX5_requireStore_21 : decode cX5_requireStore 21 = .ok (.return_, 1) := by decide +kernel
theorem dX5_requireSetting_0 : decode cX5_requireSetting 0 = .ok (.iload_n 0, 1) := by decide +kernel
theorem dX5_requireSetting_1 : decode cX5_requireSetting 1 = .ok (.ifCond .eq 19, 3) := by decide +kernel
theorem dX5_requireSetting_4 : decode cX5_requireSetting 4 = .ok (.iload_n 0, 1) := by decide +kernel
theorem dX5_requireSetting_5 : decode cX5_requireSetting 5 = .ok (.iconst 1, 1) := by decide +kernel
theorem dX5_requireSetting_6 : decode cX5_requireSetting 6 = .ok (.if_icmp .eq 14, 3) := by decide +kernel
theorem dX5_requireSetting_9 : decode cX5_requireSetting 9 = .ok (.new 40, 3) := by decide +kernel
theorem dX5_requireSetting_12 : decode cX5_requireSetting 12 = .ok (.dup, 1) := by decide +kernel
theorem dX5_requireSetting_13 : decode cX5_requireSetting 13 = .ok (.ldc_w 261, 3) := by decide +kernel
theorem dX5_requireSetting_16 : decode cX5_requireSetting 16 = .ok (.invokespecial 44, 3) := by decide +kernel
theorem dX5_requireSetting_19 : decode cX5_requireSetting 19 = .ok (.athrow, 1) := by decide +kernel
theorem dX5_requireSetting_20 : decode cX5_requireSetting 20 = .ok (.return_, 1) := by decide +kernel
set_option maxRecDepth 20000 in
theorem ggX5_requireHammered_X5_isHammered : GoodIn wsX5_requireHammered wsX5_isHammered := goodIn_r _ [6] (by decide +kernel) (by decide +kernel)
set_option maxRecDepth 20000 in
theorem gX5_requireHammered_X5_isHammered : GoodIn wsX5_requireHammered (va_wsS RX5 263 yX5_isHammered wsX5_isHammered) := goodIn_app (goodIn_of _ (by decide +kernel)) ggX5_requireHammered_X5_isHammered
theorem dX5_requireHammered_0 : decode cX5_requireHammered 0 = .ok (.iload_n 0, 1) := by decide +kernel
theorem dX5_requireHammered_1 : decode cX5_requireHammered 1 = .ok (.invokestatic 263, 3) := by decide +kernel
theorem dX5_requireHammered_4 : decode cX5_requireHammered 4 = .ok (.ifCond .ne 14, 3) := by decide +kernel
theorem dX5_requireHammered_7 : decode cX5_requireHammered 7 = .ok (.new 40, 3) := by decide +kernel
theorem dX5_requireHammered_10 : decode cX5_requireHammered 10 = .ok (.dup, 1) := by decide +kernel
theorem dX5_requireHammered_11 : decode cX5_requireHammered 11 = .ok (.ldc_w 266, 3) := by decide +kernel
theorem dX5_requireHammered_14 : decode cX5_requireHammered 14 = .ok (.invokespecial 44, 3) := by decide +kernel
theorem dX5_requireHammered_17 : decode cX5_requireHammered 17 = .ok (.athrow, 1) := by decide +kernel
theorem dX5_requireHammered_18 : decode cX5_requireHammered 18 = .ok (.return_, 1) := by decide +kernel
set_option maxRecDepth 20000 in
theorem ggX5_requireSlot_X2_has : GoodIn wsX5_requireSlot wsX2_has := goodIn_r _ [6] (by decide +kernel) (by decide +kernel)
set_option maxRecDepth 20000 in
theorem gX5_requireSlot_X2_has : GoodIn wsX5_requireSlot (va_wsS RX5 268 yX2_has wsX2_has) := goodIn_app (goodIn_of _ (by decide +kernel)) ggX5_requireSlot_X2_has
theorem dX5_requireSlot_0 : decode cX5_requireSlot 0 = .ok (.iload_n 0, 1) := by decide +kernel
theorem dX5_requireSlot_1 : decode cX5_requireSlot 1 = .ok (.invokestatic 268, 3) := by decide +kernel
theorem dX5_requireSlot_4 : decode cX5_requireSlot 4 = .ok (.ifCond .ne 14, 3) := by decide +kernel
theorem dX5_requireSlot_7 : decode cX5_requireSlot 7 = .ok (.new 249, 3) := by decide +kernel
theorem dX5_requireSlot_10 : decode cX5_requireSlot 10 = .ok (.dup, 1) := by decide +kernel
theorem dX5_requireSlot_11 : decode cX5_requireSlot 11 = .ok (.ldc_w 271, 3) := by decide +kernel
theorem dX5_requireSlot_14 : decode cX5_requireSlot 14 = .ok (.invokespecial 253, 3) := by decide +kernel
theorem dX5_requireSlot_17 : decode cX5_requireSlot 17 = .ok (.athrow, 1) := by decide +kernel
theorem dX5_requireSlot_18 : decode cX5_requireSlot 18 = .ok (.return_, 1) := by decide +kernel
set_option maxRecDepth 20000 in
theorem ggX5_isShape_X5_haveCommonDivisor : GoodIn wsX5_isShape wsX5_haveCommonDivisor := goodIn_r _ [4] (by decide +kernel) (by decide +kernel)
set_option maxRecDepth 20000 in
theorem gX5_isShape_X5_haveCommonDivisor : GoodIn wsX5_isShape (va_wsS RX5 273 yX5_haveCommonDivisor wsX5_haveCommonDivisor) := goodIn_app (goodIn_of _ (by decide +kernel)) ggX5_isShape_X5_haveCommonDivisor
theorem dX5_isShape_0 : decode cX5_isShape 0 = .ok (.iload_n 0, 1) := by decide +kernel
theorem dX5_isShape_1 : decode cX5_isShape 1 = .ok (.iconst 4, 1) := by decide +kernel
theorem dX5_isShape_2 : decode cX5_isShape 2 = .ok (.if_icmp .lt 31, 3) := by decide +kernel
theorem dX5_isShape_5 : decode cX5_isShape 5 = .ok (.iload_n 0, 1) := by decide +kernel
theorem dX5_isShape_6 : decode cX5_isShape 6 = .ok (.bipush 32, 2) := by decide +kernel
theorem dX5_isShape_8 : decode cX5_isShape 8 = .ok (.if_icmp .gt 25, 3) := by decide +kernel
theorem dX5_isShape_11 : decode cX5_isShape 11 = .ok (.iload_n 1, 1) := by decide +kernel
theorem dX5_isShape_12 : decode cX5_isShape 12 = .ok (.iconst 1, 1) := by decide +kernel
theorem dX5_isShape_13 : decode cX5_isShape 13 = .ok (.if_icmp .lt 20, 3) := by decide +kernel
theorem dX5_isShape_16 : decode cX5_isShape 16 = .ok (.iload_n 1, 1) := by decide +kernel
theorem dX5_isShape_17 : decode cX5_isShape 17 = .ok (.iload_n 0, 1) := by decide +kernel
theorem dX5_isShape_18 : decode cX5_isShape 18 = .ok (.if_icmp .ge 15, 3) := by decide +kernel
theorem dX5_isShape_21 : decode cX5_isShape 21 = .ok (.iload_n 0, 1) := by decide +kernel
theorem dX5_isShape_22 : decode cX5_isShape 22 = .ok (.iload_n 1, 1) := by decide +kernel
theorem dX5_isShape_23 : decode cX5_isShape 23 = .ok (.invokestatic 273, 3) := by decide +kernel
theorem dX5_isShape_26 : decode cX5_isShape 26 = .ok (.ifCond .ne 7, 3) := by decide +kernel
theorem dX5_isShape_29 : decode cX5_isShape 29 = .ok (.iconst 1, 1) := by decide +kernel
theorem dX5_isShape_30 : decode cX5_isShape 30 = .ok (.goto 4, 3) := by decide +kernel
theorem dX5_isShape_33 : decode cX5_isShape 33 = .ok (.iconst 0, 1) := by decide +kernel
theorem dX5_isShape_34 : decode cX5_isShape 34 = .ok (.ireturn, 1) := by decide +kernel
theorem dX5_haveCommonDivisor_0 : decode cX5_haveCommonDivisor 0 = .ok (.iconst 2, 1) := by decide +kernel
theorem dX5_haveCommonDivisor_1 : decode cX5_haveCommonDivisor 1 = .ok (.istore_n 2, 1) := by decide +kernel
theorem dX5_haveCommonDivisor_2 : decode cX5_haveCommonDivisor 2 = .ok (.iload_n 2, 1) := by decide +kernel
theorem dX5_haveCommonDivisor_3 : decode cX5_haveCommonDivisor 3 = .ok (.iload_n 1, 1) := by decide +kernel
theorem dX5_haveCommonDivisor_4 : decode cX5_haveCommonDivisor 4 = .ok (.if_icmp .gt 23, 3) := by decide +kernel
theorem dX5_haveCommonDivisor_7 : decode cX5_haveCommonDivisor 7 = .ok (.iload_n 0, 1) := by decide +kernel
theorem dX5_haveCommonDivisor_8 : decode cX5_haveCommonDivisor 8 = .ok (.iload_n 2, 1) := by decide +kernel
theorem dX5_haveCommonDivisor_9 : decode cX5_haveCommonDivisor 9 = .ok (.irem, 1) := by decide +kernel
theorem dX5_haveCommonDivisor_10 : decode cX5_haveCommonDivisor 10 = .ok (.ifCond .ne 11, 3) := by decide +kernel
theorem dX5_haveCommonDivisor_13 : decode cX5_haveCommonDivisor 13 = .ok (.iload_n 1, 1) := by decide +kernel
theorem dX5_haveCommonDivisor_14 : decode cX5_haveCommonDivisor 14 = .ok (.iload_n 2, 1) := by decide +kernel
theorem dX5_haveCommonDivisor_15 : decode cX5_haveCommonDivisor 15 = .ok (.irem, 1) := by decide +kernel
theorem dX5_haveCommonDivisor_16 : decode cX5_haveCommonDivisor 16 = .ok (.ifCond .ne 5, 3) := by decide +kernel
theorem dX5_haveCommonDivisor_19 : decode cX5_haveCommonDivisor 19 = .ok (.iconst 1, 1) := by decide +kernel
theorem dX5_haveCommonDivisor_20 : decode cX5_haveCommonDivisor 20 = .ok (.ireturn, 1) := by decide +kernel
theorem dX5_haveCommonDivisor_21 : decode cX5_haveCommonDivisor 21 = .ok (.iinc 2 1, 3) := by decide +kernel
theorem dX5_haveCommonDivisor_24 : decode cX5_haveCommonDivisor 24 = .ok (.goto (-22), 3) := by decide +kernel
theorem dX5_haveCommonDivisor_27 : decode cX5_haveCommonDivisor 27 = .ok (.iconst 0, 1) := by decide +kernel
theorem dX5_haveCommonDivisor_28 : decode cX5_haveCommonDivisor 28 = .ok (.ireturn, 1) := by decide +kernel
theorem dX5_isValue_0 : decode cX5_isValue 0 = .ok (.iload_n 0, 1) := by decide +kernel
theorem dX5_isValue_1 : decode cX5_isValue 1 = .ok (.ifCond .lt 14, 3) := by decide +kernel
theorem dX5_isValue_4 : decode cX5_isValue 4 = .ok (.iload_n 0, 1) := by decide +kernel
theorem dX5_isValue_5 : decode cX5_isValue 5 = .ok (.sipush 999, 3) := by decide +kernel
theorem dX5_isValue_8 : decode cX5_isValue 8 = .ok (.if_icmp .gt 7, 3) := by decide +kernel
theorem dX5_isValue_11 : decode cX5_isValue 11 = .ok (.iconst 1, 1) := by decide +kernel
theorem dX5_isValue_12 : decode cX5_isValue 12 = .ok (.goto 4, 3) := by decide +kernel
theorem dX5_isValue_15 : decode cX5_isValue 15 = .ok (.iconst 0, 1) := by decide +kernel
theorem dX5_isValue_16 : decode cX5_isValue 16 = .ok (.ireturn, 1) := by decide +kernel
theorem dX5_isHammered_0 : decode cX5_isHammered 0 = .ok (.iload_n 0, 1) := by decide +kernel
theorem dX5_isHammered_1 : decode cX5_isHammered 1 = .ok (.iconst 1, 1) := by decide +kernel
theorem dX5_isHammered_2 : decode cX5_isHammered 2 = .ok (.if_icmp .lt 14, 3) := by decide +kernel
theorem dX5_isHammered_5 : decode cX5_isHammered 5 = .ok (.iload_n 0, 1) := by decide +kernel
theorem dX5_isHammered_6 : decode cX5_isHammered 6 = .ok (.sipush 500, 3) := by decide +kernel
theorem dX5_isHammered_9 : decode cX5_isHammered 9 = .ok (.if_icmp .gt 7, 3) := by decide +kernel
theorem dX5_isHammered_12 : decode cX5_isHammered 12 = .ok (.iconst 1, 1) := by decide +kernel
theorem dX5_isHammered_13 : decode cX5_isHammered 13 = .ok (.goto 4, 3) := by decide +kernel
theorem dX5_isHammered_16 : decode cX5_isHammered 16 = .ok (.iconst 0, 1) := by decide +kernel
theorem dX5_isHammered_17 : decode cX5_isHammered 17 = .ok (.ireturn, 1) := by decide +kernel
theorem dX5_isRounds_0 : decode cX5_isRounds 0 = .ok (.iload_n 0, 1) := by decide +kernel
theorem dX5_isRounds_1 : decode cX5_isRounds 1 = .ok (.iconst 1, 1) := by decide +kernel
theorem dX5_isRounds_2 : decode cX5_isRounds 2 = .ok (.if_icmp .lt 13, 3) := by decide +kernel
theorem dX5_isRounds_5 : decode cX5_isRounds 5 = .ok (.iload_n 0, 1) := by decide +kernel
theorem dX5_isRounds_6 : decode cX5_isRounds 6 = .ok (.bipush 50, 2) := by decide +kernel
theorem dX5_isRounds_8 : decode cX5_isRounds 8 = .ok (.if_icmp .gt 7, 3) := by decide +kernel
theorem dX5_isRounds_11 : decode cX5_isRounds 11 = .ok (.iconst 1, 1) := by decide +kernel
theorem dX5_isRounds_12 : decode cX5_isRounds 12 = .ok (.goto 4, 3) := by decide +kernel
theorem dX5_isRounds_15 : decode cX5_isRounds 15 = .ok (.iconst 0, 1) := by decide +kernel
theorem dX5_isRounds_16 : decode cX5_isRounds 16 = .ok (.ireturn, 1) := by decide +kernel
theorem dX5_isSettingValue_0 : decode cX5_isSettingValue 0 = .ok (.iload_n 0, 1) := by decide +kernel
theorem dX5_isSettingValue_1 : decode cX5_isSettingValue 1 = .ok (.ifCond .ne 21, 3) := by decide +kernel
theorem dX5_isSettingValue_4 : decode cX5_isSettingValue 4 = .ok (.iload_n 1, 1) := by decide +kernel
theorem dX5_isSettingValue_5 : decode cX5_isSettingValue 5 = .ok (.iconst 5, 1) := by decide +kernel
theorem dX5_isSettingValue_6 : decode cX5_isSettingValue 6 = .ok (.if_icmp .lt 14, 3) := by decide +kernel
theorem dX5_isSettingValue_9 : decode cX5_isSettingValue 9 = .ok (.iload_n 1, 1) := by decide +kernel
theorem dX5_isSettingValue_10 : decode cX5_isSettingValue 10 = .ok (.sipush 999, 3) := by decide +kernel
theorem dX5_isSettingValue_13 : decode cX5_isSettingValue 13 = .ok (.if_icmp .gt 7, 3) := by decide +kernel
theorem dX5_isSettingValue_16 : decode cX5_isSettingValue 16 = .ok (.iconst 1, 1) := by decide +kernel
theorem dX5_isSettingValue_17 : decode cX5_isSettingValue 17 = .ok (.goto 4, 3) := by decide +kernel
theorem dX5_isSettingValue_20 : decode cX5_isSettingValue 20 = .ok (.iconst 0, 1) := by decide +kernel
theorem dX5_isSettingValue_21 : decode cX5_isSettingValue 21 = .ok (.ireturn, 1) := by decide +kernel
theorem dX5_isSettingValue_22 : decode cX5_isSettingValue 22 = .ok (.iload_n 0, 1) := by decide +kernel
theorem dX5_isSettingValue_23 : decode cX5_isSettingValue 23 = .ok (.iconst 1, 1) := by decide +kernel
theorem dX5_isSettingValue_24 : decode cX5_isSettingValue 24 = .ok (.if_icmp .ne 18, 3) := by decide +kernel
theorem dX5_isSettingValue_27 : decode cX5_isSettingValue 27 = .ok (.iload_n 1, 1) := by decide +kernel
theorem dX5_isSettingValue_28 : decode cX5_isSettingValue 28 = .ok (.iconst 1, 1) := by decide +kernel
theorem dX5_isSettingValue_29 : decode cX5_isSettingValue 29 = .ok (.if_icmp .lt 13, 3) := by decide +kernel
theorem dX5_isSettingValue_32 : decode cX5_isSettingValue 32 = .ok (.iload_n 1, 1) := by decide +kernel
theorem dX5_isSettingValue_33 : decode cX5_isSettingValue 33 = .ok (.bipush 50, 2) := by decide +kernel
theorem dX5_isSettingValue_35 : decode cX5_isSettingValue 35 = .ok (.if_icmp .gt 7, 3) := by decide +kernel
theorem dX5_isSettingValue_38 : decode cX5_isSettingValue 38 = .ok (.iconst 1, 1) := by decide +kernel
theorem dX5_isSettingValue_39 : decode cX5_isSettingValue 39 = .ok (.goto 4, 3) := by decide +kernel
theorem dX5_isSettingValue_42 : decode cX5_isSettingValue 42 = .ok (.iconst 0, 1) := by decide +kernel
theorem dX5_isSettingValue_43 : decode cX5_isSettingValue 43 = .ok (.ireturn, 1) := by decide +kernel
set_option maxRecDepth 20000 in
theorem ggX5_wearIfEvery_X3_copyFrom : GoodIn wsX5_wearIfEvery wsX3_copyFrom := goodIn_r _ [8, 9, 10, 11, 12, 13, 14, 15, 16, 17, 18, 19, 20, 21, 22, 23, 24, 25, 26, 27, 73, 74, 75, 76, 77, 78, 79, 80, 81, 82, 83, 84, 85, 86, 87] (by decide +kernel) (by decide +kernel)
set_option maxRecDepth 20000 in
theorem gX5_wearIfEvery_X3_copyFrom : GoodIn wsX5_wearIfEvery (wsV RX5 182 RX3 yX3_copyFrom wsX3_copyFrom) := goodIn_app (goodIn_of _ (by decide +kernel)) ggX5_wearIfEvery_X3_copyFrom
set_option maxRecDepth 20000 in
theorem ggX5_wearIfEvery_X3_hammerLine : GoodIn wsX5_wearIfEvery wsX3_hammerLine := goodIn_r _ [31, 19, 32, 33, 34, 7, 35, 22, 36, 37, 38, 39, 9, 40, 41, 42, 43, 14, 16, 21, 44, 45, 46, 47, 11, 12, 48, 49, 50, 51, 10, 52, 53, 54, 55, 27, 18, 20, 13, 17, 56, 57, 58, 59, 15, 73, 74, 75, 76, 77, 78, 79, 80, 81, 82, 83, 84, 85, 86, 87] (by decide +kernel) (by decide +kernel)
set_option maxRecDepth 20000 in
theorem gX5_wearIfEvery_X3_hammerLine : GoodIn wsX5_wearIfEvery (wsV RX5 146 RX3 yX3_hammerLine wsX3_hammerLine) := goodIn_app (goodIn_of _ (by decide +kernel)) ggX5_wearIfEvery_X3_hammerLine
set_option maxRecDepth 20000 in
theorem ggX5_wearIfEvery_X3_greatestWear : GoodIn wsX5_wearIfEvery wsX3_greatestWear := goodIn_r _ [63, 27, 9, 64, 65, 66, 67, 73, 74, 75, 76, 77, 78, 79, 80, 81, 82, 83, 84, 85, 86, 87] (by decide +kernel) (by decide +kernel)
set_option maxRecDepth 20000 in
theorem gX5_wearIfEvery_X3_greatestWear : GoodIn wsX5_wearIfEvery (wsV RX5 227 RX3 yX3_greatestWear wsX3_greatestWear) := goodIn_app (goodIn_of _ (by decide +kernel)) ggX5_wearIfEvery_X3_greatestWear
theorem dX5_wearIfEvery_0 : decode cX5_wearIfEvery 0 = .ok (.aload_n 0, 1) := by decide +kernel
theorem dX5_wearIfEvery_1 : decode cX5_wearIfEvery 1 = .ok (.getfield 23, 3) := by decide +kernel
theorem dX5_wearIfEvery_4 : decode cX5_wearIfEvery 4 = .ok (.aload_n 0, 1) := by decide +kernel
theorem dX5_wearIfEvery_5 : decode cX5_wearIfEvery 5 = .ok (.getfield 19, 3) := by decide +kernel
theorem dX5_wearIfEvery_8 : decode cX5_wearIfEvery 8 = .ok (.invokevirtual 182, 3) := by decide +kernel
theorem dX5_wearIfEvery_11 : decode cX5_wearIfEvery 11 = .ok (.aload_n 0, 1) := by decide +kernel
theorem dX5_wearIfEvery_12 : decode cX5_wearIfEvery 12 = .ok (.getfield 23, 3) := by decide +kernel
theorem dX5_wearIfEvery_15 : decode cX5_wearIfEvery 15 = .ok (.iload_n 2, 1) := by decide +kernel
theorem dX5_wearIfEvery_16 : decode cX5_wearIfEvery 16 = .ok (.putfield 276, 3) := by decide +kernel
theorem dX5_wearIfEvery_19 : decode cX5_wearIfEvery 19 = .ok (.aload_n 0, 1) := by decide +kernel
theorem dX5_wearIfEvery_20 : decode cX5_wearIfEvery 20 = .ok (.getfield 23, 3) := by decide +kernel
theorem dX5_wearIfEvery_23 : decode cX5_wearIfEvery 23 = .ok (.iload_n 1, 1) := by decide +kernel
theorem dX5_wearIfEvery_24 : decode cX5_wearIfEvery 24 = .ok (.iload_n 3, 1) := by decide +kernel
theorem dX5_wearIfEvery_25 : decode cX5_wearIfEvery 25 = .ok (.invokevirtual 146, 3) := by decide +kernel
theorem dX5_wearIfEvery_28 : decode cX5_wearIfEvery 28 = .ok (.pop, 1) := by decide +kernel
theorem dX5_wearIfEvery_29 : decode cX5_wearIfEvery 29 = .ok (.aload_n 0, 1) := by decide +kernel
theorem dX5_wearIfEvery_30 : decode cX5_wearIfEvery 30 = .ok (.getfield 23, 3) := by decide +kernel
theorem dX5_wearIfEvery_33 : decode cX5_wearIfEvery 33 = .ok (.invokevirtual 227, 3) := by decide +kernel
theorem dX5_wearIfEvery_36 : decode cX5_wearIfEvery 36 = .ok (.ireturn, 1) := by decide +kernel
theorem dX5_withoutLastCommands_0 : decode cX5_withoutLastCommands 0 = .ok (.lload_n 0, 1) := by decide +kernel
theorem dX5_withoutLastCommands_1 : decode cX5_withoutLastCommands 1 = .ok (.lstore_n 3, 1) := by decide +kernel
theorem dX5_withoutLastCommands_2 : decode cX5_withoutLastCommands 2 = .ok (.iconst 0, 1) := by decide +kernel
theorem dX5_withoutLastCommands_3 : decode cX5_withoutLastCommands 3 = .ok (.istore 5, 2) := by decide +kernel
theorem dX5_withoutLastCommands_5 : decode cX5_withoutLastCommands 5 = .ok (.iload 5, 2) := by decide +kernel
theorem dX5_withoutLastCommands_7 : decode cX5_withoutLastCommands 7 = .ok (.iload_n 2, 1) := by decide +kernel
theorem dX5_withoutLastCommands_8 : decode cX5_withoutLastCommands 8 = .ok (.if_icmp .ge 15, 3) := by decide +kernel
theorem dX5_withoutLastCommands_11 : decode cX5_withoutLastCommands 11 = .ok (.lload_n 3, 1) := by decide +kernel
theorem dX5_withoutLastCommands_12 : decode cX5_withoutLastCommands 12 = .ok (.ldc2_w 207, 3) := by decide +kernel
theorem dX5_withoutLastCommands_15 : decode cX5_withoutLastCommands 15 = .ok (.ldiv, 1) := by decide +kernel
theorem dX5_withoutLastCommands_16 : decode cX5_withoutLastCommands 16 = .ok (.lstore_n 3, 1) := by decide +kernel
theorem dX5_withoutLastCommands_17 : decode cX5_withoutLastCommands 17 = .ok (.iinc 5 1, 3) := by decide +kernel
theorem dX5_withoutLastCommands_20 : decode cX5_withoutLastCommands 20 = .ok (.goto (-15), 3) := by decide +kernel
theorem dX5_withoutLastCommands_23 : decode cX5_withoutLastCommands 23 = .ok (.lload_n 3, 1) := by decide +kernel
theorem dX5_withoutLastCommands_24 : decode cX5_withoutLastCommands 24 = .ok (.lreturn, 1) := by decide +kernel
