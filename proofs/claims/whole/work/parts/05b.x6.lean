theorem dX6_about_0 : decode cX6_about 0 = .ok (.aload_n 0, 1) := by decide +kernel
theorem dX6_about_1 : decode cX6_about 1 = .ok (.iload_n 1, 1) := by decide +kernel
theorem dX6_about_2 : decode cX6_about 2 = .ok (.i2l, 1) := by decide +kernel
theorem dX6_about_3 : decode cX6_about 3 = .ok (.lconst 0, 1) := by decide +kernel
theorem dX6_about_4 : decode cX6_about 4 = .ok (.ldc2_w 134, 3) := by decide +kernel
theorem dX6_about_7 : decode cX6_about 7 = .ok (.invokestatic 37, 3) := by decide +kernel
theorem dX6_about_10 : decode cX6_about 10 = .ok (.ifCond .eq 7, 3) := by decide +kernel
theorem dX6_about_13 : decode cX6_about 13 = .ok (.iconst 0, 1) := by decide +kernel
theorem dX6_about_14 : decode cX6_about 14 = .ok (.goto 4, 3) := by decide +kernel
theorem dX6_about_17 : decode cX6_about 17 = .ok (.iconst 1, 1) := by decide +kernel
theorem dX6_about_18 : decode cX6_about 18 = .ok (.invokevirtual 83, 3) := by decide +kernel
theorem dX6_about_21 : decode cX6_about 21 = .ok (.ifCond .eq 5, 3) := by decide +kernel
theorem dX6_about_24 : decode cX6_about 24 = .ok (.iconst 0, 1) := by decide +kernel
theorem dX6_about_25 : decode cX6_about 25 = .ok (.ireturn, 1) := by decide +kernel
theorem dX6_about_26 : decode cX6_about 26 = .ok (.aload_n 0, 1) := by decide +kernel
theorem dX6_about_27 : decode cX6_about 27 = .ok (.getfield 13, 3) := by decide +kernel
theorem dX6_about_30 : decode cX6_about 30 = .ok (.iconst 0, 1) := by decide +kernel
theorem dX6_about_31 : decode cX6_about 31 = .ok (.iaload, 1) := by decide +kernel
theorem dX6_about_32 : decode cX6_about 32 = .ok (.ifCond .ne 5, 3) := by decide +kernel
theorem dX6_about_35 : decode cX6_about 35 = .ok (.iconst 0, 1) := by decide +kernel
theorem dX6_about_36 : decode cX6_about 36 = .ok (.ireturn, 1) := by decide +kernel
theorem dX6_about_37 : decode cX6_about 37 = .ok (.iload_n 1, 1) := by decide +kernel
theorem dX6_about_38 : decode cX6_about 38 = .ok (.tableswitch 78 0 7 #[46, 53, 53, 53, 53, 53, 62, 70], 46) := by decide +kernel
theorem dX6_about_84 : decode cX6_about 84 = .ok (.aload_n 0, 1) := by decide +kernel
theorem dX6_about_85 : decode cX6_about 85 = .ok (.getfield 13, 3) := by decide +kernel
theorem dX6_about_88 : decode cX6_about 88 = .ok (.iconst 0, 1) := by decide +kernel
theorem dX6_about_89 : decode cX6_about 89 = .ok (.iaload, 1) := by decide +kernel
theorem dX6_about_90 : decode cX6_about 90 = .ok (.ireturn, 1) := by decide +kernel
theorem dX6_about_91 : decode cX6_about 91 = .ok (.aload_n 0, 1) := by decide +kernel
theorem dX6_about_92 : decode cX6_about 92 = .ok (.getfield 13, 3) := by decide +kernel
theorem dX6_about_95 : decode cX6_about 95 = .ok (.iload_n 1, 1) := by decide +kernel
theorem dX6_about_96 : decode cX6_about 96 = .ok (.iconst 1, 1) := by decide +kernel
theorem dX6_about_97 : decode cX6_about 97 = .ok (.iadd, 1) := by decide +kernel
theorem dX6_about_98 : decode cX6_about 98 = .ok (.iaload, 1) := by decide +kernel
theorem dX6_about_99 : decode cX6_about 99 = .ok (.ireturn, 1) := by decide +kernel
theorem dX6_about_100 : decode cX6_about 100 = .ok (.aload_n 0, 1) := by decide +kernel
theorem dX6_about_101 : decode cX6_about 101 = .ok (.getfield 13, 3) := by decide +kernel
theorem dX6_about_104 : decode cX6_about 104 = .ok (.invokestatic 136, 3) := by decide +kernel
theorem dX6_about_107 : decode cX6_about 107 = .ok (.ireturn, 1) := by decide +kernel
theorem dX6_about_108 : decode cX6_about 108 = .ok (.aload_n 0, 1) := by decide +kernel
theorem dX6_about_109 : decode cX6_about 109 = .ok (.getfield 13, 3) := by decide +kernel
theorem dX6_about_112 : decode cX6_about 112 = .ok (.invokestatic 139, 3) := by decide +kernel
theorem dX6_about_115 : decode cX6_about 115 = .ok (.ireturn, 1) := by decide +kernel
theorem dX6_about_116 : decode cX6_about 116 = .ok (.aload_n 0, 1) := by decide +kernel
theorem dX6_about_117 : decode cX6_about 117 = .ok (.getfield 13, 3) := by decide +kernel
theorem dX6_about_120 : decode cX6_about 120 = .ok (.iload_n 1, 1) := by decide +kernel
theorem dX6_about_121 : decode cX6_about 121 = .ok (.iconst 1, 1) := by decide +kernel
theorem dX6_about_122 : decode cX6_about 122 = .ok (.isub, 1) := by decide +kernel
theorem dX6_about_123 : decode cX6_about 123 = .ok (.iaload, 1) := by decide +kernel
theorem dX6_about_124 : decode cX6_about 124 = .ok (.ireturn, 1) := by decide +kernel
set_option maxRecDepth 20000 in
theorem ggX6_read_X6_isLine : GoodIn wsX6_read wsX6_isLine := goodIn_r _ [5, 6, 7, 4, 8] (by decide +kernel) (by decide +kernel)
set_option maxRecDepth 20000 in
theorem gX6_read_X6_isLine : GoodIn wsX6_read (va_wsS RX6 59 yX6_isLine wsX6_isLine) := goodIn_app (goodIn_of _ (by decide +kernel)) ggX6_read_X6_isLine
set_option maxRecDepth 20000 in
theorem ggX6_read_X6_refused : GoodIn wsX6_read wsX6_refused := goodIn_r _ [12, 13, 14, 15, 16, 17, 18, 19, 20, 21, 22, 23, 24] (by decide +kernel) (by decide +kernel)
set_option maxRecDepth 20000 in
theorem gX6_read_X6_refused : GoodIn wsX6_read (wsV RX6 83 RX6 yX6_refused wsX6_refused) := goodIn_app (goodIn_of _ (by decide +kernel)) ggX6_read_X6_refused
theorem dX6_read_0 : decode cX6_read 0 = .ok (.aload_n 0, 1) := by decide +kernel
theorem dX6_read_1 : decode cX6_read 1 = .ok (.aload_n 0, 1) := by decide +kernel
theorem dX6_read_2 : decode cX6_read 2 = .ok (.getfield 13, 3) := by decide +kernel
theorem dX6_read_5 : decode cX6_read 5 = .ok (.iload_n 1, 1) := by decide +kernel
theorem dX6_read_6 : decode cX6_read 6 = .ok (.invokestatic 59, 3) := by decide +kernel
theorem dX6_read_9 : decode cX6_read 9 = .ok (.ifCond .eq 7, 3) := by decide +kernel
theorem dX6_read_12 : decode cX6_read 12 = .ok (.iconst 0, 1) := by decide +kernel
theorem dX6_read_13 : decode cX6_read 13 = .ok (.goto 4, 3) := by decide +kernel
theorem dX6_read_16 : decode cX6_read 16 = .ok (.iconst 1, 1) := by decide +kernel
theorem dX6_read_17 : decode cX6_read 17 = .ok (.invokevirtual 83, 3) := by decide +kernel
theorem dX6_read_20 : decode cX6_read 20 = .ok (.ifCond .eq 5, 3) := by decide +kernel
theorem dX6_read_23 : decode cX6_read 23 = .ok (.iconst 0, 1) := by decide +kernel
theorem dX6_read_24 : decode cX6_read 24 = .ok (.ireturn, 1) := by decide +kernel
theorem dX6_read_25 : decode cX6_read 25 = .ok (.aload_n 0, 1) := by decide +kernel
theorem dX6_read_26 : decode cX6_read 26 = .ok (.getfield 13, 3) := by decide +kernel
theorem dX6_read_29 : decode cX6_read 29 = .ok (.bipush 13, 2) := by decide +kernel
theorem dX6_read_31 : decode cX6_read 31 = .ok (.iload_n 1, 1) := by decide +kernel
theorem dX6_read_32 : decode cX6_read 32 = .ok (.iadd, 1) := by decide +kernel
theorem dX6_read_33 : decode cX6_read 33 = .ok (.iaload, 1) := by decide +kernel
theorem dX6_read_34 : decode cX6_read 34 = .ok (.ireturn, 1) := by decide +kernel
set_option maxRecDepth 20000 in
theorem ggX6_place_X6_isLine : GoodIn wsX6_place wsX6_isLine := goodIn_r _ [5, 6, 7, 4, 8] (by decide +kernel) (by decide +kernel)
set_option maxRecDepth 20000 in
theorem gX6_place_X6_isLine : GoodIn wsX6_place (va_wsS RX6 59 yX6_isLine wsX6_isLine) := goodIn_app (goodIn_of _ (by decide +kernel)) ggX6_place_X6_isLine
set_option maxRecDepth 20000 in
theorem ggX6_place_X6_refused : GoodIn wsX6_place wsX6_refused := goodIn_r _ [12, 13, 20, 21, 22, 23, 24, 25, 26, 27, 28, 29, 30] (by decide +kernel) (by decide +kernel)
set_option maxRecDepth 20000 in
theorem gX6_place_X6_refused : GoodIn wsX6_place (wsV RX6 83 RX6 yX6_refused wsX6_refused) := goodIn_app (goodIn_of _ (by decide +kernel)) ggX6_place_X6_refused
set_option maxRecDepth 20000 in
theorem ggX6_place_X6_placeOf : GoodIn wsX6_place wsX6_placeOf := goodIn_r _ [16, 17, 18, 4, 19] (by decide +kernel) (by decide +kernel)
set_option maxRecDepth 20000 in
theorem gX6_place_X6_placeOf : GoodIn wsX6_place (va_wsS RX6 63 yX6_placeOf wsX6_placeOf) := goodIn_app (goodIn_of _ (by decide +kernel)) ggX6_place_X6_placeOf
theorem dX6_place_0 : decode cX6_place 0 = .ok (.aload_n 0, 1) := by decide +kernel
theorem dX6_place_1 : decode cX6_place 1 = .ok (.aload_n 0, 1) := by decide +kernel
theorem dX6_place_2 : decode cX6_place 2 = .ok (.getfield 13, 3) := by decide +kernel
theorem dX6_place_5 : decode cX6_place 5 = .ok (.iload_n 1, 1) := by decide +kernel
theorem dX6_place_6 : decode cX6_place 6 = .ok (.invokestatic 59, 3) := by decide +kernel
theorem dX6_place_9 : decode cX6_place 9 = .ok (.ifCond .eq 7, 3) := by decide +kernel
theorem dX6_place_12 : decode cX6_place 12 = .ok (.iconst 0, 1) := by decide +kernel
theorem dX6_place_13 : decode cX6_place 13 = .ok (.goto 4, 3) := by decide +kernel
theorem dX6_place_16 : decode cX6_place 16 = .ok (.iconst 1, 1) := by decide +kernel
theorem dX6_place_17 : decode cX6_place 17 = .ok (.invokevirtual 83, 3) := by decide +kernel
theorem dX6_place_20 : decode cX6_place 20 = .ok (.ifCond .eq 5, 3) := by decide +kernel
theorem dX6_place_23 : decode cX6_place 23 = .ok (.iconst 0, 1) := by decide +kernel
theorem dX6_place_24 : decode cX6_place 24 = .ok (.ireturn, 1) := by decide +kernel
theorem dX6_place_25 : decode cX6_place 25 = .ok (.aload_n 0, 1) := by decide +kernel
theorem dX6_place_26 : decode cX6_place 26 = .ok (.getfield 13, 3) := by decide +kernel
theorem dX6_place_29 : decode cX6_place 29 = .ok (.iload_n 1, 1) := by decide +kernel
theorem dX6_place_30 : decode cX6_place 30 = .ok (.invokestatic 63, 3) := by decide +kernel
theorem dX6_place_33 : decode cX6_place 33 = .ok (.ireturn, 1) := by decide +kernel
set_option maxRecDepth 20000 in
theorem ggX6_line_X6_isPlace : GoodIn wsX6_line wsX6_isPlace := goodIn_r _ [5, 6, 7, 4, 8] (by decide +kernel) (by decide +kernel)
set_option maxRecDepth 20000 in
theorem gX6_line_X6_isPlace : GoodIn wsX6_line (va_wsS RX6 142 yX6_isPlace wsX6_isPlace) := goodIn_app (goodIn_of _ (by decide +kernel)) ggX6_line_X6_isPlace
set_option maxRecDepth 20000 in
theorem ggX6_line_X6_refused : GoodIn wsX6_line wsX6_refused := goodIn_r _ [12, 13, 20, 21, 22, 23, 24, 25, 26, 27, 28, 29, 30] (by decide +kernel) (by decide +kernel)
set_option maxRecDepth 20000 in
theorem gX6_line_X6_refused : GoodIn wsX6_line (wsV RX6 83 RX6 yX6_refused wsX6_refused) := goodIn_app (goodIn_of _ (by decide +kernel)) ggX6_line_X6_refused
set_option maxRecDepth 20000 in
theorem ggX6_line_X6_placeOf : GoodIn wsX6_line wsX6_placeOf := goodIn_r _ [16, 17, 18, 4, 19] (by decide +kernel) (by decide +kernel)
set_option maxRecDepth 20000 in
theorem gX6_line_X6_placeOf : GoodIn wsX6_line (va_wsS RX6 63 yX6_placeOf wsX6_placeOf) := goodIn_app (goodIn_of _ (by decide +kernel)) ggX6_line_X6_placeOf
theorem dX6_line_0 : decode cX6_line 0 = .ok (.aload_n 0, 1) := by decide +kernel
theorem dX6_line_1 : decode cX6_line 1 = .ok (.aload_n 0, 1) := by decide +kernel
theorem dX6_line_2 : decode cX6_line 2 = .ok (.getfield 13, 3) := by decide +kernel
theorem dX6_line_5 : decode cX6_line 5 = .ok (.iload_n 1, 1) := by decide +kernel
theorem dX6_line_6 : decode cX6_line 6 = .ok (.invokestatic 142, 3) := by decide +kernel
theorem dX6_line_9 : decode cX6_line 9 = .ok (.ifCond .eq 7, 3) := by decide +kernel
theorem dX6_line_12 : decode cX6_line 12 = .ok (.iconst 0, 1) := by decide +kernel
theorem dX6_line_13 : decode cX6_line 13 = .ok (.goto 4, 3) := by decide +kernel
theorem dX6_line_16 : decode cX6_line 16 = .ok (.iconst 1, 1) := by decide +kernel
theorem dX6_line_17 : decode cX6_line 17 = .ok (.invokevirtual 83, 3) := by decide +kernel
theorem dX6_line_20 : decode cX6_line 20 = .ok (.ifCond .eq 5, 3) := by decide +kernel
theorem dX6_line_23 : decode cX6_line 23 = .ok (.iconst 0, 1) := by decide +kernel
theorem dX6_line_24 : decode cX6_line 24 = .ok (.ireturn, 1) := by decide +kernel
theorem dX6_line_25 : decode cX6_line 25 = .ok (.iconst 0, 1) := by decide +kernel
theorem dX6_line_26 : decode cX6_line 26 = .ok (.istore_n 2, 1) := by decide +kernel
theorem dX6_line_27 : decode cX6_line 27 = .ok (.iload_n 2, 1) := by decide +kernel
theorem dX6_line_28 : decode cX6_line 28 = .ok (.aload_n 0, 1) := by decide +kernel
theorem dX6_line_29 : decode cX6_line 29 = .ok (.getfield 13, 3) := by decide +kernel
theorem dX6_line_32 : decode cX6_line 32 = .ok (.iconst 0, 1) := by decide +kernel
theorem dX6_line_33 : decode cX6_line 33 = .ok (.iaload, 1) := by decide +kernel
theorem dX6_line_34 : decode cX6_line 34 = .ok (.if_icmp .ge 23, 3) := by decide +kernel
theorem dX6_line_37 : decode cX6_line 37 = .ok (.aload_n 0, 1) := by decide +kernel
theorem dX6_line_38 : decode cX6_line 38 = .ok (.getfield 13, 3) := by decide +kernel
theorem dX6_line_41 : decode cX6_line 41 = .ok (.iload_n 2, 1) := by decide +kernel
theorem dX6_line_42 : decode cX6_line 42 = .ok (.invokestatic 63, 3) := by decide +kernel
theorem dX6_line_45 : decode cX6_line 45 = .ok (.iload_n 1, 1) := by decide +kernel
theorem dX6_line_46 : decode cX6_line 46 = .ok (.if_icmp .ne 5, 3) := by decide +kernel
theorem dX6_line_49 : decode cX6_line 49 = .ok (.iload_n 2, 1) := by decide +kernel
theorem dX6_line_50 : decode cX6_line 50 = .ok (.ireturn, 1) := by decide +kernel
theorem dX6_line_51 : decode cX6_line 51 = .ok (.iinc 2 1, 3) := by decide +kernel
theorem dX6_line_54 : decode cX6_line 54 = .ok (.goto (-27), 3) := by decide +kernel
theorem dX6_line_57 : decode cX6_line 57 = .ok (.iconst (-1), 1) := by decide +kernel
theorem dX6_line_58 : decode cX6_line 58 = .ok (.ireturn, 1) := by decide +kernel
set_option maxRecDepth 20000 in
theorem ggX6_wear_X6_isPlace : GoodIn wsX6_wear wsX6_isPlace := goodIn_r _ [5, 6, 7, 4, 8] (by decide +kernel) (by decide +kernel)
set_option maxRecDepth 20000 in
theorem gX6_wear_X6_isPlace : GoodIn wsX6_wear (va_wsS RX6 142 yX6_isPlace wsX6_isPlace) := goodIn_app (goodIn_of _ (by decide +kernel)) ggX6_wear_X6_isPlace
set_option maxRecDepth 20000 in
theorem ggX6_wear_X6_refused : GoodIn wsX6_wear wsX6_refused := goodIn_r _ [12, 13, 14, 15, 16, 17, 18, 19, 20, 21, 22, 23, 24] (by decide +kernel) (by decide +kernel)
set_option maxRecDepth 20000 in
theorem gX6_wear_X6_refused : GoodIn wsX6_wear (wsV RX6 83 RX6 yX6_refused wsX6_refused) := goodIn_app (goodIn_of _ (by decide +kernel)) ggX6_wear_X6_refused
theorem dX6_wear_0 : decode cX6_wear 0 = .ok (.aload_n 0, 1) := by decide +kernel
theorem dX6_wear_1 : decode cX6_wear 1 = .ok (.aload_n 0, 1) := by decide +kernel
theorem dX6_wear_2 : decode cX6_wear 2 = .ok (.getfield 13, 3) := by decide +kernel
theorem dX6_wear_5 : decode cX6_wear 5 = .ok (.iload_n 1, 1) := by decide +kernel
theorem dX6_wear_6 : decode cX6_wear 6 = .ok (.invokestatic 142, 3) := by decide +kernel
theorem dX6_wear_9 : decode cX6_wear 9 = .ok (.ifCond .eq 7, 3) := by decide +kernel
theorem dX6_wear_12 : decode cX6_wear 12 = .ok (.iconst 0, 1) := by decide +kernel
theorem dX6_wear_13 : decode cX6_wear 13 = .ok (.goto 4, 3) := by decide +kernel
theorem dX6_wear_16 : decode cX6_wear 16 = .ok (.iconst 1, 1) := by decide +kernel
theorem dX6_wear_17 : decode cX6_wear 17 = .ok (.invokevirtual 83, 3) := by decide +kernel
theorem dX6_wear_20 : decode cX6_wear 20 = .ok (.ifCond .eq 5, 3) := by decide +kernel
theorem dX6_wear_23 : decode cX6_wear 23 = .ok (.iconst 0, 1) := by decide +kernel
theorem dX6_wear_24 : decode cX6_wear 24 = .ok (.ireturn, 1) := by decide +kernel
theorem dX6_wear_25 : decode cX6_wear 25 = .ok (.aload_n 0, 1) := by decide +kernel
theorem dX6_wear_26 : decode cX6_wear 26 = .ok (.getfield 13, 3) := by decide +kernel
theorem dX6_wear_29 : decode cX6_wear 29 = .ok (.bipush 45, 2) := by decide +kernel
theorem dX6_wear_31 : decode cX6_wear 31 = .ok (.iload_n 1, 1) := by decide +kernel
theorem dX6_wear_32 : decode cX6_wear 32 = .ok (.iadd, 1) := by decide +kernel
theorem dX6_wear_33 : decode cX6_wear 33 = .ok (.iaload, 1) := by decide +kernel
theorem dX6_wear_34 : decode cX6_wear 34 = .ok (.ireturn, 1) := by decide +kernel
set_option maxRecDepth 20000 in
theorem ggX6_setting_X6_in : GoodIn wsX6_setting wsX6_in := goodIn_r _ [5] (by decide +kernel) (by decide +kernel)
set_option maxRecDepth 20000 in
theorem gX6_setting_X6_in : GoodIn wsX6_setting (va_wsS RX6 37 yX6_in wsX6_in) := goodIn_app (goodIn_of _ (by decide +kernel)) ggX6_setting_X6_in
set_option maxRecDepth 20000 in
theorem ggX6_setting_X6_refused : GoodIn wsX6_setting wsX6_refused := goodIn_r _ [9, 10, 11, 12, 13, 14, 15, 16, 17, 18, 19, 20, 21] (by decide +kernel) (by decide +kernel)
set_option maxRecDepth 20000 in
theorem gX6_setting_X6_refused : GoodIn wsX6_setting (wsV RX6 83 RX6 yX6_refused wsX6_refused) := goodIn_app (goodIn_of _ (by decide +kernel)) ggX6_setting_X6_refused
theorem dX6_setting_0 : decode cX6_setting 0 = .ok (.aload_n 0, 1) := by decide +kernel
theorem dX6_setting_1 : decode cX6_setting 1 = .ok (.iload_n 1, 1) := by decide +kernel
theorem dX6_setting_2 : decode cX6_setting 2 = .ok (.i2l, 1) := by decide +kernel
theorem dX6_setting_3 : decode cX6_setting 3 = .ok (.lconst 0, 1) := by decide +kernel
theorem dX6_setting_4 : decode cX6_setting 4 = .ok (.lconst 1, 1) := by decide +kernel
theorem dX6_setting_5 : decode cX6_setting 5 = .ok (.invokestatic 37, 3) := by decide +kernel
theorem dX6_setting_8 : decode cX6_setting 8 = .ok (.ifCond .eq 7, 3) := by decide +kernel
theorem dX6_setting_11 : decode cX6_setting 11 = .ok (.iconst 0, 1) := by decide +kernel
theorem dX6_setting_12 : decode cX6_setting 12 = .ok (.goto 4, 3) := by decide +kernel
theorem dX6_setting_15 : decode cX6_setting 15 = .ok (.iconst 1, 1) := by decide +kernel
theorem dX6_setting_16 : decode cX6_setting 16 = .ok (.invokevirtual 83, 3) := by decide +kernel
theorem dX6_setting_19 : decode cX6_setting 19 = .ok (.ifCond .eq 5, 3) := by decide +kernel
theorem dX6_setting_22 : decode cX6_setting 22 = .ok (.iconst 0, 1) := by decide +kernel
theorem dX6_setting_23 : decode cX6_setting 23 = .ok (.ireturn, 1) := by decide +kernel
theorem dX6_setting_24 : decode cX6_setting 24 = .ok (.aload_n 0, 1) := by decide +kernel
theorem dX6_setting_25 : decode cX6_setting 25 = .ok (.getfield 13, 3) := by decide +kernel
theorem dX6_setting_28 : decode cX6_setting 28 = .ok (.bipush 11, 2) := by decide +kernel
theorem dX6_setting_30 : decode cX6_setting 30 = .ok (.iload_n 1, 1) := by decide +kernel
theorem dX6_setting_31 : decode cX6_setting 31 = .ok (.iadd, 1) := by decide +kernel
theorem dX6_setting_32 : decode cX6_setting 32 = .ok (.iaload, 1) := by decide +kernel
theorem dX6_setting_33 : decode cX6_setting 33 = .ok (.ireturn, 1) := by decide +kernel
set_option maxRecDepth 20000 in
theorem ggX6_remember_X6_copyState : GoodIn wsX6_remember wsX6_copyState := goodIn_r _ [7] (by decide +kernel) (by decide +kernel)
set_option maxRecDepth 20000 in
theorem gX6_remember_X6_copyState : GoodIn wsX6_remember (va_wsS RX6 127 yX6_copyState wsX6_copyState) := goodIn_app (goodIn_of _ (by decide +kernel)) ggX6_remember_X6_copyState
theorem dX6_remember_0 : decode cX6_remember 0 = .ok (.aload_n 0, 1) := by decide +kernel
theorem dX6_remember_1 : decode cX6_remember 1 = .ok (.getfield 131, 3) := by decide +kernel
theorem dX6_remember_4 : decode cX6_remember 4 = .ok (.bipush 14, 2) := by decide +kernel
theorem dX6_remember_6 : decode cX6_remember 6 = .ok (.if_icmp .ne 43, 3) := by decide +kernel
theorem dX6_remember_9 : decode cX6_remember 9 = .ok (.iconst 0, 1) := by decide +kernel
theorem dX6_remember_10 : decode cX6_remember 10 = .ok (.istore_n 1, 1) := by decide +kernel
theorem dX6_remember_11 : decode cX6_remember 11 = .ok (.iload_n 1, 1) := by decide +kernel
theorem dX6_remember_12 : decode cX6_remember 12 = .ok (.sipush 1014, 3) := by decide +kernel
theorem dX6_remember_15 : decode cX6_remember 15 = .ok (.if_icmp .ge 24, 3) := by decide +kernel
theorem dX6_remember_18 : decode cX6_remember 18 = .ok (.aload_n 0, 1) := by decide +kernel
theorem dX6_remember_19 : decode cX6_remember 19 = .ok (.getfield 19, 3) := by decide +kernel
theorem dX6_remember_22 : decode cX6_remember 22 = .ok (.iload_n 1, 1) := by decide +kernel
theorem dX6_remember_23 : decode cX6_remember 23 = .ok (.aload_n 0, 1) := by decide +kernel
theorem dX6_remember_24 : decode cX6_remember 24 = .ok (.getfield 19, 3) := by decide +kernel
theorem dX6_remember_27 : decode cX6_remember 27 = .ok (.iload_n 1, 1) := by decide +kernel
theorem dX6_remember_28 : decode cX6_remember 28 = .ok (.bipush 78, 2) := by decide +kernel
theorem dX6_remember_30 : decode cX6_remember 30 = .ok (.iadd, 1) := by decide +kernel
theorem dX6_remember_31 : decode cX6_remember 31 = .ok (.iaload, 1) := by decide +kernel
theorem dX6_remember_32 : decode cX6_remember 32 = .ok (.iastore, 1) := by decide +kernel
theorem dX6_remember_33 : decode cX6_remember 33 = .ok (.iinc 1 1, 3) := by decide +kernel
theorem dX6_remember_36 : decode cX6_remember 36 = .ok (.goto (-25), 3) := by decide +kernel
theorem dX6_remember_39 : decode cX6_remember 39 = .ok (.aload_n 0, 1) := by decide +kernel
theorem dX6_remember_40 : decode cX6_remember 40 = .ok (.dup, 1) := by decide +kernel
theorem dX6_remember_41 : decode cX6_remember 41 = .ok (.getfield 131, 3) := by decide +kernel
theorem dX6_remember_44 : decode cX6_remember 44 = .ok (.iconst 1, 1) := by decide +kernel
theorem dX6_remember_45 : decode cX6_remember 45 = .ok (.isub, 1) := by decide +kernel
theorem dX6_remember_46 : decode cX6_remember 46 = .ok (.putfield 131, 3) := by decide +kernel
theorem dX6_remember_49 : decode cX6_remember 49 = .ok (.aload_n 0, 1) := by decide +kernel
theorem dX6_remember_50 : decode cX6_remember 50 = .ok (.getfield 13, 3) := by decide +kernel
theorem dX6_remember_53 : decode cX6_remember 53 = .ok (.iconst 0, 1) := by decide +kernel
theorem dX6_remember_54 : decode cX6_remember 54 = .ok (.aload_n 0, 1) := by decide +kernel
theorem dX6_remember_55 : decode cX6_remember 55 = .ok (.getfield 19, 3) := by decide +kernel
theorem dX6_remember_58 : decode cX6_remember 58 = .ok (.bipush 78, 2) := by decide +kernel
theorem dX6_remember_60 : decode cX6_remember 60 = .ok (.aload_n 0, 1) := by decide +kernel
theorem dX6_remember_61 : decode cX6_remember 61 = .ok (.getfield 131, 3) := by decide +kernel
theorem dX6_remember_64 : decode cX6_remember 64 = .ok (.imul, 1) := by decide +kernel
theorem dX6_remember_65 : decode cX6_remember 65 = .ok (.invokestatic 127, 3) := by decide +kernel
theorem dX6_remember_68 : decode cX6_remember 68 = .ok (.aload_n 0, 1) := by decide +kernel
theorem dX6_remember_69 : decode cX6_remember 69 = .ok (.dup, 1) := by decide +kernel
theorem dX6_remember_70 : decode cX6_remember 70 = .ok (.getfield 131, 3) := by decide +kernel
theorem dX6_remember_73 : decode cX6_remember 73 = .ok (.iconst 1, 1) := by decide +kernel
theorem dX6_remember_74 : decode cX6_remember 74 = .ok (.iadd, 1) := by decide +kernel
theorem dX6_remember_75 : decode cX6_remember 75 = .ok (.putfield 131, 3) := by decide +kernel
theorem dX6_remember_78 : decode cX6_remember 78 = .ok (.return_, 1) := by decide +kernel
set_option maxRecDepth 20000 in
theorem ggX6_make_X6_canMake : GoodIn wsX6_make wsX6_canMake := goodIn_r _ [5, 6, 7, 8, 9, 4, 10, 11, 12, 13] (by decide +kernel) (by decide +kernel)
set_option maxRecDepth 20000 in
theorem gX6_make_X6_canMake : GoodIn wsX6_make (va_wsS RX6 112 yX6_canMake wsX6_canMake) := goodIn_app (goodIn_of _ (by decide +kernel)) ggX6_make_X6_canMake
set_option maxRecDepth 20000 in
theorem ggX6_make_X6_refused : GoodIn wsX6_make wsX6_refused := goodIn_r _ [17, 18, 37, 38, 39, 40, 41, 42, 43, 44, 45, 46, 47] (by decide +kernel) (by decide +kernel)
set_option maxRecDepth 20000 in
theorem gX6_make_X6_refused : GoodIn wsX6_make (wsV RX6 83 RX6 yX6_refused wsX6_refused) := goodIn_app (goodIn_of _ (by decide +kernel)) ggX6_make_X6_refused
set_option maxRecDepth 20000 in
theorem ggX6_make_X6_remember : GoodIn wsX6_make wsX6_remember := goodIn_r _ [22, 23, 24, 1, 25, 26, 4, 27, 37, 38, 39, 40, 41, 42, 43, 44, 45, 46, 47] (by decide +kernel) (by decide +kernel)
set_option maxRecDepth 20000 in
theorem gX6_make_X6_remember : GoodIn wsX6_make (wsV RX6 145 RX6 yX6_remember wsX6_remember) := goodIn_app (goodIn_of _ (by decide +kernel)) ggX6_make_X6_remember
set_option maxRecDepth 20000 in
theorem ggX6_make_X6_makeOn : GoodIn wsX6_make wsX6_makeOn := goodIn_r _ [30, 31, 32, 4, 33, 34, 35, 36] (by decide +kernel) (by decide +kernel)
set_option maxRecDepth 20000 in
theorem gX6_make_X6_makeOn : GoodIn wsX6_make (va_wsS RX6 116 yX6_makeOn wsX6_makeOn) := goodIn_app (goodIn_of _ (by decide +kernel)) ggX6_make_X6_makeOn
theorem dX6_make_0 : decode cX6_make 0 = .ok (.aload_n 0, 1) := by decide +kernel
theorem dX6_make_1 : decode cX6_make 1 = .ok (.iload_n 1, 1) := by decide +kernel
theorem dX6_make_2 : decode cX6_make 2 = .ok (.iload_n 2, 1) := by decide +kernel
theorem dX6_make_3 : decode cX6_make 3 = .ok (.iload_n 3, 1) := by decide +kernel
theorem dX6_make_4 : decode cX6_make 4 = .ok (.invokestatic 112, 3) := by decide +kernel
theorem dX6_make_7 : decode cX6_make 7 = .ok (.ifCond .eq 7, 3) := by decide +kernel
theorem dX6_make_10 : decode cX6_make 10 = .ok (.iconst 0, 1) := by decide +kernel
theorem dX6_make_11 : decode cX6_make 11 = .ok (.goto 4, 3) := by decide +kernel
theorem dX6_make_14 : decode cX6_make 14 = .ok (.iconst 1, 1) := by decide +kernel
theorem dX6_make_15 : decode cX6_make 15 = .ok (.invokevirtual 83, 3) := by decide +kernel
theorem dX6_make_18 : decode cX6_make 18 = .ok (.ifCond .eq 5, 3) := by decide +kernel
theorem dX6_make_21 : decode cX6_make 21 = .ok (.iconst 0, 1) := by decide +kernel
theorem dX6_make_22 : decode cX6_make 22 = .ok (.ireturn, 1) := by decide +kernel
theorem dX6_make_23 : decode cX6_make 23 = .ok (.aload_n 0, 1) := by decide +kernel
theorem dX6_make_24 : decode cX6_make 24 = .ok (.invokevirtual 145, 3) := by decide +kernel
theorem dX6_make_27 : decode cX6_make 27 = .ok (.aload_n 0, 1) := by decide +kernel
theorem dX6_make_28 : decode cX6_make 28 = .ok (.getfield 13, 3) := by decide +kernel
theorem dX6_make_31 : decode cX6_make 31 = .ok (.iload_n 1, 1) := by decide +kernel
theorem dX6_make_32 : decode cX6_make 32 = .ok (.iload_n 2, 1) := by decide +kernel
theorem dX6_make_33 : decode cX6_make 33 = .ok (.iload_n 3, 1) := by decide +kernel
theorem dX6_make_34 : decode cX6_make 34 = .ok (.invokestatic 116, 3) := by decide +kernel
theorem dX6_make_37 : decode cX6_make 37 = .ok (.ireturn, 1) := by decide +kernel
set_option maxRecDepth 20000 in
theorem ggX6_write_X6_isLine : GoodIn wsX6_write wsX6_isLine := goodIn_r _ [5, 6, 7, 4, 8] (by decide +kernel) (by decide +kernel)
set_option maxRecDepth 20000 in
theorem gX6_write_X6_isLine : GoodIn wsX6_write (va_wsS RX6 59 yX6_isLine wsX6_isLine) := goodIn_app (goodIn_of _ (by decide +kernel)) ggX6_write_X6_isLine
set_option maxRecDepth 20000 in
theorem ggX6_write_X6_isValue : GoodIn wsX6_write wsX6_isValue := goodIn_r _ [11, 12, 6, 7, 4, 8] (by decide +kernel) (by decide +kernel)
set_option maxRecDepth 20000 in
theorem gX6_write_X6_isValue : GoodIn wsX6_write (va_wsS RX6 148 yX6_isValue wsX6_isValue) := goodIn_app (goodIn_of _ (by decide +kernel)) ggX6_write_X6_isValue
set_option maxRecDepth 20000 in
theorem ggX6_write_X6_canWrite : GoodIn wsX6_write wsX6_canWrite := goodIn_r _ [15, 2, 3, 4, 5, 6, 7, 8] (by decide +kernel) (by decide +kernel)
set_option maxRecDepth 20000 in
theorem gX6_write_X6_canWrite : GoodIn wsX6_write (va_wsS RX6 99 yX6_canWrite wsX6_canWrite) := goodIn_app (goodIn_of _ (by decide +kernel)) ggX6_write_X6_canWrite
set_option maxRecDepth 20000 in
theorem ggX6_write_X6_refused : GoodIn wsX6_write wsX6_refused := goodIn_r _ [19, 20, 45, 46, 47, 48, 49, 50, 51, 52, 53, 54, 55] (by decide +kernel) (by decide +kernel)
set_option maxRecDepth 20000 in
theorem gX6_write_X6_refused : GoodIn wsX6_write (wsV RX6 83 RX6 yX6_refused wsX6_refused) := goodIn_app (goodIn_of _ (by decide +kernel)) ggX6_write_X6_refused
set_option maxRecDepth 20000 in
theorem ggX6_write_X6_remember : GoodIn wsX6_write wsX6_remember := goodIn_r _ [24, 25, 26, 1, 27, 28, 4, 29, 45, 46, 47, 48, 49, 50, 51, 52, 53, 54, 55] (by decide +kernel) (by decide +kernel)
set_option maxRecDepth 20000 in
theorem gX6_write_X6_remember : GoodIn wsX6_write (wsV RX6 145 RX6 yX6_remember wsX6_remember) := goodIn_app (goodIn_of _ (by decide +kernel)) ggX6_write_X6_remember
set_option maxRecDepth 20000 in
theorem ggX6_write_X6_writeOn : GoodIn wsX6_write wsX6_writeOn := goodIn_r _ [32, 33, 34, 4, 35, 36, 37, 38, 39, 40, 41, 42, 43, 44] (by decide +kernel) (by decide +kernel)
set_option maxRecDepth 20000 in
theorem gX6_write_X6_writeOn : GoodIn wsX6_write (va_wsS RX6 70 yX6_writeOn wsX6_writeOn) := goodIn_app (goodIn_of _ (by decide +kernel)) ggX6_write_X6_writeOn
theorem dX6_write_0 : decode cX6_write 0 = .ok (.aload_n 0, 1) := by decide +kernel
theorem dX6_write_1 : decode cX6_write 1 = .ok (.aload_n 0, 1) := by decide +kernel
theorem dX6_write_2 : decode cX6_write 2 = .ok (.getfield 13, 3) := by decide +kernel
theorem dX6_write_5 : decode cX6_write 5 = .ok (.iload_n 1, 1) := by decide +kernel
theorem dX6_write_6 : decode cX6_write 6 = .ok (.invokestatic 59, 3) := by decide +kernel
theorem dX6_write_9 : decode cX6_write 9 = .ok (.ifCond .ne 7, 3) := by decide +kernel
theorem dX6_write_12 : decode cX6_write 12 = .ok (.iconst 1, 1) := by decide +kernel
theorem dX6_write_13 : decode cX6_write 13 = .ok (.goto 30, 3) := by decide +kernel
theorem dX6_write_16 : decode cX6_write 16 = .ok (.iload_n 2, 1) := by decide +kernel
theorem dX6_write_17 : decode cX6_write 17 = .ok (.invokestatic 148, 3) := by decide +kernel
theorem dX6_write_20 : decode cX6_write 20 = .ok (.ifCond .ne 7, 3) := by decide +kernel
theorem dX6_write_23 : decode cX6_write 23 = .ok (.iconst 2, 1) := by decide +kernel
theorem dX6_write_24 : decode cX6_write 24 = .ok (.goto 19, 3) := by decide +kernel
theorem dX6_write_27 : decode cX6_write 27 = .ok (.aload_n 0, 1) := by decide +kernel
theorem dX6_write_28 : decode cX6_write 28 = .ok (.getfield 13, 3) := by decide +kernel
theorem dX6_write_31 : decode cX6_write 31 = .ok (.iload_n 1, 1) := by decide +kernel
theorem dX6_write_32 : decode cX6_write 32 = .ok (.invokestatic 99, 3) := by decide +kernel
theorem dX6_write_35 : decode cX6_write 35 = .ok (.ifCond .eq 7, 3) := by decide +kernel
theorem dX6_write_38 : decode cX6_write 38 = .ok (.iconst 0, 1) := by decide +kernel
theorem dX6_write_39 : decode cX6_write 39 = .ok (.goto 4, 3) := by decide +kernel
theorem dX6_write_42 : decode cX6_write 42 = .ok (.iconst 3, 1) := by decide +kernel
theorem dX6_write_43 : decode cX6_write 43 = .ok (.invokevirtual 83, 3) := by decide +kernel
theorem dX6_write_46 : decode cX6_write 46 = .ok (.ifCond .eq 5, 3) := by decide +kernel
theorem dX6_write_49 : decode cX6_write 49 = .ok (.iconst 0, 1) := by decide +kernel
theorem dX6_write_50 : decode cX6_write 50 = .ok (.ireturn, 1) := by decide +kernel
theorem dX6_write_51 : decode cX6_write 51 = .ok (.aload_n 0, 1) := by decide +kernel
theorem dX6_write_52 : decode cX6_write 52 = .ok (.invokevirtual 145, 3) := by decide +kernel
theorem dX6_write_55 : decode cX6_write 55 = .ok (.aload_n 0, 1) := by decide +kernel
theorem dX6_write_56 : decode cX6_write 56 = .ok (.getfield 13, 3) := by decide +kernel
theorem dX6_write_59 : decode cX6_write 59 = .ok (.iload_n 1, 1) := by decide +kernel
theorem dX6_write_60 : decode cX6_write 60 = .ok (.iload_n 2, 1) := by decide +kernel
theorem dX6_write_61 : decode cX6_write 61 = .ok (.invokestatic 70, 3) := by decide +kernel
theorem dX6_write_64 : decode cX6_write 64 = .ok (.ireturn, 1) := by decide +kernel
set_option maxRecDepth 20000 in
theorem ggX6_hammer_X6_isLine : GoodIn wsX6_hammer wsX6_isLine := goodIn_r _ [6, 7, 8, 5, 9] (by decide +kernel) (by decide +kernel)
set_option maxRecDepth 20000 in
theorem gX6_hammer_X6_isLine : GoodIn wsX6_hammer (va_wsS RX6 59 yX6_isLine wsX6_isLine) := goodIn_app (goodIn_of _ (by decide +kernel)) ggX6_hammer_X6_isLine
set_option maxRecDepth 20000 in
theorem ggX6_hammer_X6_in : GoodIn wsX6_hammer wsX6_in := goodIn_r _ [9] (by decide +kernel) (by decide +kernel)
set_option maxRecDepth 20000 in
theorem gX6_hammer_X6_in : GoodIn wsX6_hammer (va_wsS RX6 37 yX6_in wsX6_in) := goodIn_app (goodIn_of _ (by decide +kernel)) ggX6_hammer_X6_in
set_option maxRecDepth 20000 in
theorem ggX6_hammer_X6_refused : GoodIn wsX6_hammer wsX6_refused := goodIn_r _ [13, 14, 42, 43, 44, 45, 46, 47, 48, 49, 50, 51, 52] (by decide +kernel) (by decide +kernel)
set_option maxRecDepth 20000 in
theorem gX6_hammer_X6_refused : GoodIn wsX6_hammer (wsV RX6 83 RX6 yX6_refused wsX6_refused) := goodIn_app (goodIn_of _ (by decide +kernel)) ggX6_hammer_X6_refused
set_option maxRecDepth 20000 in
theorem ggX6_hammer_X6_remember : GoodIn wsX6_hammer wsX6_remember := goodIn_r _ [18, 19, 20, 1, 21, 22, 5, 23, 42, 43, 44, 45, 46, 47, 48, 49, 50, 51, 52] (by decide +kernel) (by decide +kernel)
set_option maxRecDepth 20000 in
theorem gX6_hammer_X6_remember : GoodIn wsX6_hammer (wsV RX6 145 RX6 yX6_remember wsX6_remember) := goodIn_app (goodIn_of _ (by decide +kernel)) ggX6_hammer_X6_remember
set_option maxRecDepth 20000 in
theorem ggX6_hammer_X6_hammerOn : GoodIn wsX6_hammer wsX6_hammerOn := goodIn_r _ [26, 27, 28, 5, 29, 30, 31, 32, 33, 34, 35, 36, 37, 38, 39, 40, 41] (by decide +kernel) (by decide +kernel)
set_option maxRecDepth 20000 in
theorem gX6_hammer_X6_hammerOn : GoodIn wsX6_hammer (va_wsS RX6 106 yX6_hammerOn wsX6_hammerOn) := goodIn_app (goodIn_of _ (by decide +kernel)) ggX6_hammer_X6_hammerOn
theorem dX6_hammer_0 : decode cX6_hammer 0 = .ok (.aload_n 0, 1) := by decide +kernel
theorem dX6_hammer_1 : decode cX6_hammer 1 = .ok (.aload_n 0, 1) := by decide +kernel
theorem dX6_hammer_2 : decode cX6_hammer 2 = .ok (.getfield 13, 3) := by decide +kernel
theorem dX6_hammer_5 : decode cX6_hammer 5 = .ok (.iload_n 1, 1) := by decide +kernel
theorem dX6_hammer_6 : decode cX6_hammer 6 = .ok (.invokestatic 59, 3) := by decide +kernel
theorem dX6_hammer_9 : decode cX6_hammer 9 = .ok (.ifCond .ne 7, 3) := by decide +kernel
theorem dX6_hammer_12 : decode cX6_hammer 12 = .ok (.iconst 1, 1) := by decide +kernel
theorem dX6_hammer_13 : decode cX6_hammer 13 = .ok (.goto 20, 3) := by decide +kernel
theorem dX6_hammer_16 : decode cX6_hammer 16 = .ok (.iload_n 2, 1) := by decide +kernel
theorem dX6_hammer_17 : decode cX6_hammer 17 = .ok (.i2l, 1) := by decide +kernel
theorem dX6_hammer_18 : decode cX6_hammer 18 = .ok (.lconst 1, 1) := by decide +kernel
theorem dX6_hammer_19 : decode cX6_hammer 19 = .ok (.ldc2_w 151, 3) := by decide +kernel
theorem dX6_hammer_22 : decode cX6_hammer 22 = .ok (.invokestatic 37, 3) := by decide +kernel
theorem dX6_hammer_25 : decode cX6_hammer 25 = .ok (.ifCond .eq 7, 3) := by decide +kernel
theorem dX6_hammer_28 : decode cX6_hammer 28 = .ok (.iconst 0, 1) := by decide +kernel
theorem dX6_hammer_29 : decode cX6_hammer 29 = .ok (.goto 4, 3) := by decide +kernel
theorem dX6_hammer_32 : decode cX6_hammer 32 = .ok (.iconst 2, 1) := by decide +kernel
theorem dX6_hammer_33 : decode cX6_hammer 33 = .ok (.invokevirtual 83, 3) := by decide +kernel
theorem dX6_hammer_36 : decode cX6_hammer 36 = .ok (.ifCond .eq 5, 3) := by decide +kernel
theorem dX6_hammer_39 : decode cX6_hammer 39 = .ok (.iconst 0, 1) := by decide +kernel
theorem dX6_hammer_40 : decode cX6_hammer 40 = .ok (.ireturn, 1) := by decide +kernel
theorem dX6_hammer_41 : decode cX6_hammer 41 = .ok (.aload_n 0, 1) := by decide +kernel
theorem dX6_hammer_42 : decode cX6_hammer 42 = .ok (.invokevirtual 145, 3) := by decide +kernel
theorem dX6_hammer_45 : decode cX6_hammer 45 = .ok (.aload_n 0, 1) := by decide +kernel
theorem dX6_hammer_46 : decode cX6_hammer 46 = .ok (.getfield 13, 3) := by decide +kernel
theorem dX6_hammer_49 : decode cX6_hammer 49 = .ok (.iload_n 1, 1) := by decide +kernel
theorem dX6_hammer_50 : decode cX6_hammer 50 = .ok (.iload_n 2, 1) := by decide +kernel
theorem dX6_hammer_51 : decode cX6_hammer 51 = .ok (.invokestatic 106, 3) := by decide +kernel
theorem dX6_hammer_54 : decode cX6_hammer 54 = .ok (.ireturn, 1) := by decide +kernel
set_option maxRecDepth 20000 in
theorem ggX6_all_X6_in : GoodIn wsX6_all wsX6_in := goodIn_r _ [6] (by decide +kernel) (by decide +kernel)
set_option maxRecDepth 20000 in
theorem gX6_all_X6_in : GoodIn wsX6_all (va_wsS RX6 37 yX6_in wsX6_in) := goodIn_app (goodIn_of _ (by decide +kernel)) ggX6_all_X6_in
set_option maxRecDepth 20000 in
theorem ggX6_all_X6_refused : GoodIn wsX6_all wsX6_refused := goodIn_r _ [10, 11, 39, 40, 41, 42, 43, 44, 45, 46, 47, 48, 49] (by decide +kernel) (by decide +kernel)
set_option maxRecDepth 20000 in
theorem gX6_all_X6_refused : GoodIn wsX6_all (wsV RX6 83 RX6 yX6_refused wsX6_refused) := goodIn_app (goodIn_of _ (by decide +kernel)) ggX6_all_X6_refused
set_option maxRecDepth 20000 in
theorem ggX6_all_X6_remember : GoodIn wsX6_all wsX6_remember := goodIn_r _ [15, 16, 17, 2, 18, 19, 5, 20, 39, 40, 41, 42, 43, 44, 45, 46, 47, 48, 49] (by decide +kernel) (by decide +kernel)
set_option maxRecDepth 20000 in
theorem gX6_all_X6_remember : GoodIn wsX6_all (wsV RX6 145 RX6 yX6_remember wsX6_remember) := goodIn_app (goodIn_of _ (by decide +kernel)) ggX6_all_X6_remember
set_option maxRecDepth 20000 in
theorem ggX6_all_X6_allOn : GoodIn wsX6_all wsX6_allOn := goodIn_r _ [23, 24, 25, 5, 26, 27, 28, 29, 30, 31, 32, 33, 34, 35, 36, 37, 38] (by decide +kernel) (by decide +kernel)
set_option maxRecDepth 20000 in
theorem gX6_all_X6_allOn : GoodIn wsX6_all (va_wsS RX6 109 yX6_allOn wsX6_allOn) := goodIn_app (goodIn_of _ (by decide +kernel)) ggX6_all_X6_allOn
theorem dX6_all_0 : decode cX6_all 0 = .ok (.aload_n 0, 1) := by decide +kernel
theorem dX6_all_1 : decode cX6_all 1 = .ok (.iload_n 1, 1) := by decide +kernel
theorem dX6_all_2 : decode cX6_all 2 = .ok (.i2l, 1) := by decide +kernel
theorem dX6_all_3 : decode cX6_all 3 = .ok (.lconst 1, 1) := by decide +kernel
theorem dX6_all_4 : decode cX6_all 4 = .ok (.ldc2_w 76, 3) := by decide +kernel
theorem dX6_all_7 : decode cX6_all 7 = .ok (.invokestatic 37, 3) := by decide +kernel
theorem dX6_all_10 : decode cX6_all 10 = .ok (.ifCond .ne 7, 3) := by decide +kernel
theorem dX6_all_13 : decode cX6_all 13 = .ok (.iconst 1, 1) := by decide +kernel
theorem dX6_all_14 : decode cX6_all 14 = .ok (.goto 17, 3) := by decide +kernel
theorem dX6_all_17 : decode cX6_all 17 = .ok (.aload_n 0, 1) := by decide +kernel
theorem dX6_all_18 : decode cX6_all 18 = .ok (.getfield 13, 3) := by decide +kernel
theorem dX6_all_21 : decode cX6_all 21 = .ok (.iconst 0, 1) := by decide +kernel
theorem dX6_all_22 : decode cX6_all 22 = .ok (.iaload, 1) := by decide +kernel
theorem dX6_all_23 : decode cX6_all 23 = .ok (.ifCond .le 7, 3) := by decide +kernel
theorem dX6_all_26 : decode cX6_all 26 = .ok (.iconst 0, 1) := by decide +kernel
theorem dX6_all_27 : decode cX6_all 27 = .ok (.goto 4, 3) := by decide +kernel
theorem dX6_all_30 : decode cX6_all 30 = .ok (.iconst 2, 1) := by decide +kernel
theorem dX6_all_31 : decode cX6_all 31 = .ok (.invokevirtual 83, 3) := by decide +kernel
theorem dX6_all_34 : decode cX6_all 34 = .ok (.ifCond .eq 5, 3) := by decide +kernel
theorem dX6_all_37 : decode cX6_all 37 = .ok (.iconst 0, 1) := by decide +kernel
theorem dX6_all_38 : decode cX6_all 38 = .ok (.ireturn, 1) := by decide +kernel
theorem dX6_all_39 : decode cX6_all 39 = .ok (.aload_n 0, 1) := by decide +kernel
theorem dX6_all_40 : decode cX6_all 40 = .ok (.invokevirtual 145, 3) := by decide +kernel
theorem dX6_all_43 : decode cX6_all 43 = .ok (.aload_n 0, 1) := by decide +kernel
theorem dX6_all_44 : decode cX6_all 44 = .ok (.getfield 13, 3) := by decide +kernel
theorem dX6_all_47 : decode cX6_all 47 = .ok (.iload_n 1, 1) := by decide +kernel
theorem dX6_all_48 : decode cX6_all 48 = .ok (.aload_n 0, 1) := by decide +kernel
theorem dX6_all_49 : decode cX6_all 49 = .ok (.getfield 13, 3) := by decide +kernel
theorem dX6_all_52 : decode cX6_all 52 = .ok (.iconst 0, 1) := by decide +kernel
theorem dX6_all_53 : decode cX6_all 53 = .ok (.iaload, 1) := by decide +kernel
theorem dX6_all_54 : decode cX6_all 54 = .ok (.imul, 1) := by decide +kernel
theorem dX6_all_55 : decode cX6_all 55 = .ok (.invokestatic 109, 3) := by decide +kernel
theorem dX6_all_58 : decode cX6_all 58 = .ok (.ireturn, 1) := by decide +kernel
set_option maxRecDepth 20000 in
theorem ggX6_set_X6_isSetting : GoodIn wsX6_set wsX6_isSetting := goodIn_r _ [5, 6, 7, 8, 9, 10, 4, 11] (by decide +kernel) (by decide +kernel)
set_option maxRecDepth 20000 in
theorem gX6_set_X6_isSetting : GoodIn wsX6_set (va_wsS RX6 153 yX6_isSetting wsX6_isSetting) := goodIn_app (goodIn_of _ (by decide +kernel)) ggX6_set_X6_isSetting
set_option maxRecDepth 20000 in
theorem ggX6_set_X6_refused : GoodIn wsX6_set wsX6_refused := goodIn_r _ [15, 16, 26, 27, 28, 29, 30, 31, 32, 33, 34, 35, 36] (by decide +kernel) (by decide +kernel)
set_option maxRecDepth 20000 in
theorem gX6_set_X6_refused : GoodIn wsX6_set (wsV RX6 83 RX6 yX6_refused wsX6_refused) := goodIn_app (goodIn_of _ (by decide +kernel)) ggX6_set_X6_refused
set_option maxRecDepth 20000 in
theorem ggX6_set_X6_remember : GoodIn wsX6_set wsX6_remember := goodIn_r _ [20, 21, 22, 1, 23, 24, 4, 25, 26, 27, 28, 29, 30, 31, 32, 33, 34, 35, 36] (by decide +kernel) (by decide +kernel)
set_option maxRecDepth 20000 in
theorem gX6_set_X6_remember : GoodIn wsX6_set (wsV RX6 145 RX6 yX6_remember wsX6_remember) := goodIn_app (goodIn_of _ (by decide +kernel)) ggX6_set_X6_remember
theorem dX6_set_0 : decode cX6_set 0 = .ok (.aload_n 0, 1) := by decide +kernel
theorem dX6_set_1 : decode cX6_set 1 = .ok (.iload_n 1, 1) := by decide +kernel
theorem dX6_set_2 : decode cX6_set 2 = .ok (.iload_n 2, 1) := by decide +kernel
theorem dX6_set_3 : decode cX6_set 3 = .ok (.invokestatic 153, 3) := by decide +kernel
theorem dX6_set_6 : decode cX6_set 6 = .ok (.ifCond .eq 7, 3) := by decide +kernel
theorem dX6_set_9 : decode cX6_set 9 = .ok (.iconst 0, 1) := by decide +kernel
theorem dX6_set_10 : decode cX6_set 10 = .ok (.goto 4, 3) := by decide +kernel
theorem dX6_set_13 : decode cX6_set 13 = .ok (.iconst 1, 1) := by decide +kernel
theorem dX6_set_14 : decode cX6_set 14 = .ok (.invokevirtual 83, 3) := by decide +kernel
theorem dX6_set_17 : decode cX6_set 17 = .ok (.ifCond .eq 5, 3) := by decide +kernel
theorem dX6_set_20 : decode cX6_set 20 = .ok (.iconst 0, 1) := by decide +kernel
theorem dX6_set_21 : decode cX6_set 21 = .ok (.ireturn, 1) := by decide +kernel
theorem dX6_set_22 : decode cX6_set 22 = .ok (.aload_n 0, 1) := by decide +kernel
theorem dX6_set_23 : decode cX6_set 23 = .ok (.invokevirtual 145, 3) := by decide +kernel
theorem dX6_set_26 : decode cX6_set 26 = .ok (.aload_n 0, 1) := by decide +kernel
theorem dX6_set_27 : decode cX6_set 27 = .ok (.getfield 13, 3) := by decide +kernel
theorem dX6_set_30 : decode cX6_set 30 = .ok (.bipush 11, 2) := by decide +kernel
theorem dX6_set_32 : decode cX6_set 32 = .ok (.iload_n 1, 1) := by decide +kernel
theorem dX6_set_33 : decode cX6_set 33 = .ok (.iadd, 1) := by decide +kernel
theorem dX6_set_34 : decode cX6_set 34 = .ok (.iaload, 1) := by decide +kernel
theorem dX6_set_35 : decode cX6_set 35 = .ok (.istore_n 3, 1) := by decide +kernel
theorem dX6_set_36 : decode cX6_set 36 = .ok (.aload_n 0, 1) := by decide +kernel
theorem dX6_set_37 : decode cX6_set 37 = .ok (.getfield 13, 3) := by decide +kernel
theorem dX6_set_40 : decode cX6_set 40 = .ok (.bipush 11, 2) := by decide +kernel
theorem dX6_set_42 : decode cX6_set 42 = .ok (.iload_n 1, 1) := by decide +kernel
theorem dX6_set_43 : decode cX6_set 43 = .ok (.iadd, 1) := by decide +kernel
theorem dX6_set_44 : decode cX6_set 44 = .ok (.iload_n 2, 1) := by decide +kernel
theorem dX6_set_45 : decode cX6_set 45 = .ok (.iastore, 1) := by decide +kernel
theorem dX6_set_46 : decode cX6_set 46 = .ok (.iload_n 3, 1) := by decide +kernel
theorem dX6_set_47 : decode cX6_set 47 = .ok (.ireturn, 1) := by decide +kernel
set_option maxRecDepth 20000 in
theorem ggX6_undo_X6_refused : GoodIn wsX6_undo wsX6_refused := goodIn_r _ [8, 9, 13, 14, 15, 16, 17, 18, 19, 20, 21, 22, 23] (by decide +kernel) (by decide +kernel)
set_option maxRecDepth 20000 in
theorem gX6_undo_X6_refused : GoodIn wsX6_undo (wsV RX6 83 RX6 yX6_refused wsX6_refused) := goodIn_app (goodIn_of _ (by decide +kernel)) ggX6_undo_X6_refused
set_option maxRecDepth 20000 in
theorem ggX6_undo_X6_copyState : GoodIn wsX6_undo wsX6_copyState := goodIn_r _ [12] (by decide +kernel) (by decide +kernel)
set_option maxRecDepth 20000 in
theorem gX6_undo_X6_copyState : GoodIn wsX6_undo (va_wsS RX6 127 yX6_copyState wsX6_copyState) := goodIn_app (goodIn_of _ (by decide +kernel)) ggX6_undo_X6_copyState
theorem dX6_undo_0 : decode cX6_undo 0 = .ok (.aload_n 0, 1) := by decide +kernel
theorem dX6_undo_1 : decode cX6_undo 1 = .ok (.aload_n 0, 1) := by decide +kernel
theorem dX6_undo_2 : decode cX6_undo 2 = .ok (.getfield 131, 3) := by decide +kernel
theorem dX6_undo_5 : decode cX6_undo 5 = .ok (.ifCond .ne 7, 3) := by decide +kernel
theorem dX6_undo_8 : decode cX6_undo 8 = .ok (.iconst 1, 1) := by decide +kernel
theorem dX6_undo_9 : decode cX6_undo 9 = .ok (.goto 4, 3) := by decide +kernel
theorem dX6_undo_12 : decode cX6_undo 12 = .ok (.iconst 0, 1) := by decide +kernel
theorem dX6_undo_13 : decode cX6_undo 13 = .ok (.invokevirtual 83, 3) := by decide +kernel
theorem dX6_undo_16 : decode cX6_undo 16 = .ok (.ifCond .eq 5, 3) := by decide +kernel
theorem dX6_undo_19 : decode cX6_undo 19 = .ok (.iconst 0, 1) := by decide +kernel
theorem dX6_undo_20 : decode cX6_undo 20 = .ok (.ireturn, 1) := by decide +kernel
theorem dX6_undo_21 : decode cX6_undo 21 = .ok (.aload_n 0, 1) := by decide +kernel
theorem dX6_undo_22 : decode cX6_undo 22 = .ok (.dup, 1) := by decide +kernel
theorem dX6_undo_23 : decode cX6_undo 23 = .ok (.getfield 131, 3) := by decide +kernel
theorem dX6_undo_26 : decode cX6_undo 26 = .ok (.iconst 1, 1) := by decide +kernel
theorem dX6_undo_27 : decode cX6_undo 27 = .ok (.isub, 1) := by decide +kernel
theorem dX6_undo_28 : decode cX6_undo 28 = .ok (.putfield 131, 3) := by decide +kernel
theorem dX6_undo_31 : decode cX6_undo 31 = .ok (.aload_n 0, 1) := by decide +kernel
theorem dX6_undo_32 : decode cX6_undo 32 = .ok (.getfield 19, 3) := by decide +kernel
theorem dX6_undo_35 : decode cX6_undo 35 = .ok (.bipush 78, 2) := by decide +kernel
theorem dX6_undo_37 : decode cX6_undo 37 = .ok (.aload_n 0, 1) := by decide +kernel
theorem dX6_undo_38 : decode cX6_undo 38 = .ok (.getfield 131, 3) := by decide +kernel
theorem dX6_undo_41 : decode cX6_undo 41 = .ok (.imul, 1) := by decide +kernel
theorem dX6_undo_42 : decode cX6_undo 42 = .ok (.aload_n 0, 1) := by decide +kernel
theorem dX6_undo_43 : decode cX6_undo 43 = .ok (.getfield 13, 3) := by decide +kernel
theorem dX6_undo_46 : decode cX6_undo 46 = .ok (.iconst 0, 1) := by decide +kernel
theorem dX6_undo_47 : decode cX6_undo 47 = .ok (.invokestatic 127, 3) := by decide +kernel
theorem dX6_undo_50 : decode cX6_undo 50 = .ok (.aload_n 0, 1) := by decide +kernel
theorem dX6_undo_51 : decode cX6_undo 51 = .ok (.getfield 131, 3) := by decide +kernel
theorem dX6_undo_54 : decode cX6_undo 54 = .ok (.ireturn, 1) := by decide +kernel
set_option maxRecDepth 20000 in
theorem ggX6_life_X6_isLine : GoodIn wsX6_life wsX6_isLine := goodIn_r _ [6, 7, 8, 5, 9] (by decide +kernel) (by decide +kernel)
set_option maxRecDepth 20000 in
theorem gX6_life_X6_isLine : GoodIn wsX6_life (va_wsS RX6 59 yX6_isLine wsX6_isLine) := goodIn_app (goodIn_of _ (by decide +kernel)) ggX6_life_X6_isLine
set_option maxRecDepth 20000 in
theorem ggX6_life_X6_refused : GoodIn wsX6_life wsX6_refused := goodIn_r _ [13, 14, 36, 37, 38, 39, 40, 41, 42, 43, 44, 45, 46] (by decide +kernel) (by decide +kernel)
set_option maxRecDepth 20000 in
theorem gX6_life_X6_refused : GoodIn wsX6_life (wsV RX6 83 RX6 yX6_refused wsX6_refused) := goodIn_app (goodIn_of _ (by decide +kernel)) ggX6_life_X6_refused
set_option maxRecDepth 20000 in
theorem ggX6_life_X6_copyState : GoodIn wsX6_life wsX6_copyState := goodIn_r _ [17] (by decide +kernel) (by decide +kernel)
set_option maxRecDepth 20000 in
theorem gX6_life_X6_copyState : GoodIn wsX6_life (va_wsS RX6 127 yX6_copyState wsX6_copyState) := goodIn_app (goodIn_of _ (by decide +kernel)) ggX6_life_X6_copyState
set_option maxRecDepth 20000 in
theorem ggX6_life_X6_hammerOn : GoodIn wsX6_life wsX6_hammerOn := goodIn_r _ [20, 21, 22, 5, 23, 24, 25, 26, 27, 28, 29, 30, 31, 32, 33, 34, 35] (by decide +kernel) (by decide +kernel)
set_option maxRecDepth 20000 in
theorem gX6_life_X6_hammerOn : GoodIn wsX6_life (va_wsS RX6 106 yX6_hammerOn wsX6_hammerOn) := goodIn_app (goodIn_of _ (by decide +kernel)) ggX6_life_X6_hammerOn
theorem dX6_life_0 : decode cX6_life 0 = .ok (.aload_n 0, 1) := by decide +kernel
theorem dX6_life_1 : decode cX6_life 1 = .ok (.aload_n 0, 1) := by decide +kernel
theorem dX6_life_2 : decode cX6_life 2 = .ok (.getfield 13, 3) := by decide +kernel
theorem dX6_life_5 : decode cX6_life 5 = .ok (.iload_n 1, 1) := by decide +kernel
theorem dX6_life_6 : decode cX6_life 6 = .ok (.invokestatic 59, 3) := by decide +kernel
theorem dX6_life_9 : decode cX6_life 9 = .ok (.ifCond .eq 7, 3) := by decide +kernel
theorem dX6_life_12 : decode cX6_life 12 = .ok (.iconst 0, 1) := by decide +kernel
theorem dX6_life_13 : decode cX6_life 13 = .ok (.goto 4, 3) := by decide +kernel
theorem dX6_life_16 : decode cX6_life 16 = .ok (.iconst 1, 1) := by decide +kernel
theorem dX6_life_17 : decode cX6_life 17 = .ok (.invokevirtual 83, 3) := by decide +kernel
theorem dX6_life_20 : decode cX6_life 20 = .ok (.ifCond .eq 5, 3) := by decide +kernel
theorem dX6_life_23 : decode cX6_life 23 = .ok (.iconst 0, 1) := by decide +kernel
theorem dX6_life_24 : decode cX6_life 24 = .ok (.ireturn, 1) := by decide +kernel
theorem dX6_life_25 : decode cX6_life 25 = .ok (.aload_n 0, 1) := by decide +kernel
theorem dX6_life_26 : decode cX6_life 26 = .ok (.getfield 13, 3) := by decide +kernel
theorem dX6_life_29 : decode cX6_life 29 = .ok (.iconst 0, 1) := by decide +kernel
theorem dX6_life_30 : decode cX6_life 30 = .ok (.aload_n 0, 1) := by decide +kernel
theorem dX6_life_31 : decode cX6_life 31 = .ok (.getfield 16, 3) := by decide +kernel
theorem dX6_life_34 : decode cX6_life 34 = .ok (.iconst 0, 1) := by decide +kernel
theorem dX6_life_35 : decode cX6_life 35 = .ok (.invokestatic 127, 3) := by decide +kernel
theorem dX6_life_38 : decode cX6_life 38 = .ok (.aload_n 0, 1) := by decide +kernel
theorem dX6_life_39 : decode cX6_life 39 = .ok (.getfield 16, 3) := by decide +kernel
theorem dX6_life_42 : decode cX6_life 42 = .ok (.iload_n 1, 1) := by decide +kernel
theorem dX6_life_43 : decode cX6_life 43 = .ok (.sipush 2000, 3) := by decide +kernel
theorem dX6_life_46 : decode cX6_life 46 = .ok (.invokestatic 106, 3) := by decide +kernel
theorem dX6_life_49 : decode cX6_life 49 = .ok (.ireturn, 1) := by decide +kernel
set_option maxRecDepth 20000 in
theorem ggX6_lifeOfAll_X6_refused : GoodIn wsX6_lifeOfAll wsX6_refused := goodIn_r _ [7, 8, 30, 31, 32, 33, 34, 35, 36, 37, 38, 39, 40] (by decide +kernel) (by decide +kernel)
set_option maxRecDepth 20000 in
theorem gX6_lifeOfAll_X6_refused : GoodIn wsX6_lifeOfAll (wsV RX6 83 RX6 yX6_refused wsX6_refused) := goodIn_app (goodIn_of _ (by decide +kernel)) ggX6_lifeOfAll_X6_refused
set_option maxRecDepth 20000 in
theorem ggX6_lifeOfAll_X6_copyState : GoodIn wsX6_lifeOfAll wsX6_copyState := goodIn_r _ [11] (by decide +kernel) (by decide +kernel)
set_option maxRecDepth 20000 in
theorem gX6_lifeOfAll_X6_copyState : GoodIn wsX6_lifeOfAll (va_wsS RX6 127 yX6_copyState wsX6_copyState) := goodIn_app (goodIn_of _ (by decide +kernel)) ggX6_lifeOfAll_X6_copyState
set_option maxRecDepth 20000 in
theorem ggX6_lifeOfAll_X6_allOn : GoodIn wsX6_lifeOfAll wsX6_allOn := goodIn_r _ [14, 15, 16, 6, 17, 18, 19, 20, 21, 22, 23, 24, 25, 26, 27, 28, 29] (by decide +kernel) (by decide +kernel)
set_option maxRecDepth 20000 in
theorem gX6_lifeOfAll_X6_allOn : GoodIn wsX6_lifeOfAll (va_wsS RX6 109 yX6_allOn wsX6_allOn) := goodIn_app (goodIn_of _ (by decide +kernel)) ggX6_lifeOfAll_X6_allOn
theorem dX6_lifeOfAll_0 : decode cX6_lifeOfAll 0 = .ok (.aload_n 0, 1) := by decide +kernel
theorem dX6_lifeOfAll_1 : decode cX6_lifeOfAll 1 = .ok (.aload_n 0, 1) := by decide +kernel
theorem dX6_lifeOfAll_2 : decode cX6_lifeOfAll 2 = .ok (.getfield 13, 3) := by decide +kernel
theorem dX6_lifeOfAll_5 : decode cX6_lifeOfAll 5 = .ok (.iconst 0, 1) := by decide +kernel
theorem dX6_lifeOfAll_6 : decode cX6_lifeOfAll 6 = .ok (.iaload, 1) := by decide +kernel
theorem dX6_lifeOfAll_7 : decode cX6_lifeOfAll 7 = .ok (.ifCond .le 7, 3) := by decide +kernel
theorem dX6_lifeOfAll_10 : decode cX6_lifeOfAll 10 = .ok (.iconst 0, 1) := by decide +kernel
theorem dX6_lifeOfAll_11 : decode cX6_lifeOfAll 11 = .ok (.goto 4, 3) := by decide +kernel
theorem dX6_lifeOfAll_14 : decode cX6_lifeOfAll 14 = .ok (.iconst 1, 1) := by decide +kernel
theorem dX6_lifeOfAll_15 : decode cX6_lifeOfAll 15 = .ok (.invokevirtual 83, 3) := by decide +kernel
theorem dX6_lifeOfAll_18 : decode cX6_lifeOfAll 18 = .ok (.ifCond .eq 5, 3) := by decide +kernel
theorem dX6_lifeOfAll_21 : decode cX6_lifeOfAll 21 = .ok (.iconst 0, 1) := by decide +kernel
theorem dX6_lifeOfAll_22 : decode cX6_lifeOfAll 22 = .ok (.ireturn, 1) := by decide +kernel
theorem dX6_lifeOfAll_23 : decode cX6_lifeOfAll 23 = .ok (.aload_n 0, 1) := by decide +kernel
theorem dX6_lifeOfAll_24 : decode cX6_lifeOfAll 24 = .ok (.getfield 13, 3) := by decide +kernel
theorem dX6_lifeOfAll_27 : decode cX6_lifeOfAll 27 = .ok (.iconst 0, 1) := by decide +kernel
theorem dX6_lifeOfAll_28 : decode cX6_lifeOfAll 28 = .ok (.aload_n 0, 1) := by decide +kernel
theorem dX6_lifeOfAll_29 : decode cX6_lifeOfAll 29 = .ok (.getfield 16, 3) := by decide +kernel
theorem dX6_lifeOfAll_32 : decode cX6_lifeOfAll 32 = .ok (.iconst 0, 1) := by decide +kernel
theorem dX6_lifeOfAll_33 : decode cX6_lifeOfAll 33 = .ok (.invokestatic 127, 3) := by decide +kernel
theorem dX6_lifeOfAll_36 : decode cX6_lifeOfAll 36 = .ok (.aload_n 0, 1) := by decide +kernel
theorem dX6_lifeOfAll_37 : decode cX6_lifeOfAll 37 = .ok (.getfield 16, 3) := by decide +kernel
theorem dX6_lifeOfAll_40 : decode cX6_lifeOfAll 40 = .ok (.sipush 4000, 3) := by decide +kernel
theorem dX6_lifeOfAll_43 : decode cX6_lifeOfAll 43 = .ok (.invokestatic 109, 3) := by decide +kernel
theorem dX6_lifeOfAll_46 : decode cX6_lifeOfAll 46 = .ok (.ireturn, 1) := by decide +kernel
set_option maxRecDepth 20000 in
theorem ggX6_worst_X6_copyState : GoodIn wsX6_worst wsX6_copyState := goodIn_r _ [6] (by decide +kernel) (by decide +kernel)
set_option maxRecDepth 20000 in
theorem gX6_worst_X6_copyState : GoodIn wsX6_worst (va_wsS RX6 127 yX6_copyState wsX6_copyState) := goodIn_app (goodIn_of _ (by decide +kernel)) ggX6_worst_X6_copyState
set_option maxRecDepth 20000 in
theorem ggX6_worst_X6_hammerOn : GoodIn wsX6_worst wsX6_hammerOn := goodIn_r _ [9, 10, 11, 5, 12, 13, 14, 15, 16, 17, 18, 19, 20, 21, 22, 23, 24] (by decide +kernel) (by decide +kernel)
set_option maxRecDepth 20000 in
theorem gX6_worst_X6_hammerOn : GoodIn wsX6_worst (va_wsS RX6 106 yX6_hammerOn wsX6_hammerOn) := goodIn_app (goodIn_of _ (by decide +kernel)) ggX6_worst_X6_hammerOn
set_option maxRecDepth 20000 in
theorem ggX6_worst_X6_greatest : GoodIn wsX6_worst wsX6_greatest := goodIn_r _ [27] (by decide +kernel) (by decide +kernel)
set_option maxRecDepth 20000 in
theorem gX6_worst_X6_greatest : GoodIn wsX6_worst (va_wsS RX6 136 yX6_greatest wsX6_greatest) := goodIn_app (goodIn_of _ (by decide +kernel)) ggX6_worst_X6_greatest
theorem dX6_worst_0 : decode cX6_worst 0 = .ok (.aload_n 0, 1) := by decide +kernel
theorem dX6_worst_1 : decode cX6_worst 1 = .ok (.getfield 13, 3) := by decide +kernel
theorem dX6_worst_4 : decode cX6_worst 4 = .ok (.iconst 0, 1) := by decide +kernel
theorem dX6_worst_5 : decode cX6_worst 5 = .ok (.aload_n 0, 1) := by decide +kernel
theorem dX6_worst_6 : decode cX6_worst 6 = .ok (.getfield 16, 3) := by decide +kernel
theorem dX6_worst_9 : decode cX6_worst 9 = .ok (.iconst 0, 1) := by decide +kernel
theorem dX6_worst_10 : decode cX6_worst 10 = .ok (.invokestatic 127, 3) := by decide +kernel
theorem dX6_worst_13 : decode cX6_worst 13 = .ok (.aload_n 0, 1) := by decide +kernel
theorem dX6_worst_14 : decode cX6_worst 14 = .ok (.getfield 16, 3) := by decide +kernel
theorem dX6_worst_17 : decode cX6_worst 17 = .ok (.bipush 12, 2) := by decide +kernel
theorem dX6_worst_19 : decode cX6_worst 19 = .ok (.iload_n 2, 1) := by decide +kernel
theorem dX6_worst_20 : decode cX6_worst 20 = .ok (.iastore, 1) := by decide +kernel
theorem dX6_worst_21 : decode cX6_worst 21 = .ok (.aload_n 0, 1) := by decide +kernel
theorem dX6_worst_22 : decode cX6_worst 22 = .ok (.getfield 16, 3) := by decide +kernel
theorem dX6_worst_25 : decode cX6_worst 25 = .ok (.iload_n 1, 1) := by decide +kernel
theorem dX6_worst_26 : decode cX6_worst 26 = .ok (.iload_n 3, 1) := by decide +kernel
theorem dX6_worst_27 : decode cX6_worst 27 = .ok (.invokestatic 106, 3) := by decide +kernel
theorem dX6_worst_30 : decode cX6_worst 30 = .ok (.pop, 1) := by decide +kernel
theorem dX6_worst_31 : decode cX6_worst 31 = .ok (.aload_n 0, 1) := by decide +kernel
theorem dX6_worst_32 : decode cX6_worst 32 = .ok (.getfield 16, 3) := by decide +kernel
theorem dX6_worst_35 : decode cX6_worst 35 = .ok (.invokestatic 136, 3) := by decide +kernel
theorem dX6_worst_38 : decode cX6_worst 38 = .ok (.ireturn, 1) := by decide +kernel
set_option maxRecDepth 20000 in
theorem ggX6_ifEvery_X6_isLine : GoodIn wsX6_ifEvery wsX6_isLine := goodIn_r _ [7, 8, 9, 6, 10] (by decide +kernel) (by decide +kernel)
set_option maxRecDepth 20000 in
theorem gX6_ifEvery_X6_isLine : GoodIn wsX6_ifEvery (va_wsS RX6 59 yX6_isLine wsX6_isLine) := goodIn_app (goodIn_of _ (by decide +kernel)) ggX6_ifEvery_X6_isLine
set_option maxRecDepth 20000 in
theorem ggX6_ifEvery_X6_in : GoodIn wsX6_ifEvery wsX6_in := goodIn_r _ [10] (by decide +kernel) (by decide +kernel)
set_option maxRecDepth 20000 in
theorem gX6_ifEvery_X6_in : GoodIn wsX6_ifEvery (va_wsS RX6 37 yX6_in wsX6_in) := goodIn_app (goodIn_of _ (by decide +kernel)) ggX6_ifEvery_X6_in
set_option maxRecDepth 20000 in
theorem ggX6_ifEvery_X6_refused : GoodIn wsX6_ifEvery wsX6_refused := goodIn_r _ [14, 15, 45, 46, 47, 48, 49, 50, 51, 52, 53, 54, 55] (by decide +kernel) (by decide +kernel)
set_option maxRecDepth 20000 in
theorem gX6_ifEvery_X6_refused : GoodIn wsX6_ifEvery (wsV RX6 83 RX6 yX6_refused wsX6_refused) := goodIn_app (goodIn_of _ (by decide +kernel)) ggX6_ifEvery_X6_refused
set_option maxRecDepth 20000 in
theorem ggX6_ifEvery_X6_worst : GoodIn wsX6_ifEvery wsX6_worst := goodIn_r _ [19, 1, 20, 21, 22, 6, 23, 24, 25, 26, 27, 28, 29, 30, 31, 32, 33, 34, 35, 36, 37, 38, 39, 40, 41, 42, 43, 44, 45, 46, 47, 48, 49, 50, 51, 52, 53, 54, 55] (by decide +kernel) (by decide +kernel)
set_option maxRecDepth 20000 in
theorem gX6_ifEvery_X6_worst : GoodIn wsX6_ifEvery (wsV RX6 156 RX6 yX6_worst wsX6_worst) := goodIn_app (goodIn_of _ (by decide +kernel)) ggX6_ifEvery_X6_worst
theorem dX6_ifEvery_0 : decode cX6_ifEvery 0 = .ok (.aload_n 0, 1) := by decide +kernel
theorem dX6_ifEvery_1 : decode cX6_ifEvery 1 = .ok (.aload_n 0, 1) := by decide +kernel
theorem dX6_ifEvery_2 : decode cX6_ifEvery 2 = .ok (.getfield 13, 3) := by decide +kernel
theorem dX6_ifEvery_5 : decode cX6_ifEvery 5 = .ok (.iload_n 1, 1) := by decide +kernel
theorem dX6_ifEvery_6 : decode cX6_ifEvery 6 = .ok (.invokestatic 59, 3) := by decide +kernel
theorem dX6_ifEvery_9 : decode cX6_ifEvery 9 = .ok (.ifCond .ne 7, 3) := by decide +kernel
theorem dX6_ifEvery_12 : decode cX6_ifEvery 12 = .ok (.iconst 1, 1) := by decide +kernel
theorem dX6_ifEvery_13 : decode cX6_ifEvery 13 = .ok (.goto 32, 3) := by decide +kernel
theorem dX6_ifEvery_16 : decode cX6_ifEvery 16 = .ok (.iload_n 2, 1) := by decide +kernel
theorem dX6_ifEvery_17 : decode cX6_ifEvery 17 = .ok (.i2l, 1) := by decide +kernel
theorem dX6_ifEvery_18 : decode cX6_ifEvery 18 = .ok (.lconst 1, 1) := by decide +kernel
theorem dX6_ifEvery_19 : decode cX6_ifEvery 19 = .ok (.ldc2_w 76, 3) := by decide +kernel
theorem dX6_ifEvery_22 : decode cX6_ifEvery 22 = .ok (.invokestatic 37, 3) := by decide +kernel
theorem dX6_ifEvery_25 : decode cX6_ifEvery 25 = .ok (.ifCond .eq 19, 3) := by decide +kernel
theorem dX6_ifEvery_28 : decode cX6_ifEvery 28 = .ok (.iload_n 3, 1) := by decide +kernel
theorem dX6_ifEvery_29 : decode cX6_ifEvery 29 = .ok (.i2l, 1) := by decide +kernel
theorem dX6_ifEvery_30 : decode cX6_ifEvery 30 = .ok (.lconst 1, 1) := by decide +kernel
theorem dX6_ifEvery_31 : decode cX6_ifEvery 31 = .ok (.ldc2_w 151, 3) := by decide +kernel
theorem dX6_ifEvery_34 : decode cX6_ifEvery 34 = .ok (.invokestatic 37, 3) := by decide +kernel
theorem dX6_ifEvery_37 : decode cX6_ifEvery 37 = .ok (.ifCond .eq 7, 3) := by decide +kernel
theorem dX6_ifEvery_40 : decode cX6_ifEvery 40 = .ok (.iconst 0, 1) := by decide +kernel
theorem dX6_ifEvery_41 : decode cX6_ifEvery 41 = .ok (.goto 4, 3) := by decide +kernel
theorem dX6_ifEvery_44 : decode cX6_ifEvery 44 = .ok (.iconst 2, 1) := by decide +kernel
theorem dX6_ifEvery_45 : decode cX6_ifEvery 45 = .ok (.invokevirtual 83, 3) := by decide +kernel
theorem dX6_ifEvery_48 : decode cX6_ifEvery 48 = .ok (.ifCond .eq 5, 3) := by decide +kernel
theorem dX6_ifEvery_51 : decode cX6_ifEvery 51 = .ok (.iconst 0, 1) := by decide +kernel
theorem dX6_ifEvery_52 : decode cX6_ifEvery 52 = .ok (.ireturn, 1) := by decide +kernel
theorem dX6_ifEvery_53 : decode cX6_ifEvery 53 = .ok (.aload_n 0, 1) := by decide +kernel
theorem dX6_ifEvery_54 : decode cX6_ifEvery 54 = .ok (.iload_n 1, 1) := by decide +kernel
theorem dX6_ifEvery_55 : decode cX6_ifEvery 55 = .ok (.iload_n 2, 1) := by decide +kernel
theorem dX6_ifEvery_56 : decode cX6_ifEvery 56 = .ok (.iload_n 3, 1) := by decide +kernel
theorem dX6_ifEvery_57 : decode cX6_ifEvery 57 = .ok (.invokevirtual 156, 3) := by decide +kernel
theorem dX6_ifEvery_60 : decode cX6_ifEvery 60 = .ok (.ireturn, 1) := by decide +kernel
set_option maxRecDepth 20000 in
theorem ggX6_bestEvery_X6_isLine : GoodIn wsX6_bestEvery wsX6_isLine := goodIn_r _ [6, 7, 8, 5, 9] (by decide +kernel) (by decide +kernel)
set_option maxRecDepth 20000 in
theorem gX6_bestEvery_X6_isLine : GoodIn wsX6_bestEvery (va_wsS RX6 59 yX6_isLine wsX6_isLine) := goodIn_app (goodIn_of _ (by decide +kernel)) ggX6_bestEvery_X6_isLine
set_option maxRecDepth 20000 in
theorem ggX6_bestEvery_X6_in : GoodIn wsX6_bestEvery wsX6_in := goodIn_r _ [9] (by decide +kernel) (by decide +kernel)
set_option maxRecDepth 20000 in
theorem gX6_bestEvery_X6_in : GoodIn wsX6_bestEvery (va_wsS RX6 37 yX6_in wsX6_in) := goodIn_app (goodIn_of _ (by decide +kernel)) ggX6_bestEvery_X6_in
set_option maxRecDepth 20000 in
theorem ggX6_bestEvery_X6_refused : GoodIn wsX6_bestEvery wsX6_refused := goodIn_r _ [13, 14, 44, 45, 46, 47, 48, 49, 50, 51, 52, 53, 54] (by decide +kernel) (by decide +kernel)
set_option maxRecDepth 20000 in
theorem gX6_bestEvery_X6_refused : GoodIn wsX6_bestEvery (wsV RX6 83 RX6 yX6_refused wsX6_refused) := goodIn_app (goodIn_of _ (by decide +kernel)) ggX6_bestEvery_X6_refused
set_option maxRecDepth 20000 in
theorem ggX6_bestEvery_X6_worst : GoodIn wsX6_bestEvery wsX6_worst := goodIn_r _ [18, 1, 19, 20, 21, 5, 22, 23, 24, 25, 26, 27, 28, 29, 30, 31, 32, 33, 34, 35, 36, 37, 38, 39, 40, 41, 42, 43, 44, 45, 46, 47, 48, 49, 50, 51, 52, 53, 54] (by decide +kernel) (by decide +kernel)
set_option maxRecDepth 20000 in
theorem gX6_bestEvery_X6_worst : GoodIn wsX6_bestEvery (wsV RX6 156 RX6 yX6_worst wsX6_worst) := goodIn_app (goodIn_of _ (by decide +kernel)) ggX6_bestEvery_X6_worst
theorem dX6_bestEvery_0 : decode cX6_bestEvery 0 = .ok (.aload_n 0, 1) := by decide +kernel
theorem dX6_bestEvery_1 : decode cX6_bestEvery 1 = .ok (.aload_n 0, 1) := by decide +kernel
theorem dX6_bestEvery_2 : decode cX6_bestEvery 2 = .ok (.getfield 13, 3) := by decide +kernel
theorem dX6_bestEvery_5 : decode cX6_bestEvery 5 = .ok (.iload_n 1, 1) := by decide +kernel
theorem dX6_bestEvery_6 : decode cX6_bestEvery 6 = .ok (.invokestatic 59, 3) := by decide +kernel
theorem dX6_bestEvery_9 : decode cX6_bestEvery 9 = .ok (.ifCond .ne 7, 3) := by decide +kernel
theorem dX6_bestEvery_12 : decode cX6_bestEvery 12 = .ok (.iconst 1, 1) := by decide +kernel
theorem dX6_bestEvery_13 : decode cX6_bestEvery 13 = .ok (.goto 20, 3) := by decide +kernel
theorem dX6_bestEvery_16 : decode cX6_bestEvery 16 = .ok (.iload_n 2, 1) := by decide +kernel
theorem dX6_bestEvery_17 : decode cX6_bestEvery 17 = .ok (.i2l, 1) := by decide +kernel
theorem dX6_bestEvery_18 : decode cX6_bestEvery 18 = .ok (.lconst 1, 1) := by decide +kernel
theorem dX6_bestEvery_19 : decode cX6_bestEvery 19 = .ok (.ldc2_w 151, 3) := by decide +kernel
theorem dX6_bestEvery_22 : decode cX6_bestEvery 22 = .ok (.invokestatic 37, 3) := by decide +kernel
theorem dX6_bestEvery_25 : decode cX6_bestEvery 25 = .ok (.ifCond .eq 7, 3) := by decide +kernel
theorem dX6_bestEvery_28 : decode cX6_bestEvery 28 = .ok (.iconst 0, 1) := by decide +kernel
theorem dX6_bestEvery_29 : decode cX6_bestEvery 29 = .ok (.goto 4, 3) := by decide +kernel
theorem dX6_bestEvery_32 : decode cX6_bestEvery 32 = .ok (.iconst 2, 1) := by decide +kernel
theorem dX6_bestEvery_33 : decode cX6_bestEvery 33 = .ok (.invokevirtual 83, 3) := by decide +kernel
theorem dX6_bestEvery_36 : decode cX6_bestEvery 36 = .ok (.ifCond .eq 5, 3) := by decide +kernel
theorem dX6_bestEvery_39 : decode cX6_bestEvery 39 = .ok (.iconst 0, 1) := by decide +kernel
theorem dX6_bestEvery_40 : decode cX6_bestEvery 40 = .ok (.ireturn, 1) := by decide +kernel
theorem dX6_bestEvery_41 : decode cX6_bestEvery 41 = .ok (.bipush 50, 2) := by decide +kernel
theorem dX6_bestEvery_43 : decode cX6_bestEvery 43 = .ok (.istore_n 3, 1) := by decide +kernel
theorem dX6_bestEvery_44 : decode cX6_bestEvery 44 = .ok (.aload_n 0, 1) := by decide +kernel
theorem dX6_bestEvery_45 : decode cX6_bestEvery 45 = .ok (.iload_n 1, 1) := by decide +kernel
theorem dX6_bestEvery_46 : decode cX6_bestEvery 46 = .ok (.bipush 50, 2) := by decide +kernel
theorem dX6_bestEvery_48 : decode cX6_bestEvery 48 = .ok (.iload_n 2, 1) := by decide +kernel
theorem dX6_bestEvery_49 : decode cX6_bestEvery 49 = .ok (.invokevirtual 156, 3) := by decide +kernel
theorem dX6_bestEvery_52 : decode cX6_bestEvery 52 = .ok (.istore 4, 2) := by decide +kernel
theorem dX6_bestEvery_54 : decode cX6_bestEvery 54 = .ok (.bipush 49, 2) := by decide +kernel
theorem dX6_bestEvery_56 : decode cX6_bestEvery 56 = .ok (.istore 5, 2) := by decide +kernel
theorem dX6_bestEvery_58 : decode cX6_bestEvery 58 = .ok (.iload 5, 2) := by decide +kernel
theorem dX6_bestEvery_60 : decode cX6_bestEvery 60 = .ok (.ifCond .le 49, 3) := by decide +kernel
theorem dX6_bestEvery_63 : decode cX6_bestEvery 63 = .ok (.aload_n 0, 1) := by decide +kernel
theorem dX6_bestEvery_64 : decode cX6_bestEvery 64 = .ok (.iload_n 1, 1) := by decide +kernel
theorem dX6_bestEvery_65 : decode cX6_bestEvery 65 = .ok (.iload 5, 2) := by decide +kernel
theorem dX6_bestEvery_67 : decode cX6_bestEvery 67 = .ok (.iload_n 2, 1) := by decide +kernel
theorem dX6_bestEvery_68 : decode cX6_bestEvery 68 = .ok (.invokevirtual 156, 3) := by decide +kernel
theorem dX6_bestEvery_71 : decode cX6_bestEvery 71 = .ok (.istore 6, 2) := by decide +kernel
theorem dX6_bestEvery_73 : decode cX6_bestEvery 73 = .ok (.iload 6, 2) := by decide +kernel
theorem dX6_bestEvery_75 : decode cX6_bestEvery 75 = .ok (.iload 4, 2) := by decide +kernel
theorem dX6_bestEvery_77 : decode cX6_bestEvery 77 = .ok (.if_icmp .ge 8, 3) := by decide +kernel
theorem dX6_bestEvery_80 : decode cX6_bestEvery 80 = .ok (.iload 5, 2) := by decide +kernel
theorem dX6_bestEvery_82 : decode cX6_bestEvery 82 = .ok (.goto 4, 3) := by decide +kernel
theorem dX6_bestEvery_85 : decode cX6_bestEvery 85 = .ok (.iload_n 3, 1) := by decide +kernel
theorem dX6_bestEvery_86 : decode cX6_bestEvery 86 = .ok (.istore_n 3, 1) := by decide +kernel
theorem dX6_bestEvery_87 : decode cX6_bestEvery 87 = .ok (.iload 6, 2) := by decide +kernel
theorem dX6_bestEvery_89 : decode cX6_bestEvery 89 = .ok (.iload 4, 2) := by decide +kernel
theorem dX6_bestEvery_91 : decode cX6_bestEvery 91 = .ok (.if_icmp .ge 8, 3) := by decide +kernel
theorem dX6_bestEvery_94 : decode cX6_bestEvery 94 = .ok (.iload 6, 2) := by decide +kernel
theorem dX6_bestEvery_96 : decode cX6_bestEvery 96 = .ok (.goto 5, 3) := by decide +kernel
theorem dX6_bestEvery_99 : decode cX6_bestEvery 99 = .ok (.iload 4, 2) := by decide +kernel
theorem dX6_bestEvery_101 : decode cX6_bestEvery 101 = .ok (.istore 4, 2) := by decide +kernel
theorem dX6_bestEvery_103 : decode cX6_bestEvery 103 = .ok (.iinc 5 (-1), 3) := by decide +kernel
theorem dX6_bestEvery_106 : decode cX6_bestEvery 106 = .ok (.goto (-48), 3) := by decide +kernel
theorem dX6_bestEvery_109 : decode cX6_bestEvery 109 = .ok (.iload_n 3, 1) := by decide +kernel
theorem dX6_bestEvery_110 : decode cX6_bestEvery 110 = .ok (.ireturn, 1) := by decide +kernel
set_option maxRecDepth 20000 in
theorem ggX6_movesTo_X6_isLine : GoodIn wsX6_movesTo wsX6_isLine := goodIn_r _ [5, 6, 7, 4, 8] (by decide +kernel) (by decide +kernel)
set_option maxRecDepth 20000 in
theorem gX6_movesTo_X6_isLine : GoodIn wsX6_movesTo (va_wsS RX6 59 yX6_isLine wsX6_isLine) := goodIn_app (goodIn_of _ (by decide +kernel)) ggX6_movesTo_X6_isLine
set_option maxRecDepth 20000 in
theorem ggX6_movesTo_X6_refused : GoodIn wsX6_movesTo wsX6_refused := goodIn_r _ [12, 13, 20, 21, 22, 23, 24, 25, 26, 27, 28, 29, 30] (by decide +kernel) (by decide +kernel)
set_option maxRecDepth 20000 in
theorem gX6_movesTo_X6_refused : GoodIn wsX6_movesTo (wsV RX6 83 RX6 yX6_refused wsX6_refused) := goodIn_app (goodIn_of _ (by decide +kernel)) ggX6_movesTo_X6_refused
set_option maxRecDepth 20000 in
theorem ggX6_movesTo_X6_placeWith : GoodIn wsX6_movesTo wsX6_placeWith := goodIn_r _ [16] (by decide +kernel) (by decide +kernel)
set_option maxRecDepth 20000 in
theorem gX6_movesTo_X6_placeWith : GoodIn wsX6_movesTo (va_wsS RX6 51 yX6_placeWith wsX6_placeWith) := goodIn_app (goodIn_of _ (by decide +kernel)) ggX6_movesTo_X6_placeWith
set_option maxRecDepth 20000 in
theorem ggX6_movesTo_X6_placeOf : GoodIn wsX6_movesTo wsX6_placeOf := goodIn_r _ [19, 14, 15, 4, 16] (by decide +kernel) (by decide +kernel)
set_option maxRecDepth 20000 in
theorem gX6_movesTo_X6_placeOf : GoodIn wsX6_movesTo (va_wsS RX6 63 yX6_placeOf wsX6_placeOf) := goodIn_app (goodIn_of _ (by decide +kernel)) ggX6_movesTo_X6_placeOf
theorem dX6_movesTo_0 : decode cX6_movesTo 0 = .ok (.aload_n 0, 1) := by decide +kernel
theorem dX6_movesTo_1 : decode cX6_movesTo 1 = .ok (.aload_n 0, 1) := by decide +kernel
theorem dX6_movesTo_2 : decode cX6_movesTo 2 = .ok (.getfield 13, 3) := by decide +kernel
theorem dX6_movesTo_5 : decode cX6_movesTo 5 = .ok (.iload_n 1, 1) := by decide +kernel
theorem dX6_movesTo_6 : decode cX6_movesTo 6 = .ok (.invokestatic 59, 3) := by decide +kernel
theorem dX6_movesTo_9 : decode cX6_movesTo 9 = .ok (.ifCond .eq 7, 3) := by decide +kernel
theorem dX6_movesTo_12 : decode cX6_movesTo 12 = .ok (.iconst 0, 1) := by decide +kernel
theorem dX6_movesTo_13 : decode cX6_movesTo 13 = .ok (.goto 4, 3) := by decide +kernel
theorem dX6_movesTo_16 : decode cX6_movesTo 16 = .ok (.iconst 1, 1) := by decide +kernel
theorem dX6_movesTo_17 : decode cX6_movesTo 17 = .ok (.invokevirtual 83, 3) := by decide +kernel
theorem dX6_movesTo_20 : decode cX6_movesTo 20 = .ok (.ifCond .eq 5, 3) := by decide +kernel
theorem dX6_movesTo_23 : decode cX6_movesTo 23 = .ok (.iconst 0, 1) := by decide +kernel
theorem dX6_movesTo_24 : decode cX6_movesTo 24 = .ok (.ireturn, 1) := by decide +kernel
theorem dX6_movesTo_25 : decode cX6_movesTo 25 = .ok (.aload_n 0, 1) := by decide +kernel
theorem dX6_movesTo_26 : decode cX6_movesTo 26 = .ok (.getfield 13, 3) := by decide +kernel
theorem dX6_movesTo_29 : decode cX6_movesTo 29 = .ok (.iconst 2, 1) := by decide +kernel
theorem dX6_movesTo_30 : decode cX6_movesTo 30 = .ok (.iaload, 1) := by decide +kernel
theorem dX6_movesTo_31 : decode cX6_movesTo 31 = .ok (.istore_n 2, 1) := by decide +kernel
theorem dX6_movesTo_32 : decode cX6_movesTo 32 = .ok (.aload_n 0, 1) := by decide +kernel
theorem dX6_movesTo_33 : decode cX6_movesTo 33 = .ok (.getfield 13, 3) := by decide +kernel
theorem dX6_movesTo_36 : decode cX6_movesTo 36 = .ok (.iconst 3, 1) := by decide +kernel
theorem dX6_movesTo_37 : decode cX6_movesTo 37 = .ok (.iaload, 1) := by decide +kernel
theorem dX6_movesTo_38 : decode cX6_movesTo 38 = .ok (.istore_n 3, 1) := by decide +kernel
theorem dX6_movesTo_39 : decode cX6_movesTo 39 = .ok (.iconst 0, 1) := by decide +kernel
theorem dX6_movesTo_40 : decode cX6_movesTo 40 = .ok (.istore 4, 2) := by decide +kernel
theorem dX6_movesTo_42 : decode cX6_movesTo 42 = .ok (.aload_n 0, 1) := by decide +kernel
theorem dX6_movesTo_43 : decode cX6_movesTo 43 = .ok (.getfield 13, 3) := by decide +kernel
theorem dX6_movesTo_46 : decode cX6_movesTo 46 = .ok (.iload_n 1, 1) := by decide +kernel
theorem dX6_movesTo_47 : decode cX6_movesTo 47 = .ok (.iload_n 2, 1) := by decide +kernel
theorem dX6_movesTo_48 : decode cX6_movesTo 48 = .ok (.iload_n 3, 1) := by decide +kernel
theorem dX6_movesTo_49 : decode cX6_movesTo 49 = .ok (.invokestatic 51, 3) := by decide +kernel
theorem dX6_movesTo_52 : decode cX6_movesTo 52 = .ok (.aload_n 0, 1) := by decide +kernel
theorem dX6_movesTo_53 : decode cX6_movesTo 53 = .ok (.getfield 13, 3) := by decide +kernel
theorem dX6_movesTo_56 : decode cX6_movesTo 56 = .ok (.iload_n 1, 1) := by decide +kernel
theorem dX6_movesTo_57 : decode cX6_movesTo 57 = .ok (.invokestatic 63, 3) := by decide +kernel
theorem dX6_movesTo_60 : decode cX6_movesTo 60 = .ok (.if_icmp .ne 45, 3) := by decide +kernel
theorem dX6_movesTo_63 : decode cX6_movesTo 63 = .ok (.iload_n 3, 1) := by decide +kernel
theorem dX6_movesTo_64 : decode cX6_movesTo 64 = .ok (.ifCond .le 7, 3) := by decide +kernel
theorem dX6_movesTo_67 : decode cX6_movesTo 67 = .ok (.iload_n 2, 1) := by decide +kernel
theorem dX6_movesTo_68 : decode cX6_movesTo 68 = .ok (.goto 13, 3) := by decide +kernel
theorem dX6_movesTo_71 : decode cX6_movesTo 71 = .ok (.iload_n 2, 1) := by decide +kernel
theorem dX6_movesTo_72 : decode cX6_movesTo 72 = .ok (.iconst 1, 1) := by decide +kernel
theorem dX6_movesTo_73 : decode cX6_movesTo 73 = .ok (.iadd, 1) := by decide +kernel
theorem dX6_movesTo_74 : decode cX6_movesTo 74 = .ok (.aload_n 0, 1) := by decide +kernel
theorem dX6_movesTo_75 : decode cX6_movesTo 75 = .ok (.getfield 13, 3) := by decide +kernel
theorem dX6_movesTo_78 : decode cX6_movesTo 78 = .ok (.iconst 0, 1) := by decide +kernel
theorem dX6_movesTo_79 : decode cX6_movesTo 79 = .ok (.iaload, 1) := by decide +kernel
theorem dX6_movesTo_80 : decode cX6_movesTo 80 = .ok (.irem, 1) := by decide +kernel
theorem dX6_movesTo_81 : decode cX6_movesTo 81 = .ok (.istore_n 2, 1) := by decide +kernel
theorem dX6_movesTo_82 : decode cX6_movesTo 82 = .ok (.iload_n 3, 1) := by decide +kernel
theorem dX6_movesTo_83 : decode cX6_movesTo 83 = .ok (.ifCond .le 9, 3) := by decide +kernel
theorem dX6_movesTo_86 : decode cX6_movesTo 86 = .ok (.iload_n 3, 1) := by decide +kernel
theorem dX6_movesTo_87 : decode cX6_movesTo 87 = .ok (.iconst 1, 1) := by decide +kernel
theorem dX6_movesTo_88 : decode cX6_movesTo 88 = .ok (.isub, 1) := by decide +kernel
theorem dX6_movesTo_89 : decode cX6_movesTo 89 = .ok (.goto 9, 3) := by decide +kernel
theorem dX6_movesTo_92 : decode cX6_movesTo 92 = .ok (.aload_n 0, 1) := by decide +kernel
theorem dX6_movesTo_93 : decode cX6_movesTo 93 = .ok (.getfield 13, 3) := by decide +kernel
theorem dX6_movesTo_96 : decode cX6_movesTo 96 = .ok (.iconst 0, 1) := by decide +kernel
theorem dX6_movesTo_97 : decode cX6_movesTo 97 = .ok (.iaload, 1) := by decide +kernel
theorem dX6_movesTo_98 : decode cX6_movesTo 98 = .ok (.istore_n 3, 1) := by decide +kernel
theorem dX6_movesTo_99 : decode cX6_movesTo 99 = .ok (.iinc 4 1, 3) := by decide +kernel
theorem dX6_movesTo_102 : decode cX6_movesTo 102 = .ok (.goto (-60), 3) := by decide +kernel
theorem dX6_movesTo_105 : decode cX6_movesTo 105 = .ok (.iload 4, 2) := by decide +kernel
theorem dX6_movesTo_107 : decode cX6_movesTo 107 = .ok (.ireturn, 1) := by decide +kernel
set_option maxRecDepth 20000 in
theorem ggX6_placeBehind_X6_isLine : GoodIn wsX6_placeBehind wsX6_isLine := goodIn_r _ [6, 7, 8, 5, 9] (by decide +kernel) (by decide +kernel)
set_option maxRecDepth 20000 in
theorem gX6_placeBehind_X6_isLine : GoodIn wsX6_placeBehind (va_wsS RX6 59 yX6_isLine wsX6_isLine) := goodIn_app (goodIn_of _ (by decide +kernel)) ggX6_placeBehind_X6_isLine
set_option maxRecDepth 20000 in
theorem ggX6_placeBehind_X6_in : GoodIn wsX6_placeBehind wsX6_in := goodIn_r _ [9] (by decide +kernel) (by decide +kernel)
set_option maxRecDepth 20000 in
theorem gX6_placeBehind_X6_in : GoodIn wsX6_placeBehind (va_wsS RX6 37 yX6_in wsX6_in) := goodIn_app (goodIn_of _ (by decide +kernel)) ggX6_placeBehind_X6_in
set_option maxRecDepth 20000 in
theorem ggX6_placeBehind_X6_refused : GoodIn wsX6_placeBehind wsX6_refused := goodIn_r _ [13, 14, 18, 19, 20, 21, 22, 23, 24, 25, 26, 27, 28] (by decide +kernel) (by decide +kernel)
set_option maxRecDepth 20000 in
theorem gX6_placeBehind_X6_refused : GoodIn wsX6_placeBehind (wsV RX6 83 RX6 yX6_refused wsX6_refused) := goodIn_app (goodIn_of _ (by decide +kernel)) ggX6_placeBehind_X6_refused
set_option maxRecDepth 20000 in
theorem ggX6_placeBehind_X6_placeWith : GoodIn wsX6_placeBehind wsX6_placeWith := goodIn_r _ [17] (by decide +kernel) (by decide +kernel)
set_option maxRecDepth 20000 in
theorem gX6_placeBehind_X6_placeWith : GoodIn wsX6_placeBehind (va_wsS RX6 51 yX6_placeWith wsX6_placeWith) := goodIn_app (goodIn_of _ (by decide +kernel)) ggX6_placeBehind_X6_placeWith
theorem dX6_placeBehind_0 : decode cX6_placeBehind 0 = .ok (.aload_n 0, 1) := by decide +kernel
theorem dX6_placeBehind_1 : decode cX6_placeBehind 1 = .ok (.aload_n 0, 1) := by decide +kernel
theorem dX6_placeBehind_2 : decode cX6_placeBehind 2 = .ok (.getfield 13, 3) := by decide +kernel
theorem dX6_placeBehind_5 : decode cX6_placeBehind 5 = .ok (.iload_n 1, 1) := by decide +kernel
theorem dX6_placeBehind_6 : decode cX6_placeBehind 6 = .ok (.invokestatic 59, 3) := by decide +kernel
theorem dX6_placeBehind_9 : decode cX6_placeBehind 9 = .ok (.ifCond .ne 7, 3) := by decide +kernel
theorem dX6_placeBehind_12 : decode cX6_placeBehind 12 = .ok (.iconst 1, 1) := by decide +kernel
theorem dX6_placeBehind_13 : decode cX6_placeBehind 13 = .ok (.goto 20, 3) := by decide +kernel
theorem dX6_placeBehind_16 : decode cX6_placeBehind 16 = .ok (.iload_n 2, 1) := by decide +kernel
theorem dX6_placeBehind_17 : decode cX6_placeBehind 17 = .ok (.i2l, 1) := by decide +kernel
theorem dX6_placeBehind_18 : decode cX6_placeBehind 18 = .ok (.lconst 0, 1) := by decide +kernel
theorem dX6_placeBehind_19 : decode cX6_placeBehind 19 = .ok (.ldc2_w 160, 3) := by decide +kernel
theorem dX6_placeBehind_22 : decode cX6_placeBehind 22 = .ok (.invokestatic 37, 3) := by decide +kernel
theorem dX6_placeBehind_25 : decode cX6_placeBehind 25 = .ok (.ifCond .eq 7, 3) := by decide +kernel
theorem dX6_placeBehind_28 : decode cX6_placeBehind 28 = .ok (.iconst 0, 1) := by decide +kernel
theorem dX6_placeBehind_29 : decode cX6_placeBehind 29 = .ok (.goto 4, 3) := by decide +kernel
theorem dX6_placeBehind_32 : decode cX6_placeBehind 32 = .ok (.iconst 2, 1) := by decide +kernel
theorem dX6_placeBehind_33 : decode cX6_placeBehind 33 = .ok (.invokevirtual 83, 3) := by decide +kernel
theorem dX6_placeBehind_36 : decode cX6_placeBehind 36 = .ok (.ifCond .eq 5, 3) := by decide +kernel
theorem dX6_placeBehind_39 : decode cX6_placeBehind 39 = .ok (.iconst 0, 1) := by decide +kernel
theorem dX6_placeBehind_40 : decode cX6_placeBehind 40 = .ok (.ireturn, 1) := by decide +kernel
theorem dX6_placeBehind_41 : decode cX6_placeBehind 41 = .ok (.aload_n 0, 1) := by decide +kernel
theorem dX6_placeBehind_42 : decode cX6_placeBehind 42 = .ok (.getfield 13, 3) := by decide +kernel
theorem dX6_placeBehind_45 : decode cX6_placeBehind 45 = .ok (.iconst 2, 1) := by decide +kernel
theorem dX6_placeBehind_46 : decode cX6_placeBehind 46 = .ok (.iaload, 1) := by decide +kernel
theorem dX6_placeBehind_47 : decode cX6_placeBehind 47 = .ok (.istore_n 3, 1) := by decide +kernel
theorem dX6_placeBehind_48 : decode cX6_placeBehind 48 = .ok (.aload_n 0, 1) := by decide +kernel
theorem dX6_placeBehind_49 : decode cX6_placeBehind 49 = .ok (.getfield 13, 3) := by decide +kernel
theorem dX6_placeBehind_52 : decode cX6_placeBehind 52 = .ok (.iconst 3, 1) := by decide +kernel
theorem dX6_placeBehind_53 : decode cX6_placeBehind 53 = .ok (.iaload, 1) := by decide +kernel
theorem dX6_placeBehind_54 : decode cX6_placeBehind 54 = .ok (.istore 4, 2) := by decide +kernel
theorem dX6_placeBehind_56 : decode cX6_placeBehind 56 = .ok (.iconst 0, 1) := by decide +kernel
theorem dX6_placeBehind_57 : decode cX6_placeBehind 57 = .ok (.istore 5, 2) := by decide +kernel
theorem dX6_placeBehind_59 : decode cX6_placeBehind 59 = .ok (.iload 5, 2) := by decide +kernel
theorem dX6_placeBehind_61 : decode cX6_placeBehind 61 = .ok (.iload_n 2, 1) := by decide +kernel
theorem dX6_placeBehind_62 : decode cX6_placeBehind 62 = .ok (.if_icmp .ge 49, 3) := by decide +kernel
theorem dX6_placeBehind_65 : decode cX6_placeBehind 65 = .ok (.iload 4, 2) := by decide +kernel
theorem dX6_placeBehind_67 : decode cX6_placeBehind 67 = .ok (.ifCond .le 7, 3) := by decide +kernel
theorem dX6_placeBehind_70 : decode cX6_placeBehind 70 = .ok (.iload_n 3, 1) := by decide +kernel
theorem dX6_placeBehind_71 : decode cX6_placeBehind 71 = .ok (.goto 13, 3) := by decide +kernel
theorem dX6_placeBehind_74 : decode cX6_placeBehind 74 = .ok (.iload_n 3, 1) := by decide +kernel
theorem dX6_placeBehind_75 : decode cX6_placeBehind 75 = .ok (.iconst 1, 1) := by decide +kernel
theorem dX6_placeBehind_76 : decode cX6_placeBehind 76 = .ok (.iadd, 1) := by decide +kernel
theorem dX6_placeBehind_77 : decode cX6_placeBehind 77 = .ok (.aload_n 0, 1) := by decide +kernel
theorem dX6_placeBehind_78 : decode cX6_placeBehind 78 = .ok (.getfield 13, 3) := by decide +kernel
theorem dX6_placeBehind_81 : decode cX6_placeBehind 81 = .ok (.iconst 0, 1) := by decide +kernel
theorem dX6_placeBehind_82 : decode cX6_placeBehind 82 = .ok (.iaload, 1) := by decide +kernel
theorem dX6_placeBehind_83 : decode cX6_placeBehind 83 = .ok (.irem, 1) := by decide +kernel
theorem dX6_placeBehind_84 : decode cX6_placeBehind 84 = .ok (.istore_n 3, 1) := by decide +kernel
theorem dX6_placeBehind_85 : decode cX6_placeBehind 85 = .ok (.iload 4, 2) := by decide +kernel
theorem dX6_placeBehind_87 : decode cX6_placeBehind 87 = .ok (.ifCond .le 10, 3) := by decide +kernel
theorem dX6_placeBehind_90 : decode cX6_placeBehind 90 = .ok (.iload 4, 2) := by decide +kernel
theorem dX6_placeBehind_92 : decode cX6_placeBehind 92 = .ok (.iconst 1, 1) := by decide +kernel
theorem dX6_placeBehind_93 : decode cX6_placeBehind 93 = .ok (.isub, 1) := by decide +kernel
theorem dX6_placeBehind_94 : decode cX6_placeBehind 94 = .ok (.goto 9, 3) := by decide +kernel
theorem dX6_placeBehind_97 : decode cX6_placeBehind 97 = .ok (.aload_n 0, 1) := by decide +kernel
theorem dX6_placeBehind_98 : decode cX6_placeBehind 98 = .ok (.getfield 13, 3) := by decide +kernel
theorem dX6_placeBehind_101 : decode cX6_placeBehind 101 = .ok (.iconst 0, 1) := by decide +kernel
theorem dX6_placeBehind_102 : decode cX6_placeBehind 102 = .ok (.iaload, 1) := by decide +kernel
theorem dX6_placeBehind_103 : decode cX6_placeBehind 103 = .ok (.istore 4, 2) := by decide +kernel
theorem dX6_placeBehind_105 : decode cX6_placeBehind 105 = .ok (.iinc 5 1, 3) := by decide +kernel
theorem dX6_placeBehind_108 : decode cX6_placeBehind 108 = .ok (.goto (-49), 3) := by decide +kernel
theorem dX6_placeBehind_111 : decode cX6_placeBehind 111 = .ok (.aload_n 0, 1) := by decide +kernel
theorem dX6_placeBehind_112 : decode cX6_placeBehind 112 = .ok (.getfield 13, 3) := by decide +kernel
theorem dX6_placeBehind_115 : decode cX6_placeBehind 115 = .ok (.iload_n 1, 1) := by decide +kernel
theorem dX6_placeBehind_116 : decode cX6_placeBehind 116 = .ok (.iload_n 3, 1) := by decide +kernel
theorem dX6_placeBehind_117 : decode cX6_placeBehind 117 = .ok (.iload 4, 2) := by decide +kernel
theorem dX6_placeBehind_119 : decode cX6_placeBehind 119 = .ok (.invokestatic 51, 3) := by decide +kernel
theorem dX6_placeBehind_122 : decode cX6_placeBehind 122 = .ok (.ireturn, 1) := by decide +kernel
set_option maxRecDepth 20000 in
theorem ggX6_command_X6_isLine : GoodIn wsX6_command wsX6_isLine := goodIn_r _ [7, 8, 9, 6, 10] (by decide +kernel) (by decide +kernel)
set_option maxRecDepth 20000 in
theorem gX6_command_X6_isLine : GoodIn wsX6_command (va_wsS RX6 59 yX6_isLine wsX6_isLine) := goodIn_app (goodIn_of _ (by decide +kernel)) ggX6_command_X6_isLine
set_option maxRecDepth 20000 in
theorem ggX6_command_X6_canWrite : GoodIn wsX6_command wsX6_canWrite := goodIn_r _ [13, 4, 5, 6, 7, 8, 9, 10] (by decide +kernel) (by decide +kernel)
set_option maxRecDepth 20000 in
theorem gX6_command_X6_canWrite : GoodIn wsX6_command (va_wsS RX6 99 yX6_canWrite wsX6_canWrite) := goodIn_app (goodIn_of _ (by decide +kernel)) ggX6_command_X6_canWrite
set_option maxRecDepth 20000 in
theorem ggX6_command_X6_writeOn : GoodIn wsX6_command wsX6_writeOn := goodIn_r _ [16, 17, 18, 6, 19, 20, 21, 22, 23, 24, 25, 26, 27, 28] (by decide +kernel) (by decide +kernel)
set_option maxRecDepth 20000 in
theorem gX6_command_X6_writeOn : GoodIn wsX6_command (va_wsS RX6 70 yX6_writeOn wsX6_writeOn) := goodIn_app (goodIn_of _ (by decide +kernel)) ggX6_command_X6_writeOn
set_option maxRecDepth 20000 in
theorem ggX6_command_X6_in : GoodIn wsX6_command wsX6_in := goodIn_r _ [10] (by decide +kernel) (by decide +kernel)
set_option maxRecDepth 20000 in
theorem gX6_command_X6_in : GoodIn wsX6_command (va_wsS RX6 37 yX6_in wsX6_in) := goodIn_app (goodIn_of _ (by decide +kernel)) ggX6_command_X6_in
set_option maxRecDepth 20000 in
theorem ggX6_command_X6_hammerOn : GoodIn wsX6_command wsX6_hammerOn := goodIn_r _ [31, 14, 15, 6, 16, 17, 18, 19, 20, 21, 22, 23, 24, 25, 26, 27, 28] (by decide +kernel) (by decide +kernel)
set_option maxRecDepth 20000 in
theorem gX6_command_X6_hammerOn : GoodIn wsX6_command (va_wsS RX6 106 yX6_hammerOn wsX6_hammerOn) := goodIn_app (goodIn_of _ (by decide +kernel)) ggX6_command_X6_hammerOn
set_option maxRecDepth 20000 in
theorem ggX6_command_X6_allOn : GoodIn wsX6_command wsX6_allOn := goodIn_r _ [34, 14, 15, 6, 16, 17, 18, 19, 20, 21, 22, 23, 24, 25, 26, 27, 28] (by decide +kernel) (by decide +kernel)
set_option maxRecDepth 20000 in
theorem gX6_command_X6_allOn : GoodIn wsX6_command (va_wsS RX6 109 yX6_allOn wsX6_allOn) := goodIn_app (goodIn_of _ (by decide +kernel)) ggX6_command_X6_allOn
set_option maxRecDepth 20000 in
theorem ggX6_command_X6_isSetting : GoodIn wsX6_command wsX6_isSetting := goodIn_r _ [37, 38, 39, 3, 8, 9, 6, 10] (by decide +kernel) (by decide +kernel)
set_option maxRecDepth 20000 in
theorem gX6_command_X6_isSetting : GoodIn wsX6_command (va_wsS RX6 153 yX6_isSetting wsX6_isSetting) := goodIn_app (goodIn_of _ (by decide +kernel)) ggX6_command_X6_isSetting
set_option maxRecDepth 20000 in
theorem ggX6_command_X6_isPlace : GoodIn wsX6_command wsX6_isPlace := goodIn_r _ [42, 8, 9, 6, 10] (by decide +kernel) (by decide +kernel)
set_option maxRecDepth 20000 in
theorem gX6_command_X6_isPlace : GoodIn wsX6_command (va_wsS RX6 142 yX6_isPlace wsX6_isPlace) := goodIn_app (goodIn_of _ (by decide +kernel)) ggX6_command_X6_isPlace
set_option maxRecDepth 20000 in
theorem ggX6_command_X6_placeOf : GoodIn wsX6_command wsX6_placeOf := goodIn_r _ [19, 20, 21, 6, 22] (by decide +kernel) (by decide +kernel)
set_option maxRecDepth 20000 in
theorem gX6_command_X6_placeOf : GoodIn wsX6_command (va_wsS RX6 63 yX6_placeOf wsX6_placeOf) := goodIn_app (goodIn_of _ (by decide +kernel)) ggX6_command_X6_placeOf
theorem dX6_command_0 : decode cX6_command 0 = .ok (.iload_n 2, 1) := by decide +kernel
theorem dX6_command_1 : decode cX6_command 1 = .ok (.sipush 1000, 3) := by decide +kernel
theorem dX6_command_4 : decode cX6_command 4 = .ok (.idiv, 1) := by decide +kernel
theorem dX6_command_5 : decode cX6_command 5 = .ok (.istore_n 3, 1) := by decide +kernel
theorem dX6_command_6 : decode cX6_command 6 = .ok (.iload_n 2, 1) := by decide +kernel
theorem dX6_command_7 : decode cX6_command 7 = .ok (.sipush 1000, 3) := by decide +kernel
theorem dX6_command_10 : decode cX6_command 10 = .ok (.irem, 1) := by decide +kernel
theorem dX6_command_11 : decode cX6_command 11 = .ok (.istore 4, 2) := by decide +kernel
theorem dX6_command_13 : decode cX6_command 13 = .ok (.aload_n 0, 1) := by decide +kernel
theorem dX6_command_14 : decode cX6_command 14 = .ok (.getfield 16, 3) := by decide +kernel
theorem dX6_command_17 : decode cX6_command 17 = .ok (.iload_n 3, 1) := by decide +kernel
theorem dX6_command_18 : decode cX6_command 18 = .ok (.invokestatic 59, 3) := by decide +kernel
theorem dX6_command_21 : decode cX6_command 21 = .ok (.istore 5, 2) := by decide +kernel
theorem dX6_command_23 : decode cX6_command 23 = .ok (.iload_n 1, 1) := by decide +kernel
theorem dX6_command_24 : decode cX6_command 24 = .ok (.tableswitch 376 1 9 #[52, 82, 119, 164, 215, 240, 283, 314, 345], 52) := by decide +kernel
theorem dX6_command_76 : decode cX6_command 76 = .ok (.aload_n 0, 1) := by decide +kernel
theorem dX6_command_77 : decode cX6_command 77 = .ok (.getfield 16, 3) := by decide +kernel
theorem dX6_command_80 : decode cX6_command 80 = .ok (.iload_n 3, 1) := by decide +kernel
theorem dX6_command_81 : decode cX6_command 81 = .ok (.invokestatic 99, 3) := by decide +kernel
theorem dX6_command_84 : decode cX6_command 84 = .ok (.ifCond .eq 20, 3) := by decide +kernel
theorem dX6_command_87 : decode cX6_command 87 = .ok (.aload_n 0, 1) := by decide +kernel
theorem dX6_command_88 : decode cX6_command 88 = .ok (.getfield 16, 3) := by decide +kernel
theorem dX6_command_91 : decode cX6_command 91 = .ok (.iload_n 3, 1) := by decide +kernel
theorem dX6_command_92 : decode cX6_command 92 = .ok (.iload 4, 2) := by decide +kernel
theorem dX6_command_94 : decode cX6_command 94 = .ok (.invokestatic 70, 3) := by decide +kernel
theorem dX6_command_97 : decode cX6_command 97 = .ok (.ifCond .lt 7, 3) := by decide +kernel
theorem dX6_command_100 : decode cX6_command 100 = .ok (.iconst 1, 1) := by decide +kernel
theorem dX6_command_101 : decode cX6_command 101 = .ok (.goto 4, 3) := by decide +kernel
theorem dX6_command_104 : decode cX6_command 104 = .ok (.iconst 0, 1) := by decide +kernel
theorem dX6_command_105 : decode cX6_command 105 = .ok (.ireturn, 1) := by decide +kernel
theorem dX6_command_106 : decode cX6_command 106 = .ok (.iload 5, 2) := by decide +kernel
theorem dX6_command_108 : decode cX6_command 108 = .ok (.ifCond .eq 33, 3) := by decide +kernel
theorem dX6_command_111 : decode cX6_command 111 = .ok (.iload 4, 2) := by decide +kernel
theorem dX6_command_113 : decode cX6_command 113 = .ok (.i2l, 1) := by decide +kernel
theorem dX6_command_114 : decode cX6_command 114 = .ok (.lconst 1, 1) := by decide +kernel
theorem dX6_command_115 : decode cX6_command 115 = .ok (.ldc2_w 151, 3) := by decide +kernel
theorem dX6_command_118 : decode cX6_command 118 = .ok (.invokestatic 37, 3) := by decide +kernel
theorem dX6_command_121 : decode cX6_command 121 = .ok (.ifCond .eq 20, 3) := by decide +kernel
theorem dX6_command_124 : decode cX6_command 124 = .ok (.aload_n 0, 1) := by decide +kernel
theorem dX6_command_125 : decode cX6_command 125 = .ok (.getfield 16, 3) := by decide +kernel
theorem dX6_command_128 : decode cX6_command 128 = .ok (.iload_n 3, 1) := by decide +kernel
theorem dX6_command_129 : decode cX6_command 129 = .ok (.iload 4, 2) := by decide +kernel
theorem dX6_command_131 : decode cX6_command 131 = .ok (.invokestatic 106, 3) := by decide +kernel
theorem dX6_command_134 : decode cX6_command 134 = .ok (.ifCond .lt 7, 3) := by decide +kernel
theorem dX6_command_137 : decode cX6_command 137 = .ok (.iconst 1, 1) := by decide +kernel
theorem dX6_command_138 : decode cX6_command 138 = .ok (.goto 4, 3) := by decide +kernel
theorem dX6_command_141 : decode cX6_command 141 = .ok (.iconst 0, 1) := by decide +kernel
theorem dX6_command_142 : decode cX6_command 142 = .ok (.ireturn, 1) := by decide +kernel
theorem dX6_command_143 : decode cX6_command 143 = .ok (.aload_n 0, 1) := by decide +kernel
theorem dX6_command_144 : decode cX6_command 144 = .ok (.getfield 16, 3) := by decide +kernel
theorem dX6_command_147 : decode cX6_command 147 = .ok (.iconst 0, 1) := by decide +kernel
theorem dX6_command_148 : decode cX6_command 148 = .ok (.iaload, 1) := by decide +kernel
theorem dX6_command_149 : decode cX6_command 149 = .ok (.ifCond .le 37, 3) := by decide +kernel
theorem dX6_command_152 : decode cX6_command 152 = .ok (.iload_n 2, 1) := by decide +kernel
theorem dX6_command_153 : decode cX6_command 153 = .ok (.i2l, 1) := by decide +kernel
theorem dX6_command_154 : decode cX6_command 154 = .ok (.lconst 1, 1) := by decide +kernel
theorem dX6_command_155 : decode cX6_command 155 = .ok (.ldc2_w 76, 3) := by decide +kernel
theorem dX6_command_158 : decode cX6_command 158 = .ok (.invokestatic 37, 3) := by decide +kernel
theorem dX6_command_161 : decode cX6_command 161 = .ok (.ifCond .eq 25, 3) := by decide +kernel
theorem dX6_command_164 : decode cX6_command 164 = .ok (.aload_n 0, 1) := by decide +kernel
theorem dX6_command_165 : decode cX6_command 165 = .ok (.getfield 16, 3) := by decide +kernel
theorem dX6_command_168 : decode cX6_command 168 = .ok (.iload_n 2, 1) := by decide +kernel
theorem dX6_command_169 : decode cX6_command 169 = .ok (.aload_n 0, 1) := by decide +kernel
theorem dX6_command_170 : decode cX6_command 170 = .ok (.getfield 16, 3) := by decide +kernel
theorem dX6_command_173 : decode cX6_command 173 = .ok (.iconst 0, 1) := by decide +kernel
theorem dX6_command_174 : decode cX6_command 174 = .ok (.iaload, 1) := by decide +kernel
theorem dX6_command_175 : decode cX6_command 175 = .ok (.imul, 1) := by decide +kernel
theorem dX6_command_176 : decode cX6_command 176 = .ok (.invokestatic 109, 3) := by decide +kernel
theorem dX6_command_179 : decode cX6_command 179 = .ok (.ifCond .lt 7, 3) := by decide +kernel
theorem dX6_command_182 : decode cX6_command 182 = .ok (.iconst 1, 1) := by decide +kernel
theorem dX6_command_183 : decode cX6_command 183 = .ok (.goto 4, 3) := by decide +kernel
theorem dX6_command_186 : decode cX6_command 186 = .ok (.iconst 0, 1) := by decide +kernel
theorem dX6_command_187 : decode cX6_command 187 = .ok (.ireturn, 1) := by decide +kernel
theorem dX6_command_188 : decode cX6_command 188 = .ok (.iload_n 2, 1) := by decide +kernel
theorem dX6_command_189 : decode cX6_command 189 = .ok (.bipush 10, 2) := by decide +kernel
theorem dX6_command_191 : decode cX6_command 191 = .ok (.irem, 1) := by decide +kernel
theorem dX6_command_192 : decode cX6_command 192 = .ok (.ifCond .gt 22, 3) := by decide +kernel
theorem dX6_command_195 : decode cX6_command 195 = .ok (.iload_n 2, 1) := by decide +kernel
theorem dX6_command_196 : decode cX6_command 196 = .ok (.sipush 10000, 3) := by decide +kernel
theorem dX6_command_199 : decode cX6_command 199 = .ok (.idiv, 1) := by decide +kernel
theorem dX6_command_200 : decode cX6_command 200 = .ok (.iload_n 2, 1) := by decide +kernel
theorem dX6_command_201 : decode cX6_command 201 = .ok (.bipush 10, 2) := by decide +kernel
theorem dX6_command_203 : decode cX6_command 203 = .ok (.idiv, 1) := by decide +kernel
theorem dX6_command_204 : decode cX6_command 204 = .ok (.sipush 1000, 3) := by decide +kernel
theorem dX6_command_207 : decode cX6_command 207 = .ok (.irem, 1) := by decide +kernel
theorem dX6_command_208 : decode cX6_command 208 = .ok (.invokestatic 153, 3) := by decide +kernel
theorem dX6_command_211 : decode cX6_command 211 = .ok (.ifCond .ne 5, 3) := by decide +kernel
theorem dX6_command_214 : decode cX6_command 214 = .ok (.iconst 0, 1) := by decide +kernel
theorem dX6_command_215 : decode cX6_command 215 = .ok (.ireturn, 1) := by decide +kernel
theorem dX6_command_216 : decode cX6_command 216 = .ok (.aload_n 0, 1) := by decide +kernel
theorem dX6_command_217 : decode cX6_command 217 = .ok (.getfield 16, 3) := by decide +kernel
theorem dX6_command_220 : decode cX6_command 220 = .ok (.bipush 11, 2) := by decide +kernel
theorem dX6_command_222 : decode cX6_command 222 = .ok (.iload_n 2, 1) := by decide +kernel
theorem dX6_command_223 : decode cX6_command 223 = .ok (.sipush 10000, 3) := by decide +kernel
theorem dX6_command_226 : decode cX6_command 226 = .ok (.idiv, 1) := by decide +kernel
theorem dX6_command_227 : decode cX6_command 227 = .ok (.iadd, 1) := by decide +kernel
theorem dX6_command_228 : decode cX6_command 228 = .ok (.iload_n 2, 1) := by decide +kernel
theorem dX6_command_229 : decode cX6_command 229 = .ok (.bipush 10, 2) := by decide +kernel
theorem dX6_command_231 : decode cX6_command 231 = .ok (.idiv, 1) := by decide +kernel
theorem dX6_command_232 : decode cX6_command 232 = .ok (.sipush 1000, 3) := by decide +kernel
theorem dX6_command_235 : decode cX6_command 235 = .ok (.irem, 1) := by decide +kernel
theorem dX6_command_236 : decode cX6_command 236 = .ok (.iastore, 1) := by decide +kernel
theorem dX6_command_237 : decode cX6_command 237 = .ok (.iconst 1, 1) := by decide +kernel
theorem dX6_command_238 : decode cX6_command 238 = .ok (.ireturn, 1) := by decide +kernel
theorem dX6_command_239 : decode cX6_command 239 = .ok (.iload 5, 2) := by decide +kernel
theorem dX6_command_241 : decode cX6_command 241 = .ok (.ifCond .eq 21, 3) := by decide +kernel
theorem dX6_command_244 : decode cX6_command 244 = .ok (.aload_n 0, 1) := by decide +kernel
theorem dX6_command_245 : decode cX6_command 245 = .ok (.getfield 16, 3) := by decide +kernel
theorem dX6_command_248 : decode cX6_command 248 = .ok (.bipush 13, 2) := by decide +kernel
theorem dX6_command_250 : decode cX6_command 250 = .ok (.iload_n 3, 1) := by decide +kernel
theorem dX6_command_251 : decode cX6_command 251 = .ok (.iadd, 1) := by decide +kernel
theorem dX6_command_252 : decode cX6_command 252 = .ok (.iaload, 1) := by decide +kernel
theorem dX6_command_253 : decode cX6_command 253 = .ok (.iload 4, 2) := by decide +kernel
theorem dX6_command_255 : decode cX6_command 255 = .ok (.if_icmp .ne 7, 3) := by decide +kernel
theorem dX6_command_258 : decode cX6_command 258 = .ok (.iconst 1, 1) := by decide +kernel
theorem dX6_command_259 : decode cX6_command 259 = .ok (.goto 4, 3) := by decide +kernel
theorem dX6_command_262 : decode cX6_command 262 = .ok (.iconst 0, 1) := by decide +kernel
theorem dX6_command_263 : decode cX6_command 263 = .ok (.ireturn, 1) := by decide +kernel
theorem dX6_command_264 : decode cX6_command 264 = .ok (.iload 5, 2) := by decide +kernel
theorem dX6_command_266 : decode cX6_command 266 = .ok (.ifCond .eq 39, 3) := by decide +kernel
theorem dX6_command_269 : decode cX6_command 269 = .ok (.iload 4, 2) := by decide +kernel
theorem dX6_command_271 : decode cX6_command 271 = .ok (.bipush 100, 2) := by decide +kernel
theorem dX6_command_273 : decode cX6_command 273 = .ok (.if_icmp .ge 32, 3) := by decide +kernel
theorem dX6_command_276 : decode cX6_command 276 = .ok (.aload_n 0, 1) := by decide +kernel
theorem dX6_command_277 : decode cX6_command 277 = .ok (.getfield 16, 3) := by decide +kernel
theorem dX6_command_280 : decode cX6_command 280 = .ok (.iload 4, 2) := by decide +kernel
theorem dX6_command_282 : decode cX6_command 282 = .ok (.invokestatic 142, 3) := by decide +kernel
theorem dX6_command_285 : decode cX6_command 285 = .ok (.ifCond .eq 20, 3) := by decide +kernel
theorem dX6_command_288 : decode cX6_command 288 = .ok (.aload_n 0, 1) := by decide +kernel
theorem dX6_command_289 : decode cX6_command 289 = .ok (.getfield 16, 3) := by decide +kernel
theorem dX6_command_292 : decode cX6_command 292 = .ok (.iload_n 3, 1) := by decide +kernel
theorem dX6_command_293 : decode cX6_command 293 = .ok (.invokestatic 63, 3) := by decide +kernel
theorem dX6_command_296 : decode cX6_command 296 = .ok (.iload 4, 2) := by decide +kernel
theorem dX6_command_298 : decode cX6_command 298 = .ok (.if_icmp .ne 7, 3) := by decide +kernel
theorem dX6_command_301 : decode cX6_command 301 = .ok (.iconst 1, 1) := by decide +kernel
theorem dX6_command_302 : decode cX6_command 302 = .ok (.goto 4, 3) := by decide +kernel
theorem dX6_command_305 : decode cX6_command 305 = .ok (.iconst 0, 1) := by decide +kernel
theorem dX6_command_306 : decode cX6_command 306 = .ok (.ireturn, 1) := by decide +kernel
theorem dX6_command_307 : decode cX6_command 307 = .ok (.aload_n 0, 1) := by decide +kernel
theorem dX6_command_308 : decode cX6_command 308 = .ok (.getfield 16, 3) := by decide +kernel
theorem dX6_command_311 : decode cX6_command 311 = .ok (.iload_n 3, 1) := by decide +kernel
theorem dX6_command_312 : decode cX6_command 312 = .ok (.invokestatic 142, 3) := by decide +kernel
theorem dX6_command_315 : decode cX6_command 315 = .ok (.ifCond .eq 21, 3) := by decide +kernel
theorem dX6_command_318 : decode cX6_command 318 = .ok (.aload_n 0, 1) := by decide +kernel
theorem dX6_command_319 : decode cX6_command 319 = .ok (.getfield 16, 3) := by decide +kernel
theorem dX6_command_322 : decode cX6_command 322 = .ok (.bipush 45, 2) := by decide +kernel
theorem dX6_command_324 : decode cX6_command 324 = .ok (.iload_n 3, 1) := by decide +kernel
theorem dX6_command_325 : decode cX6_command 325 = .ok (.iadd, 1) := by decide +kernel
theorem dX6_command_326 : decode cX6_command 326 = .ok (.iaload, 1) := by decide +kernel
theorem dX6_command_327 : decode cX6_command 327 = .ok (.iload 4, 2) := by decide +kernel
theorem dX6_command_329 : decode cX6_command 329 = .ok (.if_icmp .gt 7, 3) := by decide +kernel
theorem dX6_command_332 : decode cX6_command 332 = .ok (.iconst 1, 1) := by decide +kernel
theorem dX6_command_333 : decode cX6_command 333 = .ok (.goto 4, 3) := by decide +kernel
theorem dX6_command_336 : decode cX6_command 336 = .ok (.iconst 0, 1) := by decide +kernel
theorem dX6_command_337 : decode cX6_command 337 = .ok (.ireturn, 1) := by decide +kernel
theorem dX6_command_338 : decode cX6_command 338 = .ok (.iload_n 2, 1) := by decide +kernel
theorem dX6_command_339 : decode cX6_command 339 = .ok (.iconst 2, 1) := by decide +kernel
theorem dX6_command_340 : decode cX6_command 340 = .ok (.if_icmp .ge 27, 3) := by decide +kernel
theorem dX6_command_343 : decode cX6_command 343 = .ok (.aload_n 0, 1) := by decide +kernel
theorem dX6_command_344 : decode cX6_command 344 = .ok (.getfield 16, 3) := by decide +kernel
theorem dX6_command_347 : decode cX6_command 347 = .ok (.iconst 0, 1) := by decide +kernel
theorem dX6_command_348 : decode cX6_command 348 = .ok (.iaload, 1) := by decide +kernel
theorem dX6_command_349 : decode cX6_command 349 = .ok (.ifCond .le 18, 3) := by decide +kernel
theorem dX6_command_352 : decode cX6_command 352 = .ok (.aload_n 0, 1) := by decide +kernel
theorem dX6_command_353 : decode cX6_command 353 = .ok (.getfield 16, 3) := by decide +kernel
theorem dX6_command_356 : decode cX6_command 356 = .ok (.bipush 8, 2) := by decide +kernel
theorem dX6_command_358 : decode cX6_command 358 = .ok (.iaload, 1) := by decide +kernel
theorem dX6_command_359 : decode cX6_command 359 = .ok (.iload_n 2, 1) := by decide +kernel
theorem dX6_command_360 : decode cX6_command 360 = .ok (.if_icmp .ne 7, 3) := by decide +kernel
theorem dX6_command_363 : decode cX6_command 363 = .ok (.iconst 1, 1) := by decide +kernel
theorem dX6_command_364 : decode cX6_command 364 = .ok (.goto 4, 3) := by decide +kernel
theorem dX6_command_367 : decode cX6_command 367 = .ok (.iconst 0, 1) := by decide +kernel
theorem dX6_command_368 : decode cX6_command 368 = .ok (.ireturn, 1) := by decide +kernel
theorem dX6_command_369 : decode cX6_command 369 = .ok (.iload_n 2, 1) := by decide +kernel
theorem dX6_command_370 : decode cX6_command 370 = .ok (.bipush 100, 2) := by decide +kernel
theorem dX6_command_372 : decode cX6_command 372 = .ok (.if_icmp .ge 26, 3) := by decide +kernel
theorem dX6_command_375 : decode cX6_command 375 = .ok (.aload_n 0, 1) := by decide +kernel
theorem dX6_command_376 : decode cX6_command 376 = .ok (.getfield 16, 3) := by decide +kernel
theorem dX6_command_379 : decode cX6_command 379 = .ok (.iconst 0, 1) := by decide +kernel
theorem dX6_command_380 : decode cX6_command 380 = .ok (.iaload, 1) := by decide +kernel
theorem dX6_command_381 : decode cX6_command 381 = .ok (.ifCond .le 17, 3) := by decide +kernel
theorem dX6_command_384 : decode cX6_command 384 = .ok (.aload_n 0, 1) := by decide +kernel
theorem dX6_command_385 : decode cX6_command 385 = .ok (.getfield 16, 3) := by decide +kernel
theorem dX6_command_388 : decode cX6_command 388 = .ok (.iconst 3, 1) := by decide +kernel
theorem dX6_command_389 : decode cX6_command 389 = .ok (.iaload, 1) := by decide +kernel
theorem dX6_command_390 : decode cX6_command 390 = .ok (.iload_n 2, 1) := by decide +kernel
theorem dX6_command_391 : decode cX6_command 391 = .ok (.if_icmp .ne 7, 3) := by decide +kernel
theorem dX6_command_394 : decode cX6_command 394 = .ok (.iconst 1, 1) := by decide +kernel
theorem dX6_command_395 : decode cX6_command 395 = .ok (.goto 4, 3) := by decide +kernel
theorem dX6_command_398 : decode cX6_command 398 = .ok (.iconst 0, 1) := by decide +kernel
theorem dX6_command_399 : decode cX6_command 399 = .ok (.ireturn, 1) := by decide +kernel
theorem dX6_command_400 : decode cX6_command 400 = .ok (.iconst 0, 1) := by decide +kernel
theorem dX6_command_401 : decode cX6_command 401 = .ok (.ireturn, 1) := by decide +kernel
set_option maxRecDepth 20000 in
theorem ggX6_runScript_X6_in : GoodIn wsX6_runScript wsX6_in := goodIn_r _ [9] (by decide +kernel) (by decide +kernel)
set_option maxRecDepth 20000 in
theorem gX6_runScript_X6_in : GoodIn wsX6_runScript (va_wsS RX6 37 yX6_in wsX6_in) := goodIn_app (goodIn_of _ (by decide +kernel)) ggX6_runScript_X6_in
set_option maxRecDepth 20000 in
theorem ggX6_runScript_X6_refused : GoodIn wsX6_runScript wsX6_refused := goodIn_r _ [13, 14, 59, 60, 61, 62, 63, 64, 65, 66, 67, 68, 69] (by decide +kernel) (by decide +kernel)
set_option maxRecDepth 20000 in
theorem gX6_runScript_X6_refused : GoodIn wsX6_runScript (wsV RX6 83 RX6 yX6_refused wsX6_refused) := goodIn_app (goodIn_of _ (by decide +kernel)) ggX6_runScript_X6_refused
set_option maxRecDepth 20000 in
theorem ggX6_runScript_X6_copyState : GoodIn wsX6_runScript wsX6_copyState := goodIn_r _ [17] (by decide +kernel) (by decide +kernel)
set_option maxRecDepth 20000 in
theorem gX6_runScript_X6_copyState : GoodIn wsX6_runScript (va_wsS RX6 127 yX6_copyState wsX6_copyState) := goodIn_app (goodIn_of _ (by decide +kernel)) ggX6_runScript_X6_copyState
set_option maxRecDepth 20000 in
theorem ggX6_runScript_X6_command : GoodIn wsX6_runScript wsX6_command := goodIn_r _ [21, 4, 22, 23, 24, 25, 8, 26, 6, 7, 9, 27, 28, 29, 30, 31, 32, 33, 34, 35, 36, 37, 38, 39, 40, 41, 42, 43, 44, 45, 46, 47, 48, 49, 50, 51, 52, 53, 54, 55, 56, 57, 58, 59, 60, 61, 62, 63, 64, 65, 66, 67, 68, 69] (by decide +kernel) (by decide +kernel)
set_option maxRecDepth 20000 in
theorem gX6_runScript_X6_command : GoodIn wsX6_runScript (wsV RX6 167 RX6 yX6_command wsX6_command) := goodIn_app (goodIn_of _ (by decide +kernel)) ggX6_runScript_X6_command
theorem dX6_runScript_0 : decode cX6_runScript 0 = .ok (.lconst 1, 1) := by decide +kernel
theorem dX6_runScript_1 : decode cX6_runScript 1 = .ok (.lstore 4, 2) := by decide +kernel
theorem dX6_runScript_3 : decode cX6_runScript 3 = .ok (.iconst 0, 1) := by decide +kernel
theorem dX6_runScript_4 : decode cX6_runScript 4 = .ok (.istore 6, 2) := by decide +kernel
theorem dX6_runScript_6 : decode cX6_runScript 6 = .ok (.iload 6, 2) := by decide +kernel
theorem dX6_runScript_8 : decode cX6_runScript 8 = .ok (.iload_n 1, 1) := by decide +kernel
theorem dX6_runScript_9 : decode cX6_runScript 9 = .ok (.if_icmp .ge 23, 3) := by decide +kernel
theorem dX6_runScript_12 : decode cX6_runScript 12 = .ok (.iload 6, 2) := by decide +kernel
theorem dX6_runScript_14 : decode cX6_runScript 14 = .ok (.iconst 3, 1) := by decide +kernel
theorem dX6_runScript_15 : decode cX6_runScript 15 = .ok (.if_icmp .ge 17, 3) := by decide +kernel
theorem dX6_runScript_18 : decode cX6_runScript 18 = .ok (.lload 4, 2) := by decide +kernel
theorem dX6_runScript_20 : decode cX6_runScript 20 = .ok (.ldc2_w 162, 3) := by decide +kernel
theorem dX6_runScript_23 : decode cX6_runScript 23 = .ok (.lmul, 1) := by decide +kernel
theorem dX6_runScript_24 : decode cX6_runScript 24 = .ok (.lstore 4, 2) := by decide +kernel
theorem dX6_runScript_26 : decode cX6_runScript 26 = .ok (.iinc 6 1, 3) := by decide +kernel
theorem dX6_runScript_29 : decode cX6_runScript 29 = .ok (.goto (-23), 3) := by decide +kernel
theorem dX6_runScript_32 : decode cX6_runScript 32 = .ok (.aload_n 0, 1) := by decide +kernel
theorem dX6_runScript_33 : decode cX6_runScript 33 = .ok (.iload_n 1, 1) := by decide +kernel
theorem dX6_runScript_34 : decode cX6_runScript 34 = .ok (.i2l, 1) := by decide +kernel
theorem dX6_runScript_35 : decode cX6_runScript 35 = .ok (.lconst 1, 1) := by decide +kernel
theorem dX6_runScript_36 : decode cX6_runScript 36 = .ok (.ldc2_w 164, 3) := by decide +kernel
theorem dX6_runScript_39 : decode cX6_runScript 39 = .ok (.invokestatic 37, 3) := by decide +kernel
theorem dX6_runScript_42 : decode cX6_runScript 42 = .ok (.ifCond .eq 19, 3) := by decide +kernel
theorem dX6_runScript_45 : decode cX6_runScript 45 = .ok (.lload_n 2, 1) := by decide +kernel
theorem dX6_runScript_46 : decode cX6_runScript 46 = .ok (.lconst 0, 1) := by decide +kernel
theorem dX6_runScript_47 : decode cX6_runScript 47 = .ok (.lload 4, 2) := by decide +kernel
theorem dX6_runScript_49 : decode cX6_runScript 49 = .ok (.lconst 1, 1) := by decide +kernel
theorem dX6_runScript_50 : decode cX6_runScript 50 = .ok (.lsub, 1) := by decide +kernel
theorem dX6_runScript_51 : decode cX6_runScript 51 = .ok (.invokestatic 37, 3) := by decide +kernel
theorem dX6_runScript_54 : decode cX6_runScript 54 = .ok (.ifCond .eq 7, 3) := by decide +kernel
theorem dX6_runScript_57 : decode cX6_runScript 57 = .ok (.iconst 0, 1) := by decide +kernel
theorem dX6_runScript_58 : decode cX6_runScript 58 = .ok (.goto 4, 3) := by decide +kernel
theorem dX6_runScript_61 : decode cX6_runScript 61 = .ok (.iconst 1, 1) := by decide +kernel
theorem dX6_runScript_62 : decode cX6_runScript 62 = .ok (.invokevirtual 83, 3) := by decide +kernel
theorem dX6_runScript_65 : decode cX6_runScript 65 = .ok (.ifCond .eq 5, 3) := by decide +kernel
theorem dX6_runScript_68 : decode cX6_runScript 68 = .ok (.iconst 0, 1) := by decide +kernel
theorem dX6_runScript_69 : decode cX6_runScript 69 = .ok (.ireturn, 1) := by decide +kernel
theorem dX6_runScript_70 : decode cX6_runScript 70 = .ok (.aload_n 0, 1) := by decide +kernel
theorem dX6_runScript_71 : decode cX6_runScript 71 = .ok (.getfield 13, 3) := by decide +kernel
theorem dX6_runScript_74 : decode cX6_runScript 74 = .ok (.iconst 0, 1) := by decide +kernel
theorem dX6_runScript_75 : decode cX6_runScript 75 = .ok (.aload_n 0, 1) := by decide +kernel
theorem dX6_runScript_76 : decode cX6_runScript 76 = .ok (.getfield 16, 3) := by decide +kernel
theorem dX6_runScript_79 : decode cX6_runScript 79 = .ok (.iconst 0, 1) := by decide +kernel
theorem dX6_runScript_80 : decode cX6_runScript 80 = .ok (.invokestatic 127, 3) := by decide +kernel
theorem dX6_runScript_83 : decode cX6_runScript 83 = .ok (.iconst 0, 1) := by decide +kernel
theorem dX6_runScript_84 : decode cX6_runScript 84 = .ok (.istore 6, 2) := by decide +kernel
theorem dX6_runScript_86 : decode cX6_runScript 86 = .ok (.iload 6, 2) := by decide +kernel
theorem dX6_runScript_88 : decode cX6_runScript 88 = .ok (.iload_n 1, 1) := by decide +kernel
theorem dX6_runScript_89 : decode cX6_runScript 89 = .ok (.if_icmp .ge 48, 3) := by decide +kernel
theorem dX6_runScript_92 : decode cX6_runScript 92 = .ok (.lload 4, 2) := by decide +kernel
theorem dX6_runScript_94 : decode cX6_runScript 94 = .ok (.ldc2_w 162, 3) := by decide +kernel
theorem dX6_runScript_97 : decode cX6_runScript 97 = .ok (.ldiv, 1) := by decide +kernel
theorem dX6_runScript_98 : decode cX6_runScript 98 = .ok (.lstore 4, 2) := by decide +kernel
theorem dX6_runScript_100 : decode cX6_runScript 100 = .ok (.lload_n 2, 1) := by decide +kernel
theorem dX6_runScript_101 : decode cX6_runScript 101 = .ok (.lload 4, 2) := by decide +kernel
theorem dX6_runScript_103 : decode cX6_runScript 103 = .ok (.ldiv, 1) := by decide +kernel
theorem dX6_runScript_104 : decode cX6_runScript 104 = .ok (.ldc2_w 162, 3) := by decide +kernel
theorem dX6_runScript_107 : decode cX6_runScript 107 = .ok (.lrem, 1) := by decide +kernel
theorem dX6_runScript_108 : decode cX6_runScript 108 = .ok (.l2i, 1) := by decide +kernel
theorem dX6_runScript_109 : decode cX6_runScript 109 = .ok (.istore 7, 2) := by decide +kernel
theorem dX6_runScript_111 : decode cX6_runScript 111 = .ok (.aload_n 0, 1) := by decide +kernel
theorem dX6_runScript_112 : decode cX6_runScript 112 = .ok (.iload 7, 2) := by decide +kernel
theorem dX6_runScript_114 : decode cX6_runScript 114 = .ok (.ldc 166, 2) := by decide +kernel
theorem dX6_runScript_116 : decode cX6_runScript 116 = .ok (.idiv, 1) := by decide +kernel
theorem dX6_runScript_117 : decode cX6_runScript 117 = .ok (.iload 7, 2) := by decide +kernel
theorem dX6_runScript_119 : decode cX6_runScript 119 = .ok (.ldc 166, 2) := by decide +kernel
theorem dX6_runScript_121 : decode cX6_runScript 121 = .ok (.irem, 1) := by decide +kernel
theorem dX6_runScript_122 : decode cX6_runScript 122 = .ok (.invokevirtual 167, 3) := by decide +kernel
theorem dX6_runScript_125 : decode cX6_runScript 125 = .ok (.ifCond .ne 6, 3) := by decide +kernel
theorem dX6_runScript_128 : decode cX6_runScript 128 = .ok (.iload 6, 2) := by decide +kernel
theorem dX6_runScript_130 : decode cX6_runScript 130 = .ok (.ireturn, 1) := by decide +kernel
theorem dX6_runScript_131 : decode cX6_runScript 131 = .ok (.iinc 6 1, 3) := by decide +kernel
theorem dX6_runScript_134 : decode cX6_runScript 134 = .ok (.goto (-48), 3) := by decide +kernel
theorem dX6_runScript_137 : decode cX6_runScript 137 = .ok (.iconst (-1), 1) := by decide +kernel
theorem dX6_runScript_138 : decode cX6_runScript 138 = .ok (.ireturn, 1) := by decide +kernel
set_option maxRecDepth 20000 in
theorem ggX6_simulate_X6_in : GoodIn wsX6_simulate wsX6_in := goodIn_r _ [9] (by decide +kernel) (by decide +kernel)
set_option maxRecDepth 20000 in
theorem gX6_simulate_X6_in : GoodIn wsX6_simulate (va_wsS RX6 37 yX6_in wsX6_in) := goodIn_app (goodIn_of _ (by decide +kernel)) ggX6_simulate_X6_in
set_option maxRecDepth 20000 in
theorem ggX6_simulate_X6_refused : GoodIn wsX6_simulate wsX6_refused := goodIn_r _ [13, 14, 36, 37, 38, 39, 40, 41, 42, 43, 44, 45, 46] (by decide +kernel) (by decide +kernel)
set_option maxRecDepth 20000 in
theorem gX6_simulate_X6_refused : GoodIn wsX6_simulate (wsV RX6 83 RX6 yX6_refused wsX6_refused) := goodIn_app (goodIn_of _ (by decide +kernel)) ggX6_simulate_X6_refused
set_option maxRecDepth 20000 in
theorem ggX6_simulate_X6_copyState : GoodIn wsX6_simulate wsX6_copyState := goodIn_r _ [17] (by decide +kernel) (by decide +kernel)
set_option maxRecDepth 20000 in
theorem gX6_simulate_X6_copyState : GoodIn wsX6_simulate (va_wsS RX6 127 yX6_copyState wsX6_copyState) := goodIn_app (goodIn_of _ (by decide +kernel)) ggX6_simulate_X6_copyState
set_option maxRecDepth 20000 in
theorem ggX6_simulate_X6_writeOn : GoodIn wsX6_simulate wsX6_writeOn := goodIn_r _ [20, 21, 22, 8, 23, 24, 25, 26, 27, 28, 29, 30, 31, 32] (by decide +kernel) (by decide +kernel)
set_option maxRecDepth 20000 in
theorem gX6_simulate_X6_writeOn : GoodIn wsX6_simulate (va_wsS RX6 70 yX6_writeOn wsX6_writeOn) := goodIn_app (goodIn_of _ (by decide +kernel)) ggX6_simulate_X6_writeOn
set_option maxRecDepth 20000 in
theorem ggX6_simulate_X6_greatest : GoodIn wsX6_simulate wsX6_greatest := goodIn_r _ [35] (by decide +kernel) (by decide +kernel)
set_option maxRecDepth 20000 in
theorem gX6_simulate_X6_greatest : GoodIn wsX6_simulate (va_wsS RX6 136 yX6_greatest wsX6_greatest) := goodIn_app (goodIn_of _ (by decide +kernel)) ggX6_simulate_X6_greatest
theorem dX6_simulate_0 : decode cX6_simulate 0 = .ok (.aload_n 0, 1) := by decide +kernel
theorem dX6_simulate_1 : decode cX6_simulate 1 = .ok (.iload_n 3, 1) := by decide +kernel
theorem dX6_simulate_2 : decode cX6_simulate 2 = .ok (.i2l, 1) := by decide +kernel
theorem dX6_simulate_3 : decode cX6_simulate 3 = .ok (.lconst 1, 1) := by decide +kernel
theorem dX6_simulate_4 : decode cX6_simulate 4 = .ok (.ldc2_w 170, 3) := by decide +kernel
theorem dX6_simulate_7 : decode cX6_simulate 7 = .ok (.invokestatic 37, 3) := by decide +kernel
theorem dX6_simulate_10 : decode cX6_simulate 10 = .ok (.ifCond .eq 7, 3) := by decide +kernel
theorem dX6_simulate_13 : decode cX6_simulate 13 = .ok (.iconst 0, 1) := by decide +kernel
theorem dX6_simulate_14 : decode cX6_simulate 14 = .ok (.goto 4, 3) := by decide +kernel
theorem dX6_simulate_17 : decode cX6_simulate 17 = .ok (.iconst 1, 1) := by decide +kernel
theorem dX6_simulate_18 : decode cX6_simulate 18 = .ok (.invokevirtual 83, 3) := by decide +kernel
theorem dX6_simulate_21 : decode cX6_simulate 21 = .ok (.ifCond .eq 5, 3) := by decide +kernel
theorem dX6_simulate_24 : decode cX6_simulate 24 = .ok (.iconst 0, 1) := by decide +kernel
theorem dX6_simulate_25 : decode cX6_simulate 25 = .ok (.ireturn, 1) := by decide +kernel
theorem dX6_simulate_26 : decode cX6_simulate 26 = .ok (.aload_n 0, 1) := by decide +kernel
theorem dX6_simulate_27 : decode cX6_simulate 27 = .ok (.getfield 13, 3) := by decide +kernel
theorem dX6_simulate_30 : decode cX6_simulate 30 = .ok (.iconst 0, 1) := by decide +kernel
theorem dX6_simulate_31 : decode cX6_simulate 31 = .ok (.iaload, 1) := by decide +kernel
theorem dX6_simulate_32 : decode cX6_simulate 32 = .ok (.ifCond .ne 5, 3) := by decide +kernel
theorem dX6_simulate_35 : decode cX6_simulate 35 = .ok (.iconst 0, 1) := by decide +kernel
theorem dX6_simulate_36 : decode cX6_simulate 36 = .ok (.ireturn, 1) := by decide +kernel
theorem dX6_simulate_37 : decode cX6_simulate 37 = .ok (.aload_n 0, 1) := by decide +kernel
theorem dX6_simulate_38 : decode cX6_simulate 38 = .ok (.getfield 13, 3) := by decide +kernel
theorem dX6_simulate_41 : decode cX6_simulate 41 = .ok (.iconst 0, 1) := by decide +kernel
theorem dX6_simulate_42 : decode cX6_simulate 42 = .ok (.aload_n 0, 1) := by decide +kernel
theorem dX6_simulate_43 : decode cX6_simulate 43 = .ok (.getfield 16, 3) := by decide +kernel
theorem dX6_simulate_46 : decode cX6_simulate 46 = .ok (.iconst 0, 1) := by decide +kernel
theorem dX6_simulate_47 : decode cX6_simulate 47 = .ok (.invokestatic 127, 3) := by decide +kernel
theorem dX6_simulate_50 : decode cX6_simulate 50 = .ok (.lload_n 1, 1) := by decide +kernel
theorem dX6_simulate_51 : decode cX6_simulate 51 = .ok (.lstore 4, 2) := by decide +kernel
theorem dX6_simulate_53 : decode cX6_simulate 53 = .ok (.iconst 0, 1) := by decide +kernel
theorem dX6_simulate_54 : decode cX6_simulate 54 = .ok (.istore 6, 2) := by decide +kernel
theorem dX6_simulate_56 : decode cX6_simulate 56 = .ok (.iload 6, 2) := by decide +kernel
theorem dX6_simulate_58 : decode cX6_simulate 58 = .ok (.iload_n 3, 1) := by decide +kernel
theorem dX6_simulate_59 : decode cX6_simulate 59 = .ok (.if_icmp .ge 79, 3) := by decide +kernel
theorem dX6_simulate_62 : decode cX6_simulate 62 = .ok (.lload 4, 2) := by decide +kernel
theorem dX6_simulate_64 : decode cX6_simulate 64 = .ok (.ldc2_w 172, 3) := by decide +kernel
theorem dX6_simulate_67 : decode cX6_simulate 67 = .ok (.lmul, 1) := by decide +kernel
theorem dX6_simulate_68 : decode cX6_simulate 68 = .ok (.ldc2_w 174, 3) := by decide +kernel
theorem dX6_simulate_71 : decode cX6_simulate 71 = .ok (.ladd, 1) := by decide +kernel
theorem dX6_simulate_72 : decode cX6_simulate 72 = .ok (.lstore 4, 2) := by decide +kernel
theorem dX6_simulate_74 : decode cX6_simulate 74 = .ok (.lload 4, 2) := by decide +kernel
theorem dX6_simulate_76 : decode cX6_simulate 76 = .ok (.bipush 33, 2) := by decide +kernel
theorem dX6_simulate_78 : decode cX6_simulate 78 = .ok (.lushr, 1) := by decide +kernel
theorem dX6_simulate_79 : decode cX6_simulate 79 = .ok (.l2i, 1) := by decide +kernel
theorem dX6_simulate_80 : decode cX6_simulate 80 = .ok (.istore 7, 2) := by decide +kernel
theorem dX6_simulate_82 : decode cX6_simulate 82 = .ok (.aload_n 0, 1) := by decide +kernel
theorem dX6_simulate_83 : decode cX6_simulate 83 = .ok (.getfield 16, 3) := by decide +kernel
theorem dX6_simulate_86 : decode cX6_simulate 86 = .ok (.bipush 8, 2) := by decide +kernel
theorem dX6_simulate_88 : decode cX6_simulate 88 = .ok (.iaload, 1) := by decide +kernel
theorem dX6_simulate_89 : decode cX6_simulate 89 = .ok (.ifCond .ne 43, 3) := by decide +kernel
theorem dX6_simulate_92 : decode cX6_simulate 92 = .ok (.aload_n 0, 1) := by decide +kernel
theorem dX6_simulate_93 : decode cX6_simulate 93 = .ok (.getfield 16, 3) := by decide +kernel
theorem dX6_simulate_96 : decode cX6_simulate 96 = .ok (.iload 7, 2) := by decide +kernel
theorem dX6_simulate_98 : decode cX6_simulate 98 = .ok (.iconst 4, 1) := by decide +kernel
theorem dX6_simulate_99 : decode cX6_simulate 99 = .ok (.irem, 1) := by decide +kernel
theorem dX6_simulate_100 : decode cX6_simulate 100 = .ok (.ifCond .ne 7, 3) := by decide +kernel
theorem dX6_simulate_103 : decode cX6_simulate 103 = .ok (.iconst 0, 1) := by decide +kernel
theorem dX6_simulate_104 : decode cX6_simulate 104 = .ok (.goto 14, 3) := by decide +kernel
theorem dX6_simulate_107 : decode cX6_simulate 107 = .ok (.iload 7, 2) := by decide +kernel
theorem dX6_simulate_109 : decode cX6_simulate 109 = .ok (.iconst 4, 1) := by decide +kernel
theorem dX6_simulate_110 : decode cX6_simulate 110 = .ok (.idiv, 1) := by decide +kernel
theorem dX6_simulate_111 : decode cX6_simulate 111 = .ok (.aload_n 0, 1) := by decide +kernel
theorem dX6_simulate_112 : decode cX6_simulate 112 = .ok (.getfield 16, 3) := by decide +kernel
theorem dX6_simulate_115 : decode cX6_simulate 115 = .ok (.iconst 0, 1) := by decide +kernel
theorem dX6_simulate_116 : decode cX6_simulate 116 = .ok (.iaload, 1) := by decide +kernel
theorem dX6_simulate_117 : decode cX6_simulate 117 = .ok (.irem, 1) := by decide +kernel
theorem dX6_simulate_118 : decode cX6_simulate 118 = .ok (.iload 7, 2) := by decide +kernel
theorem dX6_simulate_120 : decode cX6_simulate 120 = .ok (.sipush 128, 3) := by decide +kernel
theorem dX6_simulate_123 : decode cX6_simulate 123 = .ok (.idiv, 1) := by decide +kernel
theorem dX6_simulate_124 : decode cX6_simulate 124 = .ok (.sipush 1000, 3) := by decide +kernel
theorem dX6_simulate_127 : decode cX6_simulate 127 = .ok (.irem, 1) := by decide +kernel
theorem dX6_simulate_128 : decode cX6_simulate 128 = .ok (.invokestatic 70, 3) := by decide +kernel
theorem dX6_simulate_131 : decode cX6_simulate 131 = .ok (.pop, 1) := by decide +kernel
theorem dX6_simulate_132 : decode cX6_simulate 132 = .ok (.iinc 6 1, 3) := by decide +kernel
theorem dX6_simulate_135 : decode cX6_simulate 135 = .ok (.goto (-79), 3) := by decide +kernel
theorem dX6_simulate_138 : decode cX6_simulate 138 = .ok (.sipush 1000, 3) := by decide +kernel
theorem dX6_simulate_141 : decode cX6_simulate 141 = .ok (.aload_n 0, 1) := by decide +kernel
theorem dX6_simulate_142 : decode cX6_simulate 142 = .ok (.getfield 16, 3) := by decide +kernel
theorem dX6_simulate_145 : decode cX6_simulate 145 = .ok (.bipush 6, 2) := by decide +kernel
theorem dX6_simulate_147 : decode cX6_simulate 147 = .ok (.iaload, 1) := by decide +kernel
theorem dX6_simulate_148 : decode cX6_simulate 148 = .ok (.aload_n 0, 1) := by decide +kernel
theorem dX6_simulate_149 : decode cX6_simulate 149 = .ok (.getfield 13, 3) := by decide +kernel
theorem dX6_simulate_152 : decode cX6_simulate 152 = .ok (.bipush 6, 2) := by decide +kernel
theorem dX6_simulate_154 : decode cX6_simulate 154 = .ok (.iaload, 1) := by decide +kernel
theorem dX6_simulate_155 : decode cX6_simulate 155 = .ok (.isub, 1) := by decide +kernel
theorem dX6_simulate_156 : decode cX6_simulate 156 = .ok (.imul, 1) := by decide +kernel
theorem dX6_simulate_157 : decode cX6_simulate 157 = .ok (.aload_n 0, 1) := by decide +kernel
theorem dX6_simulate_158 : decode cX6_simulate 158 = .ok (.getfield 16, 3) := by decide +kernel
theorem dX6_simulate_161 : decode cX6_simulate 161 = .ok (.invokestatic 136, 3) := by decide +kernel
theorem dX6_simulate_164 : decode cX6_simulate 164 = .ok (.iadd, 1) := by decide +kernel
theorem dX6_simulate_165 : decode cX6_simulate 165 = .ok (.ireturn, 1) := by decide +kernel
set_option maxRecDepth 20000 in
theorem ggX6_save_X6_in : GoodIn wsX6_save wsX6_in := goodIn_r _ [7] (by decide +kernel) (by decide +kernel)
set_option maxRecDepth 20000 in
theorem gX6_save_X6_in : GoodIn wsX6_save (va_wsS RX6 37 yX6_in wsX6_in) := goodIn_app (goodIn_of _ (by decide +kernel)) ggX6_save_X6_in
set_option maxRecDepth 20000 in
theorem ggX6_save_X6_refused : GoodIn wsX6_save wsX6_refused := goodIn_r _ [11, 12, 16, 17, 18, 19, 20, 21, 22, 23, 24, 25, 26] (by decide +kernel) (by decide +kernel)
set_option maxRecDepth 20000 in
theorem gX6_save_X6_refused : GoodIn wsX6_save (wsV RX6 83 RX6 yX6_refused wsX6_refused) := goodIn_app (goodIn_of _ (by decide +kernel)) ggX6_save_X6_refused
set_option maxRecDepth 20000 in
theorem ggX6_save_X6_copyState : GoodIn wsX6_save wsX6_copyState := goodIn_r _ [15] (by decide +kernel) (by decide +kernel)
set_option maxRecDepth 20000 in
theorem gX6_save_X6_copyState : GoodIn wsX6_save (va_wsS RX6 127 yX6_copyState wsX6_copyState) := goodIn_app (goodIn_of _ (by decide +kernel)) ggX6_save_X6_copyState
theorem dX6_save_0 : decode cX6_save 0 = .ok (.aload_n 0, 1) := by decide +kernel
theorem dX6_save_1 : decode cX6_save 1 = .ok (.iload_n 1, 1) := by decide +kernel
theorem dX6_save_2 : decode cX6_save 2 = .ok (.i2l, 1) := by decide +kernel
theorem dX6_save_3 : decode cX6_save 3 = .ok (.lconst 0, 1) := by decide +kernel
theorem dX6_save_4 : decode cX6_save 4 = .ok (.lconst 1, 1) := by decide +kernel
theorem dX6_save_5 : decode cX6_save 5 = .ok (.invokestatic 37, 3) := by decide +kernel
theorem dX6_save_8 : decode cX6_save 8 = .ok (.ifCond .eq 7, 3) := by decide +kernel
theorem dX6_save_11 : decode cX6_save 11 = .ok (.iconst 0, 1) := by decide +kernel
theorem dX6_save_12 : decode cX6_save 12 = .ok (.goto 4, 3) := by decide +kernel
theorem dX6_save_15 : decode cX6_save 15 = .ok (.iconst 1, 1) := by decide +kernel
theorem dX6_save_16 : decode cX6_save 16 = .ok (.invokevirtual 83, 3) := by decide +kernel
theorem dX6_save_19 : decode cX6_save 19 = .ok (.ifCond .eq 5, 3) := by decide +kernel
theorem dX6_save_22 : decode cX6_save 22 = .ok (.iconst 0, 1) := by decide +kernel
theorem dX6_save_23 : decode cX6_save 23 = .ok (.ireturn, 1) := by decide +kernel
theorem dX6_save_24 : decode cX6_save 24 = .ok (.aload_n 0, 1) := by decide +kernel
theorem dX6_save_25 : decode cX6_save 25 = .ok (.getfield 13, 3) := by decide +kernel
theorem dX6_save_28 : decode cX6_save 28 = .ok (.iconst 0, 1) := by decide +kernel
theorem dX6_save_29 : decode cX6_save 29 = .ok (.aload_n 0, 1) := by decide +kernel
theorem dX6_save_30 : decode cX6_save 30 = .ok (.getfield 22, 3) := by decide +kernel
theorem dX6_save_33 : decode cX6_save 33 = .ok (.bipush 78, 2) := by decide +kernel
theorem dX6_save_35 : decode cX6_save 35 = .ok (.iload_n 1, 1) := by decide +kernel
theorem dX6_save_36 : decode cX6_save 36 = .ok (.imul, 1) := by decide +kernel
theorem dX6_save_37 : decode cX6_save 37 = .ok (.invokestatic 127, 3) := by decide +kernel
theorem dX6_save_40 : decode cX6_save 40 = .ok (.aload_n 0, 1) := by decide +kernel
theorem dX6_save_41 : decode cX6_save 41 = .ok (.getfield 25, 3) := by decide +kernel
theorem dX6_save_44 : decode cX6_save 44 = .ok (.iload_n 1, 1) := by decide +kernel
theorem dX6_save_45 : decode cX6_save 45 = .ok (.iconst 1, 1) := by decide +kernel
theorem dX6_save_46 : decode cX6_save 46 = .ok (.bastore, 1) := by decide +kernel
theorem dX6_save_47 : decode cX6_save 47 = .ok (.aload_n 0, 1) := by decide +kernel
theorem dX6_save_48 : decode cX6_save 48 = .ok (.getfield 13, 3) := by decide +kernel
theorem dX6_save_51 : decode cX6_save 51 = .ok (.iconst 5, 1) := by decide +kernel
theorem dX6_save_52 : decode cX6_save 52 = .ok (.iaload, 1) := by decide +kernel
theorem dX6_save_53 : decode cX6_save 53 = .ok (.ireturn, 1) := by decide +kernel
set_option maxRecDepth 20000 in
theorem ggX6_restore_X6_in : GoodIn wsX6_restore wsX6_in := goodIn_r _ [8] (by decide +kernel) (by decide +kernel)
set_option maxRecDepth 20000 in
theorem gX6_restore_X6_in : GoodIn wsX6_restore (va_wsS RX6 37 yX6_in wsX6_in) := goodIn_app (goodIn_of _ (by decide +kernel)) ggX6_restore_X6_in
set_option maxRecDepth 20000 in
theorem ggX6_restore_X6_refused : GoodIn wsX6_restore wsX6_refused := goodIn_r _ [12, 13, 17, 18, 19, 20, 21, 22, 23, 24, 25, 26, 27] (by decide +kernel) (by decide +kernel)
set_option maxRecDepth 20000 in
theorem gX6_restore_X6_refused : GoodIn wsX6_restore (wsV RX6 83 RX6 yX6_refused wsX6_refused) := goodIn_app (goodIn_of _ (by decide +kernel)) ggX6_restore_X6_refused
set_option maxRecDepth 20000 in
theorem ggX6_restore_X6_copyState : GoodIn wsX6_restore wsX6_copyState := goodIn_r _ [16] (by decide +kernel) (by decide +kernel)
set_option maxRecDepth 20000 in
theorem gX6_restore_X6_copyState : GoodIn wsX6_restore (va_wsS RX6 127 yX6_copyState wsX6_copyState) := goodIn_app (goodIn_of _ (by decide +kernel)) ggX6_restore_X6_copyState
theorem dX6_restore_0 : decode cX6_restore 0 = .ok (.aload_n 0, 1) := by decide +kernel
theorem dX6_restore_1 : decode cX6_restore 1 = .ok (.iload_n 1, 1) := by decide +kernel
theorem dX6_restore_2 : decode cX6_restore 2 = .ok (.i2l, 1) := by decide +kernel
theorem dX6_restore_3 : decode cX6_restore 3 = .ok (.lconst 0, 1) := by decide +kernel
theorem dX6_restore_4 : decode cX6_restore 4 = .ok (.lconst 1, 1) := by decide +kernel
theorem dX6_restore_5 : decode cX6_restore 5 = .ok (.invokestatic 37, 3) := by decide +kernel
theorem dX6_restore_8 : decode cX6_restore 8 = .ok (.ifCond .ne 7, 3) := by decide +kernel
theorem dX6_restore_11 : decode cX6_restore 11 = .ok (.iconst 1, 1) := by decide +kernel
theorem dX6_restore_12 : decode cX6_restore 12 = .ok (.goto 17, 3) := by decide +kernel
theorem dX6_restore_15 : decode cX6_restore 15 = .ok (.aload_n 0, 1) := by decide +kernel
theorem dX6_restore_16 : decode cX6_restore 16 = .ok (.getfield 25, 3) := by decide +kernel
theorem dX6_restore_19 : decode cX6_restore 19 = .ok (.iload_n 1, 1) := by decide +kernel
theorem dX6_restore_20 : decode cX6_restore 20 = .ok (.baload, 1) := by decide +kernel
theorem dX6_restore_21 : decode cX6_restore 21 = .ok (.ifCond .ne 7, 3) := by decide +kernel
theorem dX6_restore_24 : decode cX6_restore 24 = .ok (.iconst 2, 1) := by decide +kernel
theorem dX6_restore_25 : decode cX6_restore 25 = .ok (.goto 4, 3) := by decide +kernel
theorem dX6_restore_28 : decode cX6_restore 28 = .ok (.iconst 0, 1) := by decide +kernel
theorem dX6_restore_29 : decode cX6_restore 29 = .ok (.invokevirtual 83, 3) := by decide +kernel
theorem dX6_restore_32 : decode cX6_restore 32 = .ok (.ifCond .eq 5, 3) := by decide +kernel
theorem dX6_restore_35 : decode cX6_restore 35 = .ok (.iconst 0, 1) := by decide +kernel
theorem dX6_restore_36 : decode cX6_restore 36 = .ok (.ireturn, 1) := by decide +kernel
theorem dX6_restore_37 : decode cX6_restore 37 = .ok (.aload_n 0, 1) := by decide +kernel
theorem dX6_restore_38 : decode cX6_restore 38 = .ok (.getfield 22, 3) := by decide +kernel
theorem dX6_restore_41 : decode cX6_restore 41 = .ok (.bipush 78, 2) := by decide +kernel
theorem dX6_restore_43 : decode cX6_restore 43 = .ok (.iload_n 1, 1) := by decide +kernel
theorem dX6_restore_44 : decode cX6_restore 44 = .ok (.imul, 1) := by decide +kernel
theorem dX6_restore_45 : decode cX6_restore 45 = .ok (.aload_n 0, 1) := by decide +kernel
theorem dX6_restore_46 : decode cX6_restore 46 = .ok (.getfield 13, 3) := by decide +kernel
theorem dX6_restore_49 : decode cX6_restore 49 = .ok (.iconst 0, 1) := by decide +kernel
theorem dX6_restore_50 : decode cX6_restore 50 = .ok (.invokestatic 127, 3) := by decide +kernel
theorem dX6_restore_53 : decode cX6_restore 53 = .ok (.aload_n 0, 1) := by decide +kernel
theorem dX6_restore_54 : decode cX6_restore 54 = .ok (.iconst 0, 1) := by decide +kernel
theorem dX6_restore_55 : decode cX6_restore 55 = .ok (.putfield 131, 3) := by decide +kernel
theorem dX6_restore_58 : decode cX6_restore 58 = .ok (.aload_n 0, 1) := by decide +kernel
theorem dX6_restore_59 : decode cX6_restore 59 = .ok (.getfield 13, 3) := by decide +kernel
theorem dX6_restore_62 : decode cX6_restore 62 = .ok (.iconst 5, 1) := by decide +kernel
theorem dX6_restore_63 : decode cX6_restore 63 = .ok (.iaload, 1) := by decide +kernel
theorem dX6_restore_64 : decode cX6_restore 64 = .ok (.ireturn, 1) := by decide +kernel
