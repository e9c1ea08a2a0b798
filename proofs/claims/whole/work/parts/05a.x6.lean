set_option maxRecDepth 20000 in
theorem ggX6_init_X6_clear : GoodIn wsX6_init wsX6_clear := goodIn_r _ [15] (by decide +kernel) (by decide +kernel)
set_option maxRecDepth 20000 in
theorem gX6_init_X6_clear : GoodIn wsX6_init (va_wsS RX6 29 yX6_clear wsX6_clear) := goodIn_app (goodIn_of _ (by decide +kernel)) ggX6_init_X6_clear
theorem dX6_init_0 : decode cX6_init 0 = .ok (.aload_n 0, 1) := by decide +kernel
theorem dX6_init_1 : decode cX6_init 1 = .ok (.invokespecial 1, 3) := by decide +kernel
theorem dX6_init_4 : decode cX6_init 4 = .ok (.aload_n 0, 1) := by decide +kernel
theorem dX6_init_5 : decode cX6_init 5 = .ok (.bipush 120, 2) := by decide +kernel
theorem dX6_init_7 : decode cX6_init 7 = .ok (.newarray .int, 2) := by decide +kernel
theorem dX6_init_9 : decode cX6_init 9 = .ok (.putfield 7, 3) := by decide +kernel
theorem dX6_init_12 : decode cX6_init 12 = .ok (.aload_n 0, 1) := by decide +kernel
theorem dX6_init_13 : decode cX6_init 13 = .ok (.bipush 78, 2) := by decide +kernel
theorem dX6_init_15 : decode cX6_init 15 = .ok (.newarray .int, 2) := by decide +kernel
theorem dX6_init_17 : decode cX6_init 17 = .ok (.putfield 13, 3) := by decide +kernel
theorem dX6_init_20 : decode cX6_init 20 = .ok (.aload_n 0, 1) := by decide +kernel
theorem dX6_init_21 : decode cX6_init 21 = .ok (.bipush 78, 2) := by decide +kernel
theorem dX6_init_23 : decode cX6_init 23 = .ok (.newarray .int, 2) := by decide +kernel
theorem dX6_init_25 : decode cX6_init 25 = .ok (.putfield 16, 3) := by decide +kernel
theorem dX6_init_28 : decode cX6_init 28 = .ok (.aload_n 0, 1) := by decide +kernel
theorem dX6_init_29 : decode cX6_init 29 = .ok (.sipush 1092, 3) := by decide +kernel
theorem dX6_init_32 : decode cX6_init 32 = .ok (.newarray .int, 2) := by decide +kernel
theorem dX6_init_34 : decode cX6_init 34 = .ok (.putfield 19, 3) := by decide +kernel
theorem dX6_init_37 : decode cX6_init 37 = .ok (.aload_n 0, 1) := by decide +kernel
theorem dX6_init_38 : decode cX6_init 38 = .ok (.sipush 156, 3) := by decide +kernel
theorem dX6_init_41 : decode cX6_init 41 = .ok (.newarray .int, 2) := by decide +kernel
theorem dX6_init_43 : decode cX6_init 43 = .ok (.putfield 22, 3) := by decide +kernel
theorem dX6_init_46 : decode cX6_init 46 = .ok (.aload_n 0, 1) := by decide +kernel
theorem dX6_init_47 : decode cX6_init 47 = .ok (.iconst 2, 1) := by decide +kernel
theorem dX6_init_48 : decode cX6_init 48 = .ok (.newarray .boolean, 2) := by decide +kernel
theorem dX6_init_50 : decode cX6_init 50 = .ok (.putfield 25, 3) := by decide +kernel
theorem dX6_init_53 : decode cX6_init 53 = .ok (.aload_n 0, 1) := by decide +kernel
theorem dX6_init_54 : decode cX6_init 54 = .ok (.getfield 13, 3) := by decide +kernel
theorem dX6_init_57 : decode cX6_init 57 = .ok (.invokestatic 29, 3) := by decide +kernel
theorem dX6_init_60 : decode cX6_init 60 = .ok (.return_, 1) := by decide +kernel
theorem dX6_thrown_0 : decode cX6_thrown 0 = .ok (.aload_n 0, 1) := by decide +kernel
theorem dX6_thrown_1 : decode cX6_thrown 1 = .ok (.getfield 33, 3) := by decide +kernel
theorem dX6_thrown_4 : decode cX6_thrown 4 = .ok (.ireturn, 1) := by decide +kernel
theorem dX6_refused_0 : decode cX6_refused 0 = .ok (.aload_n 0, 1) := by decide +kernel
theorem dX6_refused_1 : decode cX6_refused 1 = .ok (.iload_n 1, 1) := by decide +kernel
theorem dX6_refused_2 : decode cX6_refused 2 = .ok (.putfield 33, 3) := by decide +kernel
theorem dX6_refused_5 : decode cX6_refused 5 = .ok (.iload_n 1, 1) := by decide +kernel
theorem dX6_refused_6 : decode cX6_refused 6 = .ok (.ifCond .le 7, 3) := by decide +kernel
theorem dX6_refused_9 : decode cX6_refused 9 = .ok (.iconst 1, 1) := by decide +kernel
theorem dX6_refused_10 : decode cX6_refused 10 = .ok (.goto 4, 3) := by decide +kernel
theorem dX6_refused_13 : decode cX6_refused 13 = .ok (.iconst 0, 1) := by decide +kernel
theorem dX6_refused_14 : decode cX6_refused 14 = .ok (.ireturn, 1) := by decide +kernel
theorem dX6_in_0 : decode cX6_in 0 = .ok (.lload_n 0, 1) := by decide +kernel
theorem dX6_in_1 : decode cX6_in 1 = .ok (.lload_n 2, 1) := by decide +kernel
theorem dX6_in_2 : decode cX6_in 2 = .ok (.lcmp, 1) := by decide +kernel
theorem dX6_in_3 : decode cX6_in 3 = .ok (.ifCond .lt 14, 3) := by decide +kernel
theorem dX6_in_6 : decode cX6_in 6 = .ok (.lload_n 0, 1) := by decide +kernel
theorem dX6_in_7 : decode cX6_in 7 = .ok (.lload 4, 2) := by decide +kernel
theorem dX6_in_9 : decode cX6_in 9 = .ok (.lcmp, 1) := by decide +kernel
theorem dX6_in_10 : decode cX6_in 10 = .ok (.ifCond .gt 7, 3) := by decide +kernel
theorem dX6_in_13 : decode cX6_in 13 = .ok (.iconst 1, 1) := by decide +kernel
theorem dX6_in_14 : decode cX6_in 14 = .ok (.goto 4, 3) := by decide +kernel
theorem dX6_in_17 : decode cX6_in 17 = .ok (.iconst 0, 1) := by decide +kernel
theorem dX6_in_18 : decode cX6_in 18 = .ok (.ireturn, 1) := by decide +kernel
theorem dX6_copyState_0 : decode cX6_copyState 0 = .ok (.iconst 0, 1) := by decide +kernel
theorem dX6_copyState_1 : decode cX6_copyState 1 = .ok (.istore 4, 2) := by decide +kernel
theorem dX6_copyState_3 : decode cX6_copyState 3 = .ok (.iload 4, 2) := by decide +kernel
theorem dX6_copyState_5 : decode cX6_copyState 5 = .ok (.bipush 78, 2) := by decide +kernel
theorem dX6_copyState_7 : decode cX6_copyState 7 = .ok (.if_icmp .ge 21, 3) := by decide +kernel
theorem dX6_copyState_10 : decode cX6_copyState 10 = .ok (.aload_n 2, 1) := by decide +kernel
theorem dX6_copyState_11 : decode cX6_copyState 11 = .ok (.iload_n 3, 1) := by decide +kernel
theorem dX6_copyState_12 : decode cX6_copyState 12 = .ok (.iload 4, 2) := by decide +kernel
theorem dX6_copyState_14 : decode cX6_copyState 14 = .ok (.iadd, 1) := by decide +kernel
theorem dX6_copyState_15 : decode cX6_copyState 15 = .ok (.aload_n 0, 1) := by decide +kernel
theorem dX6_copyState_16 : decode cX6_copyState 16 = .ok (.iload_n 1, 1) := by decide +kernel
theorem dX6_copyState_17 : decode cX6_copyState 17 = .ok (.iload 4, 2) := by decide +kernel
theorem dX6_copyState_19 : decode cX6_copyState 19 = .ok (.iadd, 1) := by decide +kernel
theorem dX6_copyState_20 : decode cX6_copyState 20 = .ok (.iaload, 1) := by decide +kernel
theorem dX6_copyState_21 : decode cX6_copyState 21 = .ok (.iastore, 1) := by decide +kernel
theorem dX6_copyState_22 : decode cX6_copyState 22 = .ok (.iinc 4 1, 3) := by decide +kernel
theorem dX6_copyState_25 : decode cX6_copyState 25 = .ok (.goto (-22), 3) := by decide +kernel
theorem dX6_copyState_28 : decode cX6_copyState 28 = .ok (.return_, 1) := by decide +kernel
theorem dX6_clear_0 : decode cX6_clear 0 = .ok (.iconst 0, 1) := by decide +kernel
theorem dX6_clear_1 : decode cX6_clear 1 = .ok (.istore_n 1, 1) := by decide +kernel
theorem dX6_clear_2 : decode cX6_clear 2 = .ok (.iload_n 1, 1) := by decide +kernel
theorem dX6_clear_3 : decode cX6_clear 3 = .ok (.bipush 78, 2) := by decide +kernel
theorem dX6_clear_5 : decode cX6_clear 5 = .ok (.if_icmp .ge 13, 3) := by decide +kernel
theorem dX6_clear_8 : decode cX6_clear 8 = .ok (.aload_n 0, 1) := by decide +kernel
theorem dX6_clear_9 : decode cX6_clear 9 = .ok (.iload_n 1, 1) := by decide +kernel
theorem dX6_clear_10 : decode cX6_clear 10 = .ok (.iconst 0, 1) := by decide +kernel
theorem dX6_clear_11 : decode cX6_clear 11 = .ok (.iastore, 1) := by decide +kernel
theorem dX6_clear_12 : decode cX6_clear 12 = .ok (.iinc 1 1, 3) := by decide +kernel
theorem dX6_clear_15 : decode cX6_clear 15 = .ok (.goto (-13), 3) := by decide +kernel
theorem dX6_clear_18 : decode cX6_clear 18 = .ok (.aload_n 0, 1) := by decide +kernel
theorem dX6_clear_19 : decode cX6_clear 19 = .ok (.bipush 11, 2) := by decide +kernel
theorem dX6_clear_21 : decode cX6_clear 21 = .ok (.bipush 100, 2) := by decide +kernel
theorem dX6_clear_23 : decode cX6_clear 23 = .ok (.iastore, 1) := by decide +kernel
theorem dX6_clear_24 : decode cX6_clear 24 = .ok (.aload_n 0, 1) := by decide +kernel
theorem dX6_clear_25 : decode cX6_clear 25 = .ok (.bipush 12, 2) := by decide +kernel
theorem dX6_clear_27 : decode cX6_clear 27 = .ok (.bipush 8, 2) := by decide +kernel
theorem dX6_clear_29 : decode cX6_clear 29 = .ok (.iastore, 1) := by decide +kernel
theorem dX6_clear_30 : decode cX6_clear 30 = .ok (.return_, 1) := by decide +kernel
set_option maxRecDepth 20000 in
theorem ggX6_isLine_X6_in : GoodIn wsX6_isLine wsX6_in := goodIn_r _ [4] (by decide +kernel) (by decide +kernel)
set_option maxRecDepth 20000 in
theorem gX6_isLine_X6_in : GoodIn wsX6_isLine (va_wsS RX6 37 yX6_in wsX6_in) := goodIn_app (goodIn_of _ (by decide +kernel)) ggX6_isLine_X6_in
theorem dX6_isLine_0 : decode cX6_isLine 0 = .ok (.iload_n 1, 1) := by decide +kernel
theorem dX6_isLine_1 : decode cX6_isLine 1 = .ok (.i2l, 1) := by decide +kernel
theorem dX6_isLine_2 : decode cX6_isLine 2 = .ok (.lconst 0, 1) := by decide +kernel
theorem dX6_isLine_3 : decode cX6_isLine 3 = .ok (.aload_n 0, 1) := by decide +kernel
theorem dX6_isLine_4 : decode cX6_isLine 4 = .ok (.iconst 0, 1) := by decide +kernel
theorem dX6_isLine_5 : decode cX6_isLine 5 = .ok (.iaload, 1) := by decide +kernel
theorem dX6_isLine_6 : decode cX6_isLine 6 = .ok (.iconst 1, 1) := by decide +kernel
theorem dX6_isLine_7 : decode cX6_isLine 7 = .ok (.isub, 1) := by decide +kernel
theorem dX6_isLine_8 : decode cX6_isLine 8 = .ok (.i2l, 1) := by decide +kernel
theorem dX6_isLine_9 : decode cX6_isLine 9 = .ok (.invokestatic 37, 3) := by decide +kernel
theorem dX6_isLine_12 : decode cX6_isLine 12 = .ok (.ireturn, 1) := by decide +kernel
set_option maxRecDepth 20000 in
theorem ggX6_isPlace_X6_in : GoodIn wsX6_isPlace wsX6_in := goodIn_r _ [4] (by decide +kernel) (by decide +kernel)
set_option maxRecDepth 20000 in
theorem gX6_isPlace_X6_in : GoodIn wsX6_isPlace (va_wsS RX6 37 yX6_in wsX6_in) := goodIn_app (goodIn_of _ (by decide +kernel)) ggX6_isPlace_X6_in
theorem dX6_isPlace_0 : decode cX6_isPlace 0 = .ok (.aload_n 0, 1) := by decide +kernel
theorem dX6_isPlace_1 : decode cX6_isPlace 1 = .ok (.iconst 0, 1) := by decide +kernel
theorem dX6_isPlace_2 : decode cX6_isPlace 2 = .ok (.iaload, 1) := by decide +kernel
theorem dX6_isPlace_3 : decode cX6_isPlace 3 = .ok (.ifCond .le 20, 3) := by decide +kernel
theorem dX6_isPlace_6 : decode cX6_isPlace 6 = .ok (.iload_n 1, 1) := by decide +kernel
theorem dX6_isPlace_7 : decode cX6_isPlace 7 = .ok (.i2l, 1) := by decide +kernel
theorem dX6_isPlace_8 : decode cX6_isPlace 8 = .ok (.lconst 0, 1) := by decide +kernel
theorem dX6_isPlace_9 : decode cX6_isPlace 9 = .ok (.aload_n 0, 1) := by decide +kernel
theorem dX6_isPlace_10 : decode cX6_isPlace 10 = .ok (.iconst 0, 1) := by decide +kernel
theorem dX6_isPlace_11 : decode cX6_isPlace 11 = .ok (.iaload, 1) := by decide +kernel
theorem dX6_isPlace_12 : decode cX6_isPlace 12 = .ok (.i2l, 1) := by decide +kernel
theorem dX6_isPlace_13 : decode cX6_isPlace 13 = .ok (.invokestatic 37, 3) := by decide +kernel
theorem dX6_isPlace_16 : decode cX6_isPlace 16 = .ok (.ifCond .eq 7, 3) := by decide +kernel
theorem dX6_isPlace_19 : decode cX6_isPlace 19 = .ok (.iconst 1, 1) := by decide +kernel
theorem dX6_isPlace_20 : decode cX6_isPlace 20 = .ok (.goto 4, 3) := by decide +kernel
theorem dX6_isPlace_23 : decode cX6_isPlace 23 = .ok (.iconst 0, 1) := by decide +kernel
theorem dX6_isPlace_24 : decode cX6_isPlace 24 = .ok (.ireturn, 1) := by decide +kernel
set_option maxRecDepth 20000 in
theorem ggX6_isValue_X6_in : GoodIn wsX6_isValue wsX6_in := goodIn_r _ [5] (by decide +kernel) (by decide +kernel)
set_option maxRecDepth 20000 in
theorem gX6_isValue_X6_in : GoodIn wsX6_isValue (va_wsS RX6 37 yX6_in wsX6_in) := goodIn_app (goodIn_of _ (by decide +kernel)) ggX6_isValue_X6_in
theorem dX6_isValue_0 : decode cX6_isValue 0 = .ok (.iload_n 0, 1) := by decide +kernel
theorem dX6_isValue_1 : decode cX6_isValue 1 = .ok (.i2l, 1) := by decide +kernel
theorem dX6_isValue_2 : decode cX6_isValue 2 = .ok (.lconst 0, 1) := by decide +kernel
theorem dX6_isValue_3 : decode cX6_isValue 3 = .ok (.ldc2_w 41, 3) := by decide +kernel
theorem dX6_isValue_6 : decode cX6_isValue 6 = .ok (.invokestatic 37, 3) := by decide +kernel
theorem dX6_isValue_9 : decode cX6_isValue 9 = .ok (.ireturn, 1) := by decide +kernel
set_option maxRecDepth 20000 in
theorem ggX6_isKey_X6_in : GoodIn wsX6_isKey wsX6_in := goodIn_r _ [4] (by decide +kernel) (by decide +kernel)
set_option maxRecDepth 20000 in
theorem gX6_isKey_X6_in : GoodIn wsX6_isKey (va_wsS RX6 37 yX6_in wsX6_in) := goodIn_app (goodIn_of _ (by decide +kernel)) ggX6_isKey_X6_in
theorem dX6_isKey_0 : decode cX6_isKey 0 = .ok (.iload_n 0, 1) := by decide +kernel
theorem dX6_isKey_1 : decode cX6_isKey 1 = .ok (.istore_n 2, 1) := by decide +kernel
theorem dX6_isKey_2 : decode cX6_isKey 2 = .ok (.iload_n 1, 1) := by decide +kernel
theorem dX6_isKey_3 : decode cX6_isKey 3 = .ok (.istore_n 3, 1) := by decide +kernel
theorem dX6_isKey_4 : decode cX6_isKey 4 = .ok (.iload_n 3, 1) := by decide +kernel
theorem dX6_isKey_5 : decode cX6_isKey 5 = .ok (.ifCond .le 16, 3) := by decide +kernel
theorem dX6_isKey_8 : decode cX6_isKey 8 = .ok (.iload_n 2, 1) := by decide +kernel
theorem dX6_isKey_9 : decode cX6_isKey 9 = .ok (.iload_n 3, 1) := by decide +kernel
theorem dX6_isKey_10 : decode cX6_isKey 10 = .ok (.irem, 1) := by decide +kernel
theorem dX6_isKey_11 : decode cX6_isKey 11 = .ok (.istore 4, 2) := by decide +kernel
theorem dX6_isKey_13 : decode cX6_isKey 13 = .ok (.iload_n 3, 1) := by decide +kernel
theorem dX6_isKey_14 : decode cX6_isKey 14 = .ok (.istore_n 2, 1) := by decide +kernel
theorem dX6_isKey_15 : decode cX6_isKey 15 = .ok (.iload 4, 2) := by decide +kernel
theorem dX6_isKey_17 : decode cX6_isKey 17 = .ok (.istore_n 3, 1) := by decide +kernel
theorem dX6_isKey_18 : decode cX6_isKey 18 = .ok (.goto (-14), 3) := by decide +kernel
theorem dX6_isKey_21 : decode cX6_isKey 21 = .ok (.iload_n 1, 1) := by decide +kernel
theorem dX6_isKey_22 : decode cX6_isKey 22 = .ok (.i2l, 1) := by decide +kernel
theorem dX6_isKey_23 : decode cX6_isKey 23 = .ok (.lconst 1, 1) := by decide +kernel
theorem dX6_isKey_24 : decode cX6_isKey 24 = .ok (.iload_n 0, 1) := by decide +kernel
theorem dX6_isKey_25 : decode cX6_isKey 25 = .ok (.iconst 1, 1) := by decide +kernel
theorem dX6_isKey_26 : decode cX6_isKey 26 = .ok (.isub, 1) := by decide +kernel
theorem dX6_isKey_27 : decode cX6_isKey 27 = .ok (.i2l, 1) := by decide +kernel
theorem dX6_isKey_28 : decode cX6_isKey 28 = .ok (.invokestatic 37, 3) := by decide +kernel
theorem dX6_isKey_31 : decode cX6_isKey 31 = .ok (.ifCond .eq 12, 3) := by decide +kernel
theorem dX6_isKey_34 : decode cX6_isKey 34 = .ok (.iload_n 2, 1) := by decide +kernel
theorem dX6_isKey_35 : decode cX6_isKey 35 = .ok (.iconst 1, 1) := by decide +kernel
theorem dX6_isKey_36 : decode cX6_isKey 36 = .ok (.if_icmp .ne 7, 3) := by decide +kernel
theorem dX6_isKey_39 : decode cX6_isKey 39 = .ok (.iconst 1, 1) := by decide +kernel
theorem dX6_isKey_40 : decode cX6_isKey 40 = .ok (.goto 4, 3) := by decide +kernel
theorem dX6_isKey_43 : decode cX6_isKey 43 = .ok (.iconst 0, 1) := by decide +kernel
theorem dX6_isKey_44 : decode cX6_isKey 44 = .ok (.ireturn, 1) := by decide +kernel
set_option maxRecDepth 20000 in
theorem ggX6_canMake_X6_in : GoodIn wsX6_canMake wsX6_in := goodIn_r _ [6] (by decide +kernel) (by decide +kernel)
set_option maxRecDepth 20000 in
theorem gX6_canMake_X6_in : GoodIn wsX6_canMake (va_wsS RX6 37 yX6_in wsX6_in) := goodIn_app (goodIn_of _ (by decide +kernel)) ggX6_canMake_X6_in
set_option maxRecDepth 20000 in
theorem ggX6_canMake_X6_isKey : GoodIn wsX6_canMake wsX6_isKey := goodIn_r _ [9, 3, 4, 5, 6] (by decide +kernel) (by decide +kernel)
set_option maxRecDepth 20000 in
theorem gX6_canMake_X6_isKey : GoodIn wsX6_canMake (va_wsS RX6 47 yX6_isKey wsX6_isKey) := goodIn_app (goodIn_of _ (by decide +kernel)) ggX6_canMake_X6_isKey
theorem dX6_canMake_0 : decode cX6_canMake 0 = .ok (.iload_n 0, 1) := by decide +kernel
theorem dX6_canMake_1 : decode cX6_canMake 1 = .ok (.i2l, 1) := by decide +kernel
theorem dX6_canMake_2 : decode cX6_canMake 2 = .ok (.ldc2_w 43, 3) := by decide +kernel
theorem dX6_canMake_5 : decode cX6_canMake 5 = .ok (.ldc2_w 45, 3) := by decide +kernel
theorem dX6_canMake_8 : decode cX6_canMake 8 = .ok (.invokestatic 37, 3) := by decide +kernel
theorem dX6_canMake_11 : decode cX6_canMake 11 = .ok (.ifCond .eq 40, 3) := by decide +kernel
theorem dX6_canMake_14 : decode cX6_canMake 14 = .ok (.iload_n 1, 1) := by decide +kernel
theorem dX6_canMake_15 : decode cX6_canMake 15 = .ok (.i2l, 1) := by decide +kernel
theorem dX6_canMake_16 : decode cX6_canMake 16 = .ok (.lconst 1, 1) := by decide +kernel
theorem dX6_canMake_17 : decode cX6_canMake 17 = .ok (.iload_n 0, 1) := by decide +kernel
theorem dX6_canMake_18 : decode cX6_canMake 18 = .ok (.iconst 1, 1) := by decide +kernel
theorem dX6_canMake_19 : decode cX6_canMake 19 = .ok (.isub, 1) := by decide +kernel
theorem dX6_canMake_20 : decode cX6_canMake 20 = .ok (.i2l, 1) := by decide +kernel
theorem dX6_canMake_21 : decode cX6_canMake 21 = .ok (.invokestatic 37, 3) := by decide +kernel
theorem dX6_canMake_24 : decode cX6_canMake 24 = .ok (.ifCond .eq 27, 3) := by decide +kernel
theorem dX6_canMake_27 : decode cX6_canMake 27 = .ok (.iload_n 0, 1) := by decide +kernel
theorem dX6_canMake_28 : decode cX6_canMake 28 = .ok (.iload_n 1, 1) := by decide +kernel
theorem dX6_canMake_29 : decode cX6_canMake 29 = .ok (.invokestatic 47, 3) := by decide +kernel
theorem dX6_canMake_32 : decode cX6_canMake 32 = .ok (.ifCond .eq 19, 3) := by decide +kernel
theorem dX6_canMake_35 : decode cX6_canMake 35 = .ok (.iload_n 2, 1) := by decide +kernel
theorem dX6_canMake_36 : decode cX6_canMake 36 = .ok (.i2l, 1) := by decide +kernel
theorem dX6_canMake_37 : decode cX6_canMake 37 = .ok (.lconst 0, 1) := by decide +kernel
theorem dX6_canMake_38 : decode cX6_canMake 38 = .ok (.ldc2_w 43, 3) := by decide +kernel
theorem dX6_canMake_41 : decode cX6_canMake 41 = .ok (.invokestatic 37, 3) := by decide +kernel
theorem dX6_canMake_44 : decode cX6_canMake 44 = .ok (.ifCond .eq 7, 3) := by decide +kernel
theorem dX6_canMake_47 : decode cX6_canMake 47 = .ok (.iconst 1, 1) := by decide +kernel
theorem dX6_canMake_48 : decode cX6_canMake 48 = .ok (.goto 4, 3) := by decide +kernel
theorem dX6_canMake_51 : decode cX6_canMake 51 = .ok (.iconst 0, 1) := by decide +kernel
theorem dX6_canMake_52 : decode cX6_canMake 52 = .ok (.ireturn, 1) := by decide +kernel
theorem dX6_placeWith_0 : decode cX6_placeWith 0 = .ok (.aload_n 0, 1) := by decide +kernel
theorem dX6_placeWith_1 : decode cX6_placeWith 1 = .ok (.iconst 1, 1) := by decide +kernel
theorem dX6_placeWith_2 : decode cX6_placeWith 2 = .ok (.iaload, 1) := by decide +kernel
theorem dX6_placeWith_3 : decode cX6_placeWith 3 = .ok (.iload_n 1, 1) := by decide +kernel
theorem dX6_placeWith_4 : decode cX6_placeWith 4 = .ok (.imul, 1) := by decide +kernel
theorem dX6_placeWith_5 : decode cX6_placeWith 5 = .ok (.iload_n 2, 1) := by decide +kernel
theorem dX6_placeWith_6 : decode cX6_placeWith 6 = .ok (.iadd, 1) := by decide +kernel
theorem dX6_placeWith_7 : decode cX6_placeWith 7 = .ok (.aload_n 0, 1) := by decide +kernel
theorem dX6_placeWith_8 : decode cX6_placeWith 8 = .ok (.iconst 0, 1) := by decide +kernel
theorem dX6_placeWith_9 : decode cX6_placeWith 9 = .ok (.iaload, 1) := by decide +kernel
theorem dX6_placeWith_10 : decode cX6_placeWith 10 = .ok (.irem, 1) := by decide +kernel
theorem dX6_placeWith_11 : decode cX6_placeWith 11 = .ok (.istore 4, 2) := by decide +kernel
theorem dX6_placeWith_13 : decode cX6_placeWith 13 = .ok (.iload 4, 2) := by decide +kernel
theorem dX6_placeWith_15 : decode cX6_placeWith 15 = .ok (.iload_n 3, 1) := by decide +kernel
theorem dX6_placeWith_16 : decode cX6_placeWith 16 = .ok (.if_icmp .ge 8, 3) := by decide +kernel
theorem dX6_placeWith_19 : decode cX6_placeWith 19 = .ok (.iload 4, 2) := by decide +kernel
theorem dX6_placeWith_21 : decode cX6_placeWith 21 = .ok (.goto 7, 3) := by decide +kernel
theorem dX6_placeWith_24 : decode cX6_placeWith 24 = .ok (.iload 4, 2) := by decide +kernel
theorem dX6_placeWith_26 : decode cX6_placeWith 26 = .ok (.iconst 1, 1) := by decide +kernel
theorem dX6_placeWith_27 : decode cX6_placeWith 27 = .ok (.iadd, 1) := by decide +kernel
theorem dX6_placeWith_28 : decode cX6_placeWith 28 = .ok (.ireturn, 1) := by decide +kernel
set_option maxRecDepth 20000 in
theorem ggX6_placeOf_X6_placeWith : GoodIn wsX6_placeOf wsX6_placeWith := goodIn_r _ [4] (by decide +kernel) (by decide +kernel)
set_option maxRecDepth 20000 in
theorem gX6_placeOf_X6_placeWith : GoodIn wsX6_placeOf (va_wsS RX6 51 yX6_placeWith wsX6_placeWith) := goodIn_app (goodIn_of _ (by decide +kernel)) ggX6_placeOf_X6_placeWith
theorem dX6_placeOf_0 : decode cX6_placeOf 0 = .ok (.aload_n 0, 1) := by decide +kernel
theorem dX6_placeOf_1 : decode cX6_placeOf 1 = .ok (.iload_n 1, 1) := by decide +kernel
theorem dX6_placeOf_2 : decode cX6_placeOf 2 = .ok (.aload_n 0, 1) := by decide +kernel
theorem dX6_placeOf_3 : decode cX6_placeOf 3 = .ok (.iconst 2, 1) := by decide +kernel
theorem dX6_placeOf_4 : decode cX6_placeOf 4 = .ok (.iaload, 1) := by decide +kernel
theorem dX6_placeOf_5 : decode cX6_placeOf 5 = .ok (.aload_n 0, 1) := by decide +kernel
theorem dX6_placeOf_6 : decode cX6_placeOf 6 = .ok (.iconst 3, 1) := by decide +kernel
theorem dX6_placeOf_7 : decode cX6_placeOf 7 = .ok (.iaload, 1) := by decide +kernel
theorem dX6_placeOf_8 : decode cX6_placeOf 8 = .ok (.invokestatic 51, 3) := by decide +kernel
theorem dX6_placeOf_11 : decode cX6_placeOf 11 = .ok (.ireturn, 1) := by decide +kernel
theorem dX6_greatest_0 : decode cX6_greatest 0 = .ok (.iconst 0, 1) := by decide +kernel
theorem dX6_greatest_1 : decode cX6_greatest 1 = .ok (.istore_n 1, 1) := by decide +kernel
theorem dX6_greatest_2 : decode cX6_greatest 2 = .ok (.iconst 0, 1) := by decide +kernel
theorem dX6_greatest_3 : decode cX6_greatest 3 = .ok (.istore_n 2, 1) := by decide +kernel
theorem dX6_greatest_4 : decode cX6_greatest 4 = .ok (.iload_n 2, 1) := by decide +kernel
theorem dX6_greatest_5 : decode cX6_greatest 5 = .ok (.aload_n 0, 1) := by decide +kernel
theorem dX6_greatest_6 : decode cX6_greatest 6 = .ok (.iconst 0, 1) := by decide +kernel
theorem dX6_greatest_7 : decode cX6_greatest 7 = .ok (.iaload, 1) := by decide +kernel
theorem dX6_greatest_8 : decode cX6_greatest 8 = .ok (.if_icmp .gt 30, 3) := by decide +kernel
theorem dX6_greatest_11 : decode cX6_greatest 11 = .ok (.aload_n 0, 1) := by decide +kernel
theorem dX6_greatest_12 : decode cX6_greatest 12 = .ok (.bipush 45, 2) := by decide +kernel
theorem dX6_greatest_14 : decode cX6_greatest 14 = .ok (.iload_n 2, 1) := by decide +kernel
theorem dX6_greatest_15 : decode cX6_greatest 15 = .ok (.iadd, 1) := by decide +kernel
theorem dX6_greatest_16 : decode cX6_greatest 16 = .ok (.iaload, 1) := by decide +kernel
theorem dX6_greatest_17 : decode cX6_greatest 17 = .ok (.iload_n 1, 1) := by decide +kernel
theorem dX6_greatest_18 : decode cX6_greatest 18 = .ok (.if_icmp .le 12, 3) := by decide +kernel
theorem dX6_greatest_21 : decode cX6_greatest 21 = .ok (.aload_n 0, 1) := by decide +kernel
theorem dX6_greatest_22 : decode cX6_greatest 22 = .ok (.bipush 45, 2) := by decide +kernel
theorem dX6_greatest_24 : decode cX6_greatest 24 = .ok (.iload_n 2, 1) := by decide +kernel
theorem dX6_greatest_25 : decode cX6_greatest 25 = .ok (.iadd, 1) := by decide +kernel
theorem dX6_greatest_26 : decode cX6_greatest 26 = .ok (.iaload, 1) := by decide +kernel
theorem dX6_greatest_27 : decode cX6_greatest 27 = .ok (.goto 4, 3) := by decide +kernel
theorem dX6_greatest_30 : decode cX6_greatest 30 = .ok (.iload_n 1, 1) := by decide +kernel
theorem dX6_greatest_31 : decode cX6_greatest 31 = .ok (.istore_n 1, 1) := by decide +kernel
theorem dX6_greatest_32 : decode cX6_greatest 32 = .ok (.iinc 2 1, 3) := by decide +kernel
theorem dX6_greatest_35 : decode cX6_greatest 35 = .ok (.goto (-31), 3) := by decide +kernel
theorem dX6_greatest_38 : decode cX6_greatest 38 = .ok (.iload_n 1, 1) := by decide +kernel
theorem dX6_greatest_39 : decode cX6_greatest 39 = .ok (.ireturn, 1) := by decide +kernel
theorem dX6_least_0 : decode cX6_least 0 = .ok (.aload_n 0, 1) := by decide +kernel
theorem dX6_least_1 : decode cX6_least 1 = .ok (.bipush 45, 2) := by decide +kernel
theorem dX6_least_3 : decode cX6_least 3 = .ok (.iaload, 1) := by decide +kernel
theorem dX6_least_4 : decode cX6_least 4 = .ok (.istore_n 1, 1) := by decide +kernel
theorem dX6_least_5 : decode cX6_least 5 = .ok (.iconst 0, 1) := by decide +kernel
theorem dX6_least_6 : decode cX6_least 6 = .ok (.istore_n 2, 1) := by decide +kernel
theorem dX6_least_7 : decode cX6_least 7 = .ok (.iload_n 2, 1) := by decide +kernel
theorem dX6_least_8 : decode cX6_least 8 = .ok (.aload_n 0, 1) := by decide +kernel
theorem dX6_least_9 : decode cX6_least 9 = .ok (.iconst 0, 1) := by decide +kernel
theorem dX6_least_10 : decode cX6_least 10 = .ok (.iaload, 1) := by decide +kernel
theorem dX6_least_11 : decode cX6_least 11 = .ok (.if_icmp .gt 30, 3) := by decide +kernel
theorem dX6_least_14 : decode cX6_least 14 = .ok (.aload_n 0, 1) := by decide +kernel
theorem dX6_least_15 : decode cX6_least 15 = .ok (.bipush 45, 2) := by decide +kernel
theorem dX6_least_17 : decode cX6_least 17 = .ok (.iload_n 2, 1) := by decide +kernel
theorem dX6_least_18 : decode cX6_least 18 = .ok (.iadd, 1) := by decide +kernel
theorem dX6_least_19 : decode cX6_least 19 = .ok (.iaload, 1) := by decide +kernel
theorem dX6_least_20 : decode cX6_least 20 = .ok (.iload_n 1, 1) := by decide +kernel
theorem dX6_least_21 : decode cX6_least 21 = .ok (.if_icmp .ge 12, 3) := by decide +kernel
theorem dX6_least_24 : decode cX6_least 24 = .ok (.aload_n 0, 1) := by decide +kernel
theorem dX6_least_25 : decode cX6_least 25 = .ok (.bipush 45, 2) := by decide +kernel
theorem dX6_least_27 : decode cX6_least 27 = .ok (.iload_n 2, 1) := by decide +kernel
theorem dX6_least_28 : decode cX6_least 28 = .ok (.iadd, 1) := by decide +kernel
theorem dX6_least_29 : decode cX6_least 29 = .ok (.iaload, 1) := by decide +kernel
theorem dX6_least_30 : decode cX6_least 30 = .ok (.goto 4, 3) := by decide +kernel
theorem dX6_least_33 : decode cX6_least 33 = .ok (.iload_n 1, 1) := by decide +kernel
theorem dX6_least_34 : decode cX6_least 34 = .ok (.istore_n 1, 1) := by decide +kernel
theorem dX6_least_35 : decode cX6_least 35 = .ok (.iinc 2 1, 3) := by decide +kernel
theorem dX6_least_38 : decode cX6_least 38 = .ok (.goto (-31), 3) := by decide +kernel
theorem dX6_least_41 : decode cX6_least 41 = .ok (.iload_n 1, 1) := by decide +kernel
theorem dX6_least_42 : decode cX6_least 42 = .ok (.ireturn, 1) := by decide +kernel
theorem dX6_layAt_0 : decode cX6_layAt 0 = .ok (.aload_n 0, 1) := by decide +kernel
theorem dX6_layAt_1 : decode cX6_layAt 1 = .ok (.bipush 45, 2) := by decide +kernel
theorem dX6_layAt_3 : decode cX6_layAt 3 = .ok (.iload_n 1, 1) := by decide +kernel
theorem dX6_layAt_4 : decode cX6_layAt 4 = .ok (.iadd, 1) := by decide +kernel
theorem dX6_layAt_5 : decode cX6_layAt 5 = .ok (.dup2, 1) := by decide +kernel
theorem dX6_layAt_6 : decode cX6_layAt 6 = .ok (.iaload, 1) := by decide +kernel
theorem dX6_layAt_7 : decode cX6_layAt 7 = .ok (.iconst 1, 1) := by decide +kernel
theorem dX6_layAt_8 : decode cX6_layAt 8 = .ok (.iadd, 1) := by decide +kernel
theorem dX6_layAt_9 : decode cX6_layAt 9 = .ok (.iastore, 1) := by decide +kernel
theorem dX6_layAt_10 : decode cX6_layAt 10 = .ok (.aload_n 0, 1) := by decide +kernel
theorem dX6_layAt_11 : decode cX6_layAt 11 = .ok (.bipush 10, 2) := by decide +kernel
theorem dX6_layAt_13 : decode cX6_layAt 13 = .ok (.dup2, 1) := by decide +kernel
theorem dX6_layAt_14 : decode cX6_layAt 14 = .ok (.iaload, 1) := by decide +kernel
theorem dX6_layAt_15 : decode cX6_layAt 15 = .ok (.iconst 1, 1) := by decide +kernel
theorem dX6_layAt_16 : decode cX6_layAt 16 = .ok (.iadd, 1) := by decide +kernel
theorem dX6_layAt_17 : decode cX6_layAt 17 = .ok (.iastore, 1) := by decide +kernel
theorem dX6_layAt_18 : decode cX6_layAt 18 = .ok (.aload_n 0, 1) := by decide +kernel
theorem dX6_layAt_19 : decode cX6_layAt 19 = .ok (.bipush 45, 2) := by decide +kernel
theorem dX6_layAt_21 : decode cX6_layAt 21 = .ok (.iload_n 1, 1) := by decide +kernel
theorem dX6_layAt_22 : decode cX6_layAt 22 = .ok (.iadd, 1) := by decide +kernel
theorem dX6_layAt_23 : decode cX6_layAt 23 = .ok (.iaload, 1) := by decide +kernel
theorem dX6_layAt_24 : decode cX6_layAt 24 = .ok (.aload_n 0, 1) := by decide +kernel
theorem dX6_layAt_25 : decode cX6_layAt 25 = .ok (.bipush 11, 2) := by decide +kernel
theorem dX6_layAt_27 : decode cX6_layAt 27 = .ok (.iaload, 1) := by decide +kernel
theorem dX6_layAt_28 : decode cX6_layAt 28 = .ok (.if_icmp .lt 47, 3) := by decide +kernel
theorem dX6_layAt_31 : decode cX6_layAt 31 = .ok (.aload_n 0, 1) := by decide +kernel
theorem dX6_layAt_32 : decode cX6_layAt 32 = .ok (.iconst 4, 1) := by decide +kernel
theorem dX6_layAt_33 : decode cX6_layAt 33 = .ok (.iaload, 1) := by decide +kernel
theorem dX6_layAt_34 : decode cX6_layAt 34 = .ok (.ifCond .le 36, 3) := by decide +kernel
theorem dX6_layAt_37 : decode cX6_layAt 37 = .ok (.aload_n 0, 1) := by decide +kernel
theorem dX6_layAt_38 : decode cX6_layAt 38 = .ok (.iconst 4, 1) := by decide +kernel
theorem dX6_layAt_39 : decode cX6_layAt 39 = .ok (.dup2, 1) := by decide +kernel
theorem dX6_layAt_40 : decode cX6_layAt 40 = .ok (.iaload, 1) := by decide +kernel
theorem dX6_layAt_41 : decode cX6_layAt 41 = .ok (.iconst 1, 1) := by decide +kernel
theorem dX6_layAt_42 : decode cX6_layAt 42 = .ok (.isub, 1) := by decide +kernel
theorem dX6_layAt_43 : decode cX6_layAt 43 = .ok (.iastore, 1) := by decide +kernel
theorem dX6_layAt_44 : decode cX6_layAt 44 = .ok (.aload_n 0, 1) := by decide +kernel
theorem dX6_layAt_45 : decode cX6_layAt 45 = .ok (.bipush 9, 2) := by decide +kernel
theorem dX6_layAt_47 : decode cX6_layAt 47 = .ok (.dup2, 1) := by decide +kernel
theorem dX6_layAt_48 : decode cX6_layAt 48 = .ok (.iaload, 1) := by decide +kernel
theorem dX6_layAt_49 : decode cX6_layAt 49 = .ok (.iconst 1, 1) := by decide +kernel
theorem dX6_layAt_50 : decode cX6_layAt 50 = .ok (.iadd, 1) := by decide +kernel
theorem dX6_layAt_51 : decode cX6_layAt 51 = .ok (.iastore, 1) := by decide +kernel
theorem dX6_layAt_52 : decode cX6_layAt 52 = .ok (.aload_n 0, 1) := by decide +kernel
theorem dX6_layAt_53 : decode cX6_layAt 53 = .ok (.bipush 45, 2) := by decide +kernel
theorem dX6_layAt_55 : decode cX6_layAt 55 = .ok (.iload_n 1, 1) := by decide +kernel
theorem dX6_layAt_56 : decode cX6_layAt 56 = .ok (.iadd, 1) := by decide +kernel
theorem dX6_layAt_57 : decode cX6_layAt 57 = .ok (.iconst 1, 1) := by decide +kernel
theorem dX6_layAt_58 : decode cX6_layAt 58 = .ok (.iastore, 1) := by decide +kernel
theorem dX6_layAt_59 : decode cX6_layAt 59 = .ok (.aload_n 0, 1) := by decide +kernel
theorem dX6_layAt_60 : decode cX6_layAt 60 = .ok (.bipush 10, 2) := by decide +kernel
theorem dX6_layAt_62 : decode cX6_layAt 62 = .ok (.dup2, 1) := by decide +kernel
theorem dX6_layAt_63 : decode cX6_layAt 63 = .ok (.iaload, 1) := by decide +kernel
theorem dX6_layAt_64 : decode cX6_layAt 64 = .ok (.iconst 1, 1) := by decide +kernel
theorem dX6_layAt_65 : decode cX6_layAt 65 = .ok (.iadd, 1) := by decide +kernel
theorem dX6_layAt_66 : decode cX6_layAt 66 = .ok (.iastore, 1) := by decide +kernel
theorem dX6_layAt_67 : decode cX6_layAt 67 = .ok (.goto 8, 3) := by decide +kernel
theorem dX6_layAt_70 : decode cX6_layAt 70 = .ok (.aload_n 0, 1) := by decide +kernel
theorem dX6_layAt_71 : decode cX6_layAt 71 = .ok (.bipush 8, 2) := by decide +kernel
theorem dX6_layAt_73 : decode cX6_layAt 73 = .ok (.iconst 1, 1) := by decide +kernel
theorem dX6_layAt_74 : decode cX6_layAt 74 = .ok (.iastore, 1) := by decide +kernel
theorem dX6_layAt_75 : decode cX6_layAt 75 = .ok (.return_, 1) := by decide +kernel
set_option maxRecDepth 20000 in
theorem ggX6_move_X6_layAt : GoodIn wsX6_move wsX6_layAt := goodIn_r _ [4] (by decide +kernel) (by decide +kernel)
set_option maxRecDepth 20000 in
theorem gX6_move_X6_layAt : GoodIn wsX6_move (va_wsS RX6 55 yX6_layAt wsX6_layAt) := goodIn_app (goodIn_of _ (by decide +kernel)) ggX6_move_X6_layAt
theorem dX6_move_0 : decode cX6_move 0 = .ok (.aload_n 0, 1) := by decide +kernel
theorem dX6_move_1 : decode cX6_move 1 = .ok (.aload_n 0, 1) := by decide +kernel
theorem dX6_move_2 : decode cX6_move 2 = .ok (.iconst 3, 1) := by decide +kernel
theorem dX6_move_3 : decode cX6_move 3 = .ok (.iaload, 1) := by decide +kernel
theorem dX6_move_4 : decode cX6_move 4 = .ok (.invokestatic 55, 3) := by decide +kernel
theorem dX6_move_7 : decode cX6_move 7 = .ok (.aload_n 0, 1) := by decide +kernel
theorem dX6_move_8 : decode cX6_move 8 = .ok (.iconst 3, 1) := by decide +kernel
theorem dX6_move_9 : decode cX6_move 9 = .ok (.iaload, 1) := by decide +kernel
theorem dX6_move_10 : decode cX6_move 10 = .ok (.ifCond .le 13, 3) := by decide +kernel
theorem dX6_move_13 : decode cX6_move 13 = .ok (.aload_n 0, 1) := by decide +kernel
theorem dX6_move_14 : decode cX6_move 14 = .ok (.iconst 3, 1) := by decide +kernel
theorem dX6_move_15 : decode cX6_move 15 = .ok (.dup2, 1) := by decide +kernel
theorem dX6_move_16 : decode cX6_move 16 = .ok (.iaload, 1) := by decide +kernel
theorem dX6_move_17 : decode cX6_move 17 = .ok (.iconst 1, 1) := by decide +kernel
theorem dX6_move_18 : decode cX6_move 18 = .ok (.isub, 1) := by decide +kernel
theorem dX6_move_19 : decode cX6_move 19 = .ok (.iastore, 1) := by decide +kernel
theorem dX6_move_20 : decode cX6_move 20 = .ok (.goto 21, 3) := by decide +kernel
theorem dX6_move_23 : decode cX6_move 23 = .ok (.aload_n 0, 1) := by decide +kernel
theorem dX6_move_24 : decode cX6_move 24 = .ok (.iconst 3, 1) := by decide +kernel
theorem dX6_move_25 : decode cX6_move 25 = .ok (.aload_n 0, 1) := by decide +kernel
theorem dX6_move_26 : decode cX6_move 26 = .ok (.iconst 0, 1) := by decide +kernel
theorem dX6_move_27 : decode cX6_move 27 = .ok (.iaload, 1) := by decide +kernel
theorem dX6_move_28 : decode cX6_move 28 = .ok (.iastore, 1) := by decide +kernel
theorem dX6_move_29 : decode cX6_move 29 = .ok (.aload_n 0, 1) := by decide +kernel
theorem dX6_move_30 : decode cX6_move 30 = .ok (.iconst 2, 1) := by decide +kernel
theorem dX6_move_31 : decode cX6_move 31 = .ok (.aload_n 0, 1) := by decide +kernel
theorem dX6_move_32 : decode cX6_move 32 = .ok (.iconst 2, 1) := by decide +kernel
theorem dX6_move_33 : decode cX6_move 33 = .ok (.iaload, 1) := by decide +kernel
theorem dX6_move_34 : decode cX6_move 34 = .ok (.iconst 1, 1) := by decide +kernel
theorem dX6_move_35 : decode cX6_move 35 = .ok (.iadd, 1) := by decide +kernel
theorem dX6_move_36 : decode cX6_move 36 = .ok (.aload_n 0, 1) := by decide +kernel
theorem dX6_move_37 : decode cX6_move 37 = .ok (.iconst 0, 1) := by decide +kernel
theorem dX6_move_38 : decode cX6_move 38 = .ok (.iaload, 1) := by decide +kernel
theorem dX6_move_39 : decode cX6_move 39 = .ok (.irem, 1) := by decide +kernel
theorem dX6_move_40 : decode cX6_move 40 = .ok (.iastore, 1) := by decide +kernel
theorem dX6_move_41 : decode cX6_move 41 = .ok (.aload_n 0, 1) := by decide +kernel
theorem dX6_move_42 : decode cX6_move 42 = .ok (.bipush 6, 2) := by decide +kernel
theorem dX6_move_44 : decode cX6_move 44 = .ok (.dup2, 1) := by decide +kernel
theorem dX6_move_45 : decode cX6_move 45 = .ok (.iaload, 1) := by decide +kernel
theorem dX6_move_46 : decode cX6_move 46 = .ok (.iconst 1, 1) := by decide +kernel
theorem dX6_move_47 : decode cX6_move 47 = .ok (.iadd, 1) := by decide +kernel
theorem dX6_move_48 : decode cX6_move 48 = .ok (.iastore, 1) := by decide +kernel
theorem dX6_move_49 : decode cX6_move 49 = .ok (.aload_n 0, 1) := by decide +kernel
theorem dX6_move_50 : decode cX6_move 50 = .ok (.bipush 7, 2) := by decide +kernel
theorem dX6_move_52 : decode cX6_move 52 = .ok (.iconst 0, 1) := by decide +kernel
theorem dX6_move_53 : decode cX6_move 53 = .ok (.iastore, 1) := by decide +kernel
theorem dX6_move_54 : decode cX6_move 54 = .ok (.return_, 1) := by decide +kernel
set_option maxRecDepth 20000 in
theorem ggX6_canWrite_X6_isLine : GoodIn wsX6_canWrite wsX6_isLine := goodIn_r _ [4, 5, 6, 3, 7] (by decide +kernel) (by decide +kernel)
set_option maxRecDepth 20000 in
theorem gX6_canWrite_X6_isLine : GoodIn wsX6_canWrite (va_wsS RX6 59 yX6_isLine wsX6_isLine) := goodIn_app (goodIn_of _ (by decide +kernel)) ggX6_canWrite_X6_isLine
theorem dX6_canWrite_0 : decode cX6_canWrite 0 = .ok (.aload_n 0, 1) := by decide +kernel
theorem dX6_canWrite_1 : decode cX6_canWrite 1 = .ok (.iload_n 1, 1) := by decide +kernel
theorem dX6_canWrite_2 : decode cX6_canWrite 2 = .ok (.invokestatic 59, 3) := by decide +kernel
theorem dX6_canWrite_5 : decode cX6_canWrite 5 = .ok (.ifCond .eq 14, 3) := by decide +kernel
theorem dX6_canWrite_8 : decode cX6_canWrite 8 = .ok (.aload_n 0, 1) := by decide +kernel
theorem dX6_canWrite_9 : decode cX6_canWrite 9 = .ok (.bipush 8, 2) := by decide +kernel
theorem dX6_canWrite_11 : decode cX6_canWrite 11 = .ok (.iaload, 1) := by decide +kernel
theorem dX6_canWrite_12 : decode cX6_canWrite 12 = .ok (.ifCond .ne 7, 3) := by decide +kernel
theorem dX6_canWrite_15 : decode cX6_canWrite 15 = .ok (.iconst 1, 1) := by decide +kernel
theorem dX6_canWrite_16 : decode cX6_canWrite 16 = .ok (.goto 4, 3) := by decide +kernel
theorem dX6_canWrite_19 : decode cX6_canWrite 19 = .ok (.iconst 0, 1) := by decide +kernel
theorem dX6_canWrite_20 : decode cX6_canWrite 20 = .ok (.ireturn, 1) := by decide +kernel
set_option maxRecDepth 20000 in
theorem ggX6_writeOn_X6_placeOf : GoodIn wsX6_writeOn wsX6_placeOf := goodIn_r _ [4, 5, 6, 3, 7] (by decide +kernel) (by decide +kernel)
set_option maxRecDepth 20000 in
theorem gX6_writeOn_X6_placeOf : GoodIn wsX6_writeOn (va_wsS RX6 63 yX6_placeOf wsX6_placeOf) := goodIn_app (goodIn_of _ (by decide +kernel)) ggX6_writeOn_X6_placeOf
set_option maxRecDepth 20000 in
theorem ggX6_writeOn_X6_layAt : GoodIn wsX6_writeOn wsX6_layAt := goodIn_r _ [10] (by decide +kernel) (by decide +kernel)
set_option maxRecDepth 20000 in
theorem gX6_writeOn_X6_layAt : GoodIn wsX6_writeOn (va_wsS RX6 55 yX6_layAt wsX6_layAt) := goodIn_app (goodIn_of _ (by decide +kernel)) ggX6_writeOn_X6_layAt
set_option maxRecDepth 20000 in
theorem ggX6_writeOn_X6_move : GoodIn wsX6_writeOn wsX6_move := goodIn_r _ [13, 8, 9, 3, 10] (by decide +kernel) (by decide +kernel)
set_option maxRecDepth 20000 in
theorem gX6_writeOn_X6_move : GoodIn wsX6_writeOn (va_wsS RX6 67 yX6_move wsX6_move) := goodIn_app (goodIn_of _ (by decide +kernel)) ggX6_writeOn_X6_move
theorem dX6_writeOn_0 : decode cX6_writeOn 0 = .ok (.aload_n 0, 1) := by decide +kernel
theorem dX6_writeOn_1 : decode cX6_writeOn 1 = .ok (.bipush 13, 2) := by decide +kernel
theorem dX6_writeOn_3 : decode cX6_writeOn 3 = .ok (.iload_n 1, 1) := by decide +kernel
theorem dX6_writeOn_4 : decode cX6_writeOn 4 = .ok (.iadd, 1) := by decide +kernel
theorem dX6_writeOn_5 : decode cX6_writeOn 5 = .ok (.iaload, 1) := by decide +kernel
theorem dX6_writeOn_6 : decode cX6_writeOn 6 = .ok (.istore_n 3, 1) := by decide +kernel
theorem dX6_writeOn_7 : decode cX6_writeOn 7 = .ok (.aload_n 0, 1) := by decide +kernel
theorem dX6_writeOn_8 : decode cX6_writeOn 8 = .ok (.bipush 13, 2) := by decide +kernel
theorem dX6_writeOn_10 : decode cX6_writeOn 10 = .ok (.iload_n 1, 1) := by decide +kernel
theorem dX6_writeOn_11 : decode cX6_writeOn 11 = .ok (.iadd, 1) := by decide +kernel
theorem dX6_writeOn_12 : decode cX6_writeOn 12 = .ok (.iload_n 2, 1) := by decide +kernel
theorem dX6_writeOn_13 : decode cX6_writeOn 13 = .ok (.iastore, 1) := by decide +kernel
theorem dX6_writeOn_14 : decode cX6_writeOn 14 = .ok (.aload_n 0, 1) := by decide +kernel
theorem dX6_writeOn_15 : decode cX6_writeOn 15 = .ok (.aload_n 0, 1) := by decide +kernel
theorem dX6_writeOn_16 : decode cX6_writeOn 16 = .ok (.iload_n 1, 1) := by decide +kernel
theorem dX6_writeOn_17 : decode cX6_writeOn 17 = .ok (.invokestatic 63, 3) := by decide +kernel
theorem dX6_writeOn_20 : decode cX6_writeOn 20 = .ok (.invokestatic 55, 3) := by decide +kernel
theorem dX6_writeOn_23 : decode cX6_writeOn 23 = .ok (.aload_n 0, 1) := by decide +kernel
theorem dX6_writeOn_24 : decode cX6_writeOn 24 = .ok (.iconst 5, 1) := by decide +kernel
theorem dX6_writeOn_25 : decode cX6_writeOn 25 = .ok (.dup2, 1) := by decide +kernel
theorem dX6_writeOn_26 : decode cX6_writeOn 26 = .ok (.iaload, 1) := by decide +kernel
theorem dX6_writeOn_27 : decode cX6_writeOn 27 = .ok (.iconst 1, 1) := by decide +kernel
theorem dX6_writeOn_28 : decode cX6_writeOn 28 = .ok (.iadd, 1) := by decide +kernel
theorem dX6_writeOn_29 : decode cX6_writeOn 29 = .ok (.iastore, 1) := by decide +kernel
theorem dX6_writeOn_30 : decode cX6_writeOn 30 = .ok (.aload_n 0, 1) := by decide +kernel
theorem dX6_writeOn_31 : decode cX6_writeOn 31 = .ok (.bipush 7, 2) := by decide +kernel
theorem dX6_writeOn_33 : decode cX6_writeOn 33 = .ok (.dup2, 1) := by decide +kernel
theorem dX6_writeOn_34 : decode cX6_writeOn 34 = .ok (.iaload, 1) := by decide +kernel
theorem dX6_writeOn_35 : decode cX6_writeOn 35 = .ok (.iconst 1, 1) := by decide +kernel
theorem dX6_writeOn_36 : decode cX6_writeOn 36 = .ok (.iadd, 1) := by decide +kernel
theorem dX6_writeOn_37 : decode cX6_writeOn 37 = .ok (.iastore, 1) := by decide +kernel
theorem dX6_writeOn_38 : decode cX6_writeOn 38 = .ok (.aload_n 0, 1) := by decide +kernel
theorem dX6_writeOn_39 : decode cX6_writeOn 39 = .ok (.bipush 8, 2) := by decide +kernel
theorem dX6_writeOn_41 : decode cX6_writeOn 41 = .ok (.iaload, 1) := by decide +kernel
theorem dX6_writeOn_42 : decode cX6_writeOn 42 = .ok (.ifCond .ne 18, 3) := by decide +kernel
theorem dX6_writeOn_45 : decode cX6_writeOn 45 = .ok (.aload_n 0, 1) := by decide +kernel
theorem dX6_writeOn_46 : decode cX6_writeOn 46 = .ok (.bipush 7, 2) := by decide +kernel
theorem dX6_writeOn_48 : decode cX6_writeOn 48 = .ok (.iaload, 1) := by decide +kernel
theorem dX6_writeOn_49 : decode cX6_writeOn 49 = .ok (.aload_n 0, 1) := by decide +kernel
theorem dX6_writeOn_50 : decode cX6_writeOn 50 = .ok (.bipush 12, 2) := by decide +kernel
theorem dX6_writeOn_52 : decode cX6_writeOn 52 = .ok (.iaload, 1) := by decide +kernel
theorem dX6_writeOn_53 : decode cX6_writeOn 53 = .ok (.if_icmp .lt 7, 3) := by decide +kernel
theorem dX6_writeOn_56 : decode cX6_writeOn 56 = .ok (.aload_n 0, 1) := by decide +kernel
theorem dX6_writeOn_57 : decode cX6_writeOn 57 = .ok (.invokestatic 67, 3) := by decide +kernel
theorem dX6_writeOn_60 : decode cX6_writeOn 60 = .ok (.iload_n 3, 1) := by decide +kernel
theorem dX6_writeOn_61 : decode cX6_writeOn 61 = .ok (.ireturn, 1) := by decide +kernel
set_option maxRecDepth 20000 in
theorem ggX6_hammerOn_X6_writeOn : GoodIn wsX6_hammerOn wsX6_writeOn := goodIn_r _ [4, 5, 6, 3, 7, 8, 9, 10, 11, 12, 13, 14, 15, 16] (by decide +kernel) (by decide +kernel)
set_option maxRecDepth 20000 in
theorem gX6_hammerOn_X6_writeOn : GoodIn wsX6_hammerOn (va_wsS RX6 70 yX6_writeOn wsX6_writeOn) := goodIn_app (goodIn_of _ (by decide +kernel)) ggX6_hammerOn_X6_writeOn
theorem dX6_hammerOn_0 : decode cX6_hammerOn 0 = .ok (.iconst 0, 1) := by decide +kernel
theorem dX6_hammerOn_1 : decode cX6_hammerOn 1 = .ok (.istore_n 3, 1) := by decide +kernel
theorem dX6_hammerOn_2 : decode cX6_hammerOn 2 = .ok (.iload_n 3, 1) := by decide +kernel
theorem dX6_hammerOn_3 : decode cX6_hammerOn 3 = .ok (.iload_n 2, 1) := by decide +kernel
theorem dX6_hammerOn_4 : decode cX6_hammerOn 4 = .ok (.if_icmp .ge 28, 3) := by decide +kernel
theorem dX6_hammerOn_7 : decode cX6_hammerOn 7 = .ok (.aload_n 0, 1) := by decide +kernel
theorem dX6_hammerOn_8 : decode cX6_hammerOn 8 = .ok (.bipush 8, 2) := by decide +kernel
theorem dX6_hammerOn_10 : decode cX6_hammerOn 10 = .ok (.iaload, 1) := by decide +kernel
theorem dX6_hammerOn_11 : decode cX6_hammerOn 11 = .ok (.ifCond .ne 21, 3) := by decide +kernel
theorem dX6_hammerOn_14 : decode cX6_hammerOn 14 = .ok (.aload_n 0, 1) := by decide +kernel
theorem dX6_hammerOn_15 : decode cX6_hammerOn 15 = .ok (.iload_n 1, 1) := by decide +kernel
theorem dX6_hammerOn_16 : decode cX6_hammerOn 16 = .ok (.aload_n 0, 1) := by decide +kernel
theorem dX6_hammerOn_17 : decode cX6_hammerOn 17 = .ok (.bipush 13, 2) := by decide +kernel
theorem dX6_hammerOn_19 : decode cX6_hammerOn 19 = .ok (.iload_n 1, 1) := by decide +kernel
theorem dX6_hammerOn_20 : decode cX6_hammerOn 20 = .ok (.iadd, 1) := by decide +kernel
theorem dX6_hammerOn_21 : decode cX6_hammerOn 21 = .ok (.iaload, 1) := by decide +kernel
theorem dX6_hammerOn_22 : decode cX6_hammerOn 22 = .ok (.invokestatic 70, 3) := by decide +kernel
theorem dX6_hammerOn_25 : decode cX6_hammerOn 25 = .ok (.pop, 1) := by decide +kernel
theorem dX6_hammerOn_26 : decode cX6_hammerOn 26 = .ok (.iinc 3 1, 3) := by decide +kernel
theorem dX6_hammerOn_29 : decode cX6_hammerOn 29 = .ok (.goto (-27), 3) := by decide +kernel
theorem dX6_hammerOn_32 : decode cX6_hammerOn 32 = .ok (.iload_n 3, 1) := by decide +kernel
theorem dX6_hammerOn_33 : decode cX6_hammerOn 33 = .ok (.ireturn, 1) := by decide +kernel
set_option maxRecDepth 20000 in
theorem ggX6_allOn_X6_writeOn : GoodIn wsX6_allOn wsX6_writeOn := goodIn_r _ [4, 5, 6, 3, 7, 8, 9, 10, 11, 12, 13, 14, 15, 16] (by decide +kernel) (by decide +kernel)
set_option maxRecDepth 20000 in
theorem gX6_allOn_X6_writeOn : GoodIn wsX6_allOn (va_wsS RX6 70 yX6_writeOn wsX6_writeOn) := goodIn_app (goodIn_of _ (by decide +kernel)) ggX6_allOn_X6_writeOn
theorem dX6_allOn_0 : decode cX6_allOn 0 = .ok (.iconst 0, 1) := by decide +kernel
theorem dX6_allOn_1 : decode cX6_allOn 1 = .ok (.istore_n 2, 1) := by decide +kernel
theorem dX6_allOn_2 : decode cX6_allOn 2 = .ok (.iload_n 2, 1) := by decide +kernel
theorem dX6_allOn_3 : decode cX6_allOn 3 = .ok (.iload_n 1, 1) := by decide +kernel
theorem dX6_allOn_4 : decode cX6_allOn 4 = .ok (.if_icmp .ge 34, 3) := by decide +kernel
theorem dX6_allOn_7 : decode cX6_allOn 7 = .ok (.aload_n 0, 1) := by decide +kernel
theorem dX6_allOn_8 : decode cX6_allOn 8 = .ok (.bipush 8, 2) := by decide +kernel
theorem dX6_allOn_10 : decode cX6_allOn 10 = .ok (.iaload, 1) := by decide +kernel
theorem dX6_allOn_11 : decode cX6_allOn 11 = .ok (.ifCond .ne 27, 3) := by decide +kernel
theorem dX6_allOn_14 : decode cX6_allOn 14 = .ok (.iload_n 2, 1) := by decide +kernel
theorem dX6_allOn_15 : decode cX6_allOn 15 = .ok (.aload_n 0, 1) := by decide +kernel
theorem dX6_allOn_16 : decode cX6_allOn 16 = .ok (.iconst 0, 1) := by decide +kernel
theorem dX6_allOn_17 : decode cX6_allOn 17 = .ok (.iaload, 1) := by decide +kernel
theorem dX6_allOn_18 : decode cX6_allOn 18 = .ok (.irem, 1) := by decide +kernel
theorem dX6_allOn_19 : decode cX6_allOn 19 = .ok (.istore_n 3, 1) := by decide +kernel
theorem dX6_allOn_20 : decode cX6_allOn 20 = .ok (.aload_n 0, 1) := by decide +kernel
theorem dX6_allOn_21 : decode cX6_allOn 21 = .ok (.iload_n 3, 1) := by decide +kernel
theorem dX6_allOn_22 : decode cX6_allOn 22 = .ok (.aload_n 0, 1) := by decide +kernel
theorem dX6_allOn_23 : decode cX6_allOn 23 = .ok (.bipush 13, 2) := by decide +kernel
theorem dX6_allOn_25 : decode cX6_allOn 25 = .ok (.iload_n 3, 1) := by decide +kernel
theorem dX6_allOn_26 : decode cX6_allOn 26 = .ok (.iadd, 1) := by decide +kernel
theorem dX6_allOn_27 : decode cX6_allOn 27 = .ok (.iaload, 1) := by decide +kernel
theorem dX6_allOn_28 : decode cX6_allOn 28 = .ok (.invokestatic 70, 3) := by decide +kernel
theorem dX6_allOn_31 : decode cX6_allOn 31 = .ok (.pop, 1) := by decide +kernel
theorem dX6_allOn_32 : decode cX6_allOn 32 = .ok (.iinc 2 1, 3) := by decide +kernel
theorem dX6_allOn_35 : decode cX6_allOn 35 = .ok (.goto (-33), 3) := by decide +kernel
theorem dX6_allOn_38 : decode cX6_allOn 38 = .ok (.iload_n 2, 1) := by decide +kernel
theorem dX6_allOn_39 : decode cX6_allOn 39 = .ok (.ireturn, 1) := by decide +kernel
set_option maxRecDepth 20000 in
theorem ggX6_makeOn_X6_placeOf : GoodIn wsX6_makeOn wsX6_placeOf := goodIn_r _ [4, 5, 6, 3, 7] (by decide +kernel) (by decide +kernel)
set_option maxRecDepth 20000 in
theorem gX6_makeOn_X6_placeOf : GoodIn wsX6_makeOn (va_wsS RX6 63 yX6_placeOf wsX6_placeOf) := goodIn_app (goodIn_of _ (by decide +kernel)) ggX6_makeOn_X6_placeOf
theorem dX6_makeOn_0 : decode cX6_makeOn 0 = .ok (.iconst 0, 1) := by decide +kernel
theorem dX6_makeOn_1 : decode cX6_makeOn 1 = .ok (.istore 4, 2) := by decide +kernel
theorem dX6_makeOn_3 : decode cX6_makeOn 3 = .ok (.iload 4, 2) := by decide +kernel
theorem dX6_makeOn_5 : decode cX6_makeOn 5 = .ok (.bipush 78, 2) := by decide +kernel
theorem dX6_makeOn_7 : decode cX6_makeOn 7 = .ok (.if_icmp .ge 35, 3) := by decide +kernel
theorem dX6_makeOn_10 : decode cX6_makeOn 10 = .ok (.aload_n 0, 1) := by decide +kernel
theorem dX6_makeOn_11 : decode cX6_makeOn 11 = .ok (.iload 4, 2) := by decide +kernel
theorem dX6_makeOn_13 : decode cX6_makeOn 13 = .ok (.iload 4, 2) := by decide +kernel
theorem dX6_makeOn_15 : decode cX6_makeOn 15 = .ok (.bipush 11, 2) := by decide +kernel
theorem dX6_makeOn_17 : decode cX6_makeOn 17 = .ok (.if_icmp .eq 10, 3) := by decide +kernel
theorem dX6_makeOn_20 : decode cX6_makeOn 20 = .ok (.iload 4, 2) := by decide +kernel
theorem dX6_makeOn_22 : decode cX6_makeOn 22 = .ok (.bipush 12, 2) := by decide +kernel
theorem dX6_makeOn_24 : decode cX6_makeOn 24 = .ok (.if_icmp .ne 10, 3) := by decide +kernel
theorem dX6_makeOn_27 : decode cX6_makeOn 27 = .ok (.aload_n 0, 1) := by decide +kernel
theorem dX6_makeOn_28 : decode cX6_makeOn 28 = .ok (.iload 4, 2) := by decide +kernel
theorem dX6_makeOn_30 : decode cX6_makeOn 30 = .ok (.iaload, 1) := by decide +kernel
theorem dX6_makeOn_31 : decode cX6_makeOn 31 = .ok (.goto 4, 3) := by decide +kernel
theorem dX6_makeOn_34 : decode cX6_makeOn 34 = .ok (.iconst 0, 1) := by decide +kernel
theorem dX6_makeOn_35 : decode cX6_makeOn 35 = .ok (.iastore, 1) := by decide +kernel
theorem dX6_makeOn_36 : decode cX6_makeOn 36 = .ok (.iinc 4 1, 3) := by decide +kernel
theorem dX6_makeOn_39 : decode cX6_makeOn 39 = .ok (.goto (-36), 3) := by decide +kernel
theorem dX6_makeOn_42 : decode cX6_makeOn 42 = .ok (.aload_n 0, 1) := by decide +kernel
theorem dX6_makeOn_43 : decode cX6_makeOn 43 = .ok (.iconst 0, 1) := by decide +kernel
theorem dX6_makeOn_44 : decode cX6_makeOn 44 = .ok (.iload_n 1, 1) := by decide +kernel
theorem dX6_makeOn_45 : decode cX6_makeOn 45 = .ok (.iastore, 1) := by decide +kernel
theorem dX6_makeOn_46 : decode cX6_makeOn 46 = .ok (.aload_n 0, 1) := by decide +kernel
theorem dX6_makeOn_47 : decode cX6_makeOn 47 = .ok (.iconst 1, 1) := by decide +kernel
theorem dX6_makeOn_48 : decode cX6_makeOn 48 = .ok (.iload_n 2, 1) := by decide +kernel
theorem dX6_makeOn_49 : decode cX6_makeOn 49 = .ok (.iastore, 1) := by decide +kernel
theorem dX6_makeOn_50 : decode cX6_makeOn 50 = .ok (.aload_n 0, 1) := by decide +kernel
theorem dX6_makeOn_51 : decode cX6_makeOn 51 = .ok (.iconst 3, 1) := by decide +kernel
theorem dX6_makeOn_52 : decode cX6_makeOn 52 = .ok (.iload_n 1, 1) := by decide +kernel
theorem dX6_makeOn_53 : decode cX6_makeOn 53 = .ok (.iastore, 1) := by decide +kernel
theorem dX6_makeOn_54 : decode cX6_makeOn 54 = .ok (.aload_n 0, 1) := by decide +kernel
theorem dX6_makeOn_55 : decode cX6_makeOn 55 = .ok (.iconst 4, 1) := by decide +kernel
theorem dX6_makeOn_56 : decode cX6_makeOn 56 = .ok (.iload_n 3, 1) := by decide +kernel
theorem dX6_makeOn_57 : decode cX6_makeOn 57 = .ok (.iastore, 1) := by decide +kernel
theorem dX6_makeOn_58 : decode cX6_makeOn 58 = .ok (.aload_n 0, 1) := by decide +kernel
theorem dX6_makeOn_59 : decode cX6_makeOn 59 = .ok (.iconst 1, 1) := by decide +kernel
theorem dX6_makeOn_60 : decode cX6_makeOn 60 = .ok (.invokestatic 63, 3) := by decide +kernel
theorem dX6_makeOn_63 : decode cX6_makeOn 63 = .ok (.ireturn, 1) := by decide +kernel
set_option maxRecDepth 20000 in
theorem ggX6_isSetting_X6_in : GoodIn wsX6_isSetting wsX6_in := goodIn_r _ [7] (by decide +kernel) (by decide +kernel)
set_option maxRecDepth 20000 in
theorem gX6_isSetting_X6_in : GoodIn wsX6_isSetting (va_wsS RX6 37 yX6_in wsX6_in) := goodIn_app (goodIn_of _ (by decide +kernel)) ggX6_isSetting_X6_in
theorem dX6_isSetting_0 : decode cX6_isSetting 0 = .ok (.iload_n 0, 1) := by decide +kernel
theorem dX6_isSetting_1 : decode cX6_isSetting 1 = .ok (.ifCond .ne 17, 3) := by decide +kernel
theorem dX6_isSetting_4 : decode cX6_isSetting 4 = .ok (.iload_n 1, 1) := by decide +kernel
theorem dX6_isSetting_5 : decode cX6_isSetting 5 = .ok (.i2l, 1) := by decide +kernel
theorem dX6_isSetting_6 : decode cX6_isSetting 6 = .ok (.ldc2_w 74, 3) := by decide +kernel
theorem dX6_isSetting_9 : decode cX6_isSetting 9 = .ok (.ldc2_w 41, 3) := by decide +kernel
theorem dX6_isSetting_12 : decode cX6_isSetting 12 = .ok (.invokestatic 37, 3) := by decide +kernel
theorem dX6_isSetting_15 : decode cX6_isSetting 15 = .ok (.ifCond .ne 20, 3) := by decide +kernel
theorem dX6_isSetting_18 : decode cX6_isSetting 18 = .ok (.iload_n 0, 1) := by decide +kernel
theorem dX6_isSetting_19 : decode cX6_isSetting 19 = .ok (.iconst 1, 1) := by decide +kernel
theorem dX6_isSetting_20 : decode cX6_isSetting 20 = .ok (.if_icmp .ne 19, 3) := by decide +kernel
theorem dX6_isSetting_23 : decode cX6_isSetting 23 = .ok (.iload_n 1, 1) := by decide +kernel
theorem dX6_isSetting_24 : decode cX6_isSetting 24 = .ok (.i2l, 1) := by decide +kernel
theorem dX6_isSetting_25 : decode cX6_isSetting 25 = .ok (.lconst 1, 1) := by decide +kernel
theorem dX6_isSetting_26 : decode cX6_isSetting 26 = .ok (.ldc2_w 76, 3) := by decide +kernel
theorem dX6_isSetting_29 : decode cX6_isSetting 29 = .ok (.invokestatic 37, 3) := by decide +kernel
theorem dX6_isSetting_32 : decode cX6_isSetting 32 = .ok (.ifCond .eq 7, 3) := by decide +kernel
theorem dX6_isSetting_35 : decode cX6_isSetting 35 = .ok (.iconst 1, 1) := by decide +kernel
theorem dX6_isSetting_36 : decode cX6_isSetting 36 = .ok (.goto 4, 3) := by decide +kernel
theorem dX6_isSetting_39 : decode cX6_isSetting 39 = .ok (.iconst 0, 1) := by decide +kernel
theorem dX6_isSetting_40 : decode cX6_isSetting 40 = .ok (.ireturn, 1) := by decide +kernel
set_option maxRecDepth 20000 in
theorem ggX6_append_X6_in : GoodIn wsX6_append wsX6_in := goodIn_r _ [7] (by decide +kernel) (by decide +kernel)
set_option maxRecDepth 20000 in
theorem gX6_append_X6_in : GoodIn wsX6_append (va_wsS RX6 37 yX6_in wsX6_in) := goodIn_app (goodIn_of _ (by decide +kernel)) ggX6_append_X6_in
set_option maxRecDepth 20000 in
theorem ggX6_append_X6_refused : GoodIn wsX6_append wsX6_refused := goodIn_r _ [11, 12, 13, 14, 15, 16, 17, 18, 19, 20, 21, 22, 23] (by decide +kernel) (by decide +kernel)
set_option maxRecDepth 20000 in
theorem gX6_append_X6_refused : GoodIn wsX6_append (wsV RX6 83 RX6 yX6_refused wsX6_refused) := goodIn_app (goodIn_of _ (by decide +kernel)) ggX6_append_X6_refused
theorem dX6_append_0 : decode cX6_append 0 = .ok (.aload_n 0, 1) := by decide +kernel
theorem dX6_append_1 : decode cX6_append 1 = .ok (.iload_n 1, 1) := by decide +kernel
theorem dX6_append_2 : decode cX6_append 2 = .ok (.i2l, 1) := by decide +kernel
theorem dX6_append_3 : decode cX6_append 3 = .ok (.lconst 0, 1) := by decide +kernel
theorem dX6_append_4 : decode cX6_append 4 = .ok (.ldc2_w 78, 3) := by decide +kernel
theorem dX6_append_7 : decode cX6_append 7 = .ok (.invokestatic 37, 3) := by decide +kernel
theorem dX6_append_10 : decode cX6_append 10 = .ok (.ifCond .ne 7, 3) := by decide +kernel
theorem dX6_append_13 : decode cX6_append 13 = .ok (.iconst 1, 1) := by decide +kernel
theorem dX6_append_14 : decode cX6_append 14 = .ok (.goto 17, 3) := by decide +kernel
theorem dX6_append_17 : decode cX6_append 17 = .ok (.aload_n 0, 1) := by decide +kernel
theorem dX6_append_18 : decode cX6_append 18 = .ok (.getfield 80, 3) := by decide +kernel
theorem dX6_append_21 : decode cX6_append 21 = .ok (.bipush 120, 2) := by decide +kernel
theorem dX6_append_23 : decode cX6_append 23 = .ok (.if_icmp .ne 7, 3) := by decide +kernel
theorem dX6_append_26 : decode cX6_append 26 = .ok (.iconst 2, 1) := by decide +kernel
theorem dX6_append_27 : decode cX6_append 27 = .ok (.goto 4, 3) := by decide +kernel
theorem dX6_append_30 : decode cX6_append 30 = .ok (.iconst 0, 1) := by decide +kernel
theorem dX6_append_31 : decode cX6_append 31 = .ok (.invokevirtual 83, 3) := by decide +kernel
theorem dX6_append_34 : decode cX6_append 34 = .ok (.ifCond .eq 5, 3) := by decide +kernel
theorem dX6_append_37 : decode cX6_append 37 = .ok (.iconst 0, 1) := by decide +kernel
theorem dX6_append_38 : decode cX6_append 38 = .ok (.ireturn, 1) := by decide +kernel
theorem dX6_append_39 : decode cX6_append 39 = .ok (.aload_n 0, 1) := by decide +kernel
theorem dX6_append_40 : decode cX6_append 40 = .ok (.getfield 7, 3) := by decide +kernel
theorem dX6_append_43 : decode cX6_append 43 = .ok (.aload_n 0, 1) := by decide +kernel
theorem dX6_append_44 : decode cX6_append 44 = .ok (.getfield 80, 3) := by decide +kernel
theorem dX6_append_47 : decode cX6_append 47 = .ok (.iload_n 1, 1) := by decide +kernel
theorem dX6_append_48 : decode cX6_append 48 = .ok (.iastore, 1) := by decide +kernel
theorem dX6_append_49 : decode cX6_append 49 = .ok (.aload_n 0, 1) := by decide +kernel
theorem dX6_append_50 : decode cX6_append 50 = .ok (.dup, 1) := by decide +kernel
theorem dX6_append_51 : decode cX6_append 51 = .ok (.getfield 80, 3) := by decide +kernel
theorem dX6_append_54 : decode cX6_append 54 = .ok (.iconst 1, 1) := by decide +kernel
theorem dX6_append_55 : decode cX6_append 55 = .ok (.iadd, 1) := by decide +kernel
theorem dX6_append_56 : decode cX6_append 56 = .ok (.putfield 80, 3) := by decide +kernel
theorem dX6_append_59 : decode cX6_append 59 = .ok (.aload_n 0, 1) := by decide +kernel
theorem dX6_append_60 : decode cX6_append 60 = .ok (.getfield 80, 3) := by decide +kernel
theorem dX6_append_63 : decode cX6_append 63 = .ok (.ireturn, 1) := by decide +kernel
theorem dX6_clearText_0 : decode cX6_clearText 0 = .ok (.aload_n 0, 1) := by decide +kernel
theorem dX6_clearText_1 : decode cX6_clearText 1 = .ok (.iconst 0, 1) := by decide +kernel
theorem dX6_clearText_2 : decode cX6_clearText 2 = .ok (.putfield 33, 3) := by decide +kernel
theorem dX6_clearText_5 : decode cX6_clearText 5 = .ok (.aload_n 0, 1) := by decide +kernel
theorem dX6_clearText_6 : decode cX6_clearText 6 = .ok (.getfield 80, 3) := by decide +kernel
theorem dX6_clearText_9 : decode cX6_clearText 9 = .ok (.istore_n 1, 1) := by decide +kernel
theorem dX6_clearText_10 : decode cX6_clearText 10 = .ok (.aload_n 0, 1) := by decide +kernel
theorem dX6_clearText_11 : decode cX6_clearText 11 = .ok (.iconst 0, 1) := by decide +kernel
theorem dX6_clearText_12 : decode cX6_clearText 12 = .ok (.putfield 80, 3) := by decide +kernel
theorem dX6_clearText_15 : decode cX6_clearText 15 = .ok (.iload_n 1, 1) := by decide +kernel
theorem dX6_clearText_16 : decode cX6_clearText 16 = .ok (.ireturn, 1) := by decide +kernel
set_option maxRecDepth 20000 in
theorem ggX6_figures_X6_in : GoodIn wsX6_figures wsX6_in := goodIn_r _ [8] (by decide +kernel) (by decide +kernel)
set_option maxRecDepth 20000 in
theorem gX6_figures_X6_in : GoodIn wsX6_figures (va_wsS RX6 37 yX6_in wsX6_in) := goodIn_app (goodIn_of _ (by decide +kernel)) ggX6_figures_X6_in
theorem dX6_figures_0 : decode cX6_figures 0 = .ok (.iconst 0, 1) := by decide +kernel
theorem dX6_figures_1 : decode cX6_figures 1 = .ok (.istore 5, 2) := by decide +kernel
theorem dX6_figures_3 : decode cX6_figures 3 = .ok (.iload_n 2, 1) := by decide +kernel
theorem dX6_figures_4 : decode cX6_figures 4 = .ok (.iconst 3, 1) := by decide +kernel
theorem dX6_figures_5 : decode cX6_figures 5 = .ok (.if_icmp .ne 8, 3) := by decide +kernel
theorem dX6_figures_8 : decode cX6_figures 8 = .ok (.bipush 100, 2) := by decide +kernel
theorem dX6_figures_10 : decode cX6_figures 10 = .ok (.goto 14, 3) := by decide +kernel
theorem dX6_figures_13 : decode cX6_figures 13 = .ok (.iload_n 2, 1) := by decide +kernel
theorem dX6_figures_14 : decode cX6_figures 14 = .ok (.iconst 2, 1) := by decide +kernel
theorem dX6_figures_15 : decode cX6_figures 15 = .ok (.if_icmp .ne 8, 3) := by decide +kernel
theorem dX6_figures_18 : decode cX6_figures 18 = .ok (.bipush 10, 2) := by decide +kernel
theorem dX6_figures_20 : decode cX6_figures 20 = .ok (.goto 4, 3) := by decide +kernel
theorem dX6_figures_23 : decode cX6_figures 23 = .ok (.iconst 1, 1) := by decide +kernel
theorem dX6_figures_24 : decode cX6_figures 24 = .ok (.istore 6, 2) := by decide +kernel
theorem dX6_figures_26 : decode cX6_figures 26 = .ok (.iload 6, 2) := by decide +kernel
theorem dX6_figures_28 : decode cX6_figures 28 = .ok (.ifCond .le 104, 3) := by decide +kernel
theorem dX6_figures_31 : decode cX6_figures 31 = .ok (.iload_n 1, 1) := by decide +kernel
theorem dX6_figures_32 : decode cX6_figures 32 = .ok (.iconst (-1), 1) := by decide +kernel
theorem dX6_figures_33 : decode cX6_figures 33 = .ok (.if_icmp .eq 99, 3) := by decide +kernel
theorem dX6_figures_36 : decode cX6_figures 36 = .ok (.aload_n 0, 1) := by decide +kernel
theorem dX6_figures_37 : decode cX6_figures 37 = .ok (.getfield 87, 3) := by decide +kernel
theorem dX6_figures_40 : decode cX6_figures 40 = .ok (.aload_n 0, 1) := by decide +kernel
theorem dX6_figures_41 : decode cX6_figures 41 = .ok (.getfield 80, 3) := by decide +kernel
theorem dX6_figures_44 : decode cX6_figures 44 = .ok (.if_icmp .ge 18, 3) := by decide +kernel
theorem dX6_figures_47 : decode cX6_figures 47 = .ok (.aload_n 0, 1) := by decide +kernel
theorem dX6_figures_48 : decode cX6_figures 48 = .ok (.getfield 7, 3) := by decide +kernel
theorem dX6_figures_51 : decode cX6_figures 51 = .ok (.aload_n 0, 1) := by decide +kernel
theorem dX6_figures_52 : decode cX6_figures 52 = .ok (.getfield 87, 3) := by decide +kernel
theorem dX6_figures_55 : decode cX6_figures 55 = .ok (.iaload, 1) := by decide +kernel
theorem dX6_figures_56 : decode cX6_figures 56 = .ok (.bipush 48, 2) := by decide +kernel
theorem dX6_figures_58 : decode cX6_figures 58 = .ok (.isub, 1) := by decide +kernel
theorem dX6_figures_59 : decode cX6_figures 59 = .ok (.goto 4, 3) := by decide +kernel
theorem dX6_figures_62 : decode cX6_figures 62 = .ok (.iconst (-1), 1) := by decide +kernel
theorem dX6_figures_63 : decode cX6_figures 63 = .ok (.istore 7, 2) := by decide +kernel
theorem dX6_figures_65 : decode cX6_figures 65 = .ok (.iload 5, 2) := by decide +kernel
theorem dX6_figures_67 : decode cX6_figures 67 = .ok (.iload 7, 2) := by decide +kernel
theorem dX6_figures_69 : decode cX6_figures 69 = .ok (.iload 6, 2) := by decide +kernel
theorem dX6_figures_71 : decode cX6_figures 71 = .ok (.imul, 1) := by decide +kernel
theorem dX6_figures_72 : decode cX6_figures 72 = .ok (.iadd, 1) := by decide +kernel
theorem dX6_figures_73 : decode cX6_figures 73 = .ok (.istore 8, 2) := by decide +kernel
theorem dX6_figures_75 : decode cX6_figures 75 = .ok (.iload 7, 2) := by decide +kernel
theorem dX6_figures_77 : decode cX6_figures 77 = .ok (.i2l, 1) := by decide +kernel
theorem dX6_figures_78 : decode cX6_figures 78 = .ok (.lconst 0, 1) := by decide +kernel
theorem dX6_figures_79 : decode cX6_figures 79 = .ok (.ldc2_w 90, 3) := by decide +kernel
theorem dX6_figures_82 : decode cX6_figures 82 = .ok (.invokestatic 37, 3) := by decide +kernel
theorem dX6_figures_85 : decode cX6_figures 85 = .ok (.ifCond .eq 21, 3) := by decide +kernel
theorem dX6_figures_88 : decode cX6_figures 88 = .ok (.iload 8, 2) := by decide +kernel
theorem dX6_figures_90 : decode cX6_figures 90 = .ok (.iload 4, 2) := by decide +kernel
theorem dX6_figures_92 : decode cX6_figures 92 = .ok (.if_icmp .gt 14, 3) := by decide +kernel
theorem dX6_figures_95 : decode cX6_figures 95 = .ok (.iload 8, 2) := by decide +kernel
theorem dX6_figures_97 : decode cX6_figures 97 = .ok (.iload 6, 2) := by decide +kernel
theorem dX6_figures_99 : decode cX6_figures 99 = .ok (.iadd, 1) := by decide +kernel
theorem dX6_figures_100 : decode cX6_figures 100 = .ok (.iconst 1, 1) := by decide +kernel
theorem dX6_figures_101 : decode cX6_figures 101 = .ok (.isub, 1) := by decide +kernel
theorem dX6_figures_102 : decode cX6_figures 102 = .ok (.iload_n 3, 1) := by decide +kernel
theorem dX6_figures_103 : decode cX6_figures 103 = .ok (.if_icmp .ge 5, 3) := by decide +kernel
theorem dX6_figures_106 : decode cX6_figures 106 = .ok (.iconst (-1), 1) := by decide +kernel
theorem dX6_figures_107 : decode cX6_figures 107 = .ok (.ireturn, 1) := by decide +kernel
theorem dX6_figures_108 : decode cX6_figures 108 = .ok (.iload 8, 2) := by decide +kernel
theorem dX6_figures_110 : decode cX6_figures 110 = .ok (.istore 5, 2) := by decide +kernel
theorem dX6_figures_112 : decode cX6_figures 112 = .ok (.aload_n 0, 1) := by decide +kernel
theorem dX6_figures_113 : decode cX6_figures 113 = .ok (.dup, 1) := by decide +kernel
theorem dX6_figures_114 : decode cX6_figures 114 = .ok (.getfield 87, 3) := by decide +kernel
theorem dX6_figures_117 : decode cX6_figures 117 = .ok (.iconst 1, 1) := by decide +kernel
theorem dX6_figures_118 : decode cX6_figures 118 = .ok (.iadd, 1) := by decide +kernel
theorem dX6_figures_119 : decode cX6_figures 119 = .ok (.putfield 87, 3) := by decide +kernel
theorem dX6_figures_122 : decode cX6_figures 122 = .ok (.iload 6, 2) := by decide +kernel
theorem dX6_figures_124 : decode cX6_figures 124 = .ok (.bipush 10, 2) := by decide +kernel
theorem dX6_figures_126 : decode cX6_figures 126 = .ok (.idiv, 1) := by decide +kernel
theorem dX6_figures_127 : decode cX6_figures 127 = .ok (.istore 6, 2) := by decide +kernel
theorem dX6_figures_129 : decode cX6_figures 129 = .ok (.goto (-103), 3) := by decide +kernel
theorem dX6_figures_132 : decode cX6_figures 132 = .ok (.iload_n 1, 1) := by decide +kernel
theorem dX6_figures_133 : decode cX6_figures 133 = .ok (.iconst (-1), 1) := by decide +kernel
theorem dX6_figures_134 : decode cX6_figures 134 = .ok (.if_icmp .ne 7, 3) := by decide +kernel
theorem dX6_figures_137 : decode cX6_figures 137 = .ok (.iconst (-1), 1) := by decide +kernel
theorem dX6_figures_138 : decode cX6_figures 138 = .ok (.goto 5, 3) := by decide +kernel
theorem dX6_figures_141 : decode cX6_figures 141 = .ok (.iload 5, 2) := by decide +kernel
theorem dX6_figures_143 : decode cX6_figures 143 = .ok (.ireturn, 1) := by decide +kernel
theorem dX6_done_0 : decode cX6_done 0 = .ok (.aload_n 0, 1) := by decide +kernel
theorem dX6_done_1 : decode cX6_done 1 = .ok (.dup, 1) := by decide +kernel
theorem dX6_done_2 : decode cX6_done 2 = .ok (.getfield 92, 3) := by decide +kernel
theorem dX6_done_5 : decode cX6_done 5 = .ok (.iload_n 1, 1) := by decide +kernel
theorem dX6_done_6 : decode cX6_done 6 = .ok (.ifCond .eq 7, 3) := by decide +kernel
theorem dX6_done_9 : decode cX6_done 9 = .ok (.iconst 0, 1) := by decide +kernel
theorem dX6_done_10 : decode cX6_done 10 = .ok (.goto 4, 3) := by decide +kernel
theorem dX6_done_13 : decode cX6_done 13 = .ok (.iconst 1, 1) := by decide +kernel
theorem dX6_done_14 : decode cX6_done 14 = .ok (.iadd, 1) := by decide +kernel
theorem dX6_done_15 : decode cX6_done 15 = .ok (.putfield 92, 3) := by decide +kernel
theorem dX6_done_18 : decode cX6_done 18 = .ok (.iconst 1, 1) := by decide +kernel
theorem dX6_done_19 : decode cX6_done 19 = .ok (.ireturn, 1) := by decide +kernel
set_option maxRecDepth 20000 in
theorem ggX6_readCommand_X6_figures : GoodIn wsX6_readCommand wsX6_figures := goodIn_r _ [7, 2, 8, 1, 9, 10, 11, 6, 12, 45, 46, 47, 48, 49, 50, 51, 52, 53, 54, 55] (by decide +kernel) (by decide +kernel)
set_option maxRecDepth 20000 in
theorem gX6_readCommand_X6_figures : GoodIn wsX6_readCommand (wsV RX6 95 RX6 yX6_figures wsX6_figures) := goodIn_app (goodIn_of _ (by decide +kernel)) ggX6_readCommand_X6_figures
set_option maxRecDepth 20000 in
theorem ggX6_readCommand_X6_canWrite : GoodIn wsX6_readCommand wsX6_canWrite := goodIn_r _ [15, 16, 17, 6, 18, 10, 11, 12] (by decide +kernel) (by decide +kernel)
set_option maxRecDepth 20000 in
theorem gX6_readCommand_X6_canWrite : GoodIn wsX6_readCommand (va_wsS RX6 99 yX6_canWrite wsX6_canWrite) := goodIn_app (goodIn_of _ (by decide +kernel)) ggX6_readCommand_X6_canWrite
set_option maxRecDepth 20000 in
theorem ggX6_readCommand_X6_writeOn : GoodIn wsX6_readCommand wsX6_writeOn := goodIn_r _ [21, 22, 23, 6, 24, 25, 26, 27, 28, 29, 30, 31, 32, 33] (by decide +kernel) (by decide +kernel)
set_option maxRecDepth 20000 in
theorem gX6_readCommand_X6_writeOn : GoodIn wsX6_readCommand (va_wsS RX6 70 yX6_writeOn wsX6_writeOn) := goodIn_app (goodIn_of _ (by decide +kernel)) ggX6_readCommand_X6_writeOn
set_option maxRecDepth 20000 in
theorem ggX6_readCommand_X6_done : GoodIn wsX6_readCommand wsX6_done := goodIn_r _ [37, 38, 45, 46, 47, 48, 49, 50, 51, 52, 53, 54, 55] (by decide +kernel) (by decide +kernel)
set_option maxRecDepth 20000 in
theorem gX6_readCommand_X6_done : GoodIn wsX6_readCommand (wsV RX6 102 RX6 yX6_done wsX6_done) := goodIn_app (goodIn_of _ (by decide +kernel)) ggX6_readCommand_X6_done
set_option maxRecDepth 20000 in
theorem ggX6_readCommand_X6_isLine : GoodIn wsX6_readCommand wsX6_isLine := goodIn_r _ [18, 10, 11, 6, 12] (by decide +kernel) (by decide +kernel)
set_option maxRecDepth 20000 in
theorem gX6_readCommand_X6_isLine : GoodIn wsX6_readCommand (va_wsS RX6 59 yX6_isLine wsX6_isLine) := goodIn_app (goodIn_of _ (by decide +kernel)) ggX6_readCommand_X6_isLine
set_option maxRecDepth 20000 in
theorem ggX6_readCommand_X6_hammerOn : GoodIn wsX6_readCommand wsX6_hammerOn := goodIn_r _ [41, 19, 20, 6, 21, 22, 23, 24, 25, 26, 27, 28, 29, 30, 31, 32, 33] (by decide +kernel) (by decide +kernel)
set_option maxRecDepth 20000 in
theorem gX6_readCommand_X6_hammerOn : GoodIn wsX6_readCommand (va_wsS RX6 106 yX6_hammerOn wsX6_hammerOn) := goodIn_app (goodIn_of _ (by decide +kernel)) ggX6_readCommand_X6_hammerOn
set_option maxRecDepth 20000 in
theorem ggX6_readCommand_X6_allOn : GoodIn wsX6_readCommand wsX6_allOn := goodIn_r _ [44, 19, 20, 6, 21, 22, 23, 24, 25, 26, 27, 28, 29, 30, 31, 32, 33] (by decide +kernel) (by decide +kernel)
set_option maxRecDepth 20000 in
theorem gX6_readCommand_X6_allOn : GoodIn wsX6_readCommand (va_wsS RX6 109 yX6_allOn wsX6_allOn) := goodIn_app (goodIn_of _ (by decide +kernel)) ggX6_readCommand_X6_allOn
theorem dX6_readCommand_0 : decode cX6_readCommand 0 = .ok (.aload_n 0, 1) := by decide +kernel
theorem dX6_readCommand_1 : decode cX6_readCommand 1 = .ok (.getfield 7, 3) := by decide +kernel
theorem dX6_readCommand_4 : decode cX6_readCommand 4 = .ok (.aload_n 0, 1) := by decide +kernel
theorem dX6_readCommand_5 : decode cX6_readCommand 5 = .ok (.getfield 87, 3) := by decide +kernel
theorem dX6_readCommand_8 : decode cX6_readCommand 8 = .ok (.iaload, 1) := by decide +kernel
theorem dX6_readCommand_9 : decode cX6_readCommand 9 = .ok (.istore_n 2, 1) := by decide +kernel
theorem dX6_readCommand_10 : decode cX6_readCommand 10 = .ok (.aload_n 0, 1) := by decide +kernel
theorem dX6_readCommand_11 : decode cX6_readCommand 11 = .ok (.dup, 1) := by decide +kernel
theorem dX6_readCommand_12 : decode cX6_readCommand 12 = .ok (.getfield 87, 3) := by decide +kernel
theorem dX6_readCommand_15 : decode cX6_readCommand 15 = .ok (.iconst 1, 1) := by decide +kernel
theorem dX6_readCommand_16 : decode cX6_readCommand 16 = .ok (.iadd, 1) := by decide +kernel
theorem dX6_readCommand_17 : decode cX6_readCommand 17 = .ok (.putfield 87, 3) := by decide +kernel
theorem dX6_readCommand_20 : decode cX6_readCommand 20 = .ok (.iload_n 2, 1) := by decide +kernel
theorem dX6_readCommand_21 : decode cX6_readCommand 21 = .ok (.lookupswitch 213 #[(97, 162), (104, 99), (119, 35)], 35) := by decide +kernel
theorem dX6_readCommand_56 : decode cX6_readCommand 56 = .ok (.aload_n 0, 1) := by decide +kernel
theorem dX6_readCommand_57 : decode cX6_readCommand 57 = .ok (.iconst 0, 1) := by decide +kernel
theorem dX6_readCommand_58 : decode cX6_readCommand 58 = .ok (.iconst 2, 1) := by decide +kernel
theorem dX6_readCommand_59 : decode cX6_readCommand 59 = .ok (.iconst 0, 1) := by decide +kernel
theorem dX6_readCommand_60 : decode cX6_readCommand 60 = .ok (.bipush 31, 2) := by decide +kernel
theorem dX6_readCommand_62 : decode cX6_readCommand 62 = .ok (.invokevirtual 95, 3) := by decide +kernel
theorem dX6_readCommand_65 : decode cX6_readCommand 65 = .ok (.istore_n 3, 1) := by decide +kernel
theorem dX6_readCommand_66 : decode cX6_readCommand 66 = .ok (.aload_n 0, 1) := by decide +kernel
theorem dX6_readCommand_67 : decode cX6_readCommand 67 = .ok (.iload_n 3, 1) := by decide +kernel
theorem dX6_readCommand_68 : decode cX6_readCommand 68 = .ok (.iconst 3, 1) := by decide +kernel
theorem dX6_readCommand_69 : decode cX6_readCommand 69 = .ok (.iconst 0, 1) := by decide +kernel
theorem dX6_readCommand_70 : decode cX6_readCommand 70 = .ok (.sipush 999, 3) := by decide +kernel
theorem dX6_readCommand_73 : decode cX6_readCommand 73 = .ok (.invokevirtual 95, 3) := by decide +kernel
theorem dX6_readCommand_76 : decode cX6_readCommand 76 = .ok (.istore 4, 2) := by decide +kernel
theorem dX6_readCommand_78 : decode cX6_readCommand 78 = .ok (.iload 4, 2) := by decide +kernel
theorem dX6_readCommand_80 : decode cX6_readCommand 80 = .ok (.iconst (-1), 1) := by decide +kernel
theorem dX6_readCommand_81 : decode cX6_readCommand 81 = .ok (.if_icmp .eq 37, 3) := by decide +kernel
theorem dX6_readCommand_84 : decode cX6_readCommand 84 = .ok (.aload_n 0, 1) := by decide +kernel
theorem dX6_readCommand_85 : decode cX6_readCommand 85 = .ok (.aload_n 1, 1) := by decide +kernel
theorem dX6_readCommand_86 : decode cX6_readCommand 86 = .ok (.iload_n 3, 1) := by decide +kernel
theorem dX6_readCommand_87 : decode cX6_readCommand 87 = .ok (.invokestatic 99, 3) := by decide +kernel
theorem dX6_readCommand_90 : decode cX6_readCommand 90 = .ok (.ifCond .eq 17, 3) := by decide +kernel
theorem dX6_readCommand_93 : decode cX6_readCommand 93 = .ok (.aload_n 1, 1) := by decide +kernel
theorem dX6_readCommand_94 : decode cX6_readCommand 94 = .ok (.iload_n 3, 1) := by decide +kernel
theorem dX6_readCommand_95 : decode cX6_readCommand 95 = .ok (.iload 4, 2) := by decide +kernel
theorem dX6_readCommand_97 : decode cX6_readCommand 97 = .ok (.invokestatic 70, 3) := by decide +kernel
theorem dX6_readCommand_100 : decode cX6_readCommand 100 = .ok (.ifCond .lt 7, 3) := by decide +kernel
theorem dX6_readCommand_103 : decode cX6_readCommand 103 = .ok (.iconst 1, 1) := by decide +kernel
theorem dX6_readCommand_104 : decode cX6_readCommand 104 = .ok (.goto 4, 3) := by decide +kernel
theorem dX6_readCommand_107 : decode cX6_readCommand 107 = .ok (.iconst 0, 1) := by decide +kernel
theorem dX6_readCommand_108 : decode cX6_readCommand 108 = .ok (.invokevirtual 102, 3) := by decide +kernel
theorem dX6_readCommand_111 : decode cX6_readCommand 111 = .ok (.ifCond .eq 7, 3) := by decide +kernel
theorem dX6_readCommand_114 : decode cX6_readCommand 114 = .ok (.iconst 1, 1) := by decide +kernel
theorem dX6_readCommand_115 : decode cX6_readCommand 115 = .ok (.goto 4, 3) := by decide +kernel
theorem dX6_readCommand_118 : decode cX6_readCommand 118 = .ok (.iconst 0, 1) := by decide +kernel
theorem dX6_readCommand_119 : decode cX6_readCommand 119 = .ok (.ireturn, 1) := by decide +kernel
theorem dX6_readCommand_120 : decode cX6_readCommand 120 = .ok (.aload_n 0, 1) := by decide +kernel
theorem dX6_readCommand_121 : decode cX6_readCommand 121 = .ok (.iconst 0, 1) := by decide +kernel
theorem dX6_readCommand_122 : decode cX6_readCommand 122 = .ok (.iconst 2, 1) := by decide +kernel
theorem dX6_readCommand_123 : decode cX6_readCommand 123 = .ok (.iconst 0, 1) := by decide +kernel
theorem dX6_readCommand_124 : decode cX6_readCommand 124 = .ok (.bipush 31, 2) := by decide +kernel
theorem dX6_readCommand_126 : decode cX6_readCommand 126 = .ok (.invokevirtual 95, 3) := by decide +kernel
theorem dX6_readCommand_129 : decode cX6_readCommand 129 = .ok (.istore_n 3, 1) := by decide +kernel
theorem dX6_readCommand_130 : decode cX6_readCommand 130 = .ok (.aload_n 0, 1) := by decide +kernel
theorem dX6_readCommand_131 : decode cX6_readCommand 131 = .ok (.iload_n 3, 1) := by decide +kernel
theorem dX6_readCommand_132 : decode cX6_readCommand 132 = .ok (.iconst 2, 1) := by decide +kernel
theorem dX6_readCommand_133 : decode cX6_readCommand 133 = .ok (.iconst 1, 1) := by decide +kernel
theorem dX6_readCommand_134 : decode cX6_readCommand 134 = .ok (.bipush 99, 2) := by decide +kernel
theorem dX6_readCommand_136 : decode cX6_readCommand 136 = .ok (.invokevirtual 95, 3) := by decide +kernel
theorem dX6_readCommand_139 : decode cX6_readCommand 139 = .ok (.istore 4, 2) := by decide +kernel
theorem dX6_readCommand_141 : decode cX6_readCommand 141 = .ok (.iload 4, 2) := by decide +kernel
theorem dX6_readCommand_143 : decode cX6_readCommand 143 = .ok (.iconst (-1), 1) := by decide +kernel
theorem dX6_readCommand_144 : decode cX6_readCommand 144 = .ok (.if_icmp .eq 37, 3) := by decide +kernel
theorem dX6_readCommand_147 : decode cX6_readCommand 147 = .ok (.aload_n 0, 1) := by decide +kernel
theorem dX6_readCommand_148 : decode cX6_readCommand 148 = .ok (.aload_n 1, 1) := by decide +kernel
theorem dX6_readCommand_149 : decode cX6_readCommand 149 = .ok (.iload_n 3, 1) := by decide +kernel
theorem dX6_readCommand_150 : decode cX6_readCommand 150 = .ok (.invokestatic 59, 3) := by decide +kernel
theorem dX6_readCommand_153 : decode cX6_readCommand 153 = .ok (.ifCond .eq 17, 3) := by decide +kernel
theorem dX6_readCommand_156 : decode cX6_readCommand 156 = .ok (.aload_n 1, 1) := by decide +kernel
theorem dX6_readCommand_157 : decode cX6_readCommand 157 = .ok (.iload_n 3, 1) := by decide +kernel
theorem dX6_readCommand_158 : decode cX6_readCommand 158 = .ok (.iload 4, 2) := by decide +kernel
theorem dX6_readCommand_160 : decode cX6_readCommand 160 = .ok (.invokestatic 106, 3) := by decide +kernel
theorem dX6_readCommand_163 : decode cX6_readCommand 163 = .ok (.ifCond .lt 7, 3) := by decide +kernel
theorem dX6_readCommand_166 : decode cX6_readCommand 166 = .ok (.iconst 1, 1) := by decide +kernel
theorem dX6_readCommand_167 : decode cX6_readCommand 167 = .ok (.goto 4, 3) := by decide +kernel
theorem dX6_readCommand_170 : decode cX6_readCommand 170 = .ok (.iconst 0, 1) := by decide +kernel
theorem dX6_readCommand_171 : decode cX6_readCommand 171 = .ok (.invokevirtual 102, 3) := by decide +kernel
theorem dX6_readCommand_174 : decode cX6_readCommand 174 = .ok (.ifCond .eq 7, 3) := by decide +kernel
theorem dX6_readCommand_177 : decode cX6_readCommand 177 = .ok (.iconst 1, 1) := by decide +kernel
theorem dX6_readCommand_178 : decode cX6_readCommand 178 = .ok (.goto 4, 3) := by decide +kernel
theorem dX6_readCommand_181 : decode cX6_readCommand 181 = .ok (.iconst 0, 1) := by decide +kernel
theorem dX6_readCommand_182 : decode cX6_readCommand 182 = .ok (.ireturn, 1) := by decide +kernel
theorem dX6_readCommand_183 : decode cX6_readCommand 183 = .ok (.aload_n 0, 1) := by decide +kernel
theorem dX6_readCommand_184 : decode cX6_readCommand 184 = .ok (.iconst 0, 1) := by decide +kernel
theorem dX6_readCommand_185 : decode cX6_readCommand 185 = .ok (.iconst 1, 1) := by decide +kernel
theorem dX6_readCommand_186 : decode cX6_readCommand 186 = .ok (.iconst 1, 1) := by decide +kernel
theorem dX6_readCommand_187 : decode cX6_readCommand 187 = .ok (.bipush 9, 2) := by decide +kernel
theorem dX6_readCommand_189 : decode cX6_readCommand 189 = .ok (.invokevirtual 95, 3) := by decide +kernel
theorem dX6_readCommand_192 : decode cX6_readCommand 192 = .ok (.istore_n 3, 1) := by decide +kernel
theorem dX6_readCommand_193 : decode cX6_readCommand 193 = .ok (.iload_n 3, 1) := by decide +kernel
theorem dX6_readCommand_194 : decode cX6_readCommand 194 = .ok (.iconst (-1), 1) := by decide +kernel
theorem dX6_readCommand_195 : decode cX6_readCommand 195 = .ok (.if_icmp .eq 37, 3) := by decide +kernel
theorem dX6_readCommand_198 : decode cX6_readCommand 198 = .ok (.aload_n 0, 1) := by decide +kernel
theorem dX6_readCommand_199 : decode cX6_readCommand 199 = .ok (.aload_n 1, 1) := by decide +kernel
theorem dX6_readCommand_200 : decode cX6_readCommand 200 = .ok (.iconst 0, 1) := by decide +kernel
theorem dX6_readCommand_201 : decode cX6_readCommand 201 = .ok (.iaload, 1) := by decide +kernel
theorem dX6_readCommand_202 : decode cX6_readCommand 202 = .ok (.ifCond .le 19, 3) := by decide +kernel
theorem dX6_readCommand_205 : decode cX6_readCommand 205 = .ok (.aload_n 1, 1) := by decide +kernel
theorem dX6_readCommand_206 : decode cX6_readCommand 206 = .ok (.iload_n 3, 1) := by decide +kernel
theorem dX6_readCommand_207 : decode cX6_readCommand 207 = .ok (.aload_n 1, 1) := by decide +kernel
theorem dX6_readCommand_208 : decode cX6_readCommand 208 = .ok (.iconst 0, 1) := by decide +kernel
theorem dX6_readCommand_209 : decode cX6_readCommand 209 = .ok (.iaload, 1) := by decide +kernel
theorem dX6_readCommand_210 : decode cX6_readCommand 210 = .ok (.imul, 1) := by decide +kernel
theorem dX6_readCommand_211 : decode cX6_readCommand 211 = .ok (.invokestatic 109, 3) := by decide +kernel
theorem dX6_readCommand_214 : decode cX6_readCommand 214 = .ok (.ifCond .lt 7, 3) := by decide +kernel
theorem dX6_readCommand_217 : decode cX6_readCommand 217 = .ok (.iconst 1, 1) := by decide +kernel
theorem dX6_readCommand_218 : decode cX6_readCommand 218 = .ok (.goto 4, 3) := by decide +kernel
theorem dX6_readCommand_221 : decode cX6_readCommand 221 = .ok (.iconst 0, 1) := by decide +kernel
theorem dX6_readCommand_222 : decode cX6_readCommand 222 = .ok (.invokevirtual 102, 3) := by decide +kernel
theorem dX6_readCommand_225 : decode cX6_readCommand 225 = .ok (.ifCond .eq 7, 3) := by decide +kernel
theorem dX6_readCommand_228 : decode cX6_readCommand 228 = .ok (.iconst 1, 1) := by decide +kernel
theorem dX6_readCommand_229 : decode cX6_readCommand 229 = .ok (.goto 4, 3) := by decide +kernel
theorem dX6_readCommand_232 : decode cX6_readCommand 232 = .ok (.iconst 0, 1) := by decide +kernel
theorem dX6_readCommand_233 : decode cX6_readCommand 233 = .ok (.ireturn, 1) := by decide +kernel
theorem dX6_readCommand_234 : decode cX6_readCommand 234 = .ok (.aload_n 0, 1) := by decide +kernel
theorem dX6_readCommand_235 : decode cX6_readCommand 235 = .ok (.dup, 1) := by decide +kernel
theorem dX6_readCommand_236 : decode cX6_readCommand 236 = .ok (.getfield 87, 3) := by decide +kernel
theorem dX6_readCommand_239 : decode cX6_readCommand 239 = .ok (.iconst 1, 1) := by decide +kernel
theorem dX6_readCommand_240 : decode cX6_readCommand 240 = .ok (.isub, 1) := by decide +kernel
theorem dX6_readCommand_241 : decode cX6_readCommand 241 = .ok (.putfield 87, 3) := by decide +kernel
theorem dX6_readCommand_244 : decode cX6_readCommand 244 = .ok (.iconst 0, 1) := by decide +kernel
theorem dX6_readCommand_245 : decode cX6_readCommand 245 = .ok (.ireturn, 1) := by decide +kernel
set_option maxRecDepth 20000 in
theorem ggX6_readText_X6_clear : GoodIn wsX6_readText wsX6_clear := goodIn_r _ [8] (by decide +kernel) (by decide +kernel)
set_option maxRecDepth 20000 in
theorem gX6_readText_X6_clear : GoodIn wsX6_readText (va_wsS RX6 29 yX6_clear wsX6_clear) := goodIn_app (goodIn_of _ (by decide +kernel)) ggX6_readText_X6_clear
set_option maxRecDepth 20000 in
theorem ggX6_readText_X6_figures : GoodIn wsX6_readText wsX6_figures := goodIn_r _ [12, 2, 3, 4, 13, 14, 15, 7, 16, 63, 64, 65, 66, 67, 68, 69, 70, 71, 72, 73] (by decide +kernel) (by decide +kernel)
set_option maxRecDepth 20000 in
theorem gX6_readText_X6_figures : GoodIn wsX6_readText (wsV RX6 95 RX6 yX6_figures wsX6_figures) := goodIn_app (goodIn_of _ (by decide +kernel)) ggX6_readText_X6_figures
set_option maxRecDepth 20000 in
theorem ggX6_readText_X6_canMake : GoodIn wsX6_readText wsX6_canMake := goodIn_r _ [19, 20, 21, 14, 15, 7, 16, 22, 23, 24] (by decide +kernel) (by decide +kernel)
set_option maxRecDepth 20000 in
theorem gX6_readText_X6_canMake : GoodIn wsX6_readText (va_wsS RX6 112 yX6_canMake wsX6_canMake) := goodIn_app (goodIn_of _ (by decide +kernel)) ggX6_readText_X6_canMake
set_option maxRecDepth 20000 in
theorem ggX6_readText_X6_makeOn : GoodIn wsX6_readText wsX6_makeOn := goodIn_r _ [27, 28, 29, 7, 30, 31, 32, 33] (by decide +kernel) (by decide +kernel)
set_option maxRecDepth 20000 in
theorem gX6_readText_X6_makeOn : GoodIn wsX6_readText (va_wsS RX6 116 yX6_makeOn wsX6_makeOn) := goodIn_app (goodIn_of _ (by decide +kernel)) ggX6_readText_X6_makeOn
set_option maxRecDepth 20000 in
theorem ggX6_readText_X6_readCommand : GoodIn wsX6_readText wsX6_readCommand := goodIn_r _ [37, 4, 2, 9, 10, 11, 7, 12, 3, 13, 14, 15, 16, 38, 39, 40, 41, 42, 43, 44, 45, 46, 28, 29, 30, 31, 32, 33, 47, 48, 49, 50, 51, 52, 53, 54, 55, 56, 1, 57, 58, 59, 60, 61, 62, 63, 64, 65, 66, 67, 68, 69, 70, 71, 72, 73] (by decide +kernel) (by decide +kernel)
set_option maxRecDepth 20000 in
theorem gX6_readText_X6_readCommand : GoodIn wsX6_readText (wsV RX6 119 RX6 yX6_readCommand wsX6_readCommand) := goodIn_app (goodIn_of _ (by decide +kernel)) ggX6_readText_X6_readCommand
theorem dX6_readText_0 : decode cX6_readText 0 = .ok (.aload_n 1, 1) := by decide +kernel
theorem dX6_readText_1 : decode cX6_readText 1 = .ok (.invokestatic 29, 3) := by decide +kernel
theorem dX6_readText_4 : decode cX6_readText 4 = .ok (.aload_n 0, 1) := by decide +kernel
theorem dX6_readText_5 : decode cX6_readText 5 = .ok (.iconst 0, 1) := by decide +kernel
theorem dX6_readText_6 : decode cX6_readText 6 = .ok (.putfield 92, 3) := by decide +kernel
theorem dX6_readText_9 : decode cX6_readText 9 = .ok (.aload_n 0, 1) := by decide +kernel
theorem dX6_readText_10 : decode cX6_readText 10 = .ok (.iconst 0, 1) := by decide +kernel
theorem dX6_readText_11 : decode cX6_readText 11 = .ok (.putfield 87, 3) := by decide +kernel
theorem dX6_readText_14 : decode cX6_readText 14 = .ok (.aload_n 0, 1) := by decide +kernel
theorem dX6_readText_15 : decode cX6_readText 15 = .ok (.getfield 80, 3) := by decide +kernel
theorem dX6_readText_18 : decode cX6_readText 18 = .ok (.ifCond .eq 14, 3) := by decide +kernel
theorem dX6_readText_21 : decode cX6_readText 21 = .ok (.aload_n 0, 1) := by decide +kernel
theorem dX6_readText_22 : decode cX6_readText 22 = .ok (.getfield 7, 3) := by decide +kernel
theorem dX6_readText_25 : decode cX6_readText 25 = .ok (.iconst 0, 1) := by decide +kernel
theorem dX6_readText_26 : decode cX6_readText 26 = .ok (.iaload, 1) := by decide +kernel
theorem dX6_readText_27 : decode cX6_readText 27 = .ok (.bipush 76, 2) := by decide +kernel
theorem dX6_readText_29 : decode cX6_readText 29 = .ok (.if_icmp .eq 5, 3) := by decide +kernel
theorem dX6_readText_32 : decode cX6_readText 32 = .ok (.iconst 0, 1) := by decide +kernel
theorem dX6_readText_33 : decode cX6_readText 33 = .ok (.ireturn, 1) := by decide +kernel
theorem dX6_readText_34 : decode cX6_readText 34 = .ok (.aload_n 0, 1) := by decide +kernel
theorem dX6_readText_35 : decode cX6_readText 35 = .ok (.iconst 1, 1) := by decide +kernel
theorem dX6_readText_36 : decode cX6_readText 36 = .ok (.putfield 87, 3) := by decide +kernel
theorem dX6_readText_39 : decode cX6_readText 39 = .ok (.aload_n 0, 1) := by decide +kernel
theorem dX6_readText_40 : decode cX6_readText 40 = .ok (.iconst 0, 1) := by decide +kernel
theorem dX6_readText_41 : decode cX6_readText 41 = .ok (.iconst 2, 1) := by decide +kernel
theorem dX6_readText_42 : decode cX6_readText 42 = .ok (.iconst 4, 1) := by decide +kernel
theorem dX6_readText_43 : decode cX6_readText 43 = .ok (.bipush 32, 2) := by decide +kernel
theorem dX6_readText_45 : decode cX6_readText 45 = .ok (.invokevirtual 95, 3) := by decide +kernel
theorem dX6_readText_48 : decode cX6_readText 48 = .ok (.istore_n 2, 1) := by decide +kernel
theorem dX6_readText_49 : decode cX6_readText 49 = .ok (.aload_n 0, 1) := by decide +kernel
theorem dX6_readText_50 : decode cX6_readText 50 = .ok (.iload_n 2, 1) := by decide +kernel
theorem dX6_readText_51 : decode cX6_readText 51 = .ok (.iconst 2, 1) := by decide +kernel
theorem dX6_readText_52 : decode cX6_readText 52 = .ok (.iconst 1, 1) := by decide +kernel
theorem dX6_readText_53 : decode cX6_readText 53 = .ok (.bipush 31, 2) := by decide +kernel
theorem dX6_readText_55 : decode cX6_readText 55 = .ok (.invokevirtual 95, 3) := by decide +kernel
theorem dX6_readText_58 : decode cX6_readText 58 = .ok (.istore_n 3, 1) := by decide +kernel
theorem dX6_readText_59 : decode cX6_readText 59 = .ok (.aload_n 0, 1) := by decide +kernel
theorem dX6_readText_60 : decode cX6_readText 60 = .ok (.iload_n 3, 1) := by decide +kernel
theorem dX6_readText_61 : decode cX6_readText 61 = .ok (.iconst 1, 1) := by decide +kernel
theorem dX6_readText_62 : decode cX6_readText 62 = .ok (.iconst 0, 1) := by decide +kernel
theorem dX6_readText_63 : decode cX6_readText 63 = .ok (.iconst 4, 1) := by decide +kernel
theorem dX6_readText_64 : decode cX6_readText 64 = .ok (.invokevirtual 95, 3) := by decide +kernel
theorem dX6_readText_67 : decode cX6_readText 67 = .ok (.istore 4, 2) := by decide +kernel
theorem dX6_readText_69 : decode cX6_readText 69 = .ok (.iload 4, 2) := by decide +kernel
theorem dX6_readText_71 : decode cX6_readText 71 = .ok (.iconst (-1), 1) := by decide +kernel
theorem dX6_readText_72 : decode cX6_readText 72 = .ok (.if_icmp .ne 8, 3) := by decide +kernel
theorem dX6_readText_75 : decode cX6_readText 75 = .ok (.aload_n 0, 1) := by decide +kernel
theorem dX6_readText_76 : decode cX6_readText 76 = .ok (.getfield 87, 3) := by decide +kernel
theorem dX6_readText_79 : decode cX6_readText 79 = .ok (.ireturn, 1) := by decide +kernel
theorem dX6_readText_80 : decode cX6_readText 80 = .ok (.iload_n 2, 1) := by decide +kernel
theorem dX6_readText_81 : decode cX6_readText 81 = .ok (.iload_n 3, 1) := by decide +kernel
theorem dX6_readText_82 : decode cX6_readText 82 = .ok (.iload 4, 2) := by decide +kernel
theorem dX6_readText_84 : decode cX6_readText 84 = .ok (.invokestatic 112, 3) := by decide +kernel
theorem dX6_readText_87 : decode cX6_readText 87 = .ok (.ifCond .eq 12, 3) := by decide +kernel
theorem dX6_readText_90 : decode cX6_readText 90 = .ok (.aload_n 1, 1) := by decide +kernel
theorem dX6_readText_91 : decode cX6_readText 91 = .ok (.iload_n 2, 1) := by decide +kernel
theorem dX6_readText_92 : decode cX6_readText 92 = .ok (.iload_n 3, 1) := by decide +kernel
theorem dX6_readText_93 : decode cX6_readText 93 = .ok (.iload 4, 2) := by decide +kernel
theorem dX6_readText_95 : decode cX6_readText 95 = .ok (.invokestatic 116, 3) := by decide +kernel
theorem dX6_readText_98 : decode cX6_readText 98 = .ok (.pop, 1) := by decide +kernel
theorem dX6_readText_99 : decode cX6_readText 99 = .ok (.aload_n 0, 1) := by decide +kernel
theorem dX6_readText_100 : decode cX6_readText 100 = .ok (.getfield 87, 3) := by decide +kernel
theorem dX6_readText_103 : decode cX6_readText 103 = .ok (.aload_n 0, 1) := by decide +kernel
theorem dX6_readText_104 : decode cX6_readText 104 = .ok (.getfield 80, 3) := by decide +kernel
theorem dX6_readText_107 : decode cX6_readText 107 = .ok (.if_icmp .ge 16, 3) := by decide +kernel
theorem dX6_readText_110 : decode cX6_readText 110 = .ok (.aload_n 0, 1) := by decide +kernel
theorem dX6_readText_111 : decode cX6_readText 111 = .ok (.aload_n 1, 1) := by decide +kernel
theorem dX6_readText_112 : decode cX6_readText 112 = .ok (.invokevirtual 119, 3) := by decide +kernel
theorem dX6_readText_115 : decode cX6_readText 115 = .ok (.ifCond .ne (-16), 3) := by decide +kernel
theorem dX6_readText_118 : decode cX6_readText 118 = .ok (.aload_n 0, 1) := by decide +kernel
theorem dX6_readText_119 : decode cX6_readText 119 = .ok (.getfield 87, 3) := by decide +kernel
theorem dX6_readText_122 : decode cX6_readText 122 = .ok (.ireturn, 1) := by decide +kernel
theorem dX6_readText_123 : decode cX6_readText 123 = .ok (.iconst (-1), 1) := by decide +kernel
theorem dX6_readText_124 : decode cX6_readText 124 = .ok (.ireturn, 1) := by decide +kernel
set_option maxRecDepth 20000 in
theorem ggX6_errorPosition_X6_readText : GoodIn wsX6_errorPosition wsX6_readText := goodIn_r _ [7, 8, 9, 10, 11, 12, 13, 6, 14, 15, 16, 17, 18, 19, 20, 21, 22, 23, 24, 25, 26, 27, 28, 29, 30, 31, 32, 33, 34, 35, 36, 37, 38, 39, 40, 41, 42, 43, 44, 45, 46, 47, 48, 49, 50, 51, 52, 53, 54, 55, 56, 57, 58, 59, 60, 61, 62, 63, 64, 65, 66, 67, 68, 69, 70, 71, 72, 73, 74, 75, 76, 77, 78, 79] (by decide +kernel) (by decide +kernel)
set_option maxRecDepth 20000 in
theorem gX6_errorPosition_X6_readText : GoodIn wsX6_errorPosition (wsV RX6 123 RX6 yX6_readText wsX6_readText) := goodIn_app (goodIn_of _ (by decide +kernel)) ggX6_errorPosition_X6_readText
theorem dX6_errorPosition_0 : decode cX6_errorPosition 0 = .ok (.aload_n 0, 1) := by decide +kernel
theorem dX6_errorPosition_1 : decode cX6_errorPosition 1 = .ok (.iconst 0, 1) := by decide +kernel
theorem dX6_errorPosition_2 : decode cX6_errorPosition 2 = .ok (.putfield 33, 3) := by decide +kernel
theorem dX6_errorPosition_5 : decode cX6_errorPosition 5 = .ok (.aload_n 0, 1) := by decide +kernel
theorem dX6_errorPosition_6 : decode cX6_errorPosition 6 = .ok (.aload_n 0, 1) := by decide +kernel
theorem dX6_errorPosition_7 : decode cX6_errorPosition 7 = .ok (.getfield 16, 3) := by decide +kernel
theorem dX6_errorPosition_10 : decode cX6_errorPosition 10 = .ok (.invokevirtual 123, 3) := by decide +kernel
theorem dX6_errorPosition_13 : decode cX6_errorPosition 13 = .ok (.ireturn, 1) := by decide +kernel
set_option maxRecDepth 20000 in
theorem ggX6_load_X6_readText : GoodIn wsX6_load wsX6_readText := goodIn_r _ [10, 5, 11, 12, 13, 14, 15, 9, 16, 17, 18, 19, 20, 21, 22, 23, 24, 25, 26, 27, 28, 29, 30, 31, 32, 33, 34, 35, 36, 37, 38, 39, 40, 41, 42, 43, 44, 45, 46, 47, 48, 49, 50, 51, 52, 53, 54, 55, 56, 57, 58, 59, 60, 61, 62, 63, 64, 65, 66, 67, 68, 69, 70, 79, 80, 81, 82, 83, 84, 85, 86, 87, 88, 89] (by decide +kernel) (by decide +kernel)
set_option maxRecDepth 20000 in
theorem gX6_load_X6_readText : GoodIn wsX6_load (wsV RX6 123 RX6 yX6_readText wsX6_readText) := goodIn_app (goodIn_of _ (by decide +kernel)) ggX6_load_X6_readText
set_option maxRecDepth 20000 in
theorem ggX6_load_X6_refused : GoodIn wsX6_load wsX6_refused := goodIn_r _ [74, 75, 79, 80, 81, 82, 83, 84, 85, 86, 87, 88, 89] (by decide +kernel) (by decide +kernel)
set_option maxRecDepth 20000 in
theorem gX6_load_X6_refused : GoodIn wsX6_load (wsV RX6 83 RX6 yX6_refused wsX6_refused) := goodIn_app (goodIn_of _ (by decide +kernel)) ggX6_load_X6_refused
set_option maxRecDepth 20000 in
theorem ggX6_load_X6_copyState : GoodIn wsX6_load wsX6_copyState := goodIn_r _ [78] (by decide +kernel) (by decide +kernel)
set_option maxRecDepth 20000 in
theorem gX6_load_X6_copyState : GoodIn wsX6_load (va_wsS RX6 127 yX6_copyState wsX6_copyState) := goodIn_app (goodIn_of _ (by decide +kernel)) ggX6_load_X6_copyState
theorem dX6_load_0 : decode cX6_load 0 = .ok (.aload_n 0, 1) := by decide +kernel
theorem dX6_load_1 : decode cX6_load 1 = .ok (.aload_n 0, 1) := by decide +kernel
theorem dX6_load_2 : decode cX6_load 2 = .ok (.aload_n 0, 1) := by decide +kernel
theorem dX6_load_3 : decode cX6_load 3 = .ok (.getfield 16, 3) := by decide +kernel
theorem dX6_load_6 : decode cX6_load 6 = .ok (.invokevirtual 123, 3) := by decide +kernel
theorem dX6_load_9 : decode cX6_load 9 = .ok (.iconst (-1), 1) := by decide +kernel
theorem dX6_load_10 : decode cX6_load 10 = .ok (.if_icmp .ne 7, 3) := by decide +kernel
theorem dX6_load_13 : decode cX6_load 13 = .ok (.iconst 0, 1) := by decide +kernel
theorem dX6_load_14 : decode cX6_load 14 = .ok (.goto 4, 3) := by decide +kernel
theorem dX6_load_17 : decode cX6_load 17 = .ok (.iconst 1, 1) := by decide +kernel
theorem dX6_load_18 : decode cX6_load 18 = .ok (.invokevirtual 83, 3) := by decide +kernel
theorem dX6_load_21 : decode cX6_load 21 = .ok (.ifCond .eq 5, 3) := by decide +kernel
theorem dX6_load_24 : decode cX6_load 24 = .ok (.iconst 0, 1) := by decide +kernel
theorem dX6_load_25 : decode cX6_load 25 = .ok (.ireturn, 1) := by decide +kernel
theorem dX6_load_26 : decode cX6_load 26 = .ok (.aload_n 0, 1) := by decide +kernel
theorem dX6_load_27 : decode cX6_load 27 = .ok (.getfield 16, 3) := by decide +kernel
theorem dX6_load_30 : decode cX6_load 30 = .ok (.iconst 0, 1) := by decide +kernel
theorem dX6_load_31 : decode cX6_load 31 = .ok (.aload_n 0, 1) := by decide +kernel
theorem dX6_load_32 : decode cX6_load 32 = .ok (.getfield 13, 3) := by decide +kernel
theorem dX6_load_35 : decode cX6_load 35 = .ok (.iconst 0, 1) := by decide +kernel
theorem dX6_load_36 : decode cX6_load 36 = .ok (.invokestatic 127, 3) := by decide +kernel
theorem dX6_load_39 : decode cX6_load 39 = .ok (.aload_n 0, 1) := by decide +kernel
theorem dX6_load_40 : decode cX6_load 40 = .ok (.iconst 0, 1) := by decide +kernel
theorem dX6_load_41 : decode cX6_load 41 = .ok (.putfield 131, 3) := by decide +kernel
theorem dX6_load_44 : decode cX6_load 44 = .ok (.aload_n 0, 1) := by decide +kernel
theorem dX6_load_45 : decode cX6_load 45 = .ok (.getfield 25, 3) := by decide +kernel
theorem dX6_load_48 : decode cX6_load 48 = .ok (.iconst 0, 1) := by decide +kernel
theorem dX6_load_49 : decode cX6_load 49 = .ok (.iconst 0, 1) := by decide +kernel
theorem dX6_load_50 : decode cX6_load 50 = .ok (.bastore, 1) := by decide +kernel
theorem dX6_load_51 : decode cX6_load 51 = .ok (.aload_n 0, 1) := by decide +kernel
theorem dX6_load_52 : decode cX6_load 52 = .ok (.getfield 25, 3) := by decide +kernel
theorem dX6_load_55 : decode cX6_load 55 = .ok (.iconst 1, 1) := by decide +kernel
theorem dX6_load_56 : decode cX6_load 56 = .ok (.iconst 0, 1) := by decide +kernel
theorem dX6_load_57 : decode cX6_load 57 = .ok (.bastore, 1) := by decide +kernel
theorem dX6_load_58 : decode cX6_load 58 = .ok (.aload_n 0, 1) := by decide +kernel
theorem dX6_load_59 : decode cX6_load 59 = .ok (.getfield 92, 3) := by decide +kernel
theorem dX6_load_62 : decode cX6_load 62 = .ok (.ireturn, 1) := by decide +kernel
set_option maxRecDepth 20000 in
theorem ggX6_about_X6_in : GoodIn wsX6_about wsX6_in := goodIn_r _ [6] (by decide +kernel) (by decide +kernel)
set_option maxRecDepth 20000 in
theorem gX6_about_X6_in : GoodIn wsX6_about (va_wsS RX6 37 yX6_in wsX6_in) := goodIn_app (goodIn_of _ (by decide +kernel)) ggX6_about_X6_in
set_option maxRecDepth 20000 in
theorem ggX6_about_X6_refused : GoodIn wsX6_about wsX6_refused := goodIn_r _ [10, 11, 18, 19, 20, 21, 22, 23, 24, 25, 26, 27, 28] (by decide +kernel) (by decide +kernel)
set_option maxRecDepth 20000 in
theorem gX6_about_X6_refused : GoodIn wsX6_about (wsV RX6 83 RX6 yX6_refused wsX6_refused) := goodIn_app (goodIn_of _ (by decide +kernel)) ggX6_about_X6_refused
set_option maxRecDepth 20000 in
theorem ggX6_about_X6_greatest : GoodIn wsX6_about wsX6_greatest := goodIn_r _ [14] (by decide +kernel) (by decide +kernel)
set_option maxRecDepth 20000 in
theorem gX6_about_X6_greatest : GoodIn wsX6_about (va_wsS RX6 136 yX6_greatest wsX6_greatest) := goodIn_app (goodIn_of _ (by decide +kernel)) ggX6_about_X6_greatest
set_option maxRecDepth 20000 in
theorem ggX6_about_X6_least : GoodIn wsX6_about wsX6_least := goodIn_r _ [17] (by decide +kernel) (by decide +kernel)
set_option maxRecDepth 20000 in
theorem gX6_about_X6_least : GoodIn wsX6_about (va_wsS RX6 139 yX6_least wsX6_least) := goodIn_app (goodIn_of _ (by decide +kernel)) ggX6_about_X6_least
