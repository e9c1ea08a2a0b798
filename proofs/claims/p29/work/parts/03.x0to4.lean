theorem dX0_init_0 : decode cX0_init 0 = .ok (.aload_n 0, 1) := by decide +kernel
theorem dX0_init_1 : decode cX0_init 1 = .ok (.invokespecial 1, 3) := by decide +kernel
theorem dX0_init_4 : decode cX0_init 4 = .ok (.aload_n 0, 1) := by decide +kernel
theorem dX0_init_5 : decode cX0_init 5 = .ok (.bipush 14, 2) := by decide +kernel
theorem dX0_init_7 : decode cX0_init 7 = .ok (.anewarray 9, 3) := by decide +kernel
theorem dX0_init_10 : decode cX0_init 10 = .ok (.putfield 11, 3) := by decide +kernel
theorem dX0_init_13 : decode cX0_init 13 = .ok (.return_, 1) := by decide +kernel
theorem dX0_size_0 : decode cX0_size 0 = .ok (.aload_n 0, 1) := by decide +kernel
theorem dX0_size_1 : decode cX0_size 1 = .ok (.getfield 15, 3) := by decide +kernel
theorem dX0_size_4 : decode cX0_size 4 = .ok (.ireturn, 1) := by decide +kernel
theorem dX0_forgetAll_0 : decode cX0_forgetAll 0 = .ok (.aload_n 0, 1) := by decide +kernel
theorem dX0_forgetAll_1 : decode cX0_forgetAll 1 = .ok (.iconst 0, 1) := by decide +kernel
theorem dX0_forgetAll_2 : decode cX0_forgetAll 2 = .ok (.putfield 15, 3) := by decide +kernel
theorem dX0_forgetAll_5 : decode cX0_forgetAll 5 = .ok (.return_, 1) := by decide +kernel
set_option maxRecDepth 20000 in
theorem ggX0_remember_X3_init : GoodIn wsX0_remember wsX3_init := goodIn_r _ [12, 13, 14, 15, 16, 17, 18, 19, 20, 43, 44, 45, 46, 47, 48, 49, 50, 51, 52, 53, 54, 55, 56, 57] (by decide +kernel) (by decide +kernel)
set_option maxRecDepth 20000 in
theorem gX0_remember_X3_init_n22 : GoodIn wsX0_remember (wsX3_init) := ggX0_remember_X3_init
set_option maxRecDepth 20000 in
theorem ggX0_remember_X3_copyFrom : GoodIn wsX0_remember wsX3_copyFrom := goodIn_r _ [24, 25, 26, 27, 28, 29, 30, 31, 32, 33, 34, 35, 16, 17, 19, 36, 37, 38, 39, 20, 43, 44, 45, 46, 47, 48, 49, 50, 51, 52, 53, 54, 55, 56, 57] (by decide +kernel) (by decide +kernel)
set_option maxRecDepth 20000 in
theorem gX0_remember_X3_copyFrom : GoodIn wsX0_remember (wsV RX0 23 RX3 yX3_copyFrom wsX3_copyFrom) := goodIn_app (goodIn_of _ (by decide +kernel)) ggX0_remember_X3_copyFrom
theorem dX0_remember_0 : decode cX0_remember 0 = .ok (.aload_n 0, 1) := by decide +kernel
theorem dX0_remember_1 : decode cX0_remember 1 = .ok (.getfield 11, 3) := by decide +kernel
theorem dX0_remember_4 : decode cX0_remember 4 = .ok (.aload_n 0, 1) := by decide +kernel
theorem dX0_remember_5 : decode cX0_remember 5 = .ok (.getfield 19, 3) := by decide +kernel
theorem dX0_remember_8 : decode cX0_remember 8 = .ok (.aaload, 1) := by decide +kernel
theorem dX0_remember_9 : decode cX0_remember 9 = .ok (.ifnonnull 19, 3) := by decide +kernel
theorem dX0_remember_12 : decode cX0_remember 12 = .ok (.aload_n 0, 1) := by decide +kernel
theorem dX0_remember_13 : decode cX0_remember 13 = .ok (.getfield 11, 3) := by decide +kernel
theorem dX0_remember_16 : decode cX0_remember 16 = .ok (.aload_n 0, 1) := by decide +kernel
theorem dX0_remember_17 : decode cX0_remember 17 = .ok (.getfield 19, 3) := by decide +kernel
theorem dX0_remember_20 : decode cX0_remember 20 = .ok (.new 9, 3) := by decide +kernel
theorem dX0_remember_23 : decode cX0_remember 23 = .ok (.dup, 1) := by decide +kernel
theorem dX0_remember_24 : decode cX0_remember 24 = .ok (.invokespecial 22, 3) := by decide +kernel
theorem dX0_remember_27 : decode cX0_remember 27 = .ok (.aastore, 1) := by decide +kernel
theorem dX0_remember_28 : decode cX0_remember 28 = .ok (.aload_n 0, 1) := by decide +kernel
theorem dX0_remember_29 : decode cX0_remember 29 = .ok (.getfield 11, 3) := by decide +kernel
theorem dX0_remember_32 : decode cX0_remember 32 = .ok (.aload_n 0, 1) := by decide +kernel
theorem dX0_remember_33 : decode cX0_remember 33 = .ok (.getfield 19, 3) := by decide +kernel
theorem dX0_remember_36 : decode cX0_remember 36 = .ok (.aaload, 1) := by decide +kernel
theorem dX0_remember_37 : decode cX0_remember 37 = .ok (.aload_n 1, 1) := by decide +kernel
theorem dX0_remember_38 : decode cX0_remember 38 = .ok (.invokevirtual 23, 3) := by decide +kernel
theorem dX0_remember_41 : decode cX0_remember 41 = .ok (.aload_n 0, 1) := by decide +kernel
theorem dX0_remember_42 : decode cX0_remember 42 = .ok (.aload_n 0, 1) := by decide +kernel
theorem dX0_remember_43 : decode cX0_remember 43 = .ok (.getfield 19, 3) := by decide +kernel
theorem dX0_remember_46 : decode cX0_remember 46 = .ok (.iconst 1, 1) := by decide +kernel
theorem dX0_remember_47 : decode cX0_remember 47 = .ok (.iadd, 1) := by decide +kernel
theorem dX0_remember_48 : decode cX0_remember 48 = .ok (.bipush 14, 2) := by decide +kernel
theorem dX0_remember_50 : decode cX0_remember 50 = .ok (.if_icmp .ge 12, 3) := by decide +kernel
theorem dX0_remember_53 : decode cX0_remember 53 = .ok (.aload_n 0, 1) := by decide +kernel
theorem dX0_remember_54 : decode cX0_remember 54 = .ok (.getfield 19, 3) := by decide +kernel
theorem dX0_remember_57 : decode cX0_remember 57 = .ok (.iconst 1, 1) := by decide +kernel
theorem dX0_remember_58 : decode cX0_remember 58 = .ok (.iadd, 1) := by decide +kernel
theorem dX0_remember_59 : decode cX0_remember 59 = .ok (.goto 4, 3) := by decide +kernel
theorem dX0_remember_62 : decode cX0_remember 62 = .ok (.iconst 0, 1) := by decide +kernel
theorem dX0_remember_63 : decode cX0_remember 63 = .ok (.putfield 19, 3) := by decide +kernel
theorem dX0_remember_66 : decode cX0_remember 66 = .ok (.aload_n 0, 1) := by decide +kernel
theorem dX0_remember_67 : decode cX0_remember 67 = .ok (.aload_n 0, 1) := by decide +kernel
theorem dX0_remember_68 : decode cX0_remember 68 = .ok (.getfield 15, 3) := by decide +kernel
theorem dX0_remember_71 : decode cX0_remember 71 = .ok (.iconst 1, 1) := by decide +kernel
theorem dX0_remember_72 : decode cX0_remember 72 = .ok (.iadd, 1) := by decide +kernel
theorem dX0_remember_73 : decode cX0_remember 73 = .ok (.bipush 14, 2) := by decide +kernel
theorem dX0_remember_75 : decode cX0_remember 75 = .ok (.invokestatic 27, 3) := by decide +kernel
theorem dX0_remember_78 : decode cX0_remember 78 = .ok (.putfield 15, 3) := by decide +kernel
theorem dX0_remember_81 : decode cX0_remember 81 = .ok (.return_, 1) := by decide +kernel
set_option maxRecDepth 20000 in
theorem ggX0_takeBack_X3_copyFrom : GoodIn wsX0_takeBack wsX3_copyFrom := goodIn_r _ [8, 9, 10, 11, 12, 13, 14, 15, 16, 17, 18, 19, 20, 21, 22, 23, 24, 25, 26, 27, 31, 32, 33, 34, 35, 36, 37, 38, 39, 40, 41, 42, 43, 44, 45] (by decide +kernel) (by decide +kernel)
set_option maxRecDepth 20000 in
theorem gX0_takeBack_X3_copyFrom : GoodIn wsX0_takeBack (wsV RX0 23 RX3 yX3_copyFrom wsX3_copyFrom) := goodIn_app (goodIn_of _ (by decide +kernel)) ggX0_takeBack_X3_copyFrom
theorem dX0_takeBack_0 : decode cX0_takeBack 0 = .ok (.aload_n 0, 1) := by decide +kernel
theorem dX0_takeBack_1 : decode cX0_takeBack 1 = .ok (.getfield 19, 3) := by decide +kernel
theorem dX0_takeBack_4 : decode cX0_takeBack 4 = .ok (.ifCond .le 12, 3) := by decide +kernel
theorem dX0_takeBack_7 : decode cX0_takeBack 7 = .ok (.aload_n 0, 1) := by decide +kernel
theorem dX0_takeBack_8 : decode cX0_takeBack 8 = .ok (.getfield 19, 3) := by decide +kernel
theorem dX0_takeBack_11 : decode cX0_takeBack 11 = .ok (.iconst 1, 1) := by decide +kernel
theorem dX0_takeBack_12 : decode cX0_takeBack 12 = .ok (.isub, 1) := by decide +kernel
theorem dX0_takeBack_13 : decode cX0_takeBack 13 = .ok (.goto 5, 3) := by decide +kernel
theorem dX0_takeBack_16 : decode cX0_takeBack 16 = .ok (.bipush 13, 2) := by decide +kernel
theorem dX0_takeBack_18 : decode cX0_takeBack 18 = .ok (.istore_n 2, 1) := by decide +kernel
theorem dX0_takeBack_19 : decode cX0_takeBack 19 = .ok (.aload_n 0, 1) := by decide +kernel
theorem dX0_takeBack_20 : decode cX0_takeBack 20 = .ok (.getfield 15, 3) := by decide +kernel
theorem dX0_takeBack_23 : decode cX0_takeBack 23 = .ok (.ifCond .eq 12, 3) := by decide +kernel
theorem dX0_takeBack_26 : decode cX0_takeBack 26 = .ok (.aload_n 0, 1) := by decide +kernel
theorem dX0_takeBack_27 : decode cX0_takeBack 27 = .ok (.getfield 11, 3) := by decide +kernel
theorem dX0_takeBack_30 : decode cX0_takeBack 30 = .ok (.iload_n 2, 1) := by decide +kernel
theorem dX0_takeBack_31 : decode cX0_takeBack 31 = .ok (.aaload, 1) := by decide +kernel
theorem dX0_takeBack_32 : decode cX0_takeBack 32 = .ok (.ifnonnull 5, 3) := by decide +kernel
theorem dX0_takeBack_35 : decode cX0_takeBack 35 = .ok (.iconst 0, 1) := by decide +kernel
theorem dX0_takeBack_36 : decode cX0_takeBack 36 = .ok (.ireturn, 1) := by decide +kernel
theorem dX0_takeBack_37 : decode cX0_takeBack 37 = .ok (.aload_n 1, 1) := by decide +kernel
theorem dX0_takeBack_38 : decode cX0_takeBack 38 = .ok (.aload_n 0, 1) := by decide +kernel
theorem dX0_takeBack_39 : decode cX0_takeBack 39 = .ok (.getfield 11, 3) := by decide +kernel
theorem dX0_takeBack_42 : decode cX0_takeBack 42 = .ok (.iload_n 2, 1) := by decide +kernel
theorem dX0_takeBack_43 : decode cX0_takeBack 43 = .ok (.aaload, 1) := by decide +kernel
theorem dX0_takeBack_44 : decode cX0_takeBack 44 = .ok (.invokevirtual 23, 3) := by decide +kernel
theorem dX0_takeBack_47 : decode cX0_takeBack 47 = .ok (.aload_n 0, 1) := by decide +kernel
theorem dX0_takeBack_48 : decode cX0_takeBack 48 = .ok (.iload_n 2, 1) := by decide +kernel
theorem dX0_takeBack_49 : decode cX0_takeBack 49 = .ok (.putfield 19, 3) := by decide +kernel
theorem dX0_takeBack_52 : decode cX0_takeBack 52 = .ok (.aload_n 0, 1) := by decide +kernel
theorem dX0_takeBack_53 : decode cX0_takeBack 53 = .ok (.dup, 1) := by decide +kernel
theorem dX0_takeBack_54 : decode cX0_takeBack 54 = .ok (.getfield 15, 3) := by decide +kernel
theorem dX0_takeBack_57 : decode cX0_takeBack 57 = .ok (.iconst 1, 1) := by decide +kernel
theorem dX0_takeBack_58 : decode cX0_takeBack 58 = .ok (.isub, 1) := by decide +kernel
theorem dX0_takeBack_59 : decode cX0_takeBack 59 = .ok (.putfield 15, 3) := by decide +kernel
theorem dX0_takeBack_62 : decode cX0_takeBack 62 = .ok (.iconst 1, 1) := by decide +kernel
theorem dX0_takeBack_63 : decode cX0_takeBack 63 = .ok (.ireturn, 1) := by decide +kernel
set_option maxRecDepth 20000 in
theorem ggX1_succeeds_X3_doWrite : GoodIn wsX1_succeeds wsX3_doWrite := goodIn_r _ [8, 9, 10, 11, 12, 7, 13, 14, 15, 16, 17, 18, 19, 20, 21, 22, 23, 24, 25, 26, 27, 28, 29, 30, 31, 32, 33, 34, 35, 36, 37, 38, 39, 40, 41, 42, 43, 44, 45, 46, 47, 48, 49, 50, 102, 103, 104, 105, 106, 107, 108, 109, 110, 111, 112, 113, 114, 115, 116] (by decide +kernel) (by decide +kernel)
set_option maxRecDepth 20000 in
theorem gX1_succeeds_X3_doWrite : GoodIn wsX1_succeeds (wsV RX1 8 RX3 yX3_doWrite wsX3_doWrite) := goodIn_app (goodIn_of _ (by decide +kernel)) ggX1_succeeds_X3_doWrite
set_option maxRecDepth 20000 in
theorem ggX1_succeeds_X3_doHammer : GoodIn wsX1_succeeds wsX3_doHammer := goodIn_r _ [54, 10, 11, 12, 7, 13, 14, 55, 16, 56, 57, 58, 59, 60, 9, 61, 62, 63, 64, 22, 18, 19, 20, 21, 23, 24, 25, 26, 27, 28, 29, 30, 31, 32, 33, 34, 35, 36, 37, 38, 39, 40, 41, 42, 43, 44, 45, 46, 47, 48, 49, 50, 102, 103, 104, 105, 106, 107, 108, 109, 110, 111, 112, 113, 114, 115, 116] (by decide +kernel) (by decide +kernel)
set_option maxRecDepth 20000 in
theorem gX1_succeeds_X3_doHammer : GoodIn wsX1_succeeds (wsV RX1 14 RX3 yX3_doHammer wsX3_doHammer) := goodIn_app (goodIn_of _ (by decide +kernel)) ggX1_succeeds_X3_doHammer
set_option maxRecDepth 20000 in
theorem ggX1_succeeds_X3_doAll : GoodIn wsX1_succeeds wsX3_doAll := goodIn_r _ [68, 14, 69, 16, 70, 71, 72, 73, 7, 74, 75, 76, 77, 78, 9, 61, 62, 63, 64, 22, 10, 11, 12, 13, 18, 19, 20, 21, 23, 24, 25, 26, 27, 28, 29, 30, 31, 32, 33, 34, 35, 36, 37, 38, 39, 40, 41, 42, 43, 44, 45, 46, 47, 48, 49, 50, 102, 103, 104, 105, 106, 107, 108, 109, 110, 111, 112, 113, 114, 115, 116] (by decide +kernel) (by decide +kernel)
set_option maxRecDepth 20000 in
theorem gX1_succeeds_X3_doAll : GoodIn wsX1_succeeds (wsV RX1 17 RX3 yX3_doAll wsX3_doAll) := goodIn_app (goodIn_of _ (by decide +kernel)) ggX1_succeeds_X3_doAll
set_option maxRecDepth 20000 in
theorem ggX1_succeeds_X3_doSet : GoodIn wsX1_succeeds wsX3_doSet := goodIn_r _ [82, 83, 16, 84, 85, 86, 87, 7, 88, 43, 25, 102, 103, 104, 105, 106, 107, 108, 109, 110, 111, 112, 113, 114, 115, 116] (by decide +kernel) (by decide +kernel)
set_option maxRecDepth 20000 in
theorem gX1_succeeds_X3_doSet : GoodIn wsX1_succeeds (wsV RX1 21 RX3 yX3_doSet wsX3_doSet) := goodIn_app (goodIn_of _ (by decide +kernel)) ggX1_succeeds_X3_doSet
set_option maxRecDepth 20000 in
theorem ggX1_succeeds_X3_hasLine : GoodIn wsX1_succeeds wsX3_hasLine := goodIn_r _ [13, 14, 102, 103, 104, 105, 106, 107, 108, 109, 110, 111, 112, 113, 114, 115, 116] (by decide +kernel) (by decide +kernel)
set_option maxRecDepth 20000 in
theorem gX1_succeeds_X3_hasLine : GoodIn wsX1_succeeds (wsV RX1 24 RX3 yX3_hasLine wsX3_hasLine) := goodIn_app (goodIn_of _ (by decide +kernel)) ggX1_succeeds_X3_hasLine
set_option maxRecDepth 20000 in
theorem ggX1_succeeds_X3_valueOf : GoodIn wsX1_succeeds wsX3_valueOf := goodIn_r _ [64, 22, 10, 11, 12, 7, 13, 14, 102, 103, 104, 105, 106, 107, 108, 109, 110, 111, 112, 113, 114, 115, 116] (by decide +kernel) (by decide +kernel)
set_option maxRecDepth 20000 in
theorem gX1_succeeds_X3_valueOf : GoodIn wsX1_succeeds (wsV RX1 27 RX3 yX3_valueOf wsX3_valueOf) := goodIn_app (goodIn_of _ (by decide +kernel)) ggX1_succeeds_X3_valueOf
set_option maxRecDepth 20000 in
theorem ggX1_succeeds_X3_placeOf : GoodIn wsX1_succeeds wsX3_placeOf := goodIn_r _ [29, 30, 31, 32, 33, 34, 7, 35, 14, 36, 102, 103, 104, 105, 106, 107, 108, 109, 110, 111, 112, 113, 114, 115, 116] (by decide +kernel) (by decide +kernel)
set_option maxRecDepth 20000 in
theorem gX1_succeeds_X3_placeOf : GoodIn wsX1_succeeds (wsV RX1 31 RX3 yX3_placeOf wsX3_placeOf) := goodIn_app (goodIn_of _ (by decide +kernel)) ggX1_succeeds_X3_placeOf
set_option maxRecDepth 20000 in
theorem ggX1_succeeds_X3_hasPlace : GoodIn wsX1_succeeds wsX3_hasPlace := goodIn_r _ [95, 14, 102, 103, 104, 105, 106, 107, 108, 109, 110, 111, 112, 113, 114, 115, 116] (by decide +kernel) (by decide +kernel)
set_option maxRecDepth 20000 in
theorem gX1_succeeds_X3_hasPlace : GoodIn wsX1_succeeds (wsV RX1 34 RX3 yX3_hasPlace wsX3_hasPlace) := goodIn_app (goodIn_of _ (by decide +kernel)) ggX1_succeeds_X3_hasPlace
set_option maxRecDepth 20000 in
theorem ggX1_succeeds_X3_wearOf : GoodIn wsX1_succeeds wsX3_wearOf := goodIn_r _ [99, 41, 100, 93, 94, 7, 95, 14, 102, 103, 104, 105, 106, 107, 108, 109, 110, 111, 112, 113, 114, 115, 116] (by decide +kernel) (by decide +kernel)
set_option maxRecDepth 20000 in
theorem gX1_succeeds_X3_wearOf : GoodIn wsX1_succeeds (wsV RX1 37 RX3 yX3_wearOf wsX3_wearOf) := goodIn_app (goodIn_of _ (by decide +kernel)) ggX1_succeeds_X3_wearOf
set_option maxRecDepth 20000 in
theorem ggX1_succeeds_X3_exists : GoodIn wsX1_succeeds wsX3_exists := goodIn_r _ [74, 14, 102, 103, 104, 105, 106, 107, 108, 109, 110, 111, 112, 113, 114, 115, 116] (by decide +kernel) (by decide +kernel)
set_option maxRecDepth 20000 in
theorem gX1_succeeds_X3_exists : GoodIn wsX1_succeeds (wsV RX1 40 RX3 yX3_exists wsX3_exists) := goodIn_app (goodIn_of _ (by decide +kernel)) ggX1_succeeds_X3_exists
theorem dX1_succeeds_0 : decode cX1_succeeds 0 = .ok (.iload_n 1, 1) := by decide +kernel
theorem dX1_succeeds_1 : decode cX1_succeeds 1 = .ok (.sipush 1000, 3) := by decide +kernel
theorem dX1_succeeds_4 : decode cX1_succeeds 4 = .ok (.idiv, 1) := by decide +kernel
theorem dX1_succeeds_5 : decode cX1_succeeds 5 = .ok (.bipush 100, 2) := by decide +kernel
theorem dX1_succeeds_7 : decode cX1_succeeds 7 = .ok (.irem, 1) := by decide +kernel
theorem dX1_succeeds_8 : decode cX1_succeeds 8 = .ok (.istore_n 2, 1) := by decide +kernel
theorem dX1_succeeds_9 : decode cX1_succeeds 9 = .ok (.iload_n 1, 1) := by decide +kernel
theorem dX1_succeeds_10 : decode cX1_succeeds 10 = .ok (.sipush 1000, 3) := by decide +kernel
theorem dX1_succeeds_13 : decode cX1_succeeds 13 = .ok (.irem, 1) := by decide +kernel
theorem dX1_succeeds_14 : decode cX1_succeeds 14 = .ok (.istore_n 3, 1) := by decide +kernel
theorem dX1_succeeds_15 : decode cX1_succeeds 15 = .ok (.iload_n 1, 1) := by decide +kernel
theorem dX1_succeeds_16 : decode cX1_succeeds 16 = .ok (.ldc 7, 2) := by decide +kernel
theorem dX1_succeeds_18 : decode cX1_succeeds 18 = .ok (.irem, 1) := by decide +kernel
theorem dX1_succeeds_19 : decode cX1_succeeds 19 = .ok (.istore 4, 2) := by decide +kernel
theorem dX1_succeeds_21 : decode cX1_succeeds 21 = .ok (.iload_n 1, 1) := by decide +kernel
theorem dX1_succeeds_22 : decode cX1_succeeds 22 = .ok (.ldc 7, 2) := by decide +kernel
theorem dX1_succeeds_24 : decode cX1_succeeds 24 = .ok (.idiv, 1) := by decide +kernel
theorem dX1_succeeds_25 : decode cX1_succeeds 25 = .ok (.tableswitch 229 1 9 #[51, 58, 65, 72, 108, 131, 154, 177, 207], 51) := by decide +kernel
theorem dX1_succeeds_76 : decode cX1_succeeds 76 = .ok (.aload_n 0, 1) := by decide +kernel
theorem dX1_succeeds_77 : decode cX1_succeeds 77 = .ok (.iload_n 2, 1) := by decide +kernel
theorem dX1_succeeds_78 : decode cX1_succeeds 78 = .ok (.iload_n 3, 1) := by decide +kernel
theorem dX1_succeeds_79 : decode cX1_succeeds 79 = .ok (.invokevirtual 8, 3) := by decide +kernel
theorem dX1_succeeds_82 : decode cX1_succeeds 82 = .ok (.ireturn, 1) := by decide +kernel
theorem dX1_succeeds_83 : decode cX1_succeeds 83 = .ok (.aload_n 0, 1) := by decide +kernel
theorem dX1_succeeds_84 : decode cX1_succeeds 84 = .ok (.iload_n 2, 1) := by decide +kernel
theorem dX1_succeeds_85 : decode cX1_succeeds 85 = .ok (.iload_n 3, 1) := by decide +kernel
theorem dX1_succeeds_86 : decode cX1_succeeds 86 = .ok (.invokevirtual 14, 3) := by decide +kernel
theorem dX1_succeeds_89 : decode cX1_succeeds 89 = .ok (.ireturn, 1) := by decide +kernel
theorem dX1_succeeds_90 : decode cX1_succeeds 90 = .ok (.aload_n 0, 1) := by decide +kernel
theorem dX1_succeeds_91 : decode cX1_succeeds 91 = .ok (.iload 4, 2) := by decide +kernel
theorem dX1_succeeds_93 : decode cX1_succeeds 93 = .ok (.invokevirtual 17, 3) := by decide +kernel
theorem dX1_succeeds_96 : decode cX1_succeeds 96 = .ok (.ireturn, 1) := by decide +kernel
theorem dX1_succeeds_97 : decode cX1_succeeds 97 = .ok (.iload 4, 2) := by decide +kernel
theorem dX1_succeeds_99 : decode cX1_succeeds 99 = .ok (.bipush 10, 2) := by decide +kernel
theorem dX1_succeeds_101 : decode cX1_succeeds 101 = .ok (.irem, 1) := by decide +kernel
theorem dX1_succeeds_102 : decode cX1_succeeds 102 = .ok (.ifCond .ne 29, 3) := by decide +kernel
theorem dX1_succeeds_105 : decode cX1_succeeds 105 = .ok (.aload_n 0, 1) := by decide +kernel
theorem dX1_succeeds_106 : decode cX1_succeeds 106 = .ok (.iload 4, 2) := by decide +kernel
theorem dX1_succeeds_108 : decode cX1_succeeds 108 = .ok (.sipush 10000, 3) := by decide +kernel
theorem dX1_succeeds_111 : decode cX1_succeeds 111 = .ok (.idiv, 1) := by decide +kernel
theorem dX1_succeeds_112 : decode cX1_succeeds 112 = .ok (.iload 4, 2) := by decide +kernel
theorem dX1_succeeds_114 : decode cX1_succeeds 114 = .ok (.bipush 10, 2) := by decide +kernel
theorem dX1_succeeds_116 : decode cX1_succeeds 116 = .ok (.idiv, 1) := by decide +kernel
theorem dX1_succeeds_117 : decode cX1_succeeds 117 = .ok (.sipush 1000, 3) := by decide +kernel
theorem dX1_succeeds_120 : decode cX1_succeeds 120 = .ok (.irem, 1) := by decide +kernel
theorem dX1_succeeds_121 : decode cX1_succeeds 121 = .ok (.invokevirtual 21, 3) := by decide +kernel
theorem dX1_succeeds_124 : decode cX1_succeeds 124 = .ok (.ifCond .eq 7, 3) := by decide +kernel
theorem dX1_succeeds_127 : decode cX1_succeeds 127 = .ok (.iconst 1, 1) := by decide +kernel
theorem dX1_succeeds_128 : decode cX1_succeeds 128 = .ok (.goto 4, 3) := by decide +kernel
theorem dX1_succeeds_131 : decode cX1_succeeds 131 = .ok (.iconst 0, 1) := by decide +kernel
theorem dX1_succeeds_132 : decode cX1_succeeds 132 = .ok (.ireturn, 1) := by decide +kernel
theorem dX1_succeeds_133 : decode cX1_succeeds 133 = .ok (.aload_n 0, 1) := by decide +kernel
theorem dX1_succeeds_134 : decode cX1_succeeds 134 = .ok (.iload_n 2, 1) := by decide +kernel
theorem dX1_succeeds_135 : decode cX1_succeeds 135 = .ok (.invokevirtual 24, 3) := by decide +kernel
theorem dX1_succeeds_138 : decode cX1_succeeds 138 = .ok (.ifCond .eq 16, 3) := by decide +kernel
theorem dX1_succeeds_141 : decode cX1_succeeds 141 = .ok (.aload_n 0, 1) := by decide +kernel
theorem dX1_succeeds_142 : decode cX1_succeeds 142 = .ok (.iload_n 2, 1) := by decide +kernel
theorem dX1_succeeds_143 : decode cX1_succeeds 143 = .ok (.invokevirtual 27, 3) := by decide +kernel
theorem dX1_succeeds_146 : decode cX1_succeeds 146 = .ok (.iload_n 3, 1) := by decide +kernel
theorem dX1_succeeds_147 : decode cX1_succeeds 147 = .ok (.if_icmp .ne 7, 3) := by decide +kernel
theorem dX1_succeeds_150 : decode cX1_succeeds 150 = .ok (.iconst 1, 1) := by decide +kernel
theorem dX1_succeeds_151 : decode cX1_succeeds 151 = .ok (.goto 4, 3) := by decide +kernel
theorem dX1_succeeds_154 : decode cX1_succeeds 154 = .ok (.iconst 0, 1) := by decide +kernel
theorem dX1_succeeds_155 : decode cX1_succeeds 155 = .ok (.ireturn, 1) := by decide +kernel
theorem dX1_succeeds_156 : decode cX1_succeeds 156 = .ok (.aload_n 0, 1) := by decide +kernel
theorem dX1_succeeds_157 : decode cX1_succeeds 157 = .ok (.iload_n 2, 1) := by decide +kernel
theorem dX1_succeeds_158 : decode cX1_succeeds 158 = .ok (.invokevirtual 24, 3) := by decide +kernel
theorem dX1_succeeds_161 : decode cX1_succeeds 161 = .ok (.ifCond .eq 16, 3) := by decide +kernel
theorem dX1_succeeds_164 : decode cX1_succeeds 164 = .ok (.aload_n 0, 1) := by decide +kernel
theorem dX1_succeeds_165 : decode cX1_succeeds 165 = .ok (.iload_n 2, 1) := by decide +kernel
theorem dX1_succeeds_166 : decode cX1_succeeds 166 = .ok (.invokevirtual 31, 3) := by decide +kernel
theorem dX1_succeeds_169 : decode cX1_succeeds 169 = .ok (.iload_n 3, 1) := by decide +kernel
theorem dX1_succeeds_170 : decode cX1_succeeds 170 = .ok (.if_icmp .ne 7, 3) := by decide +kernel
theorem dX1_succeeds_173 : decode cX1_succeeds 173 = .ok (.iconst 1, 1) := by decide +kernel
theorem dX1_succeeds_174 : decode cX1_succeeds 174 = .ok (.goto 4, 3) := by decide +kernel
theorem dX1_succeeds_177 : decode cX1_succeeds 177 = .ok (.iconst 0, 1) := by decide +kernel
theorem dX1_succeeds_178 : decode cX1_succeeds 178 = .ok (.ireturn, 1) := by decide +kernel
theorem dX1_succeeds_179 : decode cX1_succeeds 179 = .ok (.aload_n 0, 1) := by decide +kernel
theorem dX1_succeeds_180 : decode cX1_succeeds 180 = .ok (.iload_n 2, 1) := by decide +kernel
theorem dX1_succeeds_181 : decode cX1_succeeds 181 = .ok (.invokevirtual 34, 3) := by decide +kernel
theorem dX1_succeeds_184 : decode cX1_succeeds 184 = .ok (.ifCond .eq 16, 3) := by decide +kernel
theorem dX1_succeeds_187 : decode cX1_succeeds 187 = .ok (.aload_n 0, 1) := by decide +kernel
theorem dX1_succeeds_188 : decode cX1_succeeds 188 = .ok (.iload_n 2, 1) := by decide +kernel
theorem dX1_succeeds_189 : decode cX1_succeeds 189 = .ok (.invokevirtual 37, 3) := by decide +kernel
theorem dX1_succeeds_192 : decode cX1_succeeds 192 = .ok (.iload_n 3, 1) := by decide +kernel
theorem dX1_succeeds_193 : decode cX1_succeeds 193 = .ok (.if_icmp .gt 7, 3) := by decide +kernel
theorem dX1_succeeds_196 : decode cX1_succeeds 196 = .ok (.iconst 1, 1) := by decide +kernel
theorem dX1_succeeds_197 : decode cX1_succeeds 197 = .ok (.goto 4, 3) := by decide +kernel
theorem dX1_succeeds_200 : decode cX1_succeeds 200 = .ok (.iconst 0, 1) := by decide +kernel
theorem dX1_succeeds_201 : decode cX1_succeeds 201 = .ok (.ireturn, 1) := by decide +kernel
theorem dX1_succeeds_202 : decode cX1_succeeds 202 = .ok (.aload_n 0, 1) := by decide +kernel
theorem dX1_succeeds_203 : decode cX1_succeeds 203 = .ok (.invokevirtual 40, 3) := by decide +kernel
theorem dX1_succeeds_206 : decode cX1_succeeds 206 = .ok (.ifCond .eq 24, 3) := by decide +kernel
theorem dX1_succeeds_209 : decode cX1_succeeds 209 = .ok (.iload 4, 2) := by decide +kernel
theorem dX1_succeeds_211 : decode cX1_succeeds 211 = .ok (.aload_n 0, 1) := by decide +kernel
theorem dX1_succeeds_212 : decode cX1_succeeds 212 = .ok (.getfield 44, 3) := by decide +kernel
theorem dX1_succeeds_215 : decode cX1_succeeds 215 = .ok (.ifCond .eq 7, 3) := by decide +kernel
theorem dX1_succeeds_218 : decode cX1_succeeds 218 = .ok (.iconst 1, 1) := by decide +kernel
theorem dX1_succeeds_219 : decode cX1_succeeds 219 = .ok (.goto 4, 3) := by decide +kernel
theorem dX1_succeeds_222 : decode cX1_succeeds 222 = .ok (.iconst 0, 1) := by decide +kernel
theorem dX1_succeeds_223 : decode cX1_succeeds 223 = .ok (.if_icmp .ne 7, 3) := by decide +kernel
theorem dX1_succeeds_226 : decode cX1_succeeds 226 = .ok (.iconst 1, 1) := by decide +kernel
theorem dX1_succeeds_227 : decode cX1_succeeds 227 = .ok (.goto 4, 3) := by decide +kernel
theorem dX1_succeeds_230 : decode cX1_succeeds 230 = .ok (.iconst 0, 1) := by decide +kernel
theorem dX1_succeeds_231 : decode cX1_succeeds 231 = .ok (.ireturn, 1) := by decide +kernel
theorem dX1_succeeds_232 : decode cX1_succeeds 232 = .ok (.aload_n 0, 1) := by decide +kernel
theorem dX1_succeeds_233 : decode cX1_succeeds 233 = .ok (.invokevirtual 40, 3) := by decide +kernel
theorem dX1_succeeds_236 : decode cX1_succeeds 236 = .ok (.ifCond .eq 16, 3) := by decide +kernel
theorem dX1_succeeds_239 : decode cX1_succeeds 239 = .ok (.iload 4, 2) := by decide +kernel
theorem dX1_succeeds_241 : decode cX1_succeeds 241 = .ok (.aload_n 0, 1) := by decide +kernel
theorem dX1_succeeds_242 : decode cX1_succeeds 242 = .ok (.getfield 48, 3) := by decide +kernel
theorem dX1_succeeds_245 : decode cX1_succeeds 245 = .ok (.if_icmp .ne 7, 3) := by decide +kernel
theorem dX1_succeeds_248 : decode cX1_succeeds 248 = .ok (.iconst 1, 1) := by decide +kernel
theorem dX1_succeeds_249 : decode cX1_succeeds 249 = .ok (.goto 4, 3) := by decide +kernel
theorem dX1_succeeds_252 : decode cX1_succeeds 252 = .ok (.iconst 0, 1) := by decide +kernel
theorem dX1_succeeds_253 : decode cX1_succeeds 253 = .ok (.ireturn, 1) := by decide +kernel
theorem dX1_succeeds_254 : decode cX1_succeeds 254 = .ok (.iconst 0, 1) := by decide +kernel
theorem dX1_succeeds_255 : decode cX1_succeeds 255 = .ok (.ireturn, 1) := by decide +kernel
theorem dX2_init_0 : decode cX2_init 0 = .ok (.aload_n 0, 1) := by decide +kernel
theorem dX2_init_1 : decode cX2_init 1 = .ok (.invokespecial 1, 3) := by decide +kernel
theorem dX2_init_4 : decode cX2_init 4 = .ok (.aload_n 0, 1) := by decide +kernel
theorem dX2_init_5 : decode cX2_init 5 = .ok (.iconst 2, 1) := by decide +kernel
theorem dX2_init_6 : decode cX2_init 6 = .ok (.anewarray 9, 3) := by decide +kernel
theorem dX2_init_9 : decode cX2_init 9 = .ok (.putfield 11, 3) := by decide +kernel
theorem dX2_init_12 : decode cX2_init 12 = .ok (.aload_n 0, 1) := by decide +kernel
theorem dX2_init_13 : decode cX2_init 13 = .ok (.iconst 2, 1) := by decide +kernel
theorem dX2_init_14 : decode cX2_init 14 = .ok (.newarray .boolean, 2) := by decide +kernel
theorem dX2_init_16 : decode cX2_init 16 = .ok (.putfield 15, 3) := by decide +kernel
theorem dX2_init_19 : decode cX2_init 19 = .ok (.return_, 1) := by decide +kernel
theorem dX2_has_0 : decode cX2_has 0 = .ok (.iload_n 0, 1) := by decide +kernel
theorem dX2_has_1 : decode cX2_has 1 = .ok (.ifCond .lt 12, 3) := by decide +kernel
theorem dX2_has_4 : decode cX2_has 4 = .ok (.iload_n 0, 1) := by decide +kernel
theorem dX2_has_5 : decode cX2_has 5 = .ok (.iconst 2, 1) := by decide +kernel
theorem dX2_has_6 : decode cX2_has 6 = .ok (.if_icmp .ge 7, 3) := by decide +kernel
theorem dX2_has_9 : decode cX2_has 9 = .ok (.iconst 1, 1) := by decide +kernel
theorem dX2_has_10 : decode cX2_has 10 = .ok (.goto 4, 3) := by decide +kernel
theorem dX2_has_13 : decode cX2_has 13 = .ok (.iconst 0, 1) := by decide +kernel
theorem dX2_has_14 : decode cX2_has 14 = .ok (.ireturn, 1) := by decide +kernel
theorem dX2_forgetAll_0 : decode cX2_forgetAll 0 = .ok (.iconst 0, 1) := by decide +kernel
theorem dX2_forgetAll_1 : decode cX2_forgetAll 1 = .ok (.istore_n 1, 1) := by decide +kernel
theorem dX2_forgetAll_2 : decode cX2_forgetAll 2 = .ok (.iload_n 1, 1) := by decide +kernel
theorem dX2_forgetAll_3 : decode cX2_forgetAll 3 = .ok (.iconst 2, 1) := by decide +kernel
theorem dX2_forgetAll_4 : decode cX2_forgetAll 4 = .ok (.if_icmp .ge 16, 3) := by decide +kernel
theorem dX2_forgetAll_7 : decode cX2_forgetAll 7 = .ok (.aload_n 0, 1) := by decide +kernel
theorem dX2_forgetAll_8 : decode cX2_forgetAll 8 = .ok (.getfield 15, 3) := by decide +kernel
theorem dX2_forgetAll_11 : decode cX2_forgetAll 11 = .ok (.iload_n 1, 1) := by decide +kernel
theorem dX2_forgetAll_12 : decode cX2_forgetAll 12 = .ok (.iconst 0, 1) := by decide +kernel
theorem dX2_forgetAll_13 : decode cX2_forgetAll 13 = .ok (.bastore, 1) := by decide +kernel
theorem dX2_forgetAll_14 : decode cX2_forgetAll 14 = .ok (.iinc 1 1, 3) := by decide +kernel
theorem dX2_forgetAll_17 : decode cX2_forgetAll 17 = .ok (.goto (-15), 3) := by decide +kernel
theorem dX2_forgetAll_20 : decode cX2_forgetAll 20 = .ok (.return_, 1) := by decide +kernel
set_option maxRecDepth 20000 in
theorem ggX2_keep_X2_has : GoodIn wsX2_keep wsX2_has := goodIn_r _ [9] (by decide +kernel) (by decide +kernel)
set_option maxRecDepth 20000 in
theorem gX2_keep_X2_has : GoodIn wsX2_keep (va_wsS RX2 19 yX2_has wsX2_has) := goodIn_app (goodIn_of _ (by decide +kernel)) ggX2_keep_X2_has
set_option maxRecDepth 20000 in
theorem ggX2_keep_X3_init : GoodIn wsX2_keep wsX3_init := goodIn_r _ [11, 12, 13, 14, 15, 16, 17, 18, 19, 41, 42, 43, 44, 45, 46, 47, 48, 49, 50, 51, 52, 53, 54, 55] (by decide +kernel) (by decide +kernel)
set_option maxRecDepth 20000 in
theorem gX2_keep_X3_init_n23 : GoodIn wsX2_keep (wsX3_init) := ggX2_keep_X3_init
set_option maxRecDepth 20000 in
theorem ggX2_keep_X3_copyFrom : GoodIn wsX2_keep wsX3_copyFrom := goodIn_r _ [23, 24, 25, 26, 27, 28, 29, 30, 31, 32, 33, 34, 15, 16, 18, 35, 36, 37, 38, 19, 41, 42, 43, 44, 45, 46, 47, 48, 49, 50, 51, 52, 53, 54, 55] (by decide +kernel) (by decide +kernel)
set_option maxRecDepth 20000 in
theorem gX2_keep_X3_copyFrom : GoodIn wsX2_keep (wsV RX2 24 RX3 yX3_copyFrom wsX3_copyFrom) := goodIn_app (goodIn_of _ (by decide +kernel)) ggX2_keep_X3_copyFrom
theorem dX2_keep_0 : decode cX2_keep 0 = .ok (.iload_n 1, 1) := by decide +kernel
theorem dX2_keep_1 : decode cX2_keep 1 = .ok (.invokestatic 19, 3) := by decide +kernel
theorem dX2_keep_4 : decode cX2_keep 4 = .ok (.ifCond .ne 4, 3) := by decide +kernel
theorem dX2_keep_7 : decode cX2_keep 7 = .ok (.return_, 1) := by decide +kernel
theorem dX2_keep_8 : decode cX2_keep 8 = .ok (.aload_n 0, 1) := by decide +kernel
theorem dX2_keep_9 : decode cX2_keep 9 = .ok (.getfield 11, 3) := by decide +kernel
theorem dX2_keep_12 : decode cX2_keep 12 = .ok (.iload_n 1, 1) := by decide +kernel
theorem dX2_keep_13 : decode cX2_keep 13 = .ok (.aaload, 1) := by decide +kernel
theorem dX2_keep_14 : decode cX2_keep 14 = .ok (.ifnonnull 16, 3) := by decide +kernel
theorem dX2_keep_17 : decode cX2_keep 17 = .ok (.aload_n 0, 1) := by decide +kernel
theorem dX2_keep_18 : decode cX2_keep 18 = .ok (.getfield 11, 3) := by decide +kernel
theorem dX2_keep_21 : decode cX2_keep 21 = .ok (.iload_n 1, 1) := by decide +kernel
theorem dX2_keep_22 : decode cX2_keep 22 = .ok (.new 9, 3) := by decide +kernel
theorem dX2_keep_25 : decode cX2_keep 25 = .ok (.dup, 1) := by decide +kernel
theorem dX2_keep_26 : decode cX2_keep 26 = .ok (.invokespecial 23, 3) := by decide +kernel
theorem dX2_keep_29 : decode cX2_keep 29 = .ok (.aastore, 1) := by decide +kernel
theorem dX2_keep_30 : decode cX2_keep 30 = .ok (.aload_n 0, 1) := by decide +kernel
theorem dX2_keep_31 : decode cX2_keep 31 = .ok (.getfield 11, 3) := by decide +kernel
theorem dX2_keep_34 : decode cX2_keep 34 = .ok (.iload_n 1, 1) := by decide +kernel
theorem dX2_keep_35 : decode cX2_keep 35 = .ok (.aaload, 1) := by decide +kernel
theorem dX2_keep_36 : decode cX2_keep 36 = .ok (.aload_n 2, 1) := by decide +kernel
theorem dX2_keep_37 : decode cX2_keep 37 = .ok (.invokevirtual 24, 3) := by decide +kernel
theorem dX2_keep_40 : decode cX2_keep 40 = .ok (.aload_n 0, 1) := by decide +kernel
theorem dX2_keep_41 : decode cX2_keep 41 = .ok (.getfield 15, 3) := by decide +kernel
theorem dX2_keep_44 : decode cX2_keep 44 = .ok (.iload_n 1, 1) := by decide +kernel
theorem dX2_keep_45 : decode cX2_keep 45 = .ok (.iconst 1, 1) := by decide +kernel
theorem dX2_keep_46 : decode cX2_keep 46 = .ok (.bastore, 1) := by decide +kernel
theorem dX2_keep_47 : decode cX2_keep 47 = .ok (.return_, 1) := by decide +kernel
set_option maxRecDepth 20000 in
theorem ggX2_bringBack_X2_has : GoodIn wsX2_bringBack wsX2_has := goodIn_r _ [6] (by decide +kernel) (by decide +kernel)
set_option maxRecDepth 20000 in
theorem gX2_bringBack_X2_has : GoodIn wsX2_bringBack (va_wsS RX2 19 yX2_has wsX2_has) := goodIn_app (goodIn_of _ (by decide +kernel)) ggX2_bringBack_X2_has
set_option maxRecDepth 20000 in
theorem ggX2_bringBack_X3_copyFrom : GoodIn wsX2_bringBack wsX3_copyFrom := goodIn_r _ [11, 12, 13, 14, 15, 16, 17, 18, 19, 20, 21, 22, 23, 24, 25, 26, 27, 28, 29, 30, 33, 34, 35, 36, 37, 38, 39, 40, 41, 42, 43, 44, 45, 46, 47] (by decide +kernel) (by decide +kernel)
set_option maxRecDepth 20000 in
theorem gX2_bringBack_X3_copyFrom : GoodIn wsX2_bringBack (wsV RX2 24 RX3 yX3_copyFrom wsX3_copyFrom) := goodIn_app (goodIn_of _ (by decide +kernel)) ggX2_bringBack_X3_copyFrom
theorem dX2_bringBack_0 : decode cX2_bringBack 0 = .ok (.iload_n 1, 1) := by decide +kernel
theorem dX2_bringBack_1 : decode cX2_bringBack 1 = .ok (.invokestatic 19, 3) := by decide +kernel
theorem dX2_bringBack_4 : decode cX2_bringBack 4 = .ok (.ifCond .eq 21, 3) := by decide +kernel
theorem dX2_bringBack_7 : decode cX2_bringBack 7 = .ok (.aload_n 0, 1) := by decide +kernel
theorem dX2_bringBack_8 : decode cX2_bringBack 8 = .ok (.getfield 15, 3) := by decide +kernel
theorem dX2_bringBack_11 : decode cX2_bringBack 11 = .ok (.iload_n 1, 1) := by decide +kernel
theorem dX2_bringBack_12 : decode cX2_bringBack 12 = .ok (.baload, 1) := by decide +kernel
theorem dX2_bringBack_13 : decode cX2_bringBack 13 = .ok (.ifCond .eq 12, 3) := by decide +kernel
theorem dX2_bringBack_16 : decode cX2_bringBack 16 = .ok (.aload_n 0, 1) := by decide +kernel
theorem dX2_bringBack_17 : decode cX2_bringBack 17 = .ok (.getfield 11, 3) := by decide +kernel
theorem dX2_bringBack_20 : decode cX2_bringBack 20 = .ok (.iload_n 1, 1) := by decide +kernel
theorem dX2_bringBack_21 : decode cX2_bringBack 21 = .ok (.aaload, 1) := by decide +kernel
theorem dX2_bringBack_22 : decode cX2_bringBack 22 = .ok (.ifnonnull 5, 3) := by decide +kernel
theorem dX2_bringBack_25 : decode cX2_bringBack 25 = .ok (.iconst 0, 1) := by decide +kernel
theorem dX2_bringBack_26 : decode cX2_bringBack 26 = .ok (.ireturn, 1) := by decide +kernel
theorem dX2_bringBack_27 : decode cX2_bringBack 27 = .ok (.aload_n 2, 1) := by decide +kernel
theorem dX2_bringBack_28 : decode cX2_bringBack 28 = .ok (.aload_n 0, 1) := by decide +kernel
theorem dX2_bringBack_29 : decode cX2_bringBack 29 = .ok (.getfield 11, 3) := by decide +kernel
theorem dX2_bringBack_32 : decode cX2_bringBack 32 = .ok (.iload_n 1, 1) := by decide +kernel
theorem dX2_bringBack_33 : decode cX2_bringBack 33 = .ok (.aaload, 1) := by decide +kernel
theorem dX2_bringBack_34 : decode cX2_bringBack 34 = .ok (.invokevirtual 24, 3) := by decide +kernel
theorem dX2_bringBack_37 : decode cX2_bringBack 37 = .ok (.iconst 1, 1) := by decide +kernel
theorem dX2_bringBack_38 : decode cX2_bringBack 38 = .ok (.ireturn, 1) := by decide +kernel
theorem dX3_init_0 : decode cX3_init 0 = .ok (.aload_n 0, 1) := by decide +kernel
theorem dX3_init_1 : decode cX3_init 1 = .ok (.invokespecial 3, 3) := by decide +kernel
theorem dX3_init_4 : decode cX3_init 4 = .ok (.aload_n 0, 1) := by decide +kernel
theorem dX3_init_5 : decode cX3_init 5 = .ok (.bipush 100, 2) := by decide +kernel
theorem dX3_init_7 : decode cX3_init 7 = .ok (.putfield 9, 3) := by decide +kernel
theorem dX3_init_10 : decode cX3_init 10 = .ok (.aload_n 0, 1) := by decide +kernel
theorem dX3_init_11 : decode cX3_init 11 = .ok (.bipush 8, 2) := by decide +kernel
theorem dX3_init_13 : decode cX3_init 13 = .ok (.putfield 15, 3) := by decide +kernel
theorem dX3_init_16 : decode cX3_init 16 = .ok (.aload_n 0, 1) := by decide +kernel
theorem dX3_init_17 : decode cX3_init 17 = .ok (.bipush 32, 2) := by decide +kernel
theorem dX3_init_19 : decode cX3_init 19 = .ok (.newarray .int, 2) := by decide +kernel
theorem dX3_init_21 : decode cX3_init 21 = .ok (.putfield 18, 3) := by decide +kernel
theorem dX3_init_24 : decode cX3_init 24 = .ok (.aload_n 0, 1) := by decide +kernel
theorem dX3_init_25 : decode cX3_init 25 = .ok (.bipush 33, 2) := by decide +kernel
theorem dX3_init_27 : decode cX3_init 27 = .ok (.newarray .int, 2) := by decide +kernel
theorem dX3_init_29 : decode cX3_init 29 = .ok (.putfield 22, 3) := by decide +kernel
theorem dX3_init_32 : decode cX3_init 32 = .ok (.return_, 1) := by decide +kernel
theorem dX3_copyFrom_0 : decode cX3_copyFrom 0 = .ok (.aload_n 0, 1) := by decide +kernel
theorem dX3_copyFrom_1 : decode cX3_copyFrom 1 = .ok (.aload_n 1, 1) := by decide +kernel
theorem dX3_copyFrom_2 : decode cX3_copyFrom 2 = .ok (.getfield 25, 3) := by decide +kernel
theorem dX3_copyFrom_5 : decode cX3_copyFrom 5 = .ok (.putfield 25, 3) := by decide +kernel
theorem dX3_copyFrom_8 : decode cX3_copyFrom 8 = .ok (.aload_n 0, 1) := by decide +kernel
theorem dX3_copyFrom_9 : decode cX3_copyFrom 9 = .ok (.aload_n 1, 1) := by decide +kernel
theorem dX3_copyFrom_10 : decode cX3_copyFrom 10 = .ok (.getfield 28, 3) := by decide +kernel
theorem dX3_copyFrom_13 : decode cX3_copyFrom 13 = .ok (.putfield 28, 3) := by decide +kernel
theorem dX3_copyFrom_16 : decode cX3_copyFrom 16 = .ok (.aload_n 0, 1) := by decide +kernel
theorem dX3_copyFrom_17 : decode cX3_copyFrom 17 = .ok (.aload_n 1, 1) := by decide +kernel
theorem dX3_copyFrom_18 : decode cX3_copyFrom 18 = .ok (.getfield 31, 3) := by decide +kernel
theorem dX3_copyFrom_21 : decode cX3_copyFrom 21 = .ok (.putfield 31, 3) := by decide +kernel
theorem dX3_copyFrom_24 : decode cX3_copyFrom 24 = .ok (.aload_n 0, 1) := by decide +kernel
theorem dX3_copyFrom_25 : decode cX3_copyFrom 25 = .ok (.aload_n 1, 1) := by decide +kernel
theorem dX3_copyFrom_26 : decode cX3_copyFrom 26 = .ok (.getfield 34, 3) := by decide +kernel
theorem dX3_copyFrom_29 : decode cX3_copyFrom 29 = .ok (.putfield 34, 3) := by decide +kernel
theorem dX3_copyFrom_32 : decode cX3_copyFrom 32 = .ok (.aload_n 0, 1) := by decide +kernel
theorem dX3_copyFrom_33 : decode cX3_copyFrom 33 = .ok (.aload_n 1, 1) := by decide +kernel
theorem dX3_copyFrom_34 : decode cX3_copyFrom 34 = .ok (.getfield 37, 3) := by decide +kernel
theorem dX3_copyFrom_37 : decode cX3_copyFrom 37 = .ok (.putfield 37, 3) := by decide +kernel
theorem dX3_copyFrom_40 : decode cX3_copyFrom 40 = .ok (.aload_n 0, 1) := by decide +kernel
theorem dX3_copyFrom_41 : decode cX3_copyFrom 41 = .ok (.aload_n 1, 1) := by decide +kernel
theorem dX3_copyFrom_42 : decode cX3_copyFrom 42 = .ok (.getfield 40, 3) := by decide +kernel
theorem dX3_copyFrom_45 : decode cX3_copyFrom 45 = .ok (.putfield 40, 3) := by decide +kernel
theorem dX3_copyFrom_48 : decode cX3_copyFrom 48 = .ok (.aload_n 0, 1) := by decide +kernel
theorem dX3_copyFrom_49 : decode cX3_copyFrom 49 = .ok (.aload_n 1, 1) := by decide +kernel
theorem dX3_copyFrom_50 : decode cX3_copyFrom 50 = .ok (.getfield 43, 3) := by decide +kernel
theorem dX3_copyFrom_53 : decode cX3_copyFrom 53 = .ok (.putfield 43, 3) := by decide +kernel
theorem dX3_copyFrom_56 : decode cX3_copyFrom 56 = .ok (.aload_n 0, 1) := by decide +kernel
theorem dX3_copyFrom_57 : decode cX3_copyFrom 57 = .ok (.aload_n 1, 1) := by decide +kernel
theorem dX3_copyFrom_58 : decode cX3_copyFrom 58 = .ok (.getfield 46, 3) := by decide +kernel
theorem dX3_copyFrom_61 : decode cX3_copyFrom 61 = .ok (.putfield 46, 3) := by decide +kernel
theorem dX3_copyFrom_64 : decode cX3_copyFrom 64 = .ok (.aload_n 0, 1) := by decide +kernel
theorem dX3_copyFrom_65 : decode cX3_copyFrom 65 = .ok (.aload_n 1, 1) := by decide +kernel
theorem dX3_copyFrom_66 : decode cX3_copyFrom 66 = .ok (.getfield 49, 3) := by decide +kernel
theorem dX3_copyFrom_69 : decode cX3_copyFrom 69 = .ok (.putfield 49, 3) := by decide +kernel
theorem dX3_copyFrom_72 : decode cX3_copyFrom 72 = .ok (.aload_n 0, 1) := by decide +kernel
theorem dX3_copyFrom_73 : decode cX3_copyFrom 73 = .ok (.aload_n 1, 1) := by decide +kernel
theorem dX3_copyFrom_74 : decode cX3_copyFrom 74 = .ok (.getfield 52, 3) := by decide +kernel
theorem dX3_copyFrom_77 : decode cX3_copyFrom 77 = .ok (.putfield 52, 3) := by decide +kernel
theorem dX3_copyFrom_80 : decode cX3_copyFrom 80 = .ok (.aload_n 0, 1) := by decide +kernel
theorem dX3_copyFrom_81 : decode cX3_copyFrom 81 = .ok (.aload_n 1, 1) := by decide +kernel
theorem dX3_copyFrom_82 : decode cX3_copyFrom 82 = .ok (.getfield 55, 3) := by decide +kernel
theorem dX3_copyFrom_85 : decode cX3_copyFrom 85 = .ok (.putfield 55, 3) := by decide +kernel
theorem dX3_copyFrom_88 : decode cX3_copyFrom 88 = .ok (.aload_n 0, 1) := by decide +kernel
theorem dX3_copyFrom_89 : decode cX3_copyFrom 89 = .ok (.aload_n 1, 1) := by decide +kernel
theorem dX3_copyFrom_90 : decode cX3_copyFrom 90 = .ok (.getfield 9, 3) := by decide +kernel
theorem dX3_copyFrom_93 : decode cX3_copyFrom 93 = .ok (.putfield 9, 3) := by decide +kernel
theorem dX3_copyFrom_96 : decode cX3_copyFrom 96 = .ok (.aload_n 0, 1) := by decide +kernel
theorem dX3_copyFrom_97 : decode cX3_copyFrom 97 = .ok (.aload_n 1, 1) := by decide +kernel
theorem dX3_copyFrom_98 : decode cX3_copyFrom 98 = .ok (.getfield 15, 3) := by decide +kernel
theorem dX3_copyFrom_101 : decode cX3_copyFrom 101 = .ok (.putfield 15, 3) := by decide +kernel
theorem dX3_copyFrom_104 : decode cX3_copyFrom 104 = .ok (.aload_n 1, 1) := by decide +kernel
theorem dX3_copyFrom_105 : decode cX3_copyFrom 105 = .ok (.getfield 18, 3) := by decide +kernel
theorem dX3_copyFrom_108 : decode cX3_copyFrom 108 = .ok (.iconst 0, 1) := by decide +kernel
theorem dX3_copyFrom_109 : decode cX3_copyFrom 109 = .ok (.aload_n 0, 1) := by decide +kernel
theorem dX3_copyFrom_110 : decode cX3_copyFrom 110 = .ok (.getfield 18, 3) := by decide +kernel
theorem dX3_copyFrom_113 : decode cX3_copyFrom 113 = .ok (.iconst 0, 1) := by decide +kernel
theorem dX3_copyFrom_114 : decode cX3_copyFrom 114 = .ok (.bipush 32, 2) := by decide +kernel
theorem dX3_copyFrom_116 : decode cX3_copyFrom 116 = .ok (.invokestatic 59, 3) := by decide +kernel
theorem dX3_copyFrom_119 : decode cX3_copyFrom 119 = .ok (.aload_n 1, 1) := by decide +kernel
theorem dX3_copyFrom_120 : decode cX3_copyFrom 120 = .ok (.getfield 22, 3) := by decide +kernel
theorem dX3_copyFrom_123 : decode cX3_copyFrom 123 = .ok (.iconst 0, 1) := by decide +kernel
theorem dX3_copyFrom_124 : decode cX3_copyFrom 124 = .ok (.aload_n 0, 1) := by decide +kernel
theorem dX3_copyFrom_125 : decode cX3_copyFrom 125 = .ok (.getfield 22, 3) := by decide +kernel
theorem dX3_copyFrom_128 : decode cX3_copyFrom 128 = .ok (.iconst 0, 1) := by decide +kernel
theorem dX3_copyFrom_129 : decode cX3_copyFrom 129 = .ok (.bipush 33, 2) := by decide +kernel
theorem dX3_copyFrom_131 : decode cX3_copyFrom 131 = .ok (.invokestatic 59, 3) := by decide +kernel
theorem dX3_copyFrom_134 : decode cX3_copyFrom 134 = .ok (.return_, 1) := by decide +kernel
set_option maxRecDepth 20000 in
theorem ggX3_beginAnew_X3_begin : GoodIn wsX3_beginAnew wsX3_begin := goodIn_r _ [7, 8, 9, 10, 11, 12, 13, 14, 15, 16, 17, 18, 19, 20, 21, 22, 23, 24, 25, 26, 27, 28, 29, 30, 31, 32, 33, 34, 35] (by decide +kernel) (by decide +kernel)
set_option maxRecDepth 20000 in
theorem gX3_beginAnew_X3_begin : GoodIn wsX3_beginAnew (wsV RX3 65 RX3 yX3_begin wsX3_begin) := goodIn_app (goodIn_of _ (by decide +kernel)) ggX3_beginAnew_X3_begin
theorem dX3_beginAnew_0 : decode cX3_beginAnew 0 = .ok (.aload_n 0, 1) := by decide +kernel
theorem dX3_beginAnew_1 : decode cX3_beginAnew 1 = .ok (.iconst 0, 1) := by decide +kernel
theorem dX3_beginAnew_2 : decode cX3_beginAnew 2 = .ok (.iconst 0, 1) := by decide +kernel
theorem dX3_beginAnew_3 : decode cX3_beginAnew 3 = .ok (.iconst 0, 1) := by decide +kernel
theorem dX3_beginAnew_4 : decode cX3_beginAnew 4 = .ok (.invokevirtual 65, 3) := by decide +kernel
theorem dX3_beginAnew_7 : decode cX3_beginAnew 7 = .ok (.aload_n 0, 1) := by decide +kernel
theorem dX3_beginAnew_8 : decode cX3_beginAnew 8 = .ok (.bipush 100, 2) := by decide +kernel
theorem dX3_beginAnew_10 : decode cX3_beginAnew 10 = .ok (.putfield 9, 3) := by decide +kernel
theorem dX3_beginAnew_13 : decode cX3_beginAnew 13 = .ok (.aload_n 0, 1) := by decide +kernel
theorem dX3_beginAnew_14 : decode cX3_beginAnew 14 = .ok (.bipush 8, 2) := by decide +kernel
theorem dX3_beginAnew_16 : decode cX3_beginAnew 16 = .ok (.putfield 15, 3) := by decide +kernel
theorem dX3_beginAnew_19 : decode cX3_beginAnew 19 = .ok (.return_, 1) := by decide +kernel
theorem dX3_begin_0 : decode cX3_begin 0 = .ok (.aload_n 0, 1) := by decide +kernel
theorem dX3_begin_1 : decode cX3_begin 1 = .ok (.iload_n 1, 1) := by decide +kernel
theorem dX3_begin_2 : decode cX3_begin 2 = .ok (.putfield 25, 3) := by decide +kernel
theorem dX3_begin_5 : decode cX3_begin 5 = .ok (.aload_n 0, 1) := by decide +kernel
theorem dX3_begin_6 : decode cX3_begin 6 = .ok (.iload_n 2, 1) := by decide +kernel
theorem dX3_begin_7 : decode cX3_begin 7 = .ok (.putfield 28, 3) := by decide +kernel
theorem dX3_begin_10 : decode cX3_begin 10 = .ok (.aload_n 0, 1) := by decide +kernel
theorem dX3_begin_11 : decode cX3_begin 11 = .ok (.iconst 0, 1) := by decide +kernel
theorem dX3_begin_12 : decode cX3_begin 12 = .ok (.putfield 31, 3) := by decide +kernel
theorem dX3_begin_15 : decode cX3_begin 15 = .ok (.aload_n 0, 1) := by decide +kernel
theorem dX3_begin_16 : decode cX3_begin 16 = .ok (.iload_n 1, 1) := by decide +kernel
theorem dX3_begin_17 : decode cX3_begin 17 = .ok (.putfield 34, 3) := by decide +kernel
theorem dX3_begin_20 : decode cX3_begin 20 = .ok (.aload_n 0, 1) := by decide +kernel
theorem dX3_begin_21 : decode cX3_begin 21 = .ok (.iload_n 3, 1) := by decide +kernel
theorem dX3_begin_22 : decode cX3_begin 22 = .ok (.putfield 37, 3) := by decide +kernel
theorem dX3_begin_25 : decode cX3_begin 25 = .ok (.aload_n 0, 1) := by decide +kernel
theorem dX3_begin_26 : decode cX3_begin 26 = .ok (.iconst 0, 1) := by decide +kernel
theorem dX3_begin_27 : decode cX3_begin 27 = .ok (.putfield 40, 3) := by decide +kernel
theorem dX3_begin_30 : decode cX3_begin 30 = .ok (.aload_n 0, 1) := by decide +kernel
theorem dX3_begin_31 : decode cX3_begin 31 = .ok (.iconst 0, 1) := by decide +kernel
theorem dX3_begin_32 : decode cX3_begin 32 = .ok (.putfield 43, 3) := by decide +kernel
theorem dX3_begin_35 : decode cX3_begin 35 = .ok (.aload_n 0, 1) := by decide +kernel
theorem dX3_begin_36 : decode cX3_begin 36 = .ok (.iconst 0, 1) := by decide +kernel
theorem dX3_begin_37 : decode cX3_begin 37 = .ok (.putfield 46, 3) := by decide +kernel
theorem dX3_begin_40 : decode cX3_begin 40 = .ok (.aload_n 0, 1) := by decide +kernel
theorem dX3_begin_41 : decode cX3_begin 41 = .ok (.iconst 0, 1) := by decide +kernel
theorem dX3_begin_42 : decode cX3_begin 42 = .ok (.putfield 49, 3) := by decide +kernel
theorem dX3_begin_45 : decode cX3_begin 45 = .ok (.aload_n 0, 1) := by decide +kernel
theorem dX3_begin_46 : decode cX3_begin 46 = .ok (.iconst 0, 1) := by decide +kernel
theorem dX3_begin_47 : decode cX3_begin 47 = .ok (.putfield 52, 3) := by decide +kernel
theorem dX3_begin_50 : decode cX3_begin 50 = .ok (.aload_n 0, 1) := by decide +kernel
theorem dX3_begin_51 : decode cX3_begin 51 = .ok (.iconst 0, 1) := by decide +kernel
theorem dX3_begin_52 : decode cX3_begin 52 = .ok (.putfield 55, 3) := by decide +kernel
theorem dX3_begin_55 : decode cX3_begin 55 = .ok (.iconst 0, 1) := by decide +kernel
theorem dX3_begin_56 : decode cX3_begin 56 = .ok (.istore 4, 2) := by decide +kernel
theorem dX3_begin_58 : decode cX3_begin 58 = .ok (.iload 4, 2) := by decide +kernel
theorem dX3_begin_60 : decode cX3_begin 60 = .ok (.aload_n 0, 1) := by decide +kernel
theorem dX3_begin_61 : decode cX3_begin 61 = .ok (.getfield 18, 3) := by decide +kernel
theorem dX3_begin_64 : decode cX3_begin 64 = .ok (.arraylength, 1) := by decide +kernel
theorem dX3_begin_65 : decode cX3_begin 65 = .ok (.if_icmp .ge 17, 3) := by decide +kernel
theorem dX3_begin_68 : decode cX3_begin 68 = .ok (.aload_n 0, 1) := by decide +kernel
theorem dX3_begin_69 : decode cX3_begin 69 = .ok (.getfield 18, 3) := by decide +kernel
theorem dX3_begin_72 : decode cX3_begin 72 = .ok (.iload 4, 2) := by decide +kernel
theorem dX3_begin_74 : decode cX3_begin 74 = .ok (.iconst 0, 1) := by decide +kernel
theorem dX3_begin_75 : decode cX3_begin 75 = .ok (.iastore, 1) := by decide +kernel
theorem dX3_begin_76 : decode cX3_begin 76 = .ok (.iinc 4 1, 3) := by decide +kernel
theorem dX3_begin_79 : decode cX3_begin 79 = .ok (.goto (-21), 3) := by decide +kernel
theorem dX3_begin_82 : decode cX3_begin 82 = .ok (.iconst 0, 1) := by decide +kernel
theorem dX3_begin_83 : decode cX3_begin 83 = .ok (.istore 4, 2) := by decide +kernel
theorem dX3_begin_85 : decode cX3_begin 85 = .ok (.iload 4, 2) := by decide +kernel
theorem dX3_begin_87 : decode cX3_begin 87 = .ok (.aload_n 0, 1) := by decide +kernel
theorem dX3_begin_88 : decode cX3_begin 88 = .ok (.getfield 22, 3) := by decide +kernel
theorem dX3_begin_91 : decode cX3_begin 91 = .ok (.arraylength, 1) := by decide +kernel
theorem dX3_begin_92 : decode cX3_begin 92 = .ok (.if_icmp .ge 17, 3) := by decide +kernel
theorem dX3_begin_95 : decode cX3_begin 95 = .ok (.aload_n 0, 1) := by decide +kernel
theorem dX3_begin_96 : decode cX3_begin 96 = .ok (.getfield 22, 3) := by decide +kernel
theorem dX3_begin_99 : decode cX3_begin 99 = .ok (.iload 4, 2) := by decide +kernel
theorem dX3_begin_101 : decode cX3_begin 101 = .ok (.iconst 0, 1) := by decide +kernel
theorem dX3_begin_102 : decode cX3_begin 102 = .ok (.iastore, 1) := by decide +kernel
theorem dX3_begin_103 : decode cX3_begin 103 = .ok (.iinc 4 1, 3) := by decide +kernel
theorem dX3_begin_106 : decode cX3_begin 106 = .ok (.goto (-21), 3) := by decide +kernel
theorem dX3_begin_109 : decode cX3_begin 109 = .ok (.return_, 1) := by decide +kernel
theorem dX3_exists_0 : decode cX3_exists 0 = .ok (.aload_n 0, 1) := by decide +kernel
theorem dX3_exists_1 : decode cX3_exists 1 = .ok (.getfield 25, 3) := by decide +kernel
theorem dX3_exists_4 : decode cX3_exists 4 = .ok (.ifCond .le 7, 3) := by decide +kernel
theorem dX3_exists_7 : decode cX3_exists 7 = .ok (.iconst 1, 1) := by decide +kernel
theorem dX3_exists_8 : decode cX3_exists 8 = .ok (.goto 4, 3) := by decide +kernel
theorem dX3_exists_11 : decode cX3_exists 11 = .ok (.iconst 0, 1) := by decide +kernel
theorem dX3_exists_12 : decode cX3_exists 12 = .ok (.ireturn, 1) := by decide +kernel
theorem dX3_hasLine_0 : decode cX3_hasLine 0 = .ok (.iload_n 1, 1) := by decide +kernel
theorem dX3_hasLine_1 : decode cX3_hasLine 1 = .ok (.ifCond .lt 15, 3) := by decide +kernel
theorem dX3_hasLine_4 : decode cX3_hasLine 4 = .ok (.iload_n 1, 1) := by decide +kernel
theorem dX3_hasLine_5 : decode cX3_hasLine 5 = .ok (.aload_n 0, 1) := by decide +kernel
theorem dX3_hasLine_6 : decode cX3_hasLine 6 = .ok (.getfield 25, 3) := by decide +kernel
theorem dX3_hasLine_9 : decode cX3_hasLine 9 = .ok (.if_icmp .ge 7, 3) := by decide +kernel
theorem dX3_hasLine_12 : decode cX3_hasLine 12 = .ok (.iconst 1, 1) := by decide +kernel
theorem dX3_hasLine_13 : decode cX3_hasLine 13 = .ok (.goto 4, 3) := by decide +kernel
theorem dX3_hasLine_16 : decode cX3_hasLine 16 = .ok (.iconst 0, 1) := by decide +kernel
theorem dX3_hasLine_17 : decode cX3_hasLine 17 = .ok (.ireturn, 1) := by decide +kernel
theorem dX3_hasPlace_0 : decode cX3_hasPlace 0 = .ok (.aload_n 0, 1) := by decide +kernel
theorem dX3_hasPlace_1 : decode cX3_hasPlace 1 = .ok (.getfield 25, 3) := by decide +kernel
theorem dX3_hasPlace_4 : decode cX3_hasPlace 4 = .ok (.ifCond .le 19, 3) := by decide +kernel
theorem dX3_hasPlace_7 : decode cX3_hasPlace 7 = .ok (.iload_n 1, 1) := by decide +kernel
theorem dX3_hasPlace_8 : decode cX3_hasPlace 8 = .ok (.ifCond .lt 15, 3) := by decide +kernel
theorem dX3_hasPlace_11 : decode cX3_hasPlace 11 = .ok (.iload_n 1, 1) := by decide +kernel
theorem dX3_hasPlace_12 : decode cX3_hasPlace 12 = .ok (.aload_n 0, 1) := by decide +kernel
theorem dX3_hasPlace_13 : decode cX3_hasPlace 13 = .ok (.getfield 25, 3) := by decide +kernel
theorem dX3_hasPlace_16 : decode cX3_hasPlace 16 = .ok (.if_icmp .gt 7, 3) := by decide +kernel
theorem dX3_hasPlace_19 : decode cX3_hasPlace 19 = .ok (.iconst 1, 1) := by decide +kernel
theorem dX3_hasPlace_20 : decode cX3_hasPlace 20 = .ok (.goto 4, 3) := by decide +kernel
theorem dX3_hasPlace_23 : decode cX3_hasPlace 23 = .ok (.iconst 0, 1) := by decide +kernel
theorem dX3_hasPlace_24 : decode cX3_hasPlace 24 = .ok (.ireturn, 1) := by decide +kernel
set_option maxRecDepth 20000 in
theorem ggX3_number_X3_greatestWear : GoodIn wsX3_number wsX3_greatestWear := goodIn_r _ [15, 16, 1, 17, 18, 19, 20, 28, 29, 30, 31, 32, 33, 34, 35, 36, 37, 38, 39, 40, 41, 42] (by decide +kernel) (by decide +kernel)
set_option maxRecDepth 20000 in
theorem gX3_number_X3_greatestWear : GoodIn wsX3_number (wsV RX3 69 RX3 yX3_greatestWear wsX3_greatestWear) := goodIn_app (goodIn_of _ (by decide +kernel)) ggX3_number_X3_greatestWear
set_option maxRecDepth 20000 in
theorem ggX3_number_X3_leastWear : GoodIn wsX3_number wsX3_leastWear := goodIn_r _ [24, 16, 1, 25, 26, 19, 27, 28, 29, 30, 31, 32, 33, 34, 35, 36, 37, 38, 39, 40, 41, 42] (by decide +kernel) (by decide +kernel)
set_option maxRecDepth 20000 in
theorem gX3_number_X3_leastWear : GoodIn wsX3_number (wsV RX3 73 RX3 yX3_leastWear wsX3_leastWear) := goodIn_app (goodIn_of _ (by decide +kernel)) ggX3_number_X3_leastWear
theorem dX3_number_0 : decode cX3_number 0 = .ok (.iload_n 1, 1) := by decide +kernel
theorem dX3_number_1 : decode cX3_number 1 = .ok (.tableswitch 131 0 11 #[63, 68, 73, 78, 83, 88, 93, 98, 103, 108, 121, 126], 63) := by decide +kernel
theorem dX3_number_64 : decode cX3_number 64 = .ok (.aload_n 0, 1) := by decide +kernel
theorem dX3_number_65 : decode cX3_number 65 = .ok (.getfield 25, 3) := by decide +kernel
theorem dX3_number_68 : decode cX3_number 68 = .ok (.ireturn, 1) := by decide +kernel
theorem dX3_number_69 : decode cX3_number 69 = .ok (.aload_n 0, 1) := by decide +kernel
theorem dX3_number_70 : decode cX3_number 70 = .ok (.getfield 31, 3) := by decide +kernel
theorem dX3_number_73 : decode cX3_number 73 = .ok (.ireturn, 1) := by decide +kernel
theorem dX3_number_74 : decode cX3_number 74 = .ok (.aload_n 0, 1) := by decide +kernel
theorem dX3_number_75 : decode cX3_number 75 = .ok (.getfield 34, 3) := by decide +kernel
theorem dX3_number_78 : decode cX3_number 78 = .ok (.ireturn, 1) := by decide +kernel
theorem dX3_number_79 : decode cX3_number 79 = .ok (.aload_n 0, 1) := by decide +kernel
theorem dX3_number_80 : decode cX3_number 80 = .ok (.getfield 37, 3) := by decide +kernel
theorem dX3_number_83 : decode cX3_number 83 = .ok (.ireturn, 1) := by decide +kernel
theorem dX3_number_84 : decode cX3_number 84 = .ok (.aload_n 0, 1) := by decide +kernel
theorem dX3_number_85 : decode cX3_number 85 = .ok (.getfield 40, 3) := by decide +kernel
theorem dX3_number_88 : decode cX3_number 88 = .ok (.ireturn, 1) := by decide +kernel
theorem dX3_number_89 : decode cX3_number 89 = .ok (.aload_n 0, 1) := by decide +kernel
theorem dX3_number_90 : decode cX3_number 90 = .ok (.getfield 43, 3) := by decide +kernel
theorem dX3_number_93 : decode cX3_number 93 = .ok (.ireturn, 1) := by decide +kernel
theorem dX3_number_94 : decode cX3_number 94 = .ok (.aload_n 0, 1) := by decide +kernel
theorem dX3_number_95 : decode cX3_number 95 = .ok (.invokevirtual 69, 3) := by decide +kernel
theorem dX3_number_98 : decode cX3_number 98 = .ok (.ireturn, 1) := by decide +kernel
theorem dX3_number_99 : decode cX3_number 99 = .ok (.aload_n 0, 1) := by decide +kernel
theorem dX3_number_100 : decode cX3_number 100 = .ok (.invokevirtual 73, 3) := by decide +kernel
theorem dX3_number_103 : decode cX3_number 103 = .ok (.ireturn, 1) := by decide +kernel
theorem dX3_number_104 : decode cX3_number 104 = .ok (.aload_n 0, 1) := by decide +kernel
theorem dX3_number_105 : decode cX3_number 105 = .ok (.getfield 46, 3) := by decide +kernel
theorem dX3_number_108 : decode cX3_number 108 = .ok (.ireturn, 1) := by decide +kernel
theorem dX3_number_109 : decode cX3_number 109 = .ok (.aload_n 0, 1) := by decide +kernel
theorem dX3_number_110 : decode cX3_number 110 = .ok (.getfield 55, 3) := by decide +kernel
theorem dX3_number_113 : decode cX3_number 113 = .ok (.ifCond .eq 7, 3) := by decide +kernel
theorem dX3_number_116 : decode cX3_number 116 = .ok (.iconst 1, 1) := by decide +kernel
theorem dX3_number_117 : decode cX3_number 117 = .ok (.goto 4, 3) := by decide +kernel
theorem dX3_number_120 : decode cX3_number 120 = .ok (.iconst 0, 1) := by decide +kernel
theorem dX3_number_121 : decode cX3_number 121 = .ok (.ireturn, 1) := by decide +kernel
theorem dX3_number_122 : decode cX3_number 122 = .ok (.aload_n 0, 1) := by decide +kernel
theorem dX3_number_123 : decode cX3_number 123 = .ok (.getfield 49, 3) := by decide +kernel
theorem dX3_number_126 : decode cX3_number 126 = .ok (.ireturn, 1) := by decide +kernel
theorem dX3_number_127 : decode cX3_number 127 = .ok (.aload_n 0, 1) := by decide +kernel
theorem dX3_number_128 : decode cX3_number 128 = .ok (.getfield 52, 3) := by decide +kernel
theorem dX3_number_131 : decode cX3_number 131 = .ok (.ireturn, 1) := by decide +kernel
theorem dX3_number_132 : decode cX3_number 132 = .ok (.iconst 0, 1) := by decide +kernel
theorem dX3_number_133 : decode cX3_number 133 = .ok (.ireturn, 1) := by decide +kernel
theorem dX3_greatestWear_0 : decode cX3_greatestWear 0 = .ok (.aload_n 0, 1) := by decide +kernel
theorem dX3_greatestWear_1 : decode cX3_greatestWear 1 = .ok (.getfield 22, 3) := by decide +kernel
theorem dX3_greatestWear_4 : decode cX3_greatestWear 4 = .ok (.iconst 0, 1) := by decide +kernel
theorem dX3_greatestWear_5 : decode cX3_greatestWear 5 = .ok (.iaload, 1) := by decide +kernel
theorem dX3_greatestWear_6 : decode cX3_greatestWear 6 = .ok (.istore_n 1, 1) := by decide +kernel
theorem dX3_greatestWear_7 : decode cX3_greatestWear 7 = .ok (.iconst 1, 1) := by decide +kernel
theorem dX3_greatestWear_8 : decode cX3_greatestWear 8 = .ok (.istore_n 2, 1) := by decide +kernel
theorem dX3_greatestWear_9 : decode cX3_greatestWear 9 = .ok (.iload_n 2, 1) := by decide +kernel
theorem dX3_greatestWear_10 : decode cX3_greatestWear 10 = .ok (.aload_n 0, 1) := by decide +kernel
theorem dX3_greatestWear_11 : decode cX3_greatestWear 11 = .ok (.getfield 25, 3) := by decide +kernel
theorem dX3_greatestWear_14 : decode cX3_greatestWear 14 = .ok (.if_icmp .gt 20, 3) := by decide +kernel
theorem dX3_greatestWear_17 : decode cX3_greatestWear 17 = .ok (.iload_n 1, 1) := by decide +kernel
theorem dX3_greatestWear_18 : decode cX3_greatestWear 18 = .ok (.aload_n 0, 1) := by decide +kernel
theorem dX3_greatestWear_19 : decode cX3_greatestWear 19 = .ok (.getfield 22, 3) := by decide +kernel
theorem dX3_greatestWear_22 : decode cX3_greatestWear 22 = .ok (.iload_n 2, 1) := by decide +kernel
theorem dX3_greatestWear_23 : decode cX3_greatestWear 23 = .ok (.iaload, 1) := by decide +kernel
theorem dX3_greatestWear_24 : decode cX3_greatestWear 24 = .ok (.invokestatic 76, 3) := by decide +kernel
theorem dX3_greatestWear_27 : decode cX3_greatestWear 27 = .ok (.istore_n 1, 1) := by decide +kernel
theorem dX3_greatestWear_28 : decode cX3_greatestWear 28 = .ok (.iinc 2 1, 3) := by decide +kernel
theorem dX3_greatestWear_31 : decode cX3_greatestWear 31 = .ok (.goto (-22), 3) := by decide +kernel
theorem dX3_greatestWear_34 : decode cX3_greatestWear 34 = .ok (.iload_n 1, 1) := by decide +kernel
theorem dX3_greatestWear_35 : decode cX3_greatestWear 35 = .ok (.ireturn, 1) := by decide +kernel
theorem dX3_leastWear_0 : decode cX3_leastWear 0 = .ok (.aload_n 0, 1) := by decide +kernel
theorem dX3_leastWear_1 : decode cX3_leastWear 1 = .ok (.getfield 22, 3) := by decide +kernel
theorem dX3_leastWear_4 : decode cX3_leastWear 4 = .ok (.iconst 0, 1) := by decide +kernel
theorem dX3_leastWear_5 : decode cX3_leastWear 5 = .ok (.iaload, 1) := by decide +kernel
theorem dX3_leastWear_6 : decode cX3_leastWear 6 = .ok (.istore_n 1, 1) := by decide +kernel
theorem dX3_leastWear_7 : decode cX3_leastWear 7 = .ok (.iconst 1, 1) := by decide +kernel
theorem dX3_leastWear_8 : decode cX3_leastWear 8 = .ok (.istore_n 2, 1) := by decide +kernel
theorem dX3_leastWear_9 : decode cX3_leastWear 9 = .ok (.iload_n 2, 1) := by decide +kernel
theorem dX3_leastWear_10 : decode cX3_leastWear 10 = .ok (.aload_n 0, 1) := by decide +kernel
theorem dX3_leastWear_11 : decode cX3_leastWear 11 = .ok (.getfield 25, 3) := by decide +kernel
theorem dX3_leastWear_14 : decode cX3_leastWear 14 = .ok (.if_icmp .gt 20, 3) := by decide +kernel
theorem dX3_leastWear_17 : decode cX3_leastWear 17 = .ok (.iload_n 1, 1) := by decide +kernel
theorem dX3_leastWear_18 : decode cX3_leastWear 18 = .ok (.aload_n 0, 1) := by decide +kernel
theorem dX3_leastWear_19 : decode cX3_leastWear 19 = .ok (.getfield 22, 3) := by decide +kernel
theorem dX3_leastWear_22 : decode cX3_leastWear 22 = .ok (.iload_n 2, 1) := by decide +kernel
theorem dX3_leastWear_23 : decode cX3_leastWear 23 = .ok (.iaload, 1) := by decide +kernel
theorem dX3_leastWear_24 : decode cX3_leastWear 24 = .ok (.invokestatic 82, 3) := by decide +kernel
theorem dX3_leastWear_27 : decode cX3_leastWear 27 = .ok (.istore_n 1, 1) := by decide +kernel
theorem dX3_leastWear_28 : decode cX3_leastWear 28 = .ok (.iinc 2 1, 3) := by decide +kernel
theorem dX3_leastWear_31 : decode cX3_leastWear 31 = .ok (.goto (-22), 3) := by decide +kernel
theorem dX3_leastWear_34 : decode cX3_leastWear 34 = .ok (.iload_n 1, 1) := by decide +kernel
theorem dX3_leastWear_35 : decode cX3_leastWear 35 = .ok (.ireturn, 1) := by decide +kernel
set_option maxRecDepth 20000 in
theorem ggX3_valueOf_X3_hasLine : GoodIn wsX3_valueOf wsX3_hasLine := goodIn_r _ [6, 7, 8, 9, 10, 11, 12, 13, 14, 15, 16, 17, 18, 19, 20, 21, 22] (by decide +kernel) (by decide +kernel)
set_option maxRecDepth 20000 in
theorem gX3_valueOf_X3_hasLine : GoodIn wsX3_valueOf (wsV RX3 85 RX3 yX3_hasLine wsX3_hasLine) := goodIn_app (goodIn_of _ (by decide +kernel)) ggX3_valueOf_X3_hasLine
theorem dX3_valueOf_0 : decode cX3_valueOf 0 = .ok (.aload_n 0, 1) := by decide +kernel
theorem dX3_valueOf_1 : decode cX3_valueOf 1 = .ok (.iload_n 1, 1) := by decide +kernel
theorem dX3_valueOf_2 : decode cX3_valueOf 2 = .ok (.invokevirtual 85, 3) := by decide +kernel
theorem dX3_valueOf_5 : decode cX3_valueOf 5 = .ok (.ifCond .eq 12, 3) := by decide +kernel
theorem dX3_valueOf_8 : decode cX3_valueOf 8 = .ok (.aload_n 0, 1) := by decide +kernel
theorem dX3_valueOf_9 : decode cX3_valueOf 9 = .ok (.getfield 18, 3) := by decide +kernel
theorem dX3_valueOf_12 : decode cX3_valueOf 12 = .ok (.iload_n 1, 1) := by decide +kernel
theorem dX3_valueOf_13 : decode cX3_valueOf 13 = .ok (.iaload, 1) := by decide +kernel
theorem dX3_valueOf_14 : decode cX3_valueOf 14 = .ok (.goto 4, 3) := by decide +kernel
theorem dX3_valueOf_17 : decode cX3_valueOf 17 = .ok (.iconst (-1), 1) := by decide +kernel
theorem dX3_valueOf_18 : decode cX3_valueOf 18 = .ok (.ireturn, 1) := by decide +kernel
set_option maxRecDepth 20000 in
theorem ggX3_wearOf_X3_hasPlace : GoodIn wsX3_wearOf wsX3_hasPlace := goodIn_r _ [6, 7, 8, 9, 10, 11, 12, 13, 14, 15, 16, 17, 18, 19, 20, 21, 22] (by decide +kernel) (by decide +kernel)
set_option maxRecDepth 20000 in
theorem gX3_wearOf_X3_hasPlace : GoodIn wsX3_wearOf (wsV RX3 89 RX3 yX3_hasPlace wsX3_hasPlace) := goodIn_app (goodIn_of _ (by decide +kernel)) ggX3_wearOf_X3_hasPlace
theorem dX3_wearOf_0 : decode cX3_wearOf 0 = .ok (.aload_n 0, 1) := by decide +kernel
theorem dX3_wearOf_1 : decode cX3_wearOf 1 = .ok (.iload_n 1, 1) := by decide +kernel
theorem dX3_wearOf_2 : decode cX3_wearOf 2 = .ok (.invokevirtual 89, 3) := by decide +kernel
theorem dX3_wearOf_5 : decode cX3_wearOf 5 = .ok (.ifCond .eq 12, 3) := by decide +kernel
theorem dX3_wearOf_8 : decode cX3_wearOf 8 = .ok (.aload_n 0, 1) := by decide +kernel
theorem dX3_wearOf_9 : decode cX3_wearOf 9 = .ok (.getfield 22, 3) := by decide +kernel
theorem dX3_wearOf_12 : decode cX3_wearOf 12 = .ok (.iload_n 1, 1) := by decide +kernel
theorem dX3_wearOf_13 : decode cX3_wearOf 13 = .ok (.iaload, 1) := by decide +kernel
theorem dX3_wearOf_14 : decode cX3_wearOf 14 = .ok (.goto 4, 3) := by decide +kernel
theorem dX3_wearOf_17 : decode cX3_wearOf 17 = .ok (.iconst (-1), 1) := by decide +kernel
theorem dX3_wearOf_18 : decode cX3_wearOf 18 = .ok (.ireturn, 1) := by decide +kernel
theorem dX3_settingOf_0 : decode cX3_settingOf 0 = .ok (.iload_n 1, 1) := by decide +kernel
theorem dX3_settingOf_1 : decode cX3_settingOf 1 = .ok (.ifCond .ne 10, 3) := by decide +kernel
theorem dX3_settingOf_4 : decode cX3_settingOf 4 = .ok (.aload_n 0, 1) := by decide +kernel
theorem dX3_settingOf_5 : decode cX3_settingOf 5 = .ok (.getfield 9, 3) := by decide +kernel
theorem dX3_settingOf_8 : decode cX3_settingOf 8 = .ok (.goto 7, 3) := by decide +kernel
theorem dX3_settingOf_11 : decode cX3_settingOf 11 = .ok (.aload_n 0, 1) := by decide +kernel
theorem dX3_settingOf_12 : decode cX3_settingOf 12 = .ok (.getfield 15, 3) := by decide +kernel
theorem dX3_settingOf_15 : decode cX3_settingOf 15 = .ok (.ireturn, 1) := by decide +kernel
theorem dX3_changeSetting_0 : decode cX3_changeSetting 0 = .ok (.iload_n 1, 1) := by decide +kernel
theorem dX3_changeSetting_1 : decode cX3_changeSetting 1 = .ok (.ifCond .ne 11, 3) := by decide +kernel
theorem dX3_changeSetting_4 : decode cX3_changeSetting 4 = .ok (.aload_n 0, 1) := by decide +kernel
theorem dX3_changeSetting_5 : decode cX3_changeSetting 5 = .ok (.iload_n 2, 1) := by decide +kernel
theorem dX3_changeSetting_6 : decode cX3_changeSetting 6 = .ok (.putfield 9, 3) := by decide +kernel
theorem dX3_changeSetting_9 : decode cX3_changeSetting 9 = .ok (.goto 8, 3) := by decide +kernel
theorem dX3_changeSetting_12 : decode cX3_changeSetting 12 = .ok (.aload_n 0, 1) := by decide +kernel
theorem dX3_changeSetting_13 : decode cX3_changeSetting 13 = .ok (.iload_n 2, 1) := by decide +kernel
theorem dX3_changeSetting_14 : decode cX3_changeSetting 14 = .ok (.putfield 15, 3) := by decide +kernel
theorem dX3_changeSetting_17 : decode cX3_changeSetting 17 = .ok (.return_, 1) := by decide +kernel
theorem dX3_rankOf_0 : decode cX3_rankOf 0 = .ok (.iload_n 1, 1) := by decide +kernel
theorem dX3_rankOf_1 : decode cX3_rankOf 1 = .ok (.ifCond .lt 27, 3) := by decide +kernel
theorem dX3_rankOf_4 : decode cX3_rankOf 4 = .ok (.iload_n 1, 1) := by decide +kernel
theorem dX3_rankOf_5 : decode cX3_rankOf 5 = .ok (.aload_n 0, 1) := by decide +kernel
theorem dX3_rankOf_6 : decode cX3_rankOf 6 = .ok (.getfield 25, 3) := by decide +kernel
theorem dX3_rankOf_9 : decode cX3_rankOf 9 = .ok (.if_icmp .ge 19, 3) := by decide +kernel
theorem dX3_rankOf_12 : decode cX3_rankOf 12 = .ok (.aload_n 0, 1) := by decide +kernel
theorem dX3_rankOf_13 : decode cX3_rankOf 13 = .ok (.getfield 28, 3) := by decide +kernel
theorem dX3_rankOf_16 : decode cX3_rankOf 16 = .ok (.iload_n 1, 1) := by decide +kernel
theorem dX3_rankOf_17 : decode cX3_rankOf 17 = .ok (.imul, 1) := by decide +kernel
theorem dX3_rankOf_18 : decode cX3_rankOf 18 = .ok (.iload_n 2, 1) := by decide +kernel
theorem dX3_rankOf_19 : decode cX3_rankOf 19 = .ok (.iadd, 1) := by decide +kernel
theorem dX3_rankOf_20 : decode cX3_rankOf 20 = .ok (.aload_n 0, 1) := by decide +kernel
theorem dX3_rankOf_21 : decode cX3_rankOf 21 = .ok (.getfield 25, 3) := by decide +kernel
theorem dX3_rankOf_24 : decode cX3_rankOf 24 = .ok (.irem, 1) := by decide +kernel
theorem dX3_rankOf_25 : decode cX3_rankOf 25 = .ok (.goto 4, 3) := by decide +kernel
theorem dX3_rankOf_28 : decode cX3_rankOf 28 = .ok (.iconst (-1), 1) := by decide +kernel
theorem dX3_rankOf_29 : decode cX3_rankOf 29 = .ok (.ireturn, 1) := by decide +kernel
set_option maxRecDepth 20000 in
theorem ggX3_placeOf_X3_rankOf : GoodIn wsX3_placeOf wsX3_rankOf := goodIn_r _ [7, 8, 9, 10, 11, 12, 13, 14, 15, 16, 17, 18, 19, 20, 21, 22, 23, 24] (by decide +kernel) (by decide +kernel)
set_option maxRecDepth 20000 in
theorem gX3_placeOf_X3_rankOf : GoodIn wsX3_placeOf (wsV RX3 92 RX3 yX3_rankOf wsX3_rankOf) := goodIn_app (goodIn_of _ (by decide +kernel)) ggX3_placeOf_X3_rankOf
theorem dX3_placeOf_0 : decode cX3_placeOf 0 = .ok (.aload_n 0, 1) := by decide +kernel
theorem dX3_placeOf_1 : decode cX3_placeOf 1 = .ok (.iload_n 1, 1) := by decide +kernel
theorem dX3_placeOf_2 : decode cX3_placeOf 2 = .ok (.aload_n 0, 1) := by decide +kernel
theorem dX3_placeOf_3 : decode cX3_placeOf 3 = .ok (.getfield 31, 3) := by decide +kernel
theorem dX3_placeOf_6 : decode cX3_placeOf 6 = .ok (.invokevirtual 92, 3) := by decide +kernel
theorem dX3_placeOf_9 : decode cX3_placeOf 9 = .ok (.istore_n 2, 1) := by decide +kernel
theorem dX3_placeOf_10 : decode cX3_placeOf 10 = .ok (.iload_n 2, 1) := by decide +kernel
theorem dX3_placeOf_11 : decode cX3_placeOf 11 = .ok (.aload_n 0, 1) := by decide +kernel
theorem dX3_placeOf_12 : decode cX3_placeOf 12 = .ok (.getfield 34, 3) := by decide +kernel
theorem dX3_placeOf_15 : decode cX3_placeOf 15 = .ok (.if_icmp .ge 7, 3) := by decide +kernel
theorem dX3_placeOf_18 : decode cX3_placeOf 18 = .ok (.iload_n 2, 1) := by decide +kernel
theorem dX3_placeOf_19 : decode cX3_placeOf 19 = .ok (.goto 6, 3) := by decide +kernel
theorem dX3_placeOf_22 : decode cX3_placeOf 22 = .ok (.iload_n 2, 1) := by decide +kernel
theorem dX3_placeOf_23 : decode cX3_placeOf 23 = .ok (.iconst 1, 1) := by decide +kernel
theorem dX3_placeOf_24 : decode cX3_placeOf 24 = .ok (.iadd, 1) := by decide +kernel
theorem dX3_placeOf_25 : decode cX3_placeOf 25 = .ok (.ireturn, 1) := by decide +kernel
set_option maxRecDepth 20000 in
theorem ggX3_lineAt_X3_rankOf : GoodIn wsX3_lineAt wsX3_rankOf := goodIn_r _ [8, 2, 9, 10, 11, 12, 13, 14, 15, 16, 17, 18, 19, 20, 21, 22, 23, 24] (by decide +kernel) (by decide +kernel)
set_option maxRecDepth 20000 in
theorem gX3_lineAt_X3_rankOf : GoodIn wsX3_lineAt (wsV RX3 92 RX3 yX3_rankOf wsX3_rankOf) := goodIn_app (goodIn_of _ (by decide +kernel)) ggX3_lineAt_X3_rankOf
theorem dX3_lineAt_0 : decode cX3_lineAt 0 = .ok (.iload_n 1, 1) := by decide +kernel
theorem dX3_lineAt_1 : decode cX3_lineAt 1 = .ok (.aload_n 0, 1) := by decide +kernel
theorem dX3_lineAt_2 : decode cX3_lineAt 2 = .ok (.getfield 34, 3) := by decide +kernel
theorem dX3_lineAt_5 : decode cX3_lineAt 5 = .ok (.if_icmp .ne 5, 3) := by decide +kernel
theorem dX3_lineAt_8 : decode cX3_lineAt 8 = .ok (.iconst (-1), 1) := by decide +kernel
theorem dX3_lineAt_9 : decode cX3_lineAt 9 = .ok (.ireturn, 1) := by decide +kernel
theorem dX3_lineAt_10 : decode cX3_lineAt 10 = .ok (.iload_n 1, 1) := by decide +kernel
theorem dX3_lineAt_11 : decode cX3_lineAt 11 = .ok (.aload_n 0, 1) := by decide +kernel
theorem dX3_lineAt_12 : decode cX3_lineAt 12 = .ok (.getfield 34, 3) := by decide +kernel
theorem dX3_lineAt_15 : decode cX3_lineAt 15 = .ok (.if_icmp .ge 7, 3) := by decide +kernel
theorem dX3_lineAt_18 : decode cX3_lineAt 18 = .ok (.iload_n 1, 1) := by decide +kernel
theorem dX3_lineAt_19 : decode cX3_lineAt 19 = .ok (.goto 6, 3) := by decide +kernel
theorem dX3_lineAt_22 : decode cX3_lineAt 22 = .ok (.iload_n 1, 1) := by decide +kernel
theorem dX3_lineAt_23 : decode cX3_lineAt 23 = .ok (.iconst 1, 1) := by decide +kernel
theorem dX3_lineAt_24 : decode cX3_lineAt 24 = .ok (.isub, 1) := by decide +kernel
theorem dX3_lineAt_25 : decode cX3_lineAt 25 = .ok (.istore_n 2, 1) := by decide +kernel
theorem dX3_lineAt_26 : decode cX3_lineAt 26 = .ok (.iconst 0, 1) := by decide +kernel
theorem dX3_lineAt_27 : decode cX3_lineAt 27 = .ok (.istore_n 3, 1) := by decide +kernel
theorem dX3_lineAt_28 : decode cX3_lineAt 28 = .ok (.iload_n 3, 1) := by decide +kernel
theorem dX3_lineAt_29 : decode cX3_lineAt 29 = .ok (.aload_n 0, 1) := by decide +kernel
theorem dX3_lineAt_30 : decode cX3_lineAt 30 = .ok (.getfield 25, 3) := by decide +kernel
theorem dX3_lineAt_33 : decode cX3_lineAt 33 = .ok (.if_icmp .ge 24, 3) := by decide +kernel
theorem dX3_lineAt_36 : decode cX3_lineAt 36 = .ok (.aload_n 0, 1) := by decide +kernel
theorem dX3_lineAt_37 : decode cX3_lineAt 37 = .ok (.iload_n 3, 1) := by decide +kernel
theorem dX3_lineAt_38 : decode cX3_lineAt 38 = .ok (.aload_n 0, 1) := by decide +kernel
theorem dX3_lineAt_39 : decode cX3_lineAt 39 = .ok (.getfield 31, 3) := by decide +kernel
theorem dX3_lineAt_42 : decode cX3_lineAt 42 = .ok (.invokevirtual 92, 3) := by decide +kernel
theorem dX3_lineAt_45 : decode cX3_lineAt 45 = .ok (.iload_n 2, 1) := by decide +kernel
theorem dX3_lineAt_46 : decode cX3_lineAt 46 = .ok (.if_icmp .ne 5, 3) := by decide +kernel
theorem dX3_lineAt_49 : decode cX3_lineAt 49 = .ok (.iload_n 3, 1) := by decide +kernel
theorem dX3_lineAt_50 : decode cX3_lineAt 50 = .ok (.ireturn, 1) := by decide +kernel
theorem dX3_lineAt_51 : decode cX3_lineAt 51 = .ok (.iinc 3 1, 3) := by decide +kernel
theorem dX3_lineAt_54 : decode cX3_lineAt 54 = .ok (.goto (-26), 3) := by decide +kernel
theorem dX3_lineAt_57 : decode cX3_lineAt 57 = .ok (.iconst (-1), 1) := by decide +kernel
theorem dX3_lineAt_58 : decode cX3_lineAt 58 = .ok (.ireturn, 1) := by decide +kernel
set_option maxRecDepth 20000 in
theorem ggX3_movesUntilMoved_X3_rankOf : GoodIn wsX3_movesUntilMoved wsX3_rankOf := goodIn_r _ [8, 3, 9, 10, 11, 12, 13, 14, 15, 16, 17, 18, 19, 20, 21, 22, 23, 24] (by decide +kernel) (by decide +kernel)
set_option maxRecDepth 20000 in
theorem gX3_movesUntilMoved_X3_rankOf : GoodIn wsX3_movesUntilMoved (wsV RX3 92 RX3 yX3_rankOf wsX3_rankOf) := goodIn_app (goodIn_of _ (by decide +kernel)) ggX3_movesUntilMoved_X3_rankOf
theorem dX3_movesUntilMoved_0 : decode cX3_movesUntilMoved 0 = .ok (.aload_n 0, 1) := by decide +kernel
theorem dX3_movesUntilMoved_1 : decode cX3_movesUntilMoved 1 = .ok (.iload_n 1, 1) := by decide +kernel
theorem dX3_movesUntilMoved_2 : decode cX3_movesUntilMoved 2 = .ok (.aload_n 0, 1) := by decide +kernel
theorem dX3_movesUntilMoved_3 : decode cX3_movesUntilMoved 3 = .ok (.getfield 31, 3) := by decide +kernel
theorem dX3_movesUntilMoved_6 : decode cX3_movesUntilMoved 6 = .ok (.invokevirtual 92, 3) := by decide +kernel
theorem dX3_movesUntilMoved_9 : decode cX3_movesUntilMoved 9 = .ok (.istore_n 2, 1) := by decide +kernel
theorem dX3_movesUntilMoved_10 : decode cX3_movesUntilMoved 10 = .ok (.iload_n 2, 1) := by decide +kernel
theorem dX3_movesUntilMoved_11 : decode cX3_movesUntilMoved 11 = .ok (.aload_n 0, 1) := by decide +kernel
theorem dX3_movesUntilMoved_12 : decode cX3_movesUntilMoved 12 = .ok (.getfield 34, 3) := by decide +kernel
theorem dX3_movesUntilMoved_15 : decode cX3_movesUntilMoved 15 = .ok (.if_icmp .ge 12, 3) := by decide +kernel
theorem dX3_movesUntilMoved_18 : decode cX3_movesUntilMoved 18 = .ok (.aload_n 0, 1) := by decide +kernel
theorem dX3_movesUntilMoved_19 : decode cX3_movesUntilMoved 19 = .ok (.getfield 34, 3) := by decide +kernel
theorem dX3_movesUntilMoved_22 : decode cX3_movesUntilMoved 22 = .ok (.iload_n 2, 1) := by decide +kernel
theorem dX3_movesUntilMoved_23 : decode cX3_movesUntilMoved 23 = .ok (.isub, 1) := by decide +kernel
theorem dX3_movesUntilMoved_24 : decode cX3_movesUntilMoved 24 = .ok (.goto 14, 3) := by decide +kernel
theorem dX3_movesUntilMoved_27 : decode cX3_movesUntilMoved 27 = .ok (.aload_n 0, 1) := by decide +kernel
theorem dX3_movesUntilMoved_28 : decode cX3_movesUntilMoved 28 = .ok (.getfield 34, 3) := by decide +kernel
theorem dX3_movesUntilMoved_31 : decode cX3_movesUntilMoved 31 = .ok (.aload_n 0, 1) := by decide +kernel
theorem dX3_movesUntilMoved_32 : decode cX3_movesUntilMoved 32 = .ok (.getfield 25, 3) := by decide +kernel
theorem dX3_movesUntilMoved_35 : decode cX3_movesUntilMoved 35 = .ok (.iadd, 1) := by decide +kernel
theorem dX3_movesUntilMoved_36 : decode cX3_movesUntilMoved 36 = .ok (.iload_n 2, 1) := by decide +kernel
theorem dX3_movesUntilMoved_37 : decode cX3_movesUntilMoved 37 = .ok (.isub, 1) := by decide +kernel
theorem dX3_movesUntilMoved_38 : decode cX3_movesUntilMoved 38 = .ok (.ireturn, 1) := by decide +kernel
set_option maxRecDepth 20000 in
theorem ggX3_placeAfterMoves_X3_hasLine : GoodIn wsX3_placeAfterMoves wsX3_hasLine := goodIn_r _ [8, 1, 14, 15, 16, 17, 18, 19, 20, 21, 22, 23, 24, 25, 26, 27, 28] (by decide +kernel) (by decide +kernel)
set_option maxRecDepth 20000 in
theorem gX3_placeAfterMoves_X3_hasLine : GoodIn wsX3_placeAfterMoves (wsV RX3 85 RX3 yX3_hasLine wsX3_hasLine) := goodIn_app (goodIn_of _ (by decide +kernel)) ggX3_placeAfterMoves_X3_hasLine
set_option maxRecDepth 20000 in
theorem ggX3_placeAfterMoves_X3_rankOf : GoodIn wsX3_placeAfterMoves wsX3_rankOf := goodIn_r _ [12, 1, 13, 14, 15, 16, 17, 18, 19, 20, 21, 22, 23, 24, 25, 26, 27, 28] (by decide +kernel) (by decide +kernel)
set_option maxRecDepth 20000 in
theorem gX3_placeAfterMoves_X3_rankOf : GoodIn wsX3_placeAfterMoves (wsV RX3 92 RX3 yX3_rankOf wsX3_rankOf) := goodIn_app (goodIn_of _ (by decide +kernel)) ggX3_placeAfterMoves_X3_rankOf
theorem dX3_placeAfterMoves_0 : decode cX3_placeAfterMoves 0 = .ok (.aload_n 0, 1) := by decide +kernel
theorem dX3_placeAfterMoves_1 : decode cX3_placeAfterMoves 1 = .ok (.iload_n 1, 1) := by decide +kernel
theorem dX3_placeAfterMoves_2 : decode cX3_placeAfterMoves 2 = .ok (.invokevirtual 85, 3) := by decide +kernel
theorem dX3_placeAfterMoves_5 : decode cX3_placeAfterMoves 5 = .ok (.ifCond .ne 5, 3) := by decide +kernel
theorem dX3_placeAfterMoves_8 : decode cX3_placeAfterMoves 8 = .ok (.iconst (-1), 1) := by decide +kernel
theorem dX3_placeAfterMoves_9 : decode cX3_placeAfterMoves 9 = .ok (.ireturn, 1) := by decide +kernel
theorem dX3_placeAfterMoves_10 : decode cX3_placeAfterMoves 10 = .ok (.aload_n 0, 1) := by decide +kernel
theorem dX3_placeAfterMoves_11 : decode cX3_placeAfterMoves 11 = .ok (.getfield 25, 3) := by decide +kernel
theorem dX3_placeAfterMoves_14 : decode cX3_placeAfterMoves 14 = .ok (.aload_n 0, 1) := by decide +kernel
theorem dX3_placeAfterMoves_15 : decode cX3_placeAfterMoves 15 = .ok (.getfield 34, 3) := by decide +kernel
theorem dX3_placeAfterMoves_18 : decode cX3_placeAfterMoves 18 = .ok (.isub, 1) := by decide +kernel
theorem dX3_placeAfterMoves_19 : decode cX3_placeAfterMoves 19 = .ok (.iload_n 2, 1) := by decide +kernel
theorem dX3_placeAfterMoves_20 : decode cX3_placeAfterMoves 20 = .ok (.iadd, 1) := by decide +kernel
theorem dX3_placeAfterMoves_21 : decode cX3_placeAfterMoves 21 = .ok (.istore_n 3, 1) := by decide +kernel
theorem dX3_placeAfterMoves_22 : decode cX3_placeAfterMoves 22 = .ok (.aload_n 0, 1) := by decide +kernel
theorem dX3_placeAfterMoves_23 : decode cX3_placeAfterMoves 23 = .ok (.getfield 25, 3) := by decide +kernel
theorem dX3_placeAfterMoves_26 : decode cX3_placeAfterMoves 26 = .ok (.iload_n 3, 1) := by decide +kernel
theorem dX3_placeAfterMoves_27 : decode cX3_placeAfterMoves 27 = .ok (.aload_n 0, 1) := by decide +kernel
theorem dX3_placeAfterMoves_28 : decode cX3_placeAfterMoves 28 = .ok (.getfield 25, 3) := by decide +kernel
theorem dX3_placeAfterMoves_31 : decode cX3_placeAfterMoves 31 = .ok (.iconst 1, 1) := by decide +kernel
theorem dX3_placeAfterMoves_32 : decode cX3_placeAfterMoves 32 = .ok (.iadd, 1) := by decide +kernel
theorem dX3_placeAfterMoves_33 : decode cX3_placeAfterMoves 33 = .ok (.irem, 1) := by decide +kernel
theorem dX3_placeAfterMoves_34 : decode cX3_placeAfterMoves 34 = .ok (.isub, 1) := by decide +kernel
theorem dX3_placeAfterMoves_35 : decode cX3_placeAfterMoves 35 = .ok (.istore 4, 2) := by decide +kernel
theorem dX3_placeAfterMoves_37 : decode cX3_placeAfterMoves 37 = .ok (.aload_n 0, 1) := by decide +kernel
theorem dX3_placeAfterMoves_38 : decode cX3_placeAfterMoves 38 = .ok (.getfield 31, 3) := by decide +kernel
theorem dX3_placeAfterMoves_41 : decode cX3_placeAfterMoves 41 = .ok (.iload_n 3, 1) := by decide +kernel
theorem dX3_placeAfterMoves_42 : decode cX3_placeAfterMoves 42 = .ok (.aload_n 0, 1) := by decide +kernel
theorem dX3_placeAfterMoves_43 : decode cX3_placeAfterMoves 43 = .ok (.getfield 25, 3) := by decide +kernel
theorem dX3_placeAfterMoves_46 : decode cX3_placeAfterMoves 46 = .ok (.iconst 1, 1) := by decide +kernel
theorem dX3_placeAfterMoves_47 : decode cX3_placeAfterMoves 47 = .ok (.iadd, 1) := by decide +kernel
theorem dX3_placeAfterMoves_48 : decode cX3_placeAfterMoves 48 = .ok (.idiv, 1) := by decide +kernel
theorem dX3_placeAfterMoves_49 : decode cX3_placeAfterMoves 49 = .ok (.iadd, 1) := by decide +kernel
theorem dX3_placeAfterMoves_50 : decode cX3_placeAfterMoves 50 = .ok (.aload_n 0, 1) := by decide +kernel
theorem dX3_placeAfterMoves_51 : decode cX3_placeAfterMoves 51 = .ok (.getfield 25, 3) := by decide +kernel
theorem dX3_placeAfterMoves_54 : decode cX3_placeAfterMoves 54 = .ok (.irem, 1) := by decide +kernel
theorem dX3_placeAfterMoves_55 : decode cX3_placeAfterMoves 55 = .ok (.istore 5, 2) := by decide +kernel
theorem dX3_placeAfterMoves_57 : decode cX3_placeAfterMoves 57 = .ok (.aload_n 0, 1) := by decide +kernel
theorem dX3_placeAfterMoves_58 : decode cX3_placeAfterMoves 58 = .ok (.iload_n 1, 1) := by decide +kernel
theorem dX3_placeAfterMoves_59 : decode cX3_placeAfterMoves 59 = .ok (.iload 5, 2) := by decide +kernel
theorem dX3_placeAfterMoves_61 : decode cX3_placeAfterMoves 61 = .ok (.invokevirtual 92, 3) := by decide +kernel
theorem dX3_placeAfterMoves_64 : decode cX3_placeAfterMoves 64 = .ok (.istore 6, 2) := by decide +kernel
theorem dX3_placeAfterMoves_66 : decode cX3_placeAfterMoves 66 = .ok (.iload 6, 2) := by decide +kernel
theorem dX3_placeAfterMoves_68 : decode cX3_placeAfterMoves 68 = .ok (.iload 4, 2) := by decide +kernel
theorem dX3_placeAfterMoves_70 : decode cX3_placeAfterMoves 70 = .ok (.if_icmp .ge 8, 3) := by decide +kernel
theorem dX3_placeAfterMoves_73 : decode cX3_placeAfterMoves 73 = .ok (.iload 6, 2) := by decide +kernel
theorem dX3_placeAfterMoves_75 : decode cX3_placeAfterMoves 75 = .ok (.goto 7, 3) := by decide +kernel
theorem dX3_placeAfterMoves_78 : decode cX3_placeAfterMoves 78 = .ok (.iload 6, 2) := by decide +kernel
theorem dX3_placeAfterMoves_80 : decode cX3_placeAfterMoves 80 = .ok (.iconst 1, 1) := by decide +kernel
theorem dX3_placeAfterMoves_81 : decode cX3_placeAfterMoves 81 = .ok (.iadd, 1) := by decide +kernel
theorem dX3_placeAfterMoves_82 : decode cX3_placeAfterMoves 82 = .ok (.ireturn, 1) := by decide +kernel
set_option maxRecDepth 20000 in
theorem ggX3_writeLine_X3_hasLine : GoodIn wsX3_writeLine wsX3_hasLine := goodIn_r _ [10, 11, 37, 38, 39, 40, 41, 42, 43, 44, 45, 46, 47, 48, 49, 50, 51] (by decide +kernel) (by decide +kernel)
set_option maxRecDepth 20000 in
theorem gX3_writeLine_X3_hasLine : GoodIn wsX3_writeLine (wsV RX3 85 RX3 yX3_hasLine wsX3_hasLine) := goodIn_app (goodIn_of _ (by decide +kernel)) ggX3_writeLine_X3_hasLine
set_option maxRecDepth 20000 in
theorem ggX3_writeLine_X3_placeOf : GoodIn wsX3_writeLine wsX3_placeOf := goodIn_r _ [15, 16, 17, 18, 19, 20, 9, 21, 11, 22, 37, 38, 39, 40, 41, 42, 43, 44, 45, 46, 47, 48, 49, 50, 51] (by decide +kernel) (by decide +kernel)
set_option maxRecDepth 20000 in
theorem gX3_writeLine_X3_placeOf : GoodIn wsX3_writeLine (wsV RX3 95 RX3 yX3_placeOf wsX3_placeOf) := goodIn_app (goodIn_of _ (by decide +kernel)) ggX3_writeLine_X3_placeOf
set_option maxRecDepth 20000 in
theorem ggX3_writeLine_X3_layAt : GoodIn wsX3_writeLine wsX3_layAt := goodIn_r _ [26, 11, 27, 28, 29, 30, 4, 31, 37, 38, 39, 40, 41, 42, 43, 44, 45, 46, 47, 48, 49, 50, 51] (by decide +kernel) (by decide +kernel)
set_option maxRecDepth 20000 in
theorem gX3_writeLine_X3_layAt : GoodIn wsX3_writeLine (wsV RX3 99 RX3 yX3_layAt wsX3_layAt) := goodIn_app (goodIn_of _ (by decide +kernel)) ggX3_writeLine_X3_layAt
set_option maxRecDepth 20000 in
theorem ggX3_writeLine_X3_moveGap : GoodIn wsX3_writeLine wsX3_moveGap := goodIn_r _ [35, 17, 11, 16, 36, 3, 23, 24, 25, 9, 26, 27, 28, 29, 30, 4, 31, 37, 38, 39, 40, 41, 42, 43, 44, 45, 46, 47, 48, 49, 50, 51] (by decide +kernel) (by decide +kernel)
set_option maxRecDepth 20000 in
theorem gX3_writeLine_X3_moveGap : GoodIn wsX3_writeLine (wsV RX3 103 RX3 yX3_moveGap wsX3_moveGap) := goodIn_app (goodIn_of _ (by decide +kernel)) ggX3_writeLine_X3_moveGap
theorem dX3_writeLine_0 : decode cX3_writeLine 0 = .ok (.aload_n 0, 1) := by decide +kernel
theorem dX3_writeLine_1 : decode cX3_writeLine 1 = .ok (.iload_n 1, 1) := by decide +kernel
theorem dX3_writeLine_2 : decode cX3_writeLine 2 = .ok (.invokevirtual 85, 3) := by decide +kernel
theorem dX3_writeLine_5 : decode cX3_writeLine 5 = .ok (.ifCond .ne 5, 3) := by decide +kernel
theorem dX3_writeLine_8 : decode cX3_writeLine 8 = .ok (.iconst (-1), 1) := by decide +kernel
theorem dX3_writeLine_9 : decode cX3_writeLine 9 = .ok (.ireturn, 1) := by decide +kernel
theorem dX3_writeLine_10 : decode cX3_writeLine 10 = .ok (.aload_n 0, 1) := by decide +kernel
theorem dX3_writeLine_11 : decode cX3_writeLine 11 = .ok (.getfield 18, 3) := by decide +kernel
theorem dX3_writeLine_14 : decode cX3_writeLine 14 = .ok (.iload_n 1, 1) := by decide +kernel
theorem dX3_writeLine_15 : decode cX3_writeLine 15 = .ok (.iaload, 1) := by decide +kernel
theorem dX3_writeLine_16 : decode cX3_writeLine 16 = .ok (.istore_n 3, 1) := by decide +kernel
theorem dX3_writeLine_17 : decode cX3_writeLine 17 = .ok (.aload_n 0, 1) := by decide +kernel
theorem dX3_writeLine_18 : decode cX3_writeLine 18 = .ok (.getfield 18, 3) := by decide +kernel
theorem dX3_writeLine_21 : decode cX3_writeLine 21 = .ok (.iload_n 1, 1) := by decide +kernel
theorem dX3_writeLine_22 : decode cX3_writeLine 22 = .ok (.iload_n 2, 1) := by decide +kernel
theorem dX3_writeLine_23 : decode cX3_writeLine 23 = .ok (.iastore, 1) := by decide +kernel
theorem dX3_writeLine_24 : decode cX3_writeLine 24 = .ok (.aload_n 0, 1) := by decide +kernel
theorem dX3_writeLine_25 : decode cX3_writeLine 25 = .ok (.aload_n 0, 1) := by decide +kernel
theorem dX3_writeLine_26 : decode cX3_writeLine 26 = .ok (.iload_n 1, 1) := by decide +kernel
theorem dX3_writeLine_27 : decode cX3_writeLine 27 = .ok (.invokevirtual 95, 3) := by decide +kernel
theorem dX3_writeLine_30 : decode cX3_writeLine 30 = .ok (.invokevirtual 99, 3) := by decide +kernel
theorem dX3_writeLine_33 : decode cX3_writeLine 33 = .ok (.aload_n 0, 1) := by decide +kernel
theorem dX3_writeLine_34 : decode cX3_writeLine 34 = .ok (.dup, 1) := by decide +kernel
theorem dX3_writeLine_35 : decode cX3_writeLine 35 = .ok (.getfield 40, 3) := by decide +kernel
theorem dX3_writeLine_38 : decode cX3_writeLine 38 = .ok (.iconst 1, 1) := by decide +kernel
theorem dX3_writeLine_39 : decode cX3_writeLine 39 = .ok (.iadd, 1) := by decide +kernel
theorem dX3_writeLine_40 : decode cX3_writeLine 40 = .ok (.putfield 40, 3) := by decide +kernel
theorem dX3_writeLine_43 : decode cX3_writeLine 43 = .ok (.aload_n 0, 1) := by decide +kernel
theorem dX3_writeLine_44 : decode cX3_writeLine 44 = .ok (.dup, 1) := by decide +kernel
theorem dX3_writeLine_45 : decode cX3_writeLine 45 = .ok (.getfield 46, 3) := by decide +kernel
theorem dX3_writeLine_48 : decode cX3_writeLine 48 = .ok (.iconst 1, 1) := by decide +kernel
theorem dX3_writeLine_49 : decode cX3_writeLine 49 = .ok (.iadd, 1) := by decide +kernel
theorem dX3_writeLine_50 : decode cX3_writeLine 50 = .ok (.putfield 46, 3) := by decide +kernel
theorem dX3_writeLine_53 : decode cX3_writeLine 53 = .ok (.aload_n 0, 1) := by decide +kernel
theorem dX3_writeLine_54 : decode cX3_writeLine 54 = .ok (.getfield 55, 3) := by decide +kernel
theorem dX3_writeLine_57 : decode cX3_writeLine 57 = .ok (.ifCond .ne 18, 3) := by decide +kernel
theorem dX3_writeLine_60 : decode cX3_writeLine 60 = .ok (.aload_n 0, 1) := by decide +kernel
theorem dX3_writeLine_61 : decode cX3_writeLine 61 = .ok (.getfield 46, 3) := by decide +kernel
theorem dX3_writeLine_64 : decode cX3_writeLine 64 = .ok (.aload_n 0, 1) := by decide +kernel
theorem dX3_writeLine_65 : decode cX3_writeLine 65 = .ok (.getfield 15, 3) := by decide +kernel
theorem dX3_writeLine_68 : decode cX3_writeLine 68 = .ok (.if_icmp .lt 7, 3) := by decide +kernel
theorem dX3_writeLine_71 : decode cX3_writeLine 71 = .ok (.aload_n 0, 1) := by decide +kernel
theorem dX3_writeLine_72 : decode cX3_writeLine 72 = .ok (.invokevirtual 103, 3) := by decide +kernel
theorem dX3_writeLine_75 : decode cX3_writeLine 75 = .ok (.iload_n 3, 1) := by decide +kernel
theorem dX3_writeLine_76 : decode cX3_writeLine 76 = .ok (.ireturn, 1) := by decide +kernel
set_option maxRecDepth 20000 in
theorem ggX3_moveGap_X3_layAt : GoodIn wsX3_moveGap wsX3_layAt := goodIn_r _ [10, 2, 11, 12, 13, 14, 15, 16, 17, 18, 19, 20, 21, 22, 23, 24, 25, 26, 27, 28, 29, 30, 31] (by decide +kernel) (by decide +kernel)
set_option maxRecDepth 20000 in
theorem gX3_moveGap_X3_layAt : GoodIn wsX3_moveGap (wsV RX3 99 RX3 yX3_layAt wsX3_layAt) := goodIn_app (goodIn_of _ (by decide +kernel)) ggX3_moveGap_X3_layAt
theorem dX3_moveGap_0 : decode cX3_moveGap 0 = .ok (.aload_n 0, 1) := by decide +kernel
theorem dX3_moveGap_1 : decode cX3_moveGap 1 = .ok (.aload_n 0, 1) := by decide +kernel
theorem dX3_moveGap_2 : decode cX3_moveGap 2 = .ok (.getfield 34, 3) := by decide +kernel
theorem dX3_moveGap_5 : decode cX3_moveGap 5 = .ok (.invokevirtual 99, 3) := by decide +kernel
theorem dX3_moveGap_8 : decode cX3_moveGap 8 = .ok (.aload_n 0, 1) := by decide +kernel
theorem dX3_moveGap_9 : decode cX3_moveGap 9 = .ok (.getfield 34, 3) := by decide +kernel
theorem dX3_moveGap_12 : decode cX3_moveGap 12 = .ok (.ifCond .le 16, 3) := by decide +kernel
theorem dX3_moveGap_15 : decode cX3_moveGap 15 = .ok (.aload_n 0, 1) := by decide +kernel
theorem dX3_moveGap_16 : decode cX3_moveGap 16 = .ok (.dup, 1) := by decide +kernel
theorem dX3_moveGap_17 : decode cX3_moveGap 17 = .ok (.getfield 34, 3) := by decide +kernel
theorem dX3_moveGap_20 : decode cX3_moveGap 20 = .ok (.iconst 1, 1) := by decide +kernel
theorem dX3_moveGap_21 : decode cX3_moveGap 21 = .ok (.isub, 1) := by decide +kernel
theorem dX3_moveGap_22 : decode cX3_moveGap 22 = .ok (.putfield 34, 3) := by decide +kernel
theorem dX3_moveGap_25 : decode cX3_moveGap 25 = .ok (.goto 38, 3) := by decide +kernel
theorem dX3_moveGap_28 : decode cX3_moveGap 28 = .ok (.aload_n 0, 1) := by decide +kernel
theorem dX3_moveGap_29 : decode cX3_moveGap 29 = .ok (.aload_n 0, 1) := by decide +kernel
theorem dX3_moveGap_30 : decode cX3_moveGap 30 = .ok (.getfield 25, 3) := by decide +kernel
theorem dX3_moveGap_33 : decode cX3_moveGap 33 = .ok (.putfield 34, 3) := by decide +kernel
theorem dX3_moveGap_36 : decode cX3_moveGap 36 = .ok (.aload_n 0, 1) := by decide +kernel
theorem dX3_moveGap_37 : decode cX3_moveGap 37 = .ok (.aload_n 0, 1) := by decide +kernel
theorem dX3_moveGap_38 : decode cX3_moveGap 38 = .ok (.getfield 31, 3) := by decide +kernel
theorem dX3_moveGap_41 : decode cX3_moveGap 41 = .ok (.iconst 1, 1) := by decide +kernel
theorem dX3_moveGap_42 : decode cX3_moveGap 42 = .ok (.iadd, 1) := by decide +kernel
theorem dX3_moveGap_43 : decode cX3_moveGap 43 = .ok (.aload_n 0, 1) := by decide +kernel
theorem dX3_moveGap_44 : decode cX3_moveGap 44 = .ok (.getfield 25, 3) := by decide +kernel
theorem dX3_moveGap_47 : decode cX3_moveGap 47 = .ok (.if_icmp .ge 12, 3) := by decide +kernel
theorem dX3_moveGap_50 : decode cX3_moveGap 50 = .ok (.aload_n 0, 1) := by decide +kernel
theorem dX3_moveGap_51 : decode cX3_moveGap 51 = .ok (.getfield 31, 3) := by decide +kernel
theorem dX3_moveGap_54 : decode cX3_moveGap 54 = .ok (.iconst 1, 1) := by decide +kernel
theorem dX3_moveGap_55 : decode cX3_moveGap 55 = .ok (.iadd, 1) := by decide +kernel
theorem dX3_moveGap_56 : decode cX3_moveGap 56 = .ok (.goto 4, 3) := by decide +kernel
theorem dX3_moveGap_59 : decode cX3_moveGap 59 = .ok (.iconst 0, 1) := by decide +kernel
theorem dX3_moveGap_60 : decode cX3_moveGap 60 = .ok (.putfield 31, 3) := by decide +kernel
theorem dX3_moveGap_63 : decode cX3_moveGap 63 = .ok (.aload_n 0, 1) := by decide +kernel
theorem dX3_moveGap_64 : decode cX3_moveGap 64 = .ok (.dup, 1) := by decide +kernel
theorem dX3_moveGap_65 : decode cX3_moveGap 65 = .ok (.getfield 43, 3) := by decide +kernel
theorem dX3_moveGap_68 : decode cX3_moveGap 68 = .ok (.iconst 1, 1) := by decide +kernel
theorem dX3_moveGap_69 : decode cX3_moveGap 69 = .ok (.iadd, 1) := by decide +kernel
theorem dX3_moveGap_70 : decode cX3_moveGap 70 = .ok (.putfield 43, 3) := by decide +kernel
theorem dX3_moveGap_73 : decode cX3_moveGap 73 = .ok (.aload_n 0, 1) := by decide +kernel
theorem dX3_moveGap_74 : decode cX3_moveGap 74 = .ok (.iconst 0, 1) := by decide +kernel
theorem dX3_moveGap_75 : decode cX3_moveGap 75 = .ok (.putfield 46, 3) := by decide +kernel
theorem dX3_moveGap_78 : decode cX3_moveGap 78 = .ok (.return_, 1) := by decide +kernel
theorem dX3_layAt_0 : decode cX3_layAt 0 = .ok (.iload_n 1, 1) := by decide +kernel
theorem dX3_layAt_1 : decode cX3_layAt 1 = .ok (.ifCond .lt 11, 3) := by decide +kernel
theorem dX3_layAt_4 : decode cX3_layAt 4 = .ok (.iload_n 1, 1) := by decide +kernel
theorem dX3_layAt_5 : decode cX3_layAt 5 = .ok (.aload_n 0, 1) := by decide +kernel
theorem dX3_layAt_6 : decode cX3_layAt 6 = .ok (.getfield 25, 3) := by decide +kernel
theorem dX3_layAt_9 : decode cX3_layAt 9 = .ok (.if_icmp .le 4, 3) := by decide +kernel
theorem dX3_layAt_12 : decode cX3_layAt 12 = .ok (.return_, 1) := by decide +kernel
theorem dX3_layAt_13 : decode cX3_layAt 13 = .ok (.aload_n 0, 1) := by decide +kernel
theorem dX3_layAt_14 : decode cX3_layAt 14 = .ok (.getfield 22, 3) := by decide +kernel
theorem dX3_layAt_17 : decode cX3_layAt 17 = .ok (.iload_n 1, 1) := by decide +kernel
theorem dX3_layAt_18 : decode cX3_layAt 18 = .ok (.dup2, 1) := by decide +kernel
theorem dX3_layAt_19 : decode cX3_layAt 19 = .ok (.iaload, 1) := by decide +kernel
theorem dX3_layAt_20 : decode cX3_layAt 20 = .ok (.iconst 1, 1) := by decide +kernel
theorem dX3_layAt_21 : decode cX3_layAt 21 = .ok (.iadd, 1) := by decide +kernel
theorem dX3_layAt_22 : decode cX3_layAt 22 = .ok (.iastore, 1) := by decide +kernel
theorem dX3_layAt_23 : decode cX3_layAt 23 = .ok (.aload_n 0, 1) := by decide +kernel
theorem dX3_layAt_24 : decode cX3_layAt 24 = .ok (.dup, 1) := by decide +kernel
theorem dX3_layAt_25 : decode cX3_layAt 25 = .ok (.getfield 52, 3) := by decide +kernel
theorem dX3_layAt_28 : decode cX3_layAt 28 = .ok (.iconst 1, 1) := by decide +kernel
theorem dX3_layAt_29 : decode cX3_layAt 29 = .ok (.iadd, 1) := by decide +kernel
theorem dX3_layAt_30 : decode cX3_layAt 30 = .ok (.putfield 52, 3) := by decide +kernel
theorem dX3_layAt_33 : decode cX3_layAt 33 = .ok (.aload_n 0, 1) := by decide +kernel
theorem dX3_layAt_34 : decode cX3_layAt 34 = .ok (.getfield 22, 3) := by decide +kernel
theorem dX3_layAt_37 : decode cX3_layAt 37 = .ok (.iload_n 1, 1) := by decide +kernel
theorem dX3_layAt_38 : decode cX3_layAt 38 = .ok (.iaload, 1) := by decide +kernel
theorem dX3_layAt_39 : decode cX3_layAt 39 = .ok (.aload_n 0, 1) := by decide +kernel
theorem dX3_layAt_40 : decode cX3_layAt 40 = .ok (.getfield 9, 3) := by decide +kernel
theorem dX3_layAt_43 : decode cX3_layAt 43 = .ok (.if_icmp .ge 4, 3) := by decide +kernel
theorem dX3_layAt_46 : decode cX3_layAt 46 = .ok (.return_, 1) := by decide +kernel
theorem dX3_layAt_47 : decode cX3_layAt 47 = .ok (.aload_n 0, 1) := by decide +kernel
theorem dX3_layAt_48 : decode cX3_layAt 48 = .ok (.getfield 37, 3) := by decide +kernel
theorem dX3_layAt_51 : decode cX3_layAt 51 = .ok (.ifCond .ne 9, 3) := by decide +kernel
theorem dX3_layAt_54 : decode cX3_layAt 54 = .ok (.aload_n 0, 1) := by decide +kernel
theorem dX3_layAt_55 : decode cX3_layAt 55 = .ok (.iconst 1, 1) := by decide +kernel
theorem dX3_layAt_56 : decode cX3_layAt 56 = .ok (.putfield 55, 3) := by decide +kernel
theorem dX3_layAt_59 : decode cX3_layAt 59 = .ok (.return_, 1) := by decide +kernel
theorem dX3_layAt_60 : decode cX3_layAt 60 = .ok (.aload_n 0, 1) := by decide +kernel
theorem dX3_layAt_61 : decode cX3_layAt 61 = .ok (.dup, 1) := by decide +kernel
theorem dX3_layAt_62 : decode cX3_layAt 62 = .ok (.getfield 37, 3) := by decide +kernel
theorem dX3_layAt_65 : decode cX3_layAt 65 = .ok (.iconst 1, 1) := by decide +kernel
theorem dX3_layAt_66 : decode cX3_layAt 66 = .ok (.isub, 1) := by decide +kernel
theorem dX3_layAt_67 : decode cX3_layAt 67 = .ok (.putfield 37, 3) := by decide +kernel
theorem dX3_layAt_70 : decode cX3_layAt 70 = .ok (.aload_n 0, 1) := by decide +kernel
theorem dX3_layAt_71 : decode cX3_layAt 71 = .ok (.dup, 1) := by decide +kernel
theorem dX3_layAt_72 : decode cX3_layAt 72 = .ok (.getfield 49, 3) := by decide +kernel
theorem dX3_layAt_75 : decode cX3_layAt 75 = .ok (.iconst 1, 1) := by decide +kernel
theorem dX3_layAt_76 : decode cX3_layAt 76 = .ok (.iadd, 1) := by decide +kernel
theorem dX3_layAt_77 : decode cX3_layAt 77 = .ok (.putfield 49, 3) := by decide +kernel
theorem dX3_layAt_80 : decode cX3_layAt 80 = .ok (.aload_n 0, 1) := by decide +kernel
theorem dX3_layAt_81 : decode cX3_layAt 81 = .ok (.getfield 22, 3) := by decide +kernel
theorem dX3_layAt_84 : decode cX3_layAt 84 = .ok (.iload_n 1, 1) := by decide +kernel
theorem dX3_layAt_85 : decode cX3_layAt 85 = .ok (.iconst 1, 1) := by decide +kernel
theorem dX3_layAt_86 : decode cX3_layAt 86 = .ok (.iastore, 1) := by decide +kernel
theorem dX3_layAt_87 : decode cX3_layAt 87 = .ok (.aload_n 0, 1) := by decide +kernel
theorem dX3_layAt_88 : decode cX3_layAt 88 = .ok (.dup, 1) := by decide +kernel
theorem dX3_layAt_89 : decode cX3_layAt 89 = .ok (.getfield 52, 3) := by decide +kernel
theorem dX3_layAt_92 : decode cX3_layAt 92 = .ok (.iconst 1, 1) := by decide +kernel
theorem dX3_layAt_93 : decode cX3_layAt 93 = .ok (.iadd, 1) := by decide +kernel
theorem dX3_layAt_94 : decode cX3_layAt 94 = .ok (.putfield 52, 3) := by decide +kernel
theorem dX3_layAt_97 : decode cX3_layAt 97 = .ok (.return_, 1) := by decide +kernel
set_option maxRecDepth 20000 in
theorem ggX3_hammerLine_X3_valueOf : GoodIn wsX3_hammerLine wsX3_valueOf := goodIn_r _ [6, 7, 8, 9, 10, 5, 11, 12, 45, 46, 47, 48, 49, 50, 51, 52, 53, 54, 55, 56, 57, 58, 59] (by decide +kernel) (by decide +kernel)
set_option maxRecDepth 20000 in
theorem gX3_hammerLine_X3_valueOf : GoodIn wsX3_hammerLine (wsV RX3 106 RX3 yX3_valueOf wsX3_valueOf) := goodIn_app (goodIn_of _ (by decide +kernel)) ggX3_hammerLine_X3_valueOf
set_option maxRecDepth 20000 in
theorem ggX3_hammerLine_X3_writeLine : GoodIn wsX3_hammerLine wsX3_writeLine := goodIn_r _ [16, 7, 17, 18, 1, 19, 8, 9, 10, 5, 11, 12, 20, 21, 22, 23, 24, 25, 26, 27, 28, 29, 30, 31, 32, 33, 34, 35, 36, 37, 38, 39, 40, 41, 42, 43, 44, 45, 46, 47, 48, 49, 50, 51, 52, 53, 54, 55, 56, 57, 58, 59] (by decide +kernel) (by decide +kernel)
set_option maxRecDepth 20000 in
theorem gX3_hammerLine_X3_writeLine : GoodIn wsX3_hammerLine (wsV RX3 109 RX3 yX3_writeLine wsX3_writeLine) := goodIn_app (goodIn_of _ (by decide +kernel)) ggX3_hammerLine_X3_writeLine
theorem dX3_hammerLine_0 : decode cX3_hammerLine 0 = .ok (.iconst 0, 1) := by decide +kernel
theorem dX3_hammerLine_1 : decode cX3_hammerLine 1 = .ok (.istore_n 3, 1) := by decide +kernel
theorem dX3_hammerLine_2 : decode cX3_hammerLine 2 = .ok (.iload_n 3, 1) := by decide +kernel
theorem dX3_hammerLine_3 : decode cX3_hammerLine 3 = .ok (.iload_n 2, 1) := by decide +kernel
theorem dX3_hammerLine_4 : decode cX3_hammerLine 4 = .ok (.if_icmp .ge 27, 3) := by decide +kernel
theorem dX3_hammerLine_7 : decode cX3_hammerLine 7 = .ok (.aload_n 0, 1) := by decide +kernel
theorem dX3_hammerLine_8 : decode cX3_hammerLine 8 = .ok (.getfield 55, 3) := by decide +kernel
theorem dX3_hammerLine_11 : decode cX3_hammerLine 11 = .ok (.ifCond .ne 20, 3) := by decide +kernel
theorem dX3_hammerLine_14 : decode cX3_hammerLine 14 = .ok (.aload_n 0, 1) := by decide +kernel
theorem dX3_hammerLine_15 : decode cX3_hammerLine 15 = .ok (.iload_n 1, 1) := by decide +kernel
theorem dX3_hammerLine_16 : decode cX3_hammerLine 16 = .ok (.aload_n 0, 1) := by decide +kernel
theorem dX3_hammerLine_17 : decode cX3_hammerLine 17 = .ok (.iload_n 1, 1) := by decide +kernel
theorem dX3_hammerLine_18 : decode cX3_hammerLine 18 = .ok (.invokevirtual 106, 3) := by decide +kernel
theorem dX3_hammerLine_21 : decode cX3_hammerLine 21 = .ok (.invokevirtual 109, 3) := by decide +kernel
theorem dX3_hammerLine_24 : decode cX3_hammerLine 24 = .ok (.pop, 1) := by decide +kernel
theorem dX3_hammerLine_25 : decode cX3_hammerLine 25 = .ok (.iinc 3 1, 3) := by decide +kernel
theorem dX3_hammerLine_28 : decode cX3_hammerLine 28 = .ok (.goto (-26), 3) := by decide +kernel
theorem dX3_hammerLine_31 : decode cX3_hammerLine 31 = .ok (.iload_n 3, 1) := by decide +kernel
theorem dX3_hammerLine_32 : decode cX3_hammerLine 32 = .ok (.ireturn, 1) := by decide +kernel
set_option maxRecDepth 20000 in
theorem ggX3_writeInTurn_X3_valueOf : GoodIn wsX3_writeInTurn wsX3_valueOf := goodIn_r _ [7, 8, 9, 10, 11, 6, 12, 2, 45, 46, 47, 48, 49, 50, 51, 52, 53, 54, 55, 56, 57, 58, 59] (by decide +kernel) (by decide +kernel)
set_option maxRecDepth 20000 in
theorem gX3_writeInTurn_X3_valueOf : GoodIn wsX3_writeInTurn (wsV RX3 106 RX3 yX3_valueOf wsX3_valueOf) := goodIn_app (goodIn_of _ (by decide +kernel)) ggX3_writeInTurn_X3_valueOf
set_option maxRecDepth 20000 in
theorem ggX3_writeInTurn_X3_writeLine : GoodIn wsX3_writeInTurn wsX3_writeLine := goodIn_r _ [16, 8, 17, 18, 1, 19, 9, 10, 11, 6, 12, 2, 20, 21, 22, 23, 24, 25, 26, 27, 28, 29, 30, 31, 32, 33, 34, 35, 36, 37, 38, 39, 40, 41, 42, 43, 44, 45, 46, 47, 48, 49, 50, 51, 52, 53, 54, 55, 56, 57, 58, 59] (by decide +kernel) (by decide +kernel)
set_option maxRecDepth 20000 in
theorem gX3_writeInTurn_X3_writeLine : GoodIn wsX3_writeInTurn (wsV RX3 109 RX3 yX3_writeLine wsX3_writeLine) := goodIn_app (goodIn_of _ (by decide +kernel)) ggX3_writeInTurn_X3_writeLine
theorem dX3_writeInTurn_0 : decode cX3_writeInTurn 0 = .ok (.iconst 0, 1) := by decide +kernel
theorem dX3_writeInTurn_1 : decode cX3_writeInTurn 1 = .ok (.istore_n 2, 1) := by decide +kernel
theorem dX3_writeInTurn_2 : decode cX3_writeInTurn 2 = .ok (.iconst 0, 1) := by decide +kernel
theorem dX3_writeInTurn_3 : decode cX3_writeInTurn 3 = .ok (.istore_n 3, 1) := by decide +kernel
theorem dX3_writeInTurn_4 : decode cX3_writeInTurn 4 = .ok (.iload_n 2, 1) := by decide +kernel
theorem dX3_writeInTurn_5 : decode cX3_writeInTurn 5 = .ok (.iload_n 1, 1) := by decide +kernel
theorem dX3_writeInTurn_6 : decode cX3_writeInTurn 6 = .ok (.if_icmp .ge 45, 3) := by decide +kernel
theorem dX3_writeInTurn_9 : decode cX3_writeInTurn 9 = .ok (.aload_n 0, 1) := by decide +kernel
theorem dX3_writeInTurn_10 : decode cX3_writeInTurn 10 = .ok (.getfield 55, 3) := by decide +kernel
theorem dX3_writeInTurn_13 : decode cX3_writeInTurn 13 = .ok (.ifCond .ne 38, 3) := by decide +kernel
theorem dX3_writeInTurn_16 : decode cX3_writeInTurn 16 = .ok (.aload_n 0, 1) := by decide +kernel
theorem dX3_writeInTurn_17 : decode cX3_writeInTurn 17 = .ok (.iload_n 3, 1) := by decide +kernel
theorem dX3_writeInTurn_18 : decode cX3_writeInTurn 18 = .ok (.aload_n 0, 1) := by decide +kernel
theorem dX3_writeInTurn_19 : decode cX3_writeInTurn 19 = .ok (.iload_n 3, 1) := by decide +kernel
theorem dX3_writeInTurn_20 : decode cX3_writeInTurn 20 = .ok (.invokevirtual 106, 3) := by decide +kernel
theorem dX3_writeInTurn_23 : decode cX3_writeInTurn 23 = .ok (.invokevirtual 109, 3) := by decide +kernel
theorem dX3_writeInTurn_26 : decode cX3_writeInTurn 26 = .ok (.pop, 1) := by decide +kernel
theorem dX3_writeInTurn_27 : decode cX3_writeInTurn 27 = .ok (.iinc 2 1, 3) := by decide +kernel
theorem dX3_writeInTurn_30 : decode cX3_writeInTurn 30 = .ok (.iload_n 3, 1) := by decide +kernel
theorem dX3_writeInTurn_31 : decode cX3_writeInTurn 31 = .ok (.iconst 1, 1) := by decide +kernel
theorem dX3_writeInTurn_32 : decode cX3_writeInTurn 32 = .ok (.iadd, 1) := by decide +kernel
theorem dX3_writeInTurn_33 : decode cX3_writeInTurn 33 = .ok (.aload_n 0, 1) := by decide +kernel
theorem dX3_writeInTurn_34 : decode cX3_writeInTurn 34 = .ok (.getfield 25, 3) := by decide +kernel
theorem dX3_writeInTurn_37 : decode cX3_writeInTurn 37 = .ok (.if_icmp .ge 9, 3) := by decide +kernel
theorem dX3_writeInTurn_40 : decode cX3_writeInTurn 40 = .ok (.iload_n 3, 1) := by decide +kernel
theorem dX3_writeInTurn_41 : decode cX3_writeInTurn 41 = .ok (.iconst 1, 1) := by decide +kernel
theorem dX3_writeInTurn_42 : decode cX3_writeInTurn 42 = .ok (.iadd, 1) := by decide +kernel
theorem dX3_writeInTurn_43 : decode cX3_writeInTurn 43 = .ok (.goto 4, 3) := by decide +kernel
theorem dX3_writeInTurn_46 : decode cX3_writeInTurn 46 = .ok (.iconst 0, 1) := by decide +kernel
theorem dX3_writeInTurn_47 : decode cX3_writeInTurn 47 = .ok (.istore_n 3, 1) := by decide +kernel
theorem dX3_writeInTurn_48 : decode cX3_writeInTurn 48 = .ok (.goto (-44), 3) := by decide +kernel
theorem dX3_writeInTurn_51 : decode cX3_writeInTurn 51 = .ok (.iload_n 2, 1) := by decide +kernel
theorem dX3_writeInTurn_52 : decode cX3_writeInTurn 52 = .ok (.ireturn, 1) := by decide +kernel
set_option maxRecDepth 20000 in
theorem ggX3_writeByChance_X3_exists : GoodIn wsX3_writeByChance wsX3_exists := goodIn_r _ [9, 3, 47, 48, 49, 50, 51, 52, 53, 54, 55, 56, 57, 58, 59, 60, 61] (by decide +kernel) (by decide +kernel)
set_option maxRecDepth 20000 in
theorem gX3_writeByChance_X3_exists : GoodIn wsX3_writeByChance (wsV RX3 112 RX3 yX3_exists wsX3_exists) := goodIn_app (goodIn_of _ (by decide +kernel)) ggX3_writeByChance_X3_exists
set_option maxRecDepth 20000 in
theorem ggX3_writeByChance_X3_writeLine : GoodIn wsX3_writeByChance wsX3_writeLine := goodIn_r _ [13, 14, 15, 16, 4, 17, 18, 19, 20, 8, 21, 3, 22, 23, 24, 25, 26, 27, 28, 29, 30, 31, 32, 33, 34, 35, 36, 37, 38, 39, 40, 41, 42, 43, 44, 45, 46, 47, 48, 49, 50, 51, 52, 53, 54, 55, 56, 57, 58, 59, 60, 61] (by decide +kernel) (by decide +kernel)
set_option maxRecDepth 20000 in
theorem gX3_writeByChance_X3_writeLine : GoodIn wsX3_writeByChance (wsV RX3 109 RX3 yX3_writeLine wsX3_writeLine) := goodIn_app (goodIn_of _ (by decide +kernel)) ggX3_writeByChance_X3_writeLine
theorem dX3_writeByChance_0 : decode cX3_writeByChance 0 = .ok (.aload_n 0, 1) := by decide +kernel
theorem dX3_writeByChance_1 : decode cX3_writeByChance 1 = .ok (.invokevirtual 112, 3) := by decide +kernel
theorem dX3_writeByChance_4 : decode cX3_writeByChance 4 = .ok (.ifCond .ne 4, 3) := by decide +kernel
theorem dX3_writeByChance_7 : decode cX3_writeByChance 7 = .ok (.return_, 1) := by decide +kernel
theorem dX3_writeByChance_8 : decode cX3_writeByChance 8 = .ok (.lload_n 1, 1) := by decide +kernel
theorem dX3_writeByChance_9 : decode cX3_writeByChance 9 = .ok (.lstore 4, 2) := by decide +kernel
theorem dX3_writeByChance_11 : decode cX3_writeByChance 11 = .ok (.iconst 0, 1) := by decide +kernel
theorem dX3_writeByChance_12 : decode cX3_writeByChance 12 = .ok (.istore 6, 2) := by decide +kernel
theorem dX3_writeByChance_14 : decode cX3_writeByChance 14 = .ok (.iload 6, 2) := by decide +kernel
theorem dX3_writeByChance_16 : decode cX3_writeByChance 16 = .ok (.iload_n 3, 1) := by decide +kernel
theorem dX3_writeByChance_17 : decode cX3_writeByChance 17 = .ok (.if_icmp .ge 75, 3) := by decide +kernel
theorem dX3_writeByChance_20 : decode cX3_writeByChance 20 = .ok (.lload 4, 2) := by decide +kernel
theorem dX3_writeByChance_22 : decode cX3_writeByChance 22 = .ok (.ldc2_w 116, 3) := by decide +kernel
theorem dX3_writeByChance_25 : decode cX3_writeByChance 25 = .ok (.lmul, 1) := by decide +kernel
theorem dX3_writeByChance_26 : decode cX3_writeByChance 26 = .ok (.ldc2_w 118, 3) := by decide +kernel
theorem dX3_writeByChance_29 : decode cX3_writeByChance 29 = .ok (.ladd, 1) := by decide +kernel
theorem dX3_writeByChance_30 : decode cX3_writeByChance 30 = .ok (.lstore 4, 2) := by decide +kernel
theorem dX3_writeByChance_32 : decode cX3_writeByChance 32 = .ok (.lload 4, 2) := by decide +kernel
theorem dX3_writeByChance_34 : decode cX3_writeByChance 34 = .ok (.bipush 33, 2) := by decide +kernel
theorem dX3_writeByChance_36 : decode cX3_writeByChance 36 = .ok (.lushr, 1) := by decide +kernel
theorem dX3_writeByChance_37 : decode cX3_writeByChance 37 = .ok (.l2i, 1) := by decide +kernel
theorem dX3_writeByChance_38 : decode cX3_writeByChance 38 = .ok (.istore 7, 2) := by decide +kernel
theorem dX3_writeByChance_40 : decode cX3_writeByChance 40 = .ok (.iload 7, 2) := by decide +kernel
theorem dX3_writeByChance_42 : decode cX3_writeByChance 42 = .ok (.iconst 4, 1) := by decide +kernel
theorem dX3_writeByChance_43 : decode cX3_writeByChance 43 = .ok (.irem, 1) := by decide +kernel
theorem dX3_writeByChance_44 : decode cX3_writeByChance 44 = .ok (.ifCond .ne 7, 3) := by decide +kernel
theorem dX3_writeByChance_47 : decode cX3_writeByChance 47 = .ok (.iconst 0, 1) := by decide +kernel
theorem dX3_writeByChance_48 : decode cX3_writeByChance 48 = .ok (.goto 12, 3) := by decide +kernel
theorem dX3_writeByChance_51 : decode cX3_writeByChance 51 = .ok (.iload 7, 2) := by decide +kernel
theorem dX3_writeByChance_53 : decode cX3_writeByChance 53 = .ok (.iconst 4, 1) := by decide +kernel
theorem dX3_writeByChance_54 : decode cX3_writeByChance 54 = .ok (.idiv, 1) := by decide +kernel
theorem dX3_writeByChance_55 : decode cX3_writeByChance 55 = .ok (.aload_n 0, 1) := by decide +kernel
theorem dX3_writeByChance_56 : decode cX3_writeByChance 56 = .ok (.getfield 25, 3) := by decide +kernel
theorem dX3_writeByChance_59 : decode cX3_writeByChance 59 = .ok (.irem, 1) := by decide +kernel
theorem dX3_writeByChance_60 : decode cX3_writeByChance 60 = .ok (.istore 8, 2) := by decide +kernel
theorem dX3_writeByChance_62 : decode cX3_writeByChance 62 = .ok (.aload_n 0, 1) := by decide +kernel
theorem dX3_writeByChance_63 : decode cX3_writeByChance 63 = .ok (.getfield 55, 3) := by decide +kernel
theorem dX3_writeByChance_66 : decode cX3_writeByChance 66 = .ok (.ifCond .ne 20, 3) := by decide +kernel
theorem dX3_writeByChance_69 : decode cX3_writeByChance 69 = .ok (.aload_n 0, 1) := by decide +kernel
theorem dX3_writeByChance_70 : decode cX3_writeByChance 70 = .ok (.iload 8, 2) := by decide +kernel
theorem dX3_writeByChance_72 : decode cX3_writeByChance 72 = .ok (.iload 7, 2) := by decide +kernel
theorem dX3_writeByChance_74 : decode cX3_writeByChance 74 = .ok (.sipush 128, 3) := by decide +kernel
theorem dX3_writeByChance_77 : decode cX3_writeByChance 77 = .ok (.idiv, 1) := by decide +kernel
theorem dX3_writeByChance_78 : decode cX3_writeByChance 78 = .ok (.sipush 1000, 3) := by decide +kernel
theorem dX3_writeByChance_81 : decode cX3_writeByChance 81 = .ok (.irem, 1) := by decide +kernel
theorem dX3_writeByChance_82 : decode cX3_writeByChance 82 = .ok (.invokevirtual 109, 3) := by decide +kernel
theorem dX3_writeByChance_85 : decode cX3_writeByChance 85 = .ok (.pop, 1) := by decide +kernel
theorem dX3_writeByChance_86 : decode cX3_writeByChance 86 = .ok (.iinc 6 1, 3) := by decide +kernel
theorem dX3_writeByChance_89 : decode cX3_writeByChance 89 = .ok (.goto (-75), 3) := by decide +kernel
theorem dX3_writeByChance_92 : decode cX3_writeByChance 92 = .ok (.return_, 1) := by decide +kernel
set_option maxRecDepth 20000 in
theorem ggX3_doWrite_X3_hasLine : GoodIn wsX3_doWrite wsX3_hasLine := goodIn_r _ [6, 7, 44, 45, 46, 47, 48, 49, 50, 51, 52, 53, 54, 55, 56, 57, 58] (by decide +kernel) (by decide +kernel)
set_option maxRecDepth 20000 in
theorem gX3_doWrite_X3_hasLine : GoodIn wsX3_doWrite (wsV RX3 85 RX3 yX3_hasLine wsX3_hasLine) := goodIn_app (goodIn_of _ (by decide +kernel)) ggX3_doWrite_X3_hasLine
set_option maxRecDepth 20000 in
theorem ggX3_doWrite_X5_isValue : GoodIn wsX3_doWrite wsX5_isValue := goodIn_r _ [10] (by decide +kernel) (by decide +kernel)
set_option maxRecDepth 20000 in
theorem gX3_doWrite_X5_isValue_n120 : GoodIn wsX3_doWrite (wsX5_isValue) := ggX3_doWrite_X5_isValue
set_option maxRecDepth 20000 in
theorem ggX3_doWrite_X3_writeLine : GoodIn wsX3_doWrite wsX3_writeLine := goodIn_r _ [14, 15, 16, 17, 1, 18, 2, 3, 4, 5, 6, 7, 19, 20, 21, 22, 23, 24, 25, 26, 27, 28, 29, 30, 31, 32, 33, 34, 35, 36, 37, 38, 39, 40, 41, 42, 43, 44, 45, 46, 47, 48, 49, 50, 51, 52, 53, 54, 55, 56, 57, 58] (by decide +kernel) (by decide +kernel)
set_option maxRecDepth 20000 in
theorem gX3_doWrite_X3_writeLine : GoodIn wsX3_doWrite (wsV RX3 109 RX3 yX3_writeLine wsX3_writeLine) := goodIn_app (goodIn_of _ (by decide +kernel)) ggX3_doWrite_X3_writeLine
theorem dX3_doWrite_0 : decode cX3_doWrite 0 = .ok (.aload_n 0, 1) := by decide +kernel
theorem dX3_doWrite_1 : decode cX3_doWrite 1 = .ok (.iload_n 1, 1) := by decide +kernel
theorem dX3_doWrite_2 : decode cX3_doWrite 2 = .ok (.invokevirtual 85, 3) := by decide +kernel
theorem dX3_doWrite_5 : decode cX3_doWrite 5 = .ok (.ifCond .eq 17, 3) := by decide +kernel
theorem dX3_doWrite_8 : decode cX3_doWrite 8 = .ok (.iload_n 2, 1) := by decide +kernel
theorem dX3_doWrite_9 : decode cX3_doWrite 9 = .ok (.invokestatic 120, 3) := by decide +kernel
theorem dX3_doWrite_12 : decode cX3_doWrite 12 = .ok (.ifCond .eq 10, 3) := by decide +kernel
theorem dX3_doWrite_15 : decode cX3_doWrite 15 = .ok (.aload_n 0, 1) := by decide +kernel
theorem dX3_doWrite_16 : decode cX3_doWrite 16 = .ok (.getfield 55, 3) := by decide +kernel
theorem dX3_doWrite_19 : decode cX3_doWrite 19 = .ok (.ifCond .eq 5, 3) := by decide +kernel
theorem dX3_doWrite_22 : decode cX3_doWrite 22 = .ok (.iconst 0, 1) := by decide +kernel
theorem dX3_doWrite_23 : decode cX3_doWrite 23 = .ok (.ireturn, 1) := by decide +kernel
theorem dX3_doWrite_24 : decode cX3_doWrite 24 = .ok (.aload_n 0, 1) := by decide +kernel
theorem dX3_doWrite_25 : decode cX3_doWrite 25 = .ok (.iload_n 1, 1) := by decide +kernel
theorem dX3_doWrite_26 : decode cX3_doWrite 26 = .ok (.iload_n 2, 1) := by decide +kernel
theorem dX3_doWrite_27 : decode cX3_doWrite 27 = .ok (.invokevirtual 109, 3) := by decide +kernel
theorem dX3_doWrite_30 : decode cX3_doWrite 30 = .ok (.pop, 1) := by decide +kernel
theorem dX3_doWrite_31 : decode cX3_doWrite 31 = .ok (.iconst 1, 1) := by decide +kernel
theorem dX3_doWrite_32 : decode cX3_doWrite 32 = .ok (.ireturn, 1) := by decide +kernel
set_option maxRecDepth 20000 in
theorem ggX3_doHammer_X3_hasLine : GoodIn wsX3_doHammer wsX3_hasLine := goodIn_r _ [5, 6, 52, 53, 54, 55, 56, 57, 58, 59, 60, 61, 62, 63, 64, 65, 66] (by decide +kernel) (by decide +kernel)
set_option maxRecDepth 20000 in
theorem gX3_doHammer_X3_hasLine : GoodIn wsX3_doHammer (wsV RX3 85 RX3 yX3_hasLine wsX3_hasLine) := goodIn_app (goodIn_of _ (by decide +kernel)) ggX3_doHammer_X3_hasLine
set_option maxRecDepth 20000 in
theorem ggX3_doHammer_X5_isHammered : GoodIn wsX3_doHammer wsX5_isHammered := goodIn_r _ [9] (by decide +kernel) (by decide +kernel)
set_option maxRecDepth 20000 in
theorem gX3_doHammer_X5_isHammered_n123 : GoodIn wsX3_doHammer (wsX5_isHammered) := ggX3_doHammer_X5_isHammered
set_option maxRecDepth 20000 in
theorem ggX3_doHammer_X3_hammerLine : GoodIn wsX3_doHammer wsX3_hammerLine := goodIn_r _ [13, 14, 15, 16, 17, 4, 18, 19, 1, 2, 3, 5, 6, 20, 21, 22, 23, 24, 25, 26, 27, 28, 29, 30, 31, 32, 33, 34, 35, 36, 37, 38, 39, 40, 41, 42, 43, 44, 45, 46, 47, 48, 49, 50, 51, 52, 53, 54, 55, 56, 57, 58, 59, 60, 61, 62, 63, 64, 65, 66] (by decide +kernel) (by decide +kernel)
set_option maxRecDepth 20000 in
theorem gX3_doHammer_X3_hammerLine : GoodIn wsX3_doHammer (wsV RX3 126 RX3 yX3_hammerLine wsX3_hammerLine) := goodIn_app (goodIn_of _ (by decide +kernel)) ggX3_doHammer_X3_hammerLine
theorem dX3_doHammer_0 : decode cX3_doHammer 0 = .ok (.aload_n 0, 1) := by decide +kernel
theorem dX3_doHammer_1 : decode cX3_doHammer 1 = .ok (.iload_n 1, 1) := by decide +kernel
theorem dX3_doHammer_2 : decode cX3_doHammer 2 = .ok (.invokevirtual 85, 3) := by decide +kernel
theorem dX3_doHammer_5 : decode cX3_doHammer 5 = .ok (.ifCond .eq 10, 3) := by decide +kernel
theorem dX3_doHammer_8 : decode cX3_doHammer 8 = .ok (.iload_n 2, 1) := by decide +kernel
theorem dX3_doHammer_9 : decode cX3_doHammer 9 = .ok (.invokestatic 123, 3) := by decide +kernel
theorem dX3_doHammer_12 : decode cX3_doHammer 12 = .ok (.ifCond .ne 5, 3) := by decide +kernel
theorem dX3_doHammer_15 : decode cX3_doHammer 15 = .ok (.iconst 0, 1) := by decide +kernel
theorem dX3_doHammer_16 : decode cX3_doHammer 16 = .ok (.ireturn, 1) := by decide +kernel
theorem dX3_doHammer_17 : decode cX3_doHammer 17 = .ok (.aload_n 0, 1) := by decide +kernel
theorem dX3_doHammer_18 : decode cX3_doHammer 18 = .ok (.iload_n 1, 1) := by decide +kernel
theorem dX3_doHammer_19 : decode cX3_doHammer 19 = .ok (.iload_n 2, 1) := by decide +kernel
theorem dX3_doHammer_20 : decode cX3_doHammer 20 = .ok (.invokevirtual 126, 3) := by decide +kernel
theorem dX3_doHammer_23 : decode cX3_doHammer 23 = .ok (.pop, 1) := by decide +kernel
theorem dX3_doHammer_24 : decode cX3_doHammer 24 = .ok (.iconst 1, 1) := by decide +kernel
theorem dX3_doHammer_25 : decode cX3_doHammer 25 = .ok (.ireturn, 1) := by decide +kernel
set_option maxRecDepth 20000 in
theorem ggX3_doAll_X5_isRounds : GoodIn wsX3_doAll wsX5_isRounds := goodIn_r _ [4] (by decide +kernel) (by decide +kernel)
set_option maxRecDepth 20000 in
theorem gX3_doAll_X5_isRounds_n129 : GoodIn wsX3_doAll (wsX5_isRounds) := ggX3_doAll_X5_isRounds
set_option maxRecDepth 20000 in
theorem ggX3_doAll_X3_exists : GoodIn wsX3_doAll wsX3_exists := goodIn_r _ [9, 1, 56, 57, 58, 59, 60, 61, 62, 63, 64, 65, 66, 67, 68, 69, 70] (by decide +kernel) (by decide +kernel)
set_option maxRecDepth 20000 in
theorem gX3_doAll_X3_exists : GoodIn wsX3_doAll (wsV RX3 112 RX3 yX3_exists wsX3_exists) := goodIn_app (goodIn_of _ (by decide +kernel)) ggX3_doAll_X3_exists
set_option maxRecDepth 20000 in
theorem ggX3_doAll_X3_writeInTurn : GoodIn wsX3_doAll wsX3_writeInTurn := goodIn_r _ [13, 14, 1, 15, 16, 17, 8, 18, 19, 20, 21, 22, 23, 24, 25, 26, 27, 28, 29, 30, 31, 32, 33, 34, 35, 36, 37, 38, 39, 40, 41, 42, 43, 44, 45, 46, 47, 48, 49, 50, 51, 52, 53, 54, 55, 56, 57, 58, 59, 60, 61, 62, 63, 64, 65, 66, 67, 68, 69, 70] (by decide +kernel) (by decide +kernel)
set_option maxRecDepth 20000 in
theorem gX3_doAll_X3_writeInTurn : GoodIn wsX3_doAll (wsV RX3 132 RX3 yX3_writeInTurn wsX3_writeInTurn) := goodIn_app (goodIn_of _ (by decide +kernel)) ggX3_doAll_X3_writeInTurn
theorem dX3_doAll_0 : decode cX3_doAll 0 = .ok (.iload_n 1, 1) := by decide +kernel
theorem dX3_doAll_1 : decode cX3_doAll 1 = .ok (.invokestatic 129, 3) := by decide +kernel
theorem dX3_doAll_4 : decode cX3_doAll 4 = .ok (.ifCond .eq 10, 3) := by decide +kernel
theorem dX3_doAll_7 : decode cX3_doAll 7 = .ok (.aload_n 0, 1) := by decide +kernel
theorem dX3_doAll_8 : decode cX3_doAll 8 = .ok (.invokevirtual 112, 3) := by decide +kernel
theorem dX3_doAll_11 : decode cX3_doAll 11 = .ok (.ifCond .ne 5, 3) := by decide +kernel
theorem dX3_doAll_14 : decode cX3_doAll 14 = .ok (.iconst 0, 1) := by decide +kernel
theorem dX3_doAll_15 : decode cX3_doAll 15 = .ok (.ireturn, 1) := by decide +kernel
theorem dX3_doAll_16 : decode cX3_doAll 16 = .ok (.aload_n 0, 1) := by decide +kernel
theorem dX3_doAll_17 : decode cX3_doAll 17 = .ok (.iload_n 1, 1) := by decide +kernel
theorem dX3_doAll_18 : decode cX3_doAll 18 = .ok (.aload_n 0, 1) := by decide +kernel
theorem dX3_doAll_19 : decode cX3_doAll 19 = .ok (.getfield 25, 3) := by decide +kernel
theorem dX3_doAll_22 : decode cX3_doAll 22 = .ok (.imul, 1) := by decide +kernel
theorem dX3_doAll_23 : decode cX3_doAll 23 = .ok (.invokevirtual 132, 3) := by decide +kernel
theorem dX3_doAll_26 : decode cX3_doAll 26 = .ok (.pop, 1) := by decide +kernel
theorem dX3_doAll_27 : decode cX3_doAll 27 = .ok (.iconst 1, 1) := by decide +kernel
theorem dX3_doAll_28 : decode cX3_doAll 28 = .ok (.ireturn, 1) := by decide +kernel
set_option maxRecDepth 20000 in
theorem ggX3_doSet_X5_isSettingValue : GoodIn wsX3_doSet wsX5_isSettingValue := goodIn_r _ [3] (by decide +kernel) (by decide +kernel)
set_option maxRecDepth 20000 in
theorem gX3_doSet_X5_isSettingValue_n135 : GoodIn wsX3_doSet (wsX5_isSettingValue) := ggX3_doSet_X5_isSettingValue
set_option maxRecDepth 20000 in
theorem ggX3_doSet_X3_changeSetting : GoodIn wsX3_doSet wsX3_changeSetting := goodIn_r _ [8, 9, 10, 11, 12, 13, 14, 15, 16, 17, 18, 19, 20, 21, 22, 23, 24, 25] (by decide +kernel) (by decide +kernel)
set_option maxRecDepth 20000 in
theorem gX3_doSet_X3_changeSetting : GoodIn wsX3_doSet (wsV RX3 139 RX3 yX3_changeSetting wsX3_changeSetting) := goodIn_app (goodIn_of _ (by decide +kernel)) ggX3_doSet_X3_changeSetting
theorem dX3_doSet_0 : decode cX3_doSet 0 = .ok (.iload_n 1, 1) := by decide +kernel
theorem dX3_doSet_1 : decode cX3_doSet 1 = .ok (.iload_n 2, 1) := by decide +kernel
theorem dX3_doSet_2 : decode cX3_doSet 2 = .ok (.invokestatic 135, 3) := by decide +kernel
theorem dX3_doSet_5 : decode cX3_doSet 5 = .ok (.ifCond .ne 5, 3) := by decide +kernel
theorem dX3_doSet_8 : decode cX3_doSet 8 = .ok (.iconst 0, 1) := by decide +kernel
theorem dX3_doSet_9 : decode cX3_doSet 9 = .ok (.ireturn, 1) := by decide +kernel
theorem dX3_doSet_10 : decode cX3_doSet 10 = .ok (.aload_n 0, 1) := by decide +kernel
theorem dX3_doSet_11 : decode cX3_doSet 11 = .ok (.iload_n 1, 1) := by decide +kernel
theorem dX3_doSet_12 : decode cX3_doSet 12 = .ok (.iload_n 2, 1) := by decide +kernel
theorem dX3_doSet_13 : decode cX3_doSet 13 = .ok (.invokevirtual 139, 3) := by decide +kernel
theorem dX3_doSet_16 : decode cX3_doSet 16 = .ok (.iconst 1, 1) := by decide +kernel
theorem dX3_doSet_17 : decode cX3_doSet 17 = .ok (.ireturn, 1) := by decide +kernel
theorem dX4_init_0 : decode cX4_init 0 = .ok (.aload_n 0, 1) := by decide +kernel
theorem dX4_init_1 : decode cX4_init 1 = .ok (.invokespecial 3, 3) := by decide +kernel
theorem dX4_init_4 : decode cX4_init 4 = .ok (.aload_n 0, 1) := by decide +kernel
theorem dX4_init_5 : decode cX4_init 5 = .ok (.bipush 120, 2) := by decide +kernel
theorem dX4_init_7 : decode cX4_init 7 = .ok (.newarray .char, 2) := by decide +kernel
theorem dX4_init_9 : decode cX4_init 9 = .ok (.putfield 11, 3) := by decide +kernel
theorem dX4_init_12 : decode cX4_init 12 = .ok (.return_, 1) := by decide +kernel
theorem dX4_isFull_0 : decode cX4_isFull 0 = .ok (.aload_n 0, 1) := by decide +kernel
theorem dX4_isFull_1 : decode cX4_isFull 1 = .ok (.getfield 15, 3) := by decide +kernel
theorem dX4_isFull_4 : decode cX4_isFull 4 = .ok (.bipush 120, 2) := by decide +kernel
theorem dX4_isFull_6 : decode cX4_isFull 6 = .ok (.if_icmp .lt 7, 3) := by decide +kernel
theorem dX4_isFull_9 : decode cX4_isFull 9 = .ok (.iconst 1, 1) := by decide +kernel
theorem dX4_isFull_10 : decode cX4_isFull 10 = .ok (.goto 4, 3) := by decide +kernel
theorem dX4_isFull_13 : decode cX4_isFull 13 = .ok (.iconst 0, 1) := by decide +kernel
theorem dX4_isFull_14 : decode cX4_isFull 14 = .ok (.ireturn, 1) := by decide +kernel
set_option maxRecDepth 20000 in
theorem ggX4_add_X4_isFull : GoodIn wsX4_add wsX4_isFull := goodIn_r _ [7, 2, 8, 9] (by decide +kernel) (by decide +kernel)
set_option maxRecDepth 20000 in
theorem gX4_add_X4_isFull : GoodIn wsX4_add (wsV RX4 19 RX4 yX4_isFull wsX4_isFull) := goodIn_app (goodIn_of _ (by decide +kernel)) ggX4_add_X4_isFull
theorem dX4_add_0 : decode cX4_add 0 = .ok (.aload_n 0, 1) := by decide +kernel
theorem dX4_add_1 : decode cX4_add 1 = .ok (.invokevirtual 19, 3) := by decide +kernel
theorem dX4_add_4 : decode cX4_add 4 = .ok (.ifCond .ne 23, 3) := by decide +kernel
theorem dX4_add_7 : decode cX4_add 7 = .ok (.aload_n 0, 1) := by decide +kernel
theorem dX4_add_8 : decode cX4_add 8 = .ok (.getfield 11, 3) := by decide +kernel
theorem dX4_add_11 : decode cX4_add 11 = .ok (.aload_n 0, 1) := by decide +kernel
theorem dX4_add_12 : decode cX4_add 12 = .ok (.getfield 15, 3) := by decide +kernel
theorem dX4_add_15 : decode cX4_add 15 = .ok (.iload_n 1, 1) := by decide +kernel
theorem dX4_add_16 : decode cX4_add 16 = .ok (.castore, 1) := by decide +kernel
theorem dX4_add_17 : decode cX4_add 17 = .ok (.aload_n 0, 1) := by decide +kernel
theorem dX4_add_18 : decode cX4_add 18 = .ok (.dup, 1) := by decide +kernel
theorem dX4_add_19 : decode cX4_add 19 = .ok (.getfield 15, 3) := by decide +kernel
theorem dX4_add_22 : decode cX4_add 22 = .ok (.iconst 1, 1) := by decide +kernel
theorem dX4_add_23 : decode cX4_add 23 = .ok (.iadd, 1) := by decide +kernel
theorem dX4_add_24 : decode cX4_add 24 = .ok (.putfield 15, 3) := by decide +kernel
theorem dX4_add_27 : decode cX4_add 27 = .ok (.aload_n 0, 1) := by decide +kernel
theorem dX4_add_28 : decode cX4_add 28 = .ok (.getfield 15, 3) := by decide +kernel
theorem dX4_add_31 : decode cX4_add 31 = .ok (.ireturn, 1) := by decide +kernel
theorem dX4_signAt_0 : decode cX4_signAt 0 = .ok (.iload_n 1, 1) := by decide +kernel
theorem dX4_signAt_1 : decode cX4_signAt 1 = .ok (.ifCond .lt 20, 3) := by decide +kernel
theorem dX4_signAt_4 : decode cX4_signAt 4 = .ok (.iload_n 1, 1) := by decide +kernel
theorem dX4_signAt_5 : decode cX4_signAt 5 = .ok (.aload_n 0, 1) := by decide +kernel
theorem dX4_signAt_6 : decode cX4_signAt 6 = .ok (.getfield 15, 3) := by decide +kernel
theorem dX4_signAt_9 : decode cX4_signAt 9 = .ok (.if_icmp .ge 12, 3) := by decide +kernel
theorem dX4_signAt_12 : decode cX4_signAt 12 = .ok (.aload_n 0, 1) := by decide +kernel
theorem dX4_signAt_13 : decode cX4_signAt 13 = .ok (.getfield 11, 3) := by decide +kernel
theorem dX4_signAt_16 : decode cX4_signAt 16 = .ok (.iload_n 1, 1) := by decide +kernel
theorem dX4_signAt_17 : decode cX4_signAt 17 = .ok (.caload, 1) := by decide +kernel
theorem dX4_signAt_18 : decode cX4_signAt 18 = .ok (.goto 4, 3) := by decide +kernel
theorem dX4_signAt_21 : decode cX4_signAt 21 = .ok (.iconst 0, 1) := by decide +kernel
theorem dX4_signAt_22 : decode cX4_signAt 22 = .ok (.ireturn, 1) := by decide +kernel
set_option maxRecDepth 20000 in
theorem ggX4_firstError_X4_errorInHead : GoodIn wsX4_firstError wsX4_errorInHead := goodIn_r _ [6, 7, 8, 9, 5, 10, 1, 11, 12, 13, 14, 15, 24, 25] (by decide +kernel) (by decide +kernel)
set_option maxRecDepth 20000 in
theorem gX4_firstError_X4_errorInHead : GoodIn wsX4_firstError (wsV RX4 23 RX4 yX4_errorInHead wsX4_errorInHead) := goodIn_app (goodIn_of _ (by decide +kernel)) ggX4_firstError_X4_errorInHead
set_option maxRecDepth 20000 in
theorem ggX4_firstError_X4_errorInCommand : GoodIn wsX4_firstError wsX4_errorInCommand := goodIn_r _ [19, 7, 8, 9, 5, 10, 1, 11, 12, 13, 14, 15, 24, 25] (by decide +kernel) (by decide +kernel)
set_option maxRecDepth 20000 in
theorem gX4_firstError_X4_errorInCommand : GoodIn wsX4_firstError (wsV RX4 27 RX4 yX4_errorInCommand wsX4_errorInCommand) := goodIn_app (goodIn_of _ (by decide +kernel)) ggX4_firstError_X4_errorInCommand
set_option maxRecDepth 20000 in
theorem ggX4_firstError_X4_commandLength : GoodIn wsX4_firstError wsX4_commandLength := goodIn_r _ [23, 7, 8, 9, 5, 10, 1, 11, 24, 25] (by decide +kernel) (by decide +kernel)
set_option maxRecDepth 20000 in
theorem gX4_firstError_X4_commandLength : GoodIn wsX4_firstError (wsV RX4 31 RX4 yX4_commandLength wsX4_commandLength) := goodIn_app (goodIn_of _ (by decide +kernel)) ggX4_firstError_X4_commandLength
theorem dX4_firstError_0 : decode cX4_firstError 0 = .ok (.aload_n 0, 1) := by decide +kernel
theorem dX4_firstError_1 : decode cX4_firstError 1 = .ok (.invokevirtual 23, 3) := by decide +kernel
theorem dX4_firstError_4 : decode cX4_firstError 4 = .ok (.istore_n 1, 1) := by decide +kernel
theorem dX4_firstError_5 : decode cX4_firstError 5 = .ok (.bipush 6, 2) := by decide +kernel
theorem dX4_firstError_7 : decode cX4_firstError 7 = .ok (.istore_n 2, 1) := by decide +kernel
theorem dX4_firstError_8 : decode cX4_firstError 8 = .ok (.bipush 6, 2) := by decide +kernel
theorem dX4_firstError_10 : decode cX4_firstError 10 = .ok (.istore_n 3, 1) := by decide +kernel
theorem dX4_firstError_11 : decode cX4_firstError 11 = .ok (.iload_n 3, 1) := by decide +kernel
theorem dX4_firstError_12 : decode cX4_firstError 12 = .ok (.aload_n 0, 1) := by decide +kernel
theorem dX4_firstError_13 : decode cX4_firstError 13 = .ok (.getfield 15, 3) := by decide +kernel
theorem dX4_firstError_16 : decode cX4_firstError 16 = .ok (.if_icmp .ge 33, 3) := by decide +kernel
theorem dX4_firstError_19 : decode cX4_firstError 19 = .ok (.iload_n 1, 1) := by decide +kernel
theorem dX4_firstError_20 : decode cX4_firstError 20 = .ok (.iconst (-1), 1) := by decide +kernel
theorem dX4_firstError_21 : decode cX4_firstError 21 = .ok (.if_icmp .ne 28, 3) := by decide +kernel
theorem dX4_firstError_24 : decode cX4_firstError 24 = .ok (.iload_n 3, 1) := by decide +kernel
theorem dX4_firstError_25 : decode cX4_firstError 25 = .ok (.iload_n 2, 1) := by decide +kernel
theorem dX4_firstError_26 : decode cX4_firstError 26 = .ok (.if_icmp .ne 17, 3) := by decide +kernel
theorem dX4_firstError_29 : decode cX4_firstError 29 = .ok (.aload_n 0, 1) := by decide +kernel
theorem dX4_firstError_30 : decode cX4_firstError 30 = .ok (.iload_n 3, 1) := by decide +kernel
theorem dX4_firstError_31 : decode cX4_firstError 31 = .ok (.invokevirtual 27, 3) := by decide +kernel
theorem dX4_firstError_34 : decode cX4_firstError 34 = .ok (.istore_n 1, 1) := by decide +kernel
theorem dX4_firstError_35 : decode cX4_firstError 35 = .ok (.iload_n 3, 1) := by decide +kernel
theorem dX4_firstError_36 : decode cX4_firstError 36 = .ok (.aload_n 0, 1) := by decide +kernel
theorem dX4_firstError_37 : decode cX4_firstError 37 = .ok (.iload_n 3, 1) := by decide +kernel
theorem dX4_firstError_38 : decode cX4_firstError 38 = .ok (.invokevirtual 31, 3) := by decide +kernel
theorem dX4_firstError_41 : decode cX4_firstError 41 = .ok (.iadd, 1) := by decide +kernel
theorem dX4_firstError_42 : decode cX4_firstError 42 = .ok (.istore_n 2, 1) := by decide +kernel
theorem dX4_firstError_43 : decode cX4_firstError 43 = .ok (.iinc 3 1, 3) := by decide +kernel
theorem dX4_firstError_46 : decode cX4_firstError 46 = .ok (.goto (-35), 3) := by decide +kernel
theorem dX4_firstError_49 : decode cX4_firstError 49 = .ok (.iload_n 1, 1) := by decide +kernel
theorem dX4_firstError_50 : decode cX4_firstError 50 = .ok (.ireturn, 1) := by decide +kernel
set_option maxRecDepth 20000 in
theorem ggX4_errorInHead_X4_signAt : GoodIn wsX4_errorInHead wsX4_signAt := goodIn_r _ [5, 6, 7, 12, 13] (by decide +kernel) (by decide +kernel)
set_option maxRecDepth 20000 in
theorem gX4_errorInHead_X4_signAt : GoodIn wsX4_errorInHead (wsV RX4 34 RX4 yX4_signAt wsX4_signAt) := goodIn_app (goodIn_of _ (by decide +kernel)) ggX4_errorInHead_X4_signAt
set_option maxRecDepth 20000 in
theorem ggX4_errorInHead_X4_errorInNumber : GoodIn wsX4_errorInHead wsX4_errorInNumber := goodIn_r _ [11, 1, 2, 3, 4, 5, 6, 7, 12, 13] (by decide +kernel) (by decide +kernel)
set_option maxRecDepth 20000 in
theorem gX4_errorInHead_X4_errorInNumber : GoodIn wsX4_errorInHead (wsV RX4 38 RX4 yX4_errorInNumber wsX4_errorInNumber) := goodIn_app (goodIn_of _ (by decide +kernel)) ggX4_errorInHead_X4_errorInNumber
theorem dX4_errorInHead_0 : decode cX4_errorInHead 0 = .ok (.aload_n 0, 1) := by decide +kernel
theorem dX4_errorInHead_1 : decode cX4_errorInHead 1 = .ok (.iconst 0, 1) := by decide +kernel
theorem dX4_errorInHead_2 : decode cX4_errorInHead 2 = .ok (.invokevirtual 34, 3) := by decide +kernel
theorem dX4_errorInHead_5 : decode cX4_errorInHead 5 = .ok (.bipush 76, 2) := by decide +kernel
theorem dX4_errorInHead_7 : decode cX4_errorInHead 7 = .ok (.if_icmp .eq 5, 3) := by decide +kernel
theorem dX4_errorInHead_10 : decode cX4_errorInHead 10 = .ok (.iconst 0, 1) := by decide +kernel
theorem dX4_errorInHead_11 : decode cX4_errorInHead 11 = .ok (.ireturn, 1) := by decide +kernel
theorem dX4_errorInHead_12 : decode cX4_errorInHead 12 = .ok (.aload_n 0, 1) := by decide +kernel
theorem dX4_errorInHead_13 : decode cX4_errorInHead 13 = .ok (.iconst 1, 1) := by decide +kernel
theorem dX4_errorInHead_14 : decode cX4_errorInHead 14 = .ok (.iconst 2, 1) := by decide +kernel
theorem dX4_errorInHead_15 : decode cX4_errorInHead 15 = .ok (.iconst 4, 1) := by decide +kernel
theorem dX4_errorInHead_16 : decode cX4_errorInHead 16 = .ok (.bipush 32, 2) := by decide +kernel
theorem dX4_errorInHead_18 : decode cX4_errorInHead 18 = .ok (.invokevirtual 38, 3) := by decide +kernel
theorem dX4_errorInHead_21 : decode cX4_errorInHead 21 = .ok (.istore_n 1, 1) := by decide +kernel
theorem dX4_errorInHead_22 : decode cX4_errorInHead 22 = .ok (.iload_n 1, 1) := by decide +kernel
theorem dX4_errorInHead_23 : decode cX4_errorInHead 23 = .ok (.iconst (-1), 1) := by decide +kernel
theorem dX4_errorInHead_24 : decode cX4_errorInHead 24 = .ok (.if_icmp .ne 13, 3) := by decide +kernel
theorem dX4_errorInHead_27 : decode cX4_errorInHead 27 = .ok (.aload_n 0, 1) := by decide +kernel
theorem dX4_errorInHead_28 : decode cX4_errorInHead 28 = .ok (.iconst 3, 1) := by decide +kernel
theorem dX4_errorInHead_29 : decode cX4_errorInHead 29 = .ok (.iconst 2, 1) := by decide +kernel
theorem dX4_errorInHead_30 : decode cX4_errorInHead 30 = .ok (.iconst 1, 1) := by decide +kernel
theorem dX4_errorInHead_31 : decode cX4_errorInHead 31 = .ok (.bipush 31, 2) := by decide +kernel
theorem dX4_errorInHead_33 : decode cX4_errorInHead 33 = .ok (.invokevirtual 38, 3) := by decide +kernel
theorem dX4_errorInHead_36 : decode cX4_errorInHead 36 = .ok (.istore_n 1, 1) := by decide +kernel
theorem dX4_errorInHead_37 : decode cX4_errorInHead 37 = .ok (.iload_n 1, 1) := by decide +kernel
theorem dX4_errorInHead_38 : decode cX4_errorInHead 38 = .ok (.iconst (-1), 1) := by decide +kernel
theorem dX4_errorInHead_39 : decode cX4_errorInHead 39 = .ok (.if_icmp .ne 12, 3) := by decide +kernel
theorem dX4_errorInHead_42 : decode cX4_errorInHead 42 = .ok (.aload_n 0, 1) := by decide +kernel
theorem dX4_errorInHead_43 : decode cX4_errorInHead 43 = .ok (.iconst 5, 1) := by decide +kernel
theorem dX4_errorInHead_44 : decode cX4_errorInHead 44 = .ok (.iconst 1, 1) := by decide +kernel
theorem dX4_errorInHead_45 : decode cX4_errorInHead 45 = .ok (.iconst 0, 1) := by decide +kernel
theorem dX4_errorInHead_46 : decode cX4_errorInHead 46 = .ok (.iconst 4, 1) := by decide +kernel
theorem dX4_errorInHead_47 : decode cX4_errorInHead 47 = .ok (.invokevirtual 38, 3) := by decide +kernel
theorem dX4_errorInHead_50 : decode cX4_errorInHead 50 = .ok (.istore_n 1, 1) := by decide +kernel
theorem dX4_errorInHead_51 : decode cX4_errorInHead 51 = .ok (.iload_n 1, 1) := by decide +kernel
theorem dX4_errorInHead_52 : decode cX4_errorInHead 52 = .ok (.ireturn, 1) := by decide +kernel
set_option maxRecDepth 20000 in
theorem ggX4_errorInCommand_X4_signAt : GoodIn wsX4_errorInCommand wsX4_signAt := goodIn_r _ [5, 6, 7, 12, 13] (by decide +kernel) (by decide +kernel)
set_option maxRecDepth 20000 in
theorem gX4_errorInCommand_X4_signAt : GoodIn wsX4_errorInCommand (wsV RX4 34 RX4 yX4_signAt wsX4_signAt) := goodIn_app (goodIn_of _ (by decide +kernel)) ggX4_errorInCommand_X4_signAt
set_option maxRecDepth 20000 in
theorem ggX4_errorInCommand_X4_errorInNumber : GoodIn wsX4_errorInCommand wsX4_errorInNumber := goodIn_r _ [11, 1, 2, 3, 4, 5, 6, 7, 12, 13] (by decide +kernel) (by decide +kernel)
set_option maxRecDepth 20000 in
theorem gX4_errorInCommand_X4_errorInNumber : GoodIn wsX4_errorInCommand (wsV RX4 38 RX4 yX4_errorInNumber wsX4_errorInNumber) := goodIn_app (goodIn_of _ (by decide +kernel)) ggX4_errorInCommand_X4_errorInNumber
theorem dX4_errorInCommand_0 : decode cX4_errorInCommand 0 = .ok (.aload_n 0, 1) := by decide +kernel
theorem dX4_errorInCommand_1 : decode cX4_errorInCommand 1 = .ok (.iload_n 1, 1) := by decide +kernel
theorem dX4_errorInCommand_2 : decode cX4_errorInCommand 2 = .ok (.invokevirtual 34, 3) := by decide +kernel
theorem dX4_errorInCommand_5 : decode cX4_errorInCommand 5 = .ok (.bipush 97, 2) := by decide +kernel
theorem dX4_errorInCommand_7 : decode cX4_errorInCommand 7 = .ok (.if_icmp .ne 15, 3) := by decide +kernel
theorem dX4_errorInCommand_10 : decode cX4_errorInCommand 10 = .ok (.aload_n 0, 1) := by decide +kernel
theorem dX4_errorInCommand_11 : decode cX4_errorInCommand 11 = .ok (.iload_n 1, 1) := by decide +kernel
theorem dX4_errorInCommand_12 : decode cX4_errorInCommand 12 = .ok (.iconst 1, 1) := by decide +kernel
theorem dX4_errorInCommand_13 : decode cX4_errorInCommand 13 = .ok (.iadd, 1) := by decide +kernel
theorem dX4_errorInCommand_14 : decode cX4_errorInCommand 14 = .ok (.iconst 1, 1) := by decide +kernel
theorem dX4_errorInCommand_15 : decode cX4_errorInCommand 15 = .ok (.iconst 1, 1) := by decide +kernel
theorem dX4_errorInCommand_16 : decode cX4_errorInCommand 16 = .ok (.bipush 9, 2) := by decide +kernel
theorem dX4_errorInCommand_18 : decode cX4_errorInCommand 18 = .ok (.invokevirtual 38, 3) := by decide +kernel
theorem dX4_errorInCommand_21 : decode cX4_errorInCommand 21 = .ok (.ireturn, 1) := by decide +kernel
theorem dX4_errorInCommand_22 : decode cX4_errorInCommand 22 = .ok (.aload_n 0, 1) := by decide +kernel
theorem dX4_errorInCommand_23 : decode cX4_errorInCommand 23 = .ok (.iload_n 1, 1) := by decide +kernel
theorem dX4_errorInCommand_24 : decode cX4_errorInCommand 24 = .ok (.invokevirtual 34, 3) := by decide +kernel
theorem dX4_errorInCommand_27 : decode cX4_errorInCommand 27 = .ok (.bipush 119, 2) := by decide +kernel
theorem dX4_errorInCommand_29 : decode cX4_errorInCommand 29 = .ok (.if_icmp .eq 15, 3) := by decide +kernel
theorem dX4_errorInCommand_32 : decode cX4_errorInCommand 32 = .ok (.aload_n 0, 1) := by decide +kernel
theorem dX4_errorInCommand_33 : decode cX4_errorInCommand 33 = .ok (.iload_n 1, 1) := by decide +kernel
theorem dX4_errorInCommand_34 : decode cX4_errorInCommand 34 = .ok (.invokevirtual 34, 3) := by decide +kernel
theorem dX4_errorInCommand_37 : decode cX4_errorInCommand 37 = .ok (.bipush 104, 2) := by decide +kernel
theorem dX4_errorInCommand_39 : decode cX4_errorInCommand 39 = .ok (.if_icmp .eq 5, 3) := by decide +kernel
theorem dX4_errorInCommand_42 : decode cX4_errorInCommand 42 = .ok (.iload_n 1, 1) := by decide +kernel
theorem dX4_errorInCommand_43 : decode cX4_errorInCommand 43 = .ok (.ireturn, 1) := by decide +kernel
theorem dX4_errorInCommand_44 : decode cX4_errorInCommand 44 = .ok (.aload_n 0, 1) := by decide +kernel
theorem dX4_errorInCommand_45 : decode cX4_errorInCommand 45 = .ok (.iload_n 1, 1) := by decide +kernel
theorem dX4_errorInCommand_46 : decode cX4_errorInCommand 46 = .ok (.iconst 1, 1) := by decide +kernel
theorem dX4_errorInCommand_47 : decode cX4_errorInCommand 47 = .ok (.iadd, 1) := by decide +kernel
theorem dX4_errorInCommand_48 : decode cX4_errorInCommand 48 = .ok (.iconst 2, 1) := by decide +kernel
theorem dX4_errorInCommand_49 : decode cX4_errorInCommand 49 = .ok (.iconst 0, 1) := by decide +kernel
theorem dX4_errorInCommand_50 : decode cX4_errorInCommand 50 = .ok (.bipush 31, 2) := by decide +kernel
theorem dX4_errorInCommand_52 : decode cX4_errorInCommand 52 = .ok (.invokevirtual 38, 3) := by decide +kernel
theorem dX4_errorInCommand_55 : decode cX4_errorInCommand 55 = .ok (.istore_n 2, 1) := by decide +kernel
theorem dX4_errorInCommand_56 : decode cX4_errorInCommand 56 = .ok (.iload_n 2, 1) := by decide +kernel
theorem dX4_errorInCommand_57 : decode cX4_errorInCommand 57 = .ok (.iconst (-1), 1) := by decide +kernel
theorem dX4_errorInCommand_58 : decode cX4_errorInCommand 58 = .ok (.if_icmp .eq 5, 3) := by decide +kernel
theorem dX4_errorInCommand_61 : decode cX4_errorInCommand 61 = .ok (.iload_n 2, 1) := by decide +kernel
theorem dX4_errorInCommand_62 : decode cX4_errorInCommand 62 = .ok (.ireturn, 1) := by decide +kernel
theorem dX4_errorInCommand_63 : decode cX4_errorInCommand 63 = .ok (.aload_n 0, 1) := by decide +kernel
theorem dX4_errorInCommand_64 : decode cX4_errorInCommand 64 = .ok (.iload_n 1, 1) := by decide +kernel
theorem dX4_errorInCommand_65 : decode cX4_errorInCommand 65 = .ok (.invokevirtual 34, 3) := by decide +kernel
theorem dX4_errorInCommand_68 : decode cX4_errorInCommand 68 = .ok (.bipush 119, 2) := by decide +kernel
theorem dX4_errorInCommand_70 : decode cX4_errorInCommand 70 = .ok (.if_icmp .ne 18, 3) := by decide +kernel
theorem dX4_errorInCommand_73 : decode cX4_errorInCommand 73 = .ok (.aload_n 0, 1) := by decide +kernel
theorem dX4_errorInCommand_74 : decode cX4_errorInCommand 74 = .ok (.iload_n 1, 1) := by decide +kernel
theorem dX4_errorInCommand_75 : decode cX4_errorInCommand 75 = .ok (.iconst 3, 1) := by decide +kernel
theorem dX4_errorInCommand_76 : decode cX4_errorInCommand 76 = .ok (.iadd, 1) := by decide +kernel
theorem dX4_errorInCommand_77 : decode cX4_errorInCommand 77 = .ok (.iconst 3, 1) := by decide +kernel
theorem dX4_errorInCommand_78 : decode cX4_errorInCommand 78 = .ok (.iconst 0, 1) := by decide +kernel
theorem dX4_errorInCommand_79 : decode cX4_errorInCommand 79 = .ok (.sipush 999, 3) := by decide +kernel
theorem dX4_errorInCommand_82 : decode cX4_errorInCommand 82 = .ok (.invokevirtual 38, 3) := by decide +kernel
theorem dX4_errorInCommand_85 : decode cX4_errorInCommand 85 = .ok (.goto 14, 3) := by decide +kernel
theorem dX4_errorInCommand_88 : decode cX4_errorInCommand 88 = .ok (.aload_n 0, 1) := by decide +kernel
theorem dX4_errorInCommand_89 : decode cX4_errorInCommand 89 = .ok (.iload_n 1, 1) := by decide +kernel
theorem dX4_errorInCommand_90 : decode cX4_errorInCommand 90 = .ok (.iconst 3, 1) := by decide +kernel
theorem dX4_errorInCommand_91 : decode cX4_errorInCommand 91 = .ok (.iadd, 1) := by decide +kernel
theorem dX4_errorInCommand_92 : decode cX4_errorInCommand 92 = .ok (.iconst 2, 1) := by decide +kernel
theorem dX4_errorInCommand_93 : decode cX4_errorInCommand 93 = .ok (.iconst 1, 1) := by decide +kernel
theorem dX4_errorInCommand_94 : decode cX4_errorInCommand 94 = .ok (.bipush 99, 2) := by decide +kernel
theorem dX4_errorInCommand_96 : decode cX4_errorInCommand 96 = .ok (.invokevirtual 38, 3) := by decide +kernel
theorem dX4_errorInCommand_99 : decode cX4_errorInCommand 99 = .ok (.ireturn, 1) := by decide +kernel
set_option maxRecDepth 20000 in
theorem ggX4_commandLength_X4_signAt : GoodIn wsX4_commandLength wsX4_signAt := goodIn_r _ [5, 6, 7, 8, 9] (by decide +kernel) (by decide +kernel)
set_option maxRecDepth 20000 in
theorem gX4_commandLength_X4_signAt : GoodIn wsX4_commandLength (wsV RX4 34 RX4 yX4_signAt wsX4_signAt) := goodIn_app (goodIn_of _ (by decide +kernel)) ggX4_commandLength_X4_signAt
theorem dX4_commandLength_0 : decode cX4_commandLength 0 = .ok (.aload_n 0, 1) := by decide +kernel
theorem dX4_commandLength_1 : decode cX4_commandLength 1 = .ok (.iload_n 1, 1) := by decide +kernel
theorem dX4_commandLength_2 : decode cX4_commandLength 2 = .ok (.invokevirtual 34, 3) := by decide +kernel
theorem dX4_commandLength_5 : decode cX4_commandLength 5 = .ok (.lookupswitch 32 #[(104, 30), (119, 27)], 27) := by decide +kernel
theorem dX4_commandLength_32 : decode cX4_commandLength 32 = .ok (.bipush 6, 2) := by decide +kernel
theorem dX4_commandLength_34 : decode cX4_commandLength 34 = .ok (.ireturn, 1) := by decide +kernel
theorem dX4_commandLength_35 : decode cX4_commandLength 35 = .ok (.iconst 5, 1) := by decide +kernel
theorem dX4_commandLength_36 : decode cX4_commandLength 36 = .ok (.ireturn, 1) := by decide +kernel
theorem dX4_commandLength_37 : decode cX4_commandLength 37 = .ok (.iconst 2, 1) := by decide +kernel
theorem dX4_commandLength_38 : decode cX4_commandLength 38 = .ok (.ireturn, 1) := by decide +kernel
set_option maxRecDepth 20000 in
theorem ggX4_errorInNumber_X4_signAt : GoodIn wsX4_errorInNumber wsX4_signAt := goodIn_r _ [5, 6, 7, 8, 9] (by decide +kernel) (by decide +kernel)
set_option maxRecDepth 20000 in
theorem gX4_errorInNumber_X4_signAt : GoodIn wsX4_errorInNumber (wsV RX4 34 RX4 yX4_signAt wsX4_signAt) := goodIn_app (goodIn_of _ (by decide +kernel)) ggX4_errorInNumber_X4_signAt
theorem dX4_errorInNumber_0 : decode cX4_errorInNumber 0 = .ok (.iconst 0, 1) := by decide +kernel
theorem dX4_errorInNumber_1 : decode cX4_errorInNumber 1 = .ok (.istore 5, 2) := by decide +kernel
theorem dX4_errorInNumber_3 : decode cX4_errorInNumber 3 = .ok (.iload_n 2, 1) := by decide +kernel
theorem dX4_errorInNumber_4 : decode cX4_errorInNumber 4 = .ok (.iconst 3, 1) := by decide +kernel
theorem dX4_errorInNumber_5 : decode cX4_errorInNumber 5 = .ok (.if_icmp .ne 9, 3) := by decide +kernel
theorem dX4_errorInNumber_8 : decode cX4_errorInNumber 8 = .ok (.sipush 1000, 3) := by decide +kernel
theorem dX4_errorInNumber_11 : decode cX4_errorInNumber 11 = .ok (.goto 15, 3) := by decide +kernel
theorem dX4_errorInNumber_14 : decode cX4_errorInNumber 14 = .ok (.iload_n 2, 1) := by decide +kernel
theorem dX4_errorInNumber_15 : decode cX4_errorInNumber 15 = .ok (.iconst 2, 1) := by decide +kernel
theorem dX4_errorInNumber_16 : decode cX4_errorInNumber 16 = .ok (.if_icmp .ne 8, 3) := by decide +kernel
theorem dX4_errorInNumber_19 : decode cX4_errorInNumber 19 = .ok (.bipush 100, 2) := by decide +kernel
theorem dX4_errorInNumber_21 : decode cX4_errorInNumber 21 = .ok (.goto 5, 3) := by decide +kernel
theorem dX4_errorInNumber_24 : decode cX4_errorInNumber 24 = .ok (.bipush 10, 2) := by decide +kernel
theorem dX4_errorInNumber_26 : decode cX4_errorInNumber 26 = .ok (.istore 6, 2) := by decide +kernel
theorem dX4_errorInNumber_28 : decode cX4_errorInNumber 28 = .ok (.iconst 0, 1) := by decide +kernel
theorem dX4_errorInNumber_29 : decode cX4_errorInNumber 29 = .ok (.istore 7, 2) := by decide +kernel
theorem dX4_errorInNumber_31 : decode cX4_errorInNumber 31 = .ok (.iload 7, 2) := by decide +kernel
theorem dX4_errorInNumber_33 : decode cX4_errorInNumber 33 = .ok (.iload_n 2, 1) := by decide +kernel
theorem dX4_errorInNumber_34 : decode cX4_errorInNumber 34 = .ok (.if_icmp .ge 81, 3) := by decide +kernel
theorem dX4_errorInNumber_37 : decode cX4_errorInNumber 37 = .ok (.aload_n 0, 1) := by decide +kernel
theorem dX4_errorInNumber_38 : decode cX4_errorInNumber 38 = .ok (.iload_n 1, 1) := by decide +kernel
theorem dX4_errorInNumber_39 : decode cX4_errorInNumber 39 = .ok (.iload 7, 2) := by decide +kernel
theorem dX4_errorInNumber_41 : decode cX4_errorInNumber 41 = .ok (.iadd, 1) := by decide +kernel
theorem dX4_errorInNumber_42 : decode cX4_errorInNumber 42 = .ok (.invokevirtual 34, 3) := by decide +kernel
theorem dX4_errorInNumber_45 : decode cX4_errorInNumber 45 = .ok (.istore 8, 2) := by decide +kernel
theorem dX4_errorInNumber_47 : decode cX4_errorInNumber 47 = .ok (.iload 8, 2) := by decide +kernel
theorem dX4_errorInNumber_49 : decode cX4_errorInNumber 49 = .ok (.bipush 48, 2) := by decide +kernel
theorem dX4_errorInNumber_51 : decode cX4_errorInNumber 51 = .ok (.if_icmp .lt 10, 3) := by decide +kernel
theorem dX4_errorInNumber_54 : decode cX4_errorInNumber 54 = .ok (.iload 8, 2) := by decide +kernel
theorem dX4_errorInNumber_56 : decode cX4_errorInNumber 56 = .ok (.bipush 57, 2) := by decide +kernel
theorem dX4_errorInNumber_58 : decode cX4_errorInNumber 58 = .ok (.if_icmp .le 8, 3) := by decide +kernel
theorem dX4_errorInNumber_61 : decode cX4_errorInNumber 61 = .ok (.iload_n 1, 1) := by decide +kernel
theorem dX4_errorInNumber_62 : decode cX4_errorInNumber 62 = .ok (.iload 7, 2) := by decide +kernel
theorem dX4_errorInNumber_64 : decode cX4_errorInNumber 64 = .ok (.iadd, 1) := by decide +kernel
theorem dX4_errorInNumber_65 : decode cX4_errorInNumber 65 = .ok (.ireturn, 1) := by decide +kernel
theorem dX4_errorInNumber_66 : decode cX4_errorInNumber 66 = .ok (.iload 6, 2) := by decide +kernel
theorem dX4_errorInNumber_68 : decode cX4_errorInNumber 68 = .ok (.bipush 10, 2) := by decide +kernel
theorem dX4_errorInNumber_70 : decode cX4_errorInNumber 70 = .ok (.idiv, 1) := by decide +kernel
theorem dX4_errorInNumber_71 : decode cX4_errorInNumber 71 = .ok (.istore 6, 2) := by decide +kernel
theorem dX4_errorInNumber_73 : decode cX4_errorInNumber 73 = .ok (.iload 5, 2) := by decide +kernel
theorem dX4_errorInNumber_75 : decode cX4_errorInNumber 75 = .ok (.iload 8, 2) := by decide +kernel
theorem dX4_errorInNumber_77 : decode cX4_errorInNumber 77 = .ok (.bipush 48, 2) := by decide +kernel
theorem dX4_errorInNumber_79 : decode cX4_errorInNumber 79 = .ok (.isub, 1) := by decide +kernel
theorem dX4_errorInNumber_80 : decode cX4_errorInNumber 80 = .ok (.iload 6, 2) := by decide +kernel
theorem dX4_errorInNumber_82 : decode cX4_errorInNumber 82 = .ok (.imul, 1) := by decide +kernel
theorem dX4_errorInNumber_83 : decode cX4_errorInNumber 83 = .ok (.iadd, 1) := by decide +kernel
theorem dX4_errorInNumber_84 : decode cX4_errorInNumber 84 = .ok (.istore 5, 2) := by decide +kernel
theorem dX4_errorInNumber_86 : decode cX4_errorInNumber 86 = .ok (.iload 5, 2) := by decide +kernel
theorem dX4_errorInNumber_88 : decode cX4_errorInNumber 88 = .ok (.iload 4, 2) := by decide +kernel
theorem dX4_errorInNumber_90 : decode cX4_errorInNumber 90 = .ok (.if_icmp .gt 14, 3) := by decide +kernel
theorem dX4_errorInNumber_93 : decode cX4_errorInNumber 93 = .ok (.iload 5, 2) := by decide +kernel
theorem dX4_errorInNumber_95 : decode cX4_errorInNumber 95 = .ok (.iload 6, 2) := by decide +kernel
theorem dX4_errorInNumber_97 : decode cX4_errorInNumber 97 = .ok (.iadd, 1) := by decide +kernel
theorem dX4_errorInNumber_98 : decode cX4_errorInNumber 98 = .ok (.iconst 1, 1) := by decide +kernel
theorem dX4_errorInNumber_99 : decode cX4_errorInNumber 99 = .ok (.isub, 1) := by decide +kernel
theorem dX4_errorInNumber_100 : decode cX4_errorInNumber 100 = .ok (.iload_n 3, 1) := by decide +kernel
theorem dX4_errorInNumber_101 : decode cX4_errorInNumber 101 = .ok (.if_icmp .ge 8, 3) := by decide +kernel
theorem dX4_errorInNumber_104 : decode cX4_errorInNumber 104 = .ok (.iload_n 1, 1) := by decide +kernel
theorem dX4_errorInNumber_105 : decode cX4_errorInNumber 105 = .ok (.iload 7, 2) := by decide +kernel
theorem dX4_errorInNumber_107 : decode cX4_errorInNumber 107 = .ok (.iadd, 1) := by decide +kernel
theorem dX4_errorInNumber_108 : decode cX4_errorInNumber 108 = .ok (.ireturn, 1) := by decide +kernel
theorem dX4_errorInNumber_109 : decode cX4_errorInNumber 109 = .ok (.iinc 7 1, 3) := by decide +kernel
theorem dX4_errorInNumber_112 : decode cX4_errorInNumber 112 = .ok (.goto (-81), 3) := by decide +kernel
theorem dX4_errorInNumber_115 : decode cX4_errorInNumber 115 = .ok (.iconst (-1), 1) := by decide +kernel
theorem dX4_errorInNumber_116 : decode cX4_errorInNumber 116 = .ok (.ireturn, 1) := by decide +kernel
set_option maxRecDepth 20000 in
theorem ggX4_numberAt_X4_signAt : GoodIn wsX4_numberAt wsX4_signAt := goodIn_r _ [5, 6, 7, 8, 9] (by decide +kernel) (by decide +kernel)
set_option maxRecDepth 20000 in
theorem gX4_numberAt_X4_signAt : GoodIn wsX4_numberAt (wsV RX4 34 RX4 yX4_signAt wsX4_signAt) := goodIn_app (goodIn_of _ (by decide +kernel)) ggX4_numberAt_X4_signAt
theorem dX4_numberAt_0 : decode cX4_numberAt 0 = .ok (.iconst 0, 1) := by decide +kernel
theorem dX4_numberAt_1 : decode cX4_numberAt 1 = .ok (.istore_n 3, 1) := by decide +kernel
theorem dX4_numberAt_2 : decode cX4_numberAt 2 = .ok (.iconst 0, 1) := by decide +kernel
theorem dX4_numberAt_3 : decode cX4_numberAt 3 = .ok (.istore 4, 2) := by decide +kernel
theorem dX4_numberAt_5 : decode cX4_numberAt 5 = .ok (.iload 4, 2) := by decide +kernel
theorem dX4_numberAt_7 : decode cX4_numberAt 7 = .ok (.iload_n 2, 1) := by decide +kernel
theorem dX4_numberAt_8 : decode cX4_numberAt 8 = .ok (.if_icmp .ge 26, 3) := by decide +kernel
theorem dX4_numberAt_11 : decode cX4_numberAt 11 = .ok (.iload_n 3, 1) := by decide +kernel
theorem dX4_numberAt_12 : decode cX4_numberAt 12 = .ok (.bipush 10, 2) := by decide +kernel
theorem dX4_numberAt_14 : decode cX4_numberAt 14 = .ok (.imul, 1) := by decide +kernel
theorem dX4_numberAt_15 : decode cX4_numberAt 15 = .ok (.aload_n 0, 1) := by decide +kernel
theorem dX4_numberAt_16 : decode cX4_numberAt 16 = .ok (.iload_n 1, 1) := by decide +kernel
theorem dX4_numberAt_17 : decode cX4_numberAt 17 = .ok (.iload 4, 2) := by decide +kernel
theorem dX4_numberAt_19 : decode cX4_numberAt 19 = .ok (.iadd, 1) := by decide +kernel
theorem dX4_numberAt_20 : decode cX4_numberAt 20 = .ok (.invokevirtual 34, 3) := by decide +kernel
theorem dX4_numberAt_23 : decode cX4_numberAt 23 = .ok (.bipush 48, 2) := by decide +kernel
theorem dX4_numberAt_25 : decode cX4_numberAt 25 = .ok (.isub, 1) := by decide +kernel
theorem dX4_numberAt_26 : decode cX4_numberAt 26 = .ok (.iadd, 1) := by decide +kernel
theorem dX4_numberAt_27 : decode cX4_numberAt 27 = .ok (.istore_n 3, 1) := by decide +kernel
theorem dX4_numberAt_28 : decode cX4_numberAt 28 = .ok (.iinc 4 1, 3) := by decide +kernel
theorem dX4_numberAt_31 : decode cX4_numberAt 31 = .ok (.goto (-26), 3) := by decide +kernel
theorem dX4_numberAt_34 : decode cX4_numberAt 34 = .ok (.iload_n 3, 1) := by decide +kernel
theorem dX4_numberAt_35 : decode cX4_numberAt 35 = .ok (.ireturn, 1) := by decide +kernel
set_option maxRecDepth 20000 in
theorem ggX4_tellTo_X4_numberAt : GoodIn wsX4_tellTo wsX4_numberAt := goodIn_r _ [6, 7, 8, 9, 5, 10, 1, 11, 100, 101] (by decide +kernel) (by decide +kernel)
set_option maxRecDepth 20000 in
theorem gX4_tellTo_X4_numberAt : GoodIn wsX4_tellTo (wsV RX4 42 RX4 yX4_numberAt wsX4_numberAt) := goodIn_app (goodIn_of _ (by decide +kernel)) ggX4_tellTo_X4_numberAt
set_option maxRecDepth 20000 in
theorem ggX4_tellTo_X5_isShape : GoodIn wsX4_tellTo wsX5_isShape := goodIn_r _ [14, 15, 16, 13, 17] (by decide +kernel) (by decide +kernel)
set_option maxRecDepth 20000 in
theorem gX4_tellTo_X5_isShape_n46 : GoodIn wsX4_tellTo (wsX5_isShape) := ggX4_tellTo_X5_isShape
set_option maxRecDepth 20000 in
theorem ggX4_tellTo_X3_begin : GoodIn wsX4_tellTo wsX3_begin := goodIn_r _ [22, 23, 24, 25, 26, 27, 28, 29, 30, 31, 32, 33, 34, 35, 102, 103, 104, 105, 106, 107, 108, 109, 110, 111, 112, 113, 114, 115, 116] (by decide +kernel) (by decide +kernel)
set_option maxRecDepth 20000 in
theorem gX4_tellTo_X3_begin : GoodIn wsX4_tellTo (wsV RX4 50 RX3 yX3_begin wsX3_begin) := goodIn_app (goodIn_of _ (by decide +kernel)) ggX4_tellTo_X3_begin
set_option maxRecDepth 20000 in
theorem ggX4_tellTo_X4_commandLength : GoodIn wsX4_tellTo wsX4_commandLength := goodIn_r _ [39, 7, 8, 9, 5, 10, 1, 11, 100, 101] (by decide +kernel) (by decide +kernel)
set_option maxRecDepth 20000 in
theorem gX4_tellTo_X4_commandLength : GoodIn wsX4_tellTo (wsV RX4 31 RX4 yX4_commandLength wsX4_commandLength) := goodIn_app (goodIn_of _ (by decide +kernel)) ggX4_tellTo_X4_commandLength
set_option maxRecDepth 20000 in
theorem ggX4_tellTo_X4_signAt : GoodIn wsX4_tellTo wsX4_signAt := goodIn_r _ [10, 1, 11, 100, 101] (by decide +kernel) (by decide +kernel)
set_option maxRecDepth 20000 in
theorem gX4_tellTo_X4_signAt : GoodIn wsX4_tellTo (wsV RX4 34 RX4 yX4_signAt wsX4_signAt) := goodIn_app (goodIn_of _ (by decide +kernel)) ggX4_tellTo_X4_signAt
set_option maxRecDepth 20000 in
theorem ggX4_tellTo_X3_doWrite : GoodIn wsX4_tellTo wsX3_doWrite := goodIn_r _ [43, 33, 44, 45, 46, 21, 47, 23, 48, 13, 49, 50, 51, 52, 53, 34, 28, 30, 54, 55, 56, 57, 58, 25, 26, 59, 60, 61, 62, 24, 63, 64, 65, 66, 35, 32, 67, 27, 31, 68, 69, 70, 71, 29, 102, 103, 104, 105, 106, 107, 108, 109, 110, 111, 112, 113, 114, 115, 116] (by decide +kernel) (by decide +kernel)
set_option maxRecDepth 20000 in
theorem gX4_tellTo_X3_doWrite : GoodIn wsX4_tellTo (wsV RX4 56 RX3 yX3_doWrite wsX3_doWrite) := goodIn_app (goodIn_of _ (by decide +kernel)) ggX4_tellTo_X3_doWrite
set_option maxRecDepth 20000 in
theorem ggX4_tellTo_X3_doHammer : GoodIn wsX4_tellTo wsX3_doHammer := goodIn_r _ [75, 44, 45, 46, 21, 47, 23, 76, 13, 77, 78, 79, 80, 81, 33, 82, 83, 84, 85, 34, 50, 51, 52, 53, 28, 30, 54, 55, 56, 57, 58, 25, 26, 59, 60, 61, 62, 24, 63, 64, 65, 66, 35, 32, 67, 27, 31, 68, 69, 70, 71, 29, 102, 103, 104, 105, 106, 107, 108, 109, 110, 111, 112, 113, 114, 115, 116] (by decide +kernel) (by decide +kernel)
set_option maxRecDepth 20000 in
theorem gX4_tellTo_X3_doHammer : GoodIn wsX4_tellTo (wsV RX4 59 RX3 yX3_doHammer wsX3_doHammer) := goodIn_app (goodIn_of _ (by decide +kernel)) ggX4_tellTo_X3_doHammer
set_option maxRecDepth 20000 in
theorem ggX4_tellTo_X3_doAll : GoodIn wsX4_tellTo wsX3_doAll := goodIn_r _ [89, 23, 90, 13, 91, 92, 93, 94, 21, 95, 96, 97, 98, 99, 33, 82, 83, 84, 85, 34, 44, 45, 46, 47, 50, 51, 52, 53, 28, 30, 54, 55, 56, 57, 58, 25, 26, 59, 60, 61, 62, 24, 63, 64, 65, 66, 35, 32, 67, 27, 31, 68, 69, 70, 71, 29, 102, 103, 104, 105, 106, 107, 108, 109, 110, 111, 112, 113, 114, 115, 116] (by decide +kernel) (by decide +kernel)
set_option maxRecDepth 20000 in
theorem gX4_tellTo_X3_doAll : GoodIn wsX4_tellTo (wsV RX4 62 RX3 yX3_doAll wsX3_doAll) := goodIn_app (goodIn_of _ (by decide +kernel)) ggX4_tellTo_X3_doAll
theorem dX4_tellTo_0 : decode cX4_tellTo 0 = .ok (.aload_n 0, 1) := by decide +kernel
theorem dX4_tellTo_1 : decode cX4_tellTo 1 = .ok (.iconst 1, 1) := by decide +kernel
theorem dX4_tellTo_2 : decode cX4_tellTo 2 = .ok (.iconst 2, 1) := by decide +kernel
theorem dX4_tellTo_3 : decode cX4_tellTo 3 = .ok (.invokevirtual 42, 3) := by decide +kernel
theorem dX4_tellTo_6 : decode cX4_tellTo 6 = .ok (.aload_n 0, 1) := by decide +kernel
theorem dX4_tellTo_7 : decode cX4_tellTo 7 = .ok (.iconst 3, 1) := by decide +kernel
theorem dX4_tellTo_8 : decode cX4_tellTo 8 = .ok (.iconst 2, 1) := by decide +kernel
theorem dX4_tellTo_9 : decode cX4_tellTo 9 = .ok (.invokevirtual 42, 3) := by decide +kernel
theorem dX4_tellTo_12 : decode cX4_tellTo 12 = .ok (.invokestatic 46, 3) := by decide +kernel
theorem dX4_tellTo_15 : decode cX4_tellTo 15 = .ok (.ifCond .eq 25, 3) := by decide +kernel
theorem dX4_tellTo_18 : decode cX4_tellTo 18 = .ok (.aload_n 1, 1) := by decide +kernel
theorem dX4_tellTo_19 : decode cX4_tellTo 19 = .ok (.aload_n 0, 1) := by decide +kernel
theorem dX4_tellTo_20 : decode cX4_tellTo 20 = .ok (.iconst 1, 1) := by decide +kernel
theorem dX4_tellTo_21 : decode cX4_tellTo 21 = .ok (.iconst 2, 1) := by decide +kernel
theorem dX4_tellTo_22 : decode cX4_tellTo 22 = .ok (.invokevirtual 42, 3) := by decide +kernel
theorem dX4_tellTo_25 : decode cX4_tellTo 25 = .ok (.aload_n 0, 1) := by decide +kernel
theorem dX4_tellTo_26 : decode cX4_tellTo 26 = .ok (.iconst 3, 1) := by decide +kernel
theorem dX4_tellTo_27 : decode cX4_tellTo 27 = .ok (.iconst 2, 1) := by decide +kernel
theorem dX4_tellTo_28 : decode cX4_tellTo 28 = .ok (.invokevirtual 42, 3) := by decide +kernel
theorem dX4_tellTo_31 : decode cX4_tellTo 31 = .ok (.aload_n 0, 1) := by decide +kernel
theorem dX4_tellTo_32 : decode cX4_tellTo 32 = .ok (.iconst 5, 1) := by decide +kernel
theorem dX4_tellTo_33 : decode cX4_tellTo 33 = .ok (.iconst 1, 1) := by decide +kernel
theorem dX4_tellTo_34 : decode cX4_tellTo 34 = .ok (.invokevirtual 42, 3) := by decide +kernel
theorem dX4_tellTo_37 : decode cX4_tellTo 37 = .ok (.invokevirtual 50, 3) := by decide +kernel
theorem dX4_tellTo_40 : decode cX4_tellTo 40 = .ok (.iconst 0, 1) := by decide +kernel
theorem dX4_tellTo_41 : decode cX4_tellTo 41 = .ok (.istore_n 2, 1) := by decide +kernel
theorem dX4_tellTo_42 : decode cX4_tellTo 42 = .ok (.bipush 6, 2) := by decide +kernel
theorem dX4_tellTo_44 : decode cX4_tellTo 44 = .ok (.istore_n 3, 1) := by decide +kernel
theorem dX4_tellTo_45 : decode cX4_tellTo 45 = .ok (.bipush 6, 2) := by decide +kernel
theorem dX4_tellTo_47 : decode cX4_tellTo 47 = .ok (.istore 4, 2) := by decide +kernel
theorem dX4_tellTo_49 : decode cX4_tellTo 49 = .ok (.iload 4, 2) := by decide +kernel
theorem dX4_tellTo_51 : decode cX4_tellTo 51 = .ok (.aload_n 0, 1) := by decide +kernel
theorem dX4_tellTo_52 : decode cX4_tellTo 52 = .ok (.getfield 15, 3) := by decide +kernel
theorem dX4_tellTo_55 : decode cX4_tellTo 55 = .ok (.if_icmp .ge 141, 3) := by decide +kernel
theorem dX4_tellTo_58 : decode cX4_tellTo 58 = .ok (.iload 4, 2) := by decide +kernel
theorem dX4_tellTo_60 : decode cX4_tellTo 60 = .ok (.iload_n 3, 1) := by decide +kernel
theorem dX4_tellTo_61 : decode cX4_tellTo 61 = .ok (.if_icmp .ne 129, 3) := by decide +kernel
theorem dX4_tellTo_64 : decode cX4_tellTo 64 = .ok (.iload 4, 2) := by decide +kernel
theorem dX4_tellTo_66 : decode cX4_tellTo 66 = .ok (.aload_n 0, 1) := by decide +kernel
theorem dX4_tellTo_67 : decode cX4_tellTo 67 = .ok (.iload 4, 2) := by decide +kernel
theorem dX4_tellTo_69 : decode cX4_tellTo 69 = .ok (.invokevirtual 31, 3) := by decide +kernel
theorem dX4_tellTo_72 : decode cX4_tellTo 72 = .ok (.iadd, 1) := by decide +kernel
theorem dX4_tellTo_73 : decode cX4_tellTo 73 = .ok (.istore_n 3, 1) := by decide +kernel
theorem dX4_tellTo_74 : decode cX4_tellTo 74 = .ok (.aload_n 0, 1) := by decide +kernel
theorem dX4_tellTo_75 : decode cX4_tellTo 75 = .ok (.iload 4, 2) := by decide +kernel
theorem dX4_tellTo_77 : decode cX4_tellTo 77 = .ok (.invokevirtual 34, 3) := by decide +kernel
theorem dX4_tellTo_80 : decode cX4_tellTo 80 = .ok (.lookupswitch 82 #[(104, 55), (119, 28)], 28) := by decide +kernel
theorem dX4_tellTo_108 : decode cX4_tellTo 108 = .ok (.aload_n 1, 1) := by decide +kernel
theorem dX4_tellTo_109 : decode cX4_tellTo 109 = .ok (.aload_n 0, 1) := by decide +kernel
theorem dX4_tellTo_110 : decode cX4_tellTo 110 = .ok (.iload 4, 2) := by decide +kernel
theorem dX4_tellTo_112 : decode cX4_tellTo 112 = .ok (.iconst 1, 1) := by decide +kernel
theorem dX4_tellTo_113 : decode cX4_tellTo 113 = .ok (.iadd, 1) := by decide +kernel
theorem dX4_tellTo_114 : decode cX4_tellTo 114 = .ok (.iconst 2, 1) := by decide +kernel
theorem dX4_tellTo_115 : decode cX4_tellTo 115 = .ok (.invokevirtual 42, 3) := by decide +kernel
theorem dX4_tellTo_118 : decode cX4_tellTo 118 = .ok (.aload_n 0, 1) := by decide +kernel
theorem dX4_tellTo_119 : decode cX4_tellTo 119 = .ok (.iload 4, 2) := by decide +kernel
theorem dX4_tellTo_121 : decode cX4_tellTo 121 = .ok (.iconst 3, 1) := by decide +kernel
theorem dX4_tellTo_122 : decode cX4_tellTo 122 = .ok (.iadd, 1) := by decide +kernel
theorem dX4_tellTo_123 : decode cX4_tellTo 123 = .ok (.iconst 3, 1) := by decide +kernel
theorem dX4_tellTo_124 : decode cX4_tellTo 124 = .ok (.invokevirtual 42, 3) := by decide +kernel
theorem dX4_tellTo_127 : decode cX4_tellTo 127 = .ok (.invokevirtual 56, 3) := by decide +kernel
theorem dX4_tellTo_130 : decode cX4_tellTo 130 = .ok (.istore 5, 2) := by decide +kernel
theorem dX4_tellTo_132 : decode cX4_tellTo 132 = .ok (.goto 45, 3) := by decide +kernel
theorem dX4_tellTo_135 : decode cX4_tellTo 135 = .ok (.aload_n 1, 1) := by decide +kernel
theorem dX4_tellTo_136 : decode cX4_tellTo 136 = .ok (.aload_n 0, 1) := by decide +kernel
theorem dX4_tellTo_137 : decode cX4_tellTo 137 = .ok (.iload 4, 2) := by decide +kernel
theorem dX4_tellTo_139 : decode cX4_tellTo 139 = .ok (.iconst 1, 1) := by decide +kernel
theorem dX4_tellTo_140 : decode cX4_tellTo 140 = .ok (.iadd, 1) := by decide +kernel
theorem dX4_tellTo_141 : decode cX4_tellTo 141 = .ok (.iconst 2, 1) := by decide +kernel
theorem dX4_tellTo_142 : decode cX4_tellTo 142 = .ok (.invokevirtual 42, 3) := by decide +kernel
theorem dX4_tellTo_145 : decode cX4_tellTo 145 = .ok (.aload_n 0, 1) := by decide +kernel
theorem dX4_tellTo_146 : decode cX4_tellTo 146 = .ok (.iload 4, 2) := by decide +kernel
theorem dX4_tellTo_148 : decode cX4_tellTo 148 = .ok (.iconst 3, 1) := by decide +kernel
theorem dX4_tellTo_149 : decode cX4_tellTo 149 = .ok (.iadd, 1) := by decide +kernel
theorem dX4_tellTo_150 : decode cX4_tellTo 150 = .ok (.iconst 2, 1) := by decide +kernel
theorem dX4_tellTo_151 : decode cX4_tellTo 151 = .ok (.invokevirtual 42, 3) := by decide +kernel
theorem dX4_tellTo_154 : decode cX4_tellTo 154 = .ok (.invokevirtual 59, 3) := by decide +kernel
theorem dX4_tellTo_157 : decode cX4_tellTo 157 = .ok (.istore 5, 2) := by decide +kernel
theorem dX4_tellTo_159 : decode cX4_tellTo 159 = .ok (.goto 18, 3) := by decide +kernel
theorem dX4_tellTo_162 : decode cX4_tellTo 162 = .ok (.aload_n 1, 1) := by decide +kernel
theorem dX4_tellTo_163 : decode cX4_tellTo 163 = .ok (.aload_n 0, 1) := by decide +kernel
theorem dX4_tellTo_164 : decode cX4_tellTo 164 = .ok (.iload 4, 2) := by decide +kernel
theorem dX4_tellTo_166 : decode cX4_tellTo 166 = .ok (.iconst 1, 1) := by decide +kernel
theorem dX4_tellTo_167 : decode cX4_tellTo 167 = .ok (.iadd, 1) := by decide +kernel
theorem dX4_tellTo_168 : decode cX4_tellTo 168 = .ok (.iconst 1, 1) := by decide +kernel
theorem dX4_tellTo_169 : decode cX4_tellTo 169 = .ok (.invokevirtual 42, 3) := by decide +kernel
theorem dX4_tellTo_172 : decode cX4_tellTo 172 = .ok (.invokevirtual 62, 3) := by decide +kernel
theorem dX4_tellTo_175 : decode cX4_tellTo 175 = .ok (.istore 5, 2) := by decide +kernel
theorem dX4_tellTo_177 : decode cX4_tellTo 177 = .ok (.iload_n 2, 1) := by decide +kernel
theorem dX4_tellTo_178 : decode cX4_tellTo 178 = .ok (.iload 5, 2) := by decide +kernel
theorem dX4_tellTo_180 : decode cX4_tellTo 180 = .ok (.ifCond .eq 7, 3) := by decide +kernel
theorem dX4_tellTo_183 : decode cX4_tellTo 183 = .ok (.iconst 0, 1) := by decide +kernel
theorem dX4_tellTo_184 : decode cX4_tellTo 184 = .ok (.goto 4, 3) := by decide +kernel
theorem dX4_tellTo_187 : decode cX4_tellTo 187 = .ok (.iconst 1, 1) := by decide +kernel
theorem dX4_tellTo_188 : decode cX4_tellTo 188 = .ok (.iadd, 1) := by decide +kernel
theorem dX4_tellTo_189 : decode cX4_tellTo 189 = .ok (.istore_n 2, 1) := by decide +kernel
theorem dX4_tellTo_190 : decode cX4_tellTo 190 = .ok (.iinc 4 1, 3) := by decide +kernel
theorem dX4_tellTo_193 : decode cX4_tellTo 193 = .ok (.goto (-144), 3) := by decide +kernel
theorem dX4_tellTo_196 : decode cX4_tellTo 196 = .ok (.iload_n 2, 1) := by decide +kernel
theorem dX4_tellTo_197 : decode cX4_tellTo 197 = .ok (.ireturn, 1) := by decide +kernel
