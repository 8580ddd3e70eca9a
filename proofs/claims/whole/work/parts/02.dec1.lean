theorem dX0_init_0 : decode cX0_init 0 = .ok (.aload_n 0, 1) := by decide +kernel
theorem dX0_init_1 : decode cX0_init 1 = .ok (.invokespecial 3, 3) := by decide +kernel
theorem dX0_init_4 : decode cX0_init 4 = .ok (.return_, 1) := by decide +kernel
theorem dX0_find_0 : decode cX0_find 0 = .ok (.aload_n 0, 1) := by decide +kernel
theorem dX0_find_1 : decode cX0_find 1 = .ok (.ldc2_w 9, 3) := by decide +kernel
theorem dX0_find_4 : decode cX0_find 4 = .ok (.putfield 11, 3) := by decide +kernel
theorem dX0_find_7 : decode cX0_find 7 = .ok (.iconst 0, 1) := by decide +kernel
theorem dX0_find_8 : decode cX0_find 8 = .ok (.istore_n 3, 1) := by decide +kernel
theorem dX0_find_9 : decode cX0_find 9 = .ok (.iload_n 3, 1) := by decide +kernel
theorem dX0_find_10 : decode cX0_find 10 = .ok (.aload_n 1, 1) := by decide +kernel
theorem dX0_find_11 : decode cX0_find 11 = .ok (.getfield 17, 3) := by decide +kernel
theorem dX0_find_14 : decode cX0_find 14 = .ok (.if_icmp .gt 109, 3) := by decide +kernel
theorem dX0_find_17 : decode cX0_find 17 = .ok (.iload_n 3, 1) := by decide +kernel
theorem dX0_find_18 : decode cX0_find 18 = .ok (.ifCond .ne 7, 3) := by decide +kernel
theorem dX0_find_21 : decode cX0_find 21 = .ok (.iconst 1, 1) := by decide +kernel
theorem dX0_find_22 : decode cX0_find 22 = .ok (.goto 4, 3) := by decide +kernel
theorem dX0_find_25 : decode cX0_find 25 = .ok (.iconst 0, 1) := by decide +kernel
theorem dX0_find_26 : decode cX0_find 26 = .ok (.istore 4, 2) := by decide +kernel
theorem dX0_find_28 : decode cX0_find 28 = .ok (.iload 4, 2) := by decide +kernel
theorem dX0_find_30 : decode cX0_find 30 = .ok (.aload_n 2, 1) := by decide +kernel
theorem dX0_find_31 : decode cX0_find 31 = .ok (.getfield 17, 3) := by decide +kernel
theorem dX0_find_34 : decode cX0_find 34 = .ok (.if_icmp .gt 83, 3) := by decide +kernel
theorem dX0_find_37 : decode cX0_find 37 = .ok (.aload_n 1, 1) := by decide +kernel
theorem dX0_find_38 : decode cX0_find 38 = .ok (.getfield 23, 3) := by decide +kernel
theorem dX0_find_41 : decode cX0_find 41 = .ok (.iload_n 3, 1) := by decide +kernel
theorem dX0_find_42 : decode cX0_find 42 = .ok (.iaload, 1) := by decide +kernel
theorem dX0_find_43 : decode cX0_find 43 = .ok (.aload_n 2, 1) := by decide +kernel
theorem dX0_find_44 : decode cX0_find 44 = .ok (.getfield 23, 3) := by decide +kernel
theorem dX0_find_47 : decode cX0_find 47 = .ok (.iload 4, 2) := by decide +kernel
theorem dX0_find_49 : decode cX0_find 49 = .ok (.iaload, 1) := by decide +kernel
theorem dX0_find_50 : decode cX0_find 50 = .ok (.isub, 1) := by decide +kernel
theorem dX0_find_51 : decode cX0_find 51 = .ok (.i2l, 1) := by decide +kernel
theorem dX0_find_52 : decode cX0_find 52 = .ok (.lstore 5, 2) := by decide +kernel
theorem dX0_find_54 : decode cX0_find 54 = .ok (.aload_n 1, 1) := by decide +kernel
theorem dX0_find_55 : decode cX0_find 55 = .ok (.getfield 27, 3) := by decide +kernel
theorem dX0_find_58 : decode cX0_find 58 = .ok (.iload_n 3, 1) := by decide +kernel
theorem dX0_find_59 : decode cX0_find 59 = .ok (.iaload, 1) := by decide +kernel
theorem dX0_find_60 : decode cX0_find 60 = .ok (.aload_n 2, 1) := by decide +kernel
theorem dX0_find_61 : decode cX0_find 61 = .ok (.getfield 27, 3) := by decide +kernel
theorem dX0_find_64 : decode cX0_find 64 = .ok (.iload 4, 2) := by decide +kernel
theorem dX0_find_66 : decode cX0_find 66 = .ok (.iaload, 1) := by decide +kernel
theorem dX0_find_67 : decode cX0_find 67 = .ok (.isub, 1) := by decide +kernel
theorem dX0_find_68 : decode cX0_find 68 = .ok (.i2l, 1) := by decide +kernel
theorem dX0_find_69 : decode cX0_find 69 = .ok (.lstore 7, 2) := by decide +kernel
theorem dX0_find_71 : decode cX0_find 71 = .ok (.lload 5, 2) := by decide +kernel
theorem dX0_find_73 : decode cX0_find 73 = .ok (.lload 5, 2) := by decide +kernel
theorem dX0_find_75 : decode cX0_find 75 = .ok (.lmul, 1) := by decide +kernel
theorem dX0_find_76 : decode cX0_find 76 = .ok (.lload 7, 2) := by decide +kernel
theorem dX0_find_78 : decode cX0_find 78 = .ok (.lload 7, 2) := by decide +kernel
theorem dX0_find_80 : decode cX0_find 80 = .ok (.lmul, 1) := by decide +kernel
theorem dX0_find_81 : decode cX0_find 81 = .ok (.ladd, 1) := by decide +kernel
theorem dX0_find_82 : decode cX0_find 82 = .ok (.lstore 9, 2) := by decide +kernel
theorem dX0_find_84 : decode cX0_find 84 = .ok (.lload 9, 2) := by decide +kernel
theorem dX0_find_86 : decode cX0_find 86 = .ok (.aload_n 0, 1) := by decide +kernel
theorem dX0_find_87 : decode cX0_find 87 = .ok (.getfield 11, 3) := by decide +kernel
theorem dX0_find_90 : decode cX0_find 90 = .ok (.lcmp, 1) := by decide +kernel
theorem dX0_find_91 : decode cX0_find 91 = .ok (.ifCond .ge 20, 3) := by decide +kernel
theorem dX0_find_94 : decode cX0_find 94 = .ok (.aload_n 0, 1) := by decide +kernel
theorem dX0_find_95 : decode cX0_find 95 = .ok (.lload 9, 2) := by decide +kernel
theorem dX0_find_97 : decode cX0_find 97 = .ok (.putfield 11, 3) := by decide +kernel
theorem dX0_find_100 : decode cX0_find 100 = .ok (.aload_n 0, 1) := by decide +kernel
theorem dX0_find_101 : decode cX0_find 101 = .ok (.iload_n 3, 1) := by decide +kernel
theorem dX0_find_102 : decode cX0_find 102 = .ok (.putfield 30, 3) := by decide +kernel
theorem dX0_find_105 : decode cX0_find 105 = .ok (.aload_n 0, 1) := by decide +kernel
theorem dX0_find_106 : decode cX0_find 106 = .ok (.iload 4, 2) := by decide +kernel
theorem dX0_find_108 : decode cX0_find 108 = .ok (.putfield 33, 3) := by decide +kernel
theorem dX0_find_111 : decode cX0_find 111 = .ok (.iinc 4 1, 3) := by decide +kernel
theorem dX0_find_114 : decode cX0_find 114 = .ok (.goto (-86), 3) := by decide +kernel
theorem dX0_find_117 : decode cX0_find 117 = .ok (.iinc 3 1, 3) := by decide +kernel
theorem dX0_find_120 : decode cX0_find 120 = .ok (.goto (-111), 3) := by decide +kernel
theorem dX0_find_123 : decode cX0_find 123 = .ok (.aload_n 0, 1) := by decide +kernel
theorem dX0_find_124 : decode cX0_find 124 = .ok (.getfield 11, 3) := by decide +kernel
theorem dX0_find_127 : decode cX0_find 127 = .ok (.ldc2_w 9, 3) := by decide +kernel
theorem dX0_find_130 : decode cX0_find 130 = .ok (.lcmp, 1) := by decide +kernel
theorem dX0_find_131 : decode cX0_find 131 = .ok (.ifCond .eq 7, 3) := by decide +kernel
theorem dX0_find_134 : decode cX0_find 134 = .ok (.iconst 1, 1) := by decide +kernel
theorem dX0_find_135 : decode cX0_find 135 = .ok (.goto 4, 3) := by decide +kernel
theorem dX0_find_138 : decode cX0_find 138 = .ok (.iconst 0, 1) := by decide +kernel
theorem dX0_find_139 : decode cX0_find 139 = .ok (.ireturn, 1) := by decide +kernel
set_option maxRecDepth 20000 in
theorem ggX1_init_X7_init : GoodIn wsX1_init wsX7_init := goodIn_r _ [17, 18, 2, 3] (by decide +kernel) (by decide +kernel)
set_option maxRecDepth 20000 in
theorem gX1_init_X7_init : GoodIn wsX1_init (wsX7_init) := ggX1_init_X7_init
theorem dX1_init_0 : decode cX1_init 0 = .ok (.aload_n 0, 1) := by decide +kernel
theorem dX1_init_1 : decode cX1_init 1 = .ok (.invokespecial 3, 3) := by decide +kernel
theorem dX1_init_4 : decode cX1_init 4 = .ok (.aload_n 0, 1) := by decide +kernel
theorem dX1_init_5 : decode cX1_init 5 = .ok (.new 9, 3) := by decide +kernel
theorem dX1_init_8 : decode cX1_init 8 = .ok (.dup, 1) := by decide +kernel
theorem dX1_init_9 : decode cX1_init 9 = .ok (.invokespecial 11, 3) := by decide +kernel
theorem dX1_init_12 : decode cX1_init 12 = .ok (.putfield 12, 3) := by decide +kernel
theorem dX1_init_15 : decode cX1_init 15 = .ok (.aload_n 0, 1) := by decide +kernel
theorem dX1_init_16 : decode cX1_init 16 = .ok (.bipush 6, 2) := by decide +kernel
theorem dX1_init_18 : decode cX1_init 18 = .ok (.newarray .int, 2) := by decide +kernel
theorem dX1_init_20 : decode cX1_init 20 = .ok (.putfield 18, 3) := by decide +kernel
theorem dX1_init_23 : decode cX1_init 23 = .ok (.aload_n 0, 1) := by decide +kernel
theorem dX1_init_24 : decode cX1_init 24 = .ok (.bipush 6, 2) := by decide +kernel
theorem dX1_init_26 : decode cX1_init 26 = .ok (.newarray .int, 2) := by decide +kernel
theorem dX1_init_28 : decode cX1_init 28 = .ok (.putfield 22, 3) := by decide +kernel
theorem dX1_init_31 : decode cX1_init 31 = .ok (.aload_n 0, 1) := by decide +kernel
theorem dX1_init_32 : decode cX1_init 32 = .ok (.bipush 50, 2) := by decide +kernel
theorem dX1_init_34 : decode cX1_init 34 = .ok (.newarray .int, 2) := by decide +kernel
theorem dX1_init_36 : decode cX1_init 36 = .ok (.putfield 25, 3) := by decide +kernel
theorem dX1_init_39 : decode cX1_init 39 = .ok (.aload_n 0, 1) := by decide +kernel
theorem dX1_init_40 : decode cX1_init 40 = .ok (.sipush 306, 3) := by decide +kernel
theorem dX1_init_43 : decode cX1_init 43 = .ok (.newarray .int, 2) := by decide +kernel
theorem dX1_init_45 : decode cX1_init 45 = .ok (.putfield 28, 3) := by decide +kernel
theorem dX1_init_48 : decode cX1_init 48 = .ok (.aload_n 0, 1) := by decide +kernel
theorem dX1_init_49 : decode cX1_init 49 = .ok (.sipush 306, 3) := by decide +kernel
theorem dX1_init_52 : decode cX1_init 52 = .ok (.newarray .int, 2) := by decide +kernel
theorem dX1_init_54 : decode cX1_init 54 = .ok (.putfield 31, 3) := by decide +kernel
theorem dX1_init_57 : decode cX1_init 57 = .ok (.aload_n 0, 1) := by decide +kernel
theorem dX1_init_58 : decode cX1_init 58 = .ok (.aload_n 1, 1) := by decide +kernel
theorem dX1_init_59 : decode cX1_init 59 = .ok (.putfield 34, 3) := by decide +kernel
theorem dX1_init_62 : decode cX1_init 62 = .ok (.return_, 1) := by decide +kernel
theorem dX1_add_0 : decode cX1_add 0 = .ok (.aload_n 0, 1) := by decide +kernel
theorem dX1_add_1 : decode cX1_add 1 = .ok (.getfield 38, 3) := by decide +kernel
theorem dX1_add_4 : decode cX1_add 4 = .ok (.bipush 6, 2) := by decide +kernel
theorem dX1_add_6 : decode cX1_add 6 = .ok (.if_icmp .lt 5, 3) := by decide +kernel
theorem dX1_add_9 : decode cX1_add 9 = .ok (.iconst 0, 1) := by decide +kernel
theorem dX1_add_10 : decode cX1_add 10 = .ok (.ireturn, 1) := by decide +kernel
theorem dX1_add_11 : decode cX1_add 11 = .ok (.aload_n 0, 1) := by decide +kernel
theorem dX1_add_12 : decode cX1_add 12 = .ok (.getfield 18, 3) := by decide +kernel
theorem dX1_add_15 : decode cX1_add 15 = .ok (.aload_n 0, 1) := by decide +kernel
theorem dX1_add_16 : decode cX1_add 16 = .ok (.getfield 38, 3) := by decide +kernel
theorem dX1_add_19 : decode cX1_add 19 = .ok (.iload_n 1, 1) := by decide +kernel
theorem dX1_add_20 : decode cX1_add 20 = .ok (.iastore, 1) := by decide +kernel
theorem dX1_add_21 : decode cX1_add 21 = .ok (.aload_n 0, 1) := by decide +kernel
theorem dX1_add_22 : decode cX1_add 22 = .ok (.getfield 22, 3) := by decide +kernel
theorem dX1_add_25 : decode cX1_add 25 = .ok (.aload_n 0, 1) := by decide +kernel
theorem dX1_add_26 : decode cX1_add 26 = .ok (.getfield 38, 3) := by decide +kernel
theorem dX1_add_29 : decode cX1_add 29 = .ok (.iload_n 2, 1) := by decide +kernel
theorem dX1_add_30 : decode cX1_add 30 = .ok (.iastore, 1) := by decide +kernel
theorem dX1_add_31 : decode cX1_add 31 = .ok (.aload_n 0, 1) := by decide +kernel
theorem dX1_add_32 : decode cX1_add 32 = .ok (.dup, 1) := by decide +kernel
theorem dX1_add_33 : decode cX1_add 33 = .ok (.getfield 38, 3) := by decide +kernel
theorem dX1_add_36 : decode cX1_add 36 = .ok (.iconst 1, 1) := by decide +kernel
theorem dX1_add_37 : decode cX1_add 37 = .ok (.iadd, 1) := by decide +kernel
theorem dX1_add_38 : decode cX1_add 38 = .ok (.putfield 38, 3) := by decide +kernel
theorem dX1_add_41 : decode cX1_add 41 = .ok (.iconst 1, 1) := by decide +kernel
theorem dX1_add_42 : decode cX1_add 42 = .ok (.ireturn, 1) := by decide +kernel
set_option maxRecDepth 20000 in
theorem ggX1_reckon_X1_deepestFrom : GoodIn wsX1_reckon wsX1_deepestFrom := goodIn_r _ [9, 10, 11, 12, 13, 14, 15, 16, 17, 18, 19, 20, 21, 22, 23, 24, 25, 26, 27, 28, 29, 30, 31, 32, 33, 34, 35, 36, 37, 38, 39, 40, 41, 42, 43, 44, 45, 46, 47, 48, 49, 50, 51, 52, 53, 54, 55, 56, 57, 58, 59, 60, 61, 62, 63, 64, 65, 66, 67, 68, 81, 82, 83, 84, 85, 86, 87, 88, 89, 90, 91, 92, 93, 94, 95, 96, 97, 98] (by decide +kernel) (by decide +kernel)
set_option maxRecDepth 20000 in
theorem gX1_reckon_X1_deepestFrom : GoodIn wsX1_reckon (wsV RX1 42 RX1 yX1_deepestFrom wsX1_deepestFrom) := goodIn_app (goodIn_of _ (by decide +kernel)) ggX1_reckon_X1_deepestFrom
set_option maxRecDepth 20000 in
theorem ggX1_reckon_X1_choose : GoodIn wsX1_reckon wsX1_choose := goodIn_r _ [72, 2, 73, 74, 43, 44, 45, 4, 75, 3, 76, 77, 78, 79, 8, 80, 1, 81, 82, 83, 84, 85, 86, 87, 88] (by decide +kernel) (by decide +kernel)
set_option maxRecDepth 20000 in
theorem gX1_reckon_X1_choose : GoodIn wsX1_reckon (wsV RX1 46 RX1 yX1_choose wsX1_choose) := goodIn_app (goodIn_of _ (by decide +kernel)) ggX1_reckon_X1_choose
theorem dX1_reckon_0 : decode cX1_reckon 0 = .ok (.aload_n 0, 1) := by decide +kernel
theorem dX1_reckon_1 : decode cX1_reckon 1 = .ok (.getfield 38, 3) := by decide +kernel
theorem dX1_reckon_4 : decode cX1_reckon 4 = .ok (.ifCond .ne 5, 3) := by decide +kernel
theorem dX1_reckon_7 : decode cX1_reckon 7 = .ok (.iconst 0, 1) := by decide +kernel
theorem dX1_reckon_8 : decode cX1_reckon 8 = .ok (.ireturn, 1) := by decide +kernel
theorem dX1_reckon_9 : decode cX1_reckon 9 = .ok (.iconst 0, 1) := by decide +kernel
theorem dX1_reckon_10 : decode cX1_reckon 10 = .ok (.istore_n 2, 1) := by decide +kernel
theorem dX1_reckon_11 : decode cX1_reckon 11 = .ok (.iload_n 2, 1) := by decide +kernel
theorem dX1_reckon_12 : decode cX1_reckon 12 = .ok (.iload_n 1, 1) := by decide +kernel
theorem dX1_reckon_13 : decode cX1_reckon 13 = .ok (.if_icmp .ge 21, 3) := by decide +kernel
theorem dX1_reckon_16 : decode cX1_reckon 16 = .ok (.aload_n 0, 1) := by decide +kernel
theorem dX1_reckon_17 : decode cX1_reckon 17 = .ok (.getfield 25, 3) := by decide +kernel
theorem dX1_reckon_20 : decode cX1_reckon 20 = .ok (.iload_n 2, 1) := by decide +kernel
theorem dX1_reckon_21 : decode cX1_reckon 21 = .ok (.aload_n 0, 1) := by decide +kernel
theorem dX1_reckon_22 : decode cX1_reckon 22 = .ok (.iload_n 2, 1) := by decide +kernel
theorem dX1_reckon_23 : decode cX1_reckon 23 = .ok (.iload_n 1, 1) := by decide +kernel
theorem dX1_reckon_24 : decode cX1_reckon 24 = .ok (.invokevirtual 42, 3) := by decide +kernel
theorem dX1_reckon_27 : decode cX1_reckon 27 = .ok (.iastore, 1) := by decide +kernel
theorem dX1_reckon_28 : decode cX1_reckon 28 = .ok (.iinc 2 1, 3) := by decide +kernel
theorem dX1_reckon_31 : decode cX1_reckon 31 = .ok (.goto (-20), 3) := by decide +kernel
theorem dX1_reckon_34 : decode cX1_reckon 34 = .ok (.aload_n 0, 1) := by decide +kernel
theorem dX1_reckon_35 : decode cX1_reckon 35 = .ok (.getfield 38, 3) := by decide +kernel
theorem dX1_reckon_38 : decode cX1_reckon 38 = .ok (.iconst 1, 1) := by decide +kernel
theorem dX1_reckon_39 : decode cX1_reckon 39 = .ok (.isub, 1) := by decide +kernel
theorem dX1_reckon_40 : decode cX1_reckon 40 = .ok (.istore_n 2, 1) := by decide +kernel
theorem dX1_reckon_41 : decode cX1_reckon 41 = .ok (.iload_n 2, 1) := by decide +kernel
theorem dX1_reckon_42 : decode cX1_reckon 42 = .ok (.ifCond .lt 29, 3) := by decide +kernel
theorem dX1_reckon_45 : decode cX1_reckon 45 = .ok (.iconst 0, 1) := by decide +kernel
theorem dX1_reckon_46 : decode cX1_reckon 46 = .ok (.istore_n 3, 1) := by decide +kernel
theorem dX1_reckon_47 : decode cX1_reckon 47 = .ok (.iload_n 3, 1) := by decide +kernel
theorem dX1_reckon_48 : decode cX1_reckon 48 = .ok (.iload_n 1, 1) := by decide +kernel
theorem dX1_reckon_49 : decode cX1_reckon 49 = .ok (.if_icmp .ge 16, 3) := by decide +kernel
theorem dX1_reckon_52 : decode cX1_reckon 52 = .ok (.aload_n 0, 1) := by decide +kernel
theorem dX1_reckon_53 : decode cX1_reckon 53 = .ok (.iload_n 2, 1) := by decide +kernel
theorem dX1_reckon_54 : decode cX1_reckon 54 = .ok (.iload_n 3, 1) := by decide +kernel
theorem dX1_reckon_55 : decode cX1_reckon 55 = .ok (.iload_n 1, 1) := by decide +kernel
theorem dX1_reckon_56 : decode cX1_reckon 56 = .ok (.invokevirtual 46, 3) := by decide +kernel
theorem dX1_reckon_59 : decode cX1_reckon 59 = .ok (.iinc 3 1, 3) := by decide +kernel
theorem dX1_reckon_62 : decode cX1_reckon 62 = .ok (.goto (-15), 3) := by decide +kernel
theorem dX1_reckon_65 : decode cX1_reckon 65 = .ok (.iinc 2 (-1), 3) := by decide +kernel
theorem dX1_reckon_68 : decode cX1_reckon 68 = .ok (.goto (-27), 3) := by decide +kernel
theorem dX1_reckon_71 : decode cX1_reckon 71 = .ok (.aload_n 0, 1) := by decide +kernel
theorem dX1_reckon_72 : decode cX1_reckon 72 = .ok (.getfield 28, 3) := by decide +kernel
theorem dX1_reckon_75 : decode cX1_reckon 75 = .ok (.iconst 0, 1) := by decide +kernel
theorem dX1_reckon_76 : decode cX1_reckon 76 = .ok (.iaload, 1) := by decide +kernel
theorem dX1_reckon_77 : decode cX1_reckon 77 = .ok (.ldc 50, 2) := by decide +kernel
theorem dX1_reckon_79 : decode cX1_reckon 79 = .ok (.if_icmp .eq 7, 3) := by decide +kernel
theorem dX1_reckon_82 : decode cX1_reckon 82 = .ok (.iconst 1, 1) := by decide +kernel
theorem dX1_reckon_83 : decode cX1_reckon 83 = .ok (.goto 4, 3) := by decide +kernel
theorem dX1_reckon_86 : decode cX1_reckon 86 = .ok (.iconst 0, 1) := by decide +kernel
theorem dX1_reckon_87 : decode cX1_reckon 87 = .ok (.ireturn, 1) := by decide +kernel
set_option maxRecDepth 20000 in
theorem ggX1_deepestFrom_X3_widest : GoodIn wsX1_deepestFrom wsX3_widest := goodIn_r _ [7, 8, 9, 10, 11, 12, 13, 14, 15, 68, 69] (by decide +kernel) (by decide +kernel)
set_option maxRecDepth 20000 in
theorem gX1_deepestFrom_X3_widest : GoodIn wsX1_deepestFrom (wsV RX1 51 RX3 yX3_widest wsX3_widest) := goodIn_app (goodIn_of _ (by decide +kernel)) ggX1_deepestFrom_X3_widest
set_option maxRecDepth 20000 in
theorem ggX1_deepestFrom_X3_narrow : GoodIn wsX1_deepestFrom wsX3_narrow := goodIn_r _ [19, 20, 21, 22, 23, 24, 6, 25, 26, 27, 28, 29, 30, 31, 32, 33, 34, 35, 36, 37, 38, 39, 40, 41, 42, 43, 44, 45, 46, 47, 48, 12, 49, 14, 50, 51, 52, 15, 53, 54, 55, 70, 71, 72, 73, 74, 75, 76, 77, 68, 69] (by decide +kernel) (by decide +kernel)
set_option maxRecDepth 20000 in
theorem gX1_deepestFrom_X3_narrow : GoodIn wsX1_deepestFrom (wsV RX1 57 RX3 yX3_narrow wsX3_narrow) := goodIn_app (goodIn_of _ (by decide +kernel)) ggX1_deepestFrom_X3_narrow
set_option maxRecDepth 20000 in
theorem ggX1_deepestFrom_X7_isEmpty : GoodIn wsX1_deepestFrom wsX7_isEmpty := goodIn_r _ [59, 14, 15, 68, 69] (by decide +kernel) (by decide +kernel)
set_option maxRecDepth 20000 in
theorem gX1_deepestFrom_X7_isEmpty : GoodIn wsX1_deepestFrom (wsV RX1 61 RX7 yX7_isEmpty wsX7_isEmpty) := goodIn_app (goodIn_of _ (by decide +kernel)) ggX1_deepestFrom_X7_isEmpty
theorem dX1_deepestFrom_0 : decode cX1_deepestFrom 0 = .ok (.aload_n 0, 1) := by decide +kernel
theorem dX1_deepestFrom_1 : decode cX1_deepestFrom 1 = .ok (.getfield 34, 3) := by decide +kernel
theorem dX1_deepestFrom_4 : decode cX1_deepestFrom 4 = .ok (.aload_n 0, 1) := by decide +kernel
theorem dX1_deepestFrom_5 : decode cX1_deepestFrom 5 = .ok (.getfield 12, 3) := by decide +kernel
theorem dX1_deepestFrom_8 : decode cX1_deepestFrom 8 = .ok (.invokevirtual 51, 3) := by decide +kernel
theorem dX1_deepestFrom_11 : decode cX1_deepestFrom 11 = .ok (.iload_n 1, 1) := by decide +kernel
theorem dX1_deepestFrom_12 : decode cX1_deepestFrom 12 = .ok (.istore_n 3, 1) := by decide +kernel
theorem dX1_deepestFrom_13 : decode cX1_deepestFrom 13 = .ok (.iload_n 3, 1) := by decide +kernel
theorem dX1_deepestFrom_14 : decode cX1_deepestFrom 14 = .ok (.iload_n 2, 1) := by decide +kernel
theorem dX1_deepestFrom_15 : decode cX1_deepestFrom 15 = .ok (.if_icmp .ge 34, 3) := by decide +kernel
theorem dX1_deepestFrom_18 : decode cX1_deepestFrom 18 = .ok (.aload_n 0, 1) := by decide +kernel
theorem dX1_deepestFrom_19 : decode cX1_deepestFrom 19 = .ok (.getfield 34, 3) := by decide +kernel
theorem dX1_deepestFrom_22 : decode cX1_deepestFrom 22 = .ok (.aload_n 0, 1) := by decide +kernel
theorem dX1_deepestFrom_23 : decode cX1_deepestFrom 23 = .ok (.getfield 12, 3) := by decide +kernel
theorem dX1_deepestFrom_26 : decode cX1_deepestFrom 26 = .ok (.iload_n 3, 1) := by decide +kernel
theorem dX1_deepestFrom_27 : decode cX1_deepestFrom 27 = .ok (.iload_n 3, 1) := by decide +kernel
theorem dX1_deepestFrom_28 : decode cX1_deepestFrom 28 = .ok (.invokevirtual 57, 3) := by decide +kernel
theorem dX1_deepestFrom_31 : decode cX1_deepestFrom 31 = .ok (.aload_n 0, 1) := by decide +kernel
theorem dX1_deepestFrom_32 : decode cX1_deepestFrom 32 = .ok (.getfield 12, 3) := by decide +kernel
theorem dX1_deepestFrom_35 : decode cX1_deepestFrom 35 = .ok (.invokevirtual 61, 3) := by decide +kernel
theorem dX1_deepestFrom_38 : decode cX1_deepestFrom 38 = .ok (.ifCond .eq 5, 3) := by decide +kernel
theorem dX1_deepestFrom_41 : decode cX1_deepestFrom 41 = .ok (.iload_n 3, 1) := by decide +kernel
theorem dX1_deepestFrom_42 : decode cX1_deepestFrom 42 = .ok (.ireturn, 1) := by decide +kernel
theorem dX1_deepestFrom_43 : decode cX1_deepestFrom 43 = .ok (.iinc 3 1, 3) := by decide +kernel
theorem dX1_deepestFrom_46 : decode cX1_deepestFrom 46 = .ok (.goto (-33), 3) := by decide +kernel
theorem dX1_deepestFrom_49 : decode cX1_deepestFrom 49 = .ok (.iload_n 2, 1) := by decide +kernel
theorem dX1_deepestFrom_50 : decode cX1_deepestFrom 50 = .ok (.ireturn, 1) := by decide +kernel
set_option maxRecDepth 20000 in
theorem ggX1_choose_X1_worthBelow : GoodIn wsX1_choose wsX1_worthBelow := goodIn_r _ [15, 16, 9, 7, 17, 18, 19, 20, 21, 22, 23, 24] (by decide +kernel) (by decide +kernel)
set_option maxRecDepth 20000 in
theorem gX1_choose_X1_worthBelow : GoodIn wsX1_choose (wsV RX1 70 RX1 yX1_worthBelow wsX1_worthBelow) := goodIn_app (goodIn_of _ (by decide +kernel)) ggX1_choose_X1_worthBelow
theorem dX1_choose_0 : decode cX1_choose 0 = .ok (.aload_n 0, 1) := by decide +kernel
theorem dX1_choose_1 : decode cX1_choose 1 = .ok (.getfield 25, 3) := by decide +kernel
theorem dX1_choose_4 : decode cX1_choose 4 = .ok (.iload_n 2, 1) := by decide +kernel
theorem dX1_choose_5 : decode cX1_choose 5 = .ok (.iaload, 1) := by decide +kernel
theorem dX1_choose_6 : decode cX1_choose 6 = .ok (.aload_n 0, 1) := by decide +kernel
theorem dX1_choose_7 : decode cX1_choose 7 = .ok (.getfield 22, 3) := by decide +kernel
theorem dX1_choose_10 : decode cX1_choose 10 = .ok (.iload_n 1, 1) := by decide +kernel
theorem dX1_choose_11 : decode cX1_choose 11 = .ok (.iaload, 1) := by decide +kernel
theorem dX1_choose_12 : decode cX1_choose 12 = .ok (.invokestatic 65, 3) := by decide +kernel
theorem dX1_choose_15 : decode cX1_choose 15 = .ok (.istore 4, 2) := by decide +kernel
theorem dX1_choose_17 : decode cX1_choose 17 = .ok (.ldc 50, 2) := by decide +kernel
theorem dX1_choose_19 : decode cX1_choose 19 = .ok (.istore 5, 2) := by decide +kernel
theorem dX1_choose_21 : decode cX1_choose 21 = .ok (.iload_n 2, 1) := by decide +kernel
theorem dX1_choose_22 : decode cX1_choose 22 = .ok (.istore 6, 2) := by decide +kernel
theorem dX1_choose_24 : decode cX1_choose 24 = .ok (.iload_n 2, 1) := by decide +kernel
theorem dX1_choose_25 : decode cX1_choose 25 = .ok (.iconst 1, 1) := by decide +kernel
theorem dX1_choose_26 : decode cX1_choose 26 = .ok (.iadd, 1) := by decide +kernel
theorem dX1_choose_27 : decode cX1_choose 27 = .ok (.istore 7, 2) := by decide +kernel
theorem dX1_choose_29 : decode cX1_choose 29 = .ok (.iload 7, 2) := by decide +kernel
theorem dX1_choose_31 : decode cX1_choose 31 = .ok (.iload 4, 2) := by decide +kernel
theorem dX1_choose_33 : decode cX1_choose 33 = .ok (.if_icmp .gt 63, 3) := by decide +kernel
theorem dX1_choose_36 : decode cX1_choose 36 = .ok (.aload_n 0, 1) := by decide +kernel
theorem dX1_choose_37 : decode cX1_choose 37 = .ok (.iload_n 1, 1) := by decide +kernel
theorem dX1_choose_38 : decode cX1_choose 38 = .ok (.iload 7, 2) := by decide +kernel
theorem dX1_choose_40 : decode cX1_choose 40 = .ok (.iload_n 3, 1) := by decide +kernel
theorem dX1_choose_41 : decode cX1_choose 41 = .ok (.invokevirtual 70, 3) := by decide +kernel
theorem dX1_choose_44 : decode cX1_choose 44 = .ok (.istore 8, 2) := by decide +kernel
theorem dX1_choose_46 : decode cX1_choose 46 = .ok (.iload 8, 2) := by decide +kernel
theorem dX1_choose_48 : decode cX1_choose 48 = .ok (.ldc 50, 2) := by decide +kernel
theorem dX1_choose_50 : decode cX1_choose 50 = .ok (.if_icmp .ne 6, 3) := by decide +kernel
theorem dX1_choose_53 : decode cX1_choose 53 = .ok (.goto 37, 3) := by decide +kernel
theorem dX1_choose_56 : decode cX1_choose 56 = .ok (.aload_n 0, 1) := by decide +kernel
theorem dX1_choose_57 : decode cX1_choose 57 = .ok (.getfield 18, 3) := by decide +kernel
theorem dX1_choose_60 : decode cX1_choose 60 = .ok (.iload_n 1, 1) := by decide +kernel
theorem dX1_choose_61 : decode cX1_choose 61 = .ok (.iaload, 1) := by decide +kernel
theorem dX1_choose_62 : decode cX1_choose 62 = .ok (.iload 7, 2) := by decide +kernel
theorem dX1_choose_64 : decode cX1_choose 64 = .ok (.imul, 1) := by decide +kernel
theorem dX1_choose_65 : decode cX1_choose 65 = .ok (.bipush 8, 2) := by decide +kernel
theorem dX1_choose_67 : decode cX1_choose 67 = .ok (.imul, 1) := by decide +kernel
theorem dX1_choose_68 : decode cX1_choose 68 = .ok (.iconst 1, 1) := by decide +kernel
theorem dX1_choose_69 : decode cX1_choose 69 = .ok (.iadd, 1) := by decide +kernel
theorem dX1_choose_70 : decode cX1_choose 70 = .ok (.iload 8, 2) := by decide +kernel
theorem dX1_choose_72 : decode cX1_choose 72 = .ok (.iadd, 1) := by decide +kernel
theorem dX1_choose_73 : decode cX1_choose 73 = .ok (.istore 9, 2) := by decide +kernel
theorem dX1_choose_75 : decode cX1_choose 75 = .ok (.iload 9, 2) := by decide +kernel
theorem dX1_choose_77 : decode cX1_choose 77 = .ok (.iload 5, 2) := by decide +kernel
theorem dX1_choose_79 : decode cX1_choose 79 = .ok (.if_icmp .ge 11, 3) := by decide +kernel
theorem dX1_choose_82 : decode cX1_choose 82 = .ok (.iload 9, 2) := by decide +kernel
theorem dX1_choose_84 : decode cX1_choose 84 = .ok (.istore 5, 2) := by decide +kernel
theorem dX1_choose_86 : decode cX1_choose 86 = .ok (.iload 7, 2) := by decide +kernel
theorem dX1_choose_88 : decode cX1_choose 88 = .ok (.istore 6, 2) := by decide +kernel
theorem dX1_choose_90 : decode cX1_choose 90 = .ok (.iinc 7 1, 3) := by decide +kernel
theorem dX1_choose_93 : decode cX1_choose 93 = .ok (.goto (-64), 3) := by decide +kernel
theorem dX1_choose_96 : decode cX1_choose 96 = .ok (.aload_n 0, 1) := by decide +kernel
theorem dX1_choose_97 : decode cX1_choose 97 = .ok (.getfield 28, 3) := by decide +kernel
theorem dX1_choose_100 : decode cX1_choose 100 = .ok (.iload_n 1, 1) := by decide +kernel
theorem dX1_choose_101 : decode cX1_choose 101 = .ok (.bipush 51, 2) := by decide +kernel
theorem dX1_choose_103 : decode cX1_choose 103 = .ok (.imul, 1) := by decide +kernel
theorem dX1_choose_104 : decode cX1_choose 104 = .ok (.iload_n 2, 1) := by decide +kernel
theorem dX1_choose_105 : decode cX1_choose 105 = .ok (.iadd, 1) := by decide +kernel
theorem dX1_choose_106 : decode cX1_choose 106 = .ok (.iload 5, 2) := by decide +kernel
theorem dX1_choose_108 : decode cX1_choose 108 = .ok (.iastore, 1) := by decide +kernel
theorem dX1_choose_109 : decode cX1_choose 109 = .ok (.aload_n 0, 1) := by decide +kernel
theorem dX1_choose_110 : decode cX1_choose 110 = .ok (.getfield 31, 3) := by decide +kernel
theorem dX1_choose_113 : decode cX1_choose 113 = .ok (.iload_n 1, 1) := by decide +kernel
theorem dX1_choose_114 : decode cX1_choose 114 = .ok (.bipush 51, 2) := by decide +kernel
theorem dX1_choose_116 : decode cX1_choose 116 = .ok (.imul, 1) := by decide +kernel
theorem dX1_choose_117 : decode cX1_choose 117 = .ok (.iload_n 2, 1) := by decide +kernel
theorem dX1_choose_118 : decode cX1_choose 118 = .ok (.iadd, 1) := by decide +kernel
theorem dX1_choose_119 : decode cX1_choose 119 = .ok (.iload 6, 2) := by decide +kernel
theorem dX1_choose_121 : decode cX1_choose 121 = .ok (.iastore, 1) := by decide +kernel
theorem dX1_choose_122 : decode cX1_choose 122 = .ok (.return_, 1) := by decide +kernel
theorem dX1_worthBelow_0 : decode cX1_worthBelow 0 = .ok (.iload_n 2, 1) := by decide +kernel
theorem dX1_worthBelow_1 : decode cX1_worthBelow 1 = .ok (.iload_n 3, 1) := by decide +kernel
theorem dX1_worthBelow_2 : decode cX1_worthBelow 2 = .ok (.if_icmp .ne 5, 3) := by decide +kernel
theorem dX1_worthBelow_5 : decode cX1_worthBelow 5 = .ok (.iconst 0, 1) := by decide +kernel
theorem dX1_worthBelow_6 : decode cX1_worthBelow 6 = .ok (.ireturn, 1) := by decide +kernel
theorem dX1_worthBelow_7 : decode cX1_worthBelow 7 = .ok (.iload_n 1, 1) := by decide +kernel
theorem dX1_worthBelow_8 : decode cX1_worthBelow 8 = .ok (.iconst 1, 1) := by decide +kernel
theorem dX1_worthBelow_9 : decode cX1_worthBelow 9 = .ok (.iadd, 1) := by decide +kernel
theorem dX1_worthBelow_10 : decode cX1_worthBelow 10 = .ok (.aload_n 0, 1) := by decide +kernel
theorem dX1_worthBelow_11 : decode cX1_worthBelow 11 = .ok (.getfield 38, 3) := by decide +kernel
theorem dX1_worthBelow_14 : decode cX1_worthBelow 14 = .ok (.if_icmp .ge 19, 3) := by decide +kernel
theorem dX1_worthBelow_17 : decode cX1_worthBelow 17 = .ok (.aload_n 0, 1) := by decide +kernel
theorem dX1_worthBelow_18 : decode cX1_worthBelow 18 = .ok (.getfield 28, 3) := by decide +kernel
theorem dX1_worthBelow_21 : decode cX1_worthBelow 21 = .ok (.iload_n 1, 1) := by decide +kernel
theorem dX1_worthBelow_22 : decode cX1_worthBelow 22 = .ok (.iconst 1, 1) := by decide +kernel
theorem dX1_worthBelow_23 : decode cX1_worthBelow 23 = .ok (.iadd, 1) := by decide +kernel
theorem dX1_worthBelow_24 : decode cX1_worthBelow 24 = .ok (.bipush 51, 2) := by decide +kernel
theorem dX1_worthBelow_26 : decode cX1_worthBelow 26 = .ok (.imul, 1) := by decide +kernel
theorem dX1_worthBelow_27 : decode cX1_worthBelow 27 = .ok (.iload_n 2, 1) := by decide +kernel
theorem dX1_worthBelow_28 : decode cX1_worthBelow 28 = .ok (.iadd, 1) := by decide +kernel
theorem dX1_worthBelow_29 : decode cX1_worthBelow 29 = .ok (.iaload, 1) := by decide +kernel
theorem dX1_worthBelow_30 : decode cX1_worthBelow 30 = .ok (.goto 5, 3) := by decide +kernel
theorem dX1_worthBelow_33 : decode cX1_worthBelow 33 = .ok (.ldc 50, 2) := by decide +kernel
theorem dX1_worthBelow_35 : decode cX1_worthBelow 35 = .ok (.ireturn, 1) := by decide +kernel
theorem dX1_costOfPlan_0 : decode cX1_costOfPlan 0 = .ok (.aload_n 0, 1) := by decide +kernel
theorem dX1_costOfPlan_1 : decode cX1_costOfPlan 1 = .ok (.getfield 28, 3) := by decide +kernel
theorem dX1_costOfPlan_4 : decode cX1_costOfPlan 4 = .ok (.iconst 0, 1) := by decide +kernel
theorem dX1_costOfPlan_5 : decode cX1_costOfPlan 5 = .ok (.iaload, 1) := by decide +kernel
theorem dX1_costOfPlan_6 : decode cX1_costOfPlan 6 = .ok (.bipush 8, 2) := by decide +kernel
theorem dX1_costOfPlan_8 : decode cX1_costOfPlan 8 = .ok (.idiv, 1) := by decide +kernel
theorem dX1_costOfPlan_9 : decode cX1_costOfPlan 9 = .ok (.ireturn, 1) := by decide +kernel
theorem dX1_stringsOfPlan_0 : decode cX1_stringsOfPlan 0 = .ok (.aload_n 0, 1) := by decide +kernel
theorem dX1_stringsOfPlan_1 : decode cX1_stringsOfPlan 1 = .ok (.getfield 28, 3) := by decide +kernel
theorem dX1_stringsOfPlan_4 : decode cX1_stringsOfPlan 4 = .ok (.iconst 0, 1) := by decide +kernel
theorem dX1_stringsOfPlan_5 : decode cX1_stringsOfPlan 5 = .ok (.iaload, 1) := by decide +kernel
theorem dX1_stringsOfPlan_6 : decode cX1_stringsOfPlan 6 = .ok (.bipush 8, 2) := by decide +kernel
theorem dX1_stringsOfPlan_8 : decode cX1_stringsOfPlan 8 = .ok (.irem, 1) := by decide +kernel
theorem dX1_stringsOfPlan_9 : decode cX1_stringsOfPlan 9 = .ok (.ireturn, 1) := by decide +kernel
theorem dX1_shoeOfPlan_0 : decode cX1_shoeOfPlan 0 = .ok (.iconst 0, 1) := by decide +kernel
theorem dX1_shoeOfPlan_1 : decode cX1_shoeOfPlan 1 = .ok (.istore_n 2, 1) := by decide +kernel
theorem dX1_shoeOfPlan_2 : decode cX1_shoeOfPlan 2 = .ok (.iconst 0, 1) := by decide +kernel
theorem dX1_shoeOfPlan_3 : decode cX1_shoeOfPlan 3 = .ok (.istore_n 3, 1) := by decide +kernel
theorem dX1_shoeOfPlan_4 : decode cX1_shoeOfPlan 4 = .ok (.iload_n 3, 1) := by decide +kernel
theorem dX1_shoeOfPlan_5 : decode cX1_shoeOfPlan 5 = .ok (.iload_n 1, 1) := by decide +kernel
theorem dX1_shoeOfPlan_6 : decode cX1_shoeOfPlan 6 = .ok (.if_icmp .gt 29, 3) := by decide +kernel
theorem dX1_shoeOfPlan_9 : decode cX1_shoeOfPlan 9 = .ok (.iload_n 3, 1) := by decide +kernel
theorem dX1_shoeOfPlan_10 : decode cX1_shoeOfPlan 10 = .ok (.aload_n 0, 1) := by decide +kernel
theorem dX1_shoeOfPlan_11 : decode cX1_shoeOfPlan 11 = .ok (.getfield 38, 3) := by decide +kernel
theorem dX1_shoeOfPlan_14 : decode cX1_shoeOfPlan 14 = .ok (.if_icmp .ge 21, 3) := by decide +kernel
theorem dX1_shoeOfPlan_17 : decode cX1_shoeOfPlan 17 = .ok (.aload_n 0, 1) := by decide +kernel
theorem dX1_shoeOfPlan_18 : decode cX1_shoeOfPlan 18 = .ok (.getfield 31, 3) := by decide +kernel
theorem dX1_shoeOfPlan_21 : decode cX1_shoeOfPlan 21 = .ok (.iload_n 3, 1) := by decide +kernel
theorem dX1_shoeOfPlan_22 : decode cX1_shoeOfPlan 22 = .ok (.bipush 51, 2) := by decide +kernel
theorem dX1_shoeOfPlan_24 : decode cX1_shoeOfPlan 24 = .ok (.imul, 1) := by decide +kernel
theorem dX1_shoeOfPlan_25 : decode cX1_shoeOfPlan 25 = .ok (.iload_n 2, 1) := by decide +kernel
theorem dX1_shoeOfPlan_26 : decode cX1_shoeOfPlan 26 = .ok (.iadd, 1) := by decide +kernel
theorem dX1_shoeOfPlan_27 : decode cX1_shoeOfPlan 27 = .ok (.iaload, 1) := by decide +kernel
theorem dX1_shoeOfPlan_28 : decode cX1_shoeOfPlan 28 = .ok (.istore_n 2, 1) := by decide +kernel
theorem dX1_shoeOfPlan_29 : decode cX1_shoeOfPlan 29 = .ok (.iinc 3 1, 3) := by decide +kernel
theorem dX1_shoeOfPlan_32 : decode cX1_shoeOfPlan 32 = .ok (.goto (-28), 3) := by decide +kernel
theorem dX1_shoeOfPlan_35 : decode cX1_shoeOfPlan 35 = .ok (.iload_n 2, 1) := by decide +kernel
theorem dX1_shoeOfPlan_36 : decode cX1_shoeOfPlan 36 = .ok (.ireturn, 1) := by decide +kernel
theorem dX2_init_0 : decode cX2_init 0 = .ok (.aload_n 0, 1) := by decide +kernel
theorem dX2_init_1 : decode cX2_init 1 = .ok (.invokespecial 3, 3) := by decide +kernel
theorem dX2_init_4 : decode cX2_init 4 = .ok (.aload_n 0, 1) := by decide +kernel
theorem dX2_init_5 : decode cX2_init 5 = .ok (.aload_n 1, 1) := by decide +kernel
theorem dX2_init_6 : decode cX2_init 6 = .ok (.putfield 9, 3) := by decide +kernel
theorem dX2_init_9 : decode cX2_init 9 = .ok (.return_, 1) := by decide +kernel
theorem dX2_comeIn_0 : decode cX2_comeIn 0 = .ok (.aload_n 0, 1) := by decide +kernel
theorem dX2_comeIn_1 : decode cX2_comeIn 1 = .ok (.iload_n 1, 1) := by decide +kernel
theorem dX2_comeIn_2 : decode cX2_comeIn 2 = .ok (.putfield 15, 3) := by decide +kernel
theorem dX2_comeIn_5 : decode cX2_comeIn 5 = .ok (.aload_n 0, 1) := by decide +kernel
theorem dX2_comeIn_6 : decode cX2_comeIn 6 = .ok (.iload_n 2, 1) := by decide +kernel
theorem dX2_comeIn_7 : decode cX2_comeIn 7 = .ok (.putfield 19, 3) := by decide +kernel
theorem dX2_comeIn_10 : decode cX2_comeIn 10 = .ok (.aload_n 0, 1) := by decide +kernel
theorem dX2_comeIn_11 : decode cX2_comeIn 11 = .ok (.iload_n 3, 1) := by decide +kernel
theorem dX2_comeIn_12 : decode cX2_comeIn 12 = .ok (.putfield 22, 3) := by decide +kernel
theorem dX2_comeIn_15 : decode cX2_comeIn 15 = .ok (.return_, 1) := by decide +kernel
theorem dX2_cameIn_0 : decode cX2_cameIn 0 = .ok (.aload_n 0, 1) := by decide +kernel
theorem dX2_cameIn_1 : decode cX2_cameIn 1 = .ok (.getfield 15, 3) := by decide +kernel
theorem dX2_cameIn_4 : decode cX2_cameIn 4 = .ok (.ifCond .le 7, 3) := by decide +kernel
theorem dX2_cameIn_7 : decode cX2_cameIn 7 = .ok (.iconst 1, 1) := by decide +kernel
theorem dX2_cameIn_8 : decode cX2_cameIn 8 = .ok (.goto 4, 3) := by decide +kernel
theorem dX2_cameIn_11 : decode cX2_cameIn 11 = .ok (.iconst 0, 1) := by decide +kernel
theorem dX2_cameIn_12 : decode cX2_cameIn 12 = .ok (.ireturn, 1) := by decide +kernel
set_option maxRecDepth 20000 in
theorem ggX2_stand_X9_cut : GoodIn wsX2_stand wsX9_cut := goodIn_r _ [22] (by decide +kernel) (by decide +kernel)
set_option maxRecDepth 20000 in
theorem gX2_stand_X9_cut_n40 : GoodIn wsX2_stand (wsX9_cut) := ggX2_stand_X9_cut
theorem dX2_stand_0 : decode cX2_stand 0 = .ok (.aload_n 0, 1) := by decide +kernel
theorem dX2_stand_1 : decode cX2_stand 1 = .ok (.getfield 19, 3) := by decide +kernel
theorem dX2_stand_4 : decode cX2_stand 4 = .ok (.i2l, 1) := by decide +kernel
theorem dX2_stand_5 : decode cX2_stand 5 = .ok (.aload_n 0, 1) := by decide +kernel
theorem dX2_stand_6 : decode cX2_stand 6 = .ok (.getfield 9, 3) := by decide +kernel
theorem dX2_stand_9 : decode cX2_stand 9 = .ok (.getfield 25, 3) := by decide +kernel
theorem dX2_stand_12 : decode cX2_stand 12 = .ok (.i2l, 1) := by decide +kernel
theorem dX2_stand_13 : decode cX2_stand 13 = .ok (.lmul, 1) := by decide +kernel
theorem dX2_stand_14 : decode cX2_stand 14 = .ok (.lstore_n 2, 1) := by decide +kernel
theorem dX2_stand_15 : decode cX2_stand 15 = .ok (.aload_n 0, 1) := by decide +kernel
theorem dX2_stand_16 : decode cX2_stand 16 = .ok (.lconst 1, 1) := by decide +kernel
theorem dX2_stand_17 : decode cX2_stand 17 = .ok (.lload_n 2, 1) := by decide +kernel
theorem dX2_stand_18 : decode cX2_stand 18 = .ok (.aload_n 0, 1) := by decide +kernel
theorem dX2_stand_19 : decode cX2_stand 19 = .ok (.getfield 22, 3) := by decide +kernel
theorem dX2_stand_22 : decode cX2_stand 22 = .ok (.i2l, 1) := by decide +kernel
theorem dX2_stand_23 : decode cX2_stand 23 = .ok (.aload_n 0, 1) := by decide +kernel
theorem dX2_stand_24 : decode cX2_stand 24 = .ok (.getfield 9, 3) := by decide +kernel
theorem dX2_stand_27 : decode cX2_stand 27 = .ok (.getfield 25, 3) := by decide +kernel
theorem dX2_stand_30 : decode cX2_stand 30 = .ok (.iload_n 1, 1) := by decide +kernel
theorem dX2_stand_31 : decode cX2_stand 31 = .ok (.isub, 1) := by decide +kernel
theorem dX2_stand_32 : decode cX2_stand 32 = .ok (.i2l, 1) := by decide +kernel
theorem dX2_stand_33 : decode cX2_stand 33 = .ok (.lmul, 1) := by decide +kernel
theorem dX2_stand_34 : decode cX2_stand 34 = .ok (.lsub, 1) := by decide +kernel
theorem dX2_stand_35 : decode cX2_stand 35 = .ok (.invokestatic 30, 3) := by decide +kernel
theorem dX2_stand_38 : decode cX2_stand 38 = .ok (.putfield 36, 3) := by decide +kernel
theorem dX2_stand_41 : decode cX2_stand 41 = .ok (.aload_n 0, 1) := by decide +kernel
theorem dX2_stand_42 : decode cX2_stand 42 = .ok (.aload_n 0, 1) := by decide +kernel
theorem dX2_stand_43 : decode cX2_stand 43 = .ok (.getfield 15, 3) := by decide +kernel
theorem dX2_stand_46 : decode cX2_stand 46 = .ok (.i2l, 1) := by decide +kernel
theorem dX2_stand_47 : decode cX2_stand 47 = .ok (.lload_n 2, 1) := by decide +kernel
theorem dX2_stand_48 : decode cX2_stand 48 = .ok (.lmul, 1) := by decide +kernel
theorem dX2_stand_49 : decode cX2_stand 49 = .ok (.aload_n 0, 1) := by decide +kernel
theorem dX2_stand_50 : decode cX2_stand 50 = .ok (.getfield 36, 3) := by decide +kernel
theorem dX2_stand_53 : decode cX2_stand 53 = .ok (.invokestatic 40, 3) := by decide +kernel
theorem dX2_stand_56 : decode cX2_stand 56 = .ok (.putfield 43, 3) := by decide +kernel
theorem dX2_stand_59 : decode cX2_stand 59 = .ok (.aload_n 0, 1) := by decide +kernel
theorem dX2_stand_60 : decode cX2_stand 60 = .ok (.iload_n 1, 1) := by decide +kernel
theorem dX2_stand_61 : decode cX2_stand 61 = .ok (.i2l, 1) := by decide +kernel
theorem dX2_stand_62 : decode cX2_stand 62 = .ok (.aload_n 0, 1) := by decide +kernel
theorem dX2_stand_63 : decode cX2_stand 63 = .ok (.getfield 43, 3) := by decide +kernel
theorem dX2_stand_66 : decode cX2_stand 66 = .ok (.aload_n 0, 1) := by decide +kernel
theorem dX2_stand_67 : decode cX2_stand 67 = .ok (.getfield 9, 3) := by decide +kernel
theorem dX2_stand_70 : decode cX2_stand 70 = .ok (.getfield 46, 3) := by decide +kernel
theorem dX2_stand_73 : decode cX2_stand 73 = .ok (.i2l, 1) := by decide +kernel
theorem dX2_stand_74 : decode cX2_stand 74 = .ok (.invokestatic 40, 3) := by decide +kernel
theorem dX2_stand_77 : decode cX2_stand 77 = .ok (.invokestatic 49, 3) := by decide +kernel
theorem dX2_stand_80 : decode cX2_stand 80 = .ok (.putfield 52, 3) := by decide +kernel
theorem dX2_stand_83 : decode cX2_stand 83 = .ok (.iload_n 1, 1) := by decide +kernel
theorem dX2_stand_84 : decode cX2_stand 84 = .ok (.i2l, 1) := by decide +kernel
theorem dX2_stand_85 : decode cX2_stand 85 = .ok (.aload_n 0, 1) := by decide +kernel
theorem dX2_stand_86 : decode cX2_stand 86 = .ok (.getfield 52, 3) := by decide +kernel
theorem dX2_stand_89 : decode cX2_stand 89 = .ok (.lsub, 1) := by decide +kernel
theorem dX2_stand_90 : decode cX2_stand 90 = .ok (.lstore 4, 2) := by decide +kernel
theorem dX2_stand_92 : decode cX2_stand 92 = .ok (.aload_n 0, 1) := by decide +kernel
theorem dX2_stand_93 : decode cX2_stand 93 = .ok (.lconst 0, 1) := by decide +kernel
theorem dX2_stand_94 : decode cX2_stand 94 = .ok (.aload_n 0, 1) := by decide +kernel
theorem dX2_stand_95 : decode cX2_stand 95 = .ok (.getfield 36, 3) := by decide +kernel
theorem dX2_stand_98 : decode cX2_stand 98 = .ok (.aload_n 0, 1) := by decide +kernel
theorem dX2_stand_99 : decode cX2_stand 99 = .ok (.getfield 22, 3) := by decide +kernel
theorem dX2_stand_102 : decode cX2_stand 102 = .ok (.i2l, 1) := by decide +kernel
theorem dX2_stand_103 : decode cX2_stand 103 = .ok (.lload 4, 2) := by decide +kernel
theorem dX2_stand_105 : decode cX2_stand 105 = .ok (.lmul, 1) := by decide +kernel
theorem dX2_stand_106 : decode cX2_stand 106 = .ok (.lsub, 1) := by decide +kernel
theorem dX2_stand_107 : decode cX2_stand 107 = .ok (.invokestatic 30, 3) := by decide +kernel
theorem dX2_stand_110 : decode cX2_stand 110 = .ok (.putfield 55, 3) := by decide +kernel
theorem dX2_stand_113 : decode cX2_stand 113 = .ok (.aload_n 0, 1) := by decide +kernel
theorem dX2_stand_114 : decode cX2_stand 114 = .ok (.getfield 9, 3) := by decide +kernel
theorem dX2_stand_117 : decode cX2_stand 117 = .ok (.getfield 58, 3) := by decide +kernel
theorem dX2_stand_120 : decode cX2_stand 120 = .ok (.i2l, 1) := by decide +kernel
theorem dX2_stand_121 : decode cX2_stand 121 = .ok (.lload 4, 2) := by decide +kernel
theorem dX2_stand_123 : decode cX2_stand 123 = .ok (.lcmp, 1) := by decide +kernel
theorem dX2_stand_124 : decode cX2_stand 124 = .ok (.ifCond .gt 29, 3) := by decide +kernel
theorem dX2_stand_127 : decode cX2_stand 127 = .ok (.aload_n 0, 1) := by decide +kernel
theorem dX2_stand_128 : decode cX2_stand 128 = .ok (.aload_n 0, 1) := by decide +kernel
theorem dX2_stand_129 : decode cX2_stand 129 = .ok (.getfield 55, 3) := by decide +kernel
theorem dX2_stand_132 : decode cX2_stand 132 = .ok (.aload_n 0, 1) := by decide +kernel
theorem dX2_stand_133 : decode cX2_stand 133 = .ok (.getfield 22, 3) := by decide +kernel
theorem dX2_stand_136 : decode cX2_stand 136 = .ok (.i2l, 1) := by decide +kernel
theorem dX2_stand_137 : decode cX2_stand 137 = .ok (.aload_n 0, 1) := by decide +kernel
theorem dX2_stand_138 : decode cX2_stand 138 = .ok (.getfield 9, 3) := by decide +kernel
theorem dX2_stand_141 : decode cX2_stand 141 = .ok (.getfield 58, 3) := by decide +kernel
theorem dX2_stand_144 : decode cX2_stand 144 = .ok (.i2l, 1) := by decide +kernel
theorem dX2_stand_145 : decode cX2_stand 145 = .ok (.lmul, 1) := by decide +kernel
theorem dX2_stand_146 : decode cX2_stand 146 = .ok (.ladd, 1) := by decide +kernel
theorem dX2_stand_147 : decode cX2_stand 147 = .ok (.putfield 61, 3) := by decide +kernel
theorem dX2_stand_150 : decode cX2_stand 150 = .ok (.goto 53, 3) := by decide +kernel
theorem dX2_stand_153 : decode cX2_stand 153 = .ok (.aload_n 0, 1) := by decide +kernel
theorem dX2_stand_154 : decode cX2_stand 154 = .ok (.getfield 9, 3) := by decide +kernel
theorem dX2_stand_157 : decode cX2_stand 157 = .ok (.getfield 58, 3) := by decide +kernel
theorem dX2_stand_160 : decode cX2_stand 160 = .ok (.iload_n 1, 1) := by decide +kernel
theorem dX2_stand_161 : decode cX2_stand 161 = .ok (.if_icmp .gt 14, 3) := by decide +kernel
theorem dX2_stand_164 : decode cX2_stand 164 = .ok (.aload_n 0, 1) := by decide +kernel
theorem dX2_stand_165 : decode cX2_stand 165 = .ok (.aload_n 0, 1) := by decide +kernel
theorem dX2_stand_166 : decode cX2_stand 166 = .ok (.getfield 36, 3) := by decide +kernel
theorem dX2_stand_169 : decode cX2_stand 169 = .ok (.putfield 61, 3) := by decide +kernel
theorem dX2_stand_172 : decode cX2_stand 172 = .ok (.goto 31, 3) := by decide +kernel
theorem dX2_stand_175 : decode cX2_stand 175 = .ok (.aload_n 0, 1) := by decide +kernel
theorem dX2_stand_176 : decode cX2_stand 176 = .ok (.lload_n 2, 1) := by decide +kernel
theorem dX2_stand_177 : decode cX2_stand 177 = .ok (.aload_n 0, 1) := by decide +kernel
theorem dX2_stand_178 : decode cX2_stand 178 = .ok (.getfield 22, 3) := by decide +kernel
theorem dX2_stand_181 : decode cX2_stand 181 = .ok (.i2l, 1) := by decide +kernel
theorem dX2_stand_182 : decode cX2_stand 182 = .ok (.aload_n 0, 1) := by decide +kernel
theorem dX2_stand_183 : decode cX2_stand 183 = .ok (.getfield 9, 3) := by decide +kernel
theorem dX2_stand_186 : decode cX2_stand 186 = .ok (.getfield 25, 3) := by decide +kernel
theorem dX2_stand_189 : decode cX2_stand 189 = .ok (.aload_n 0, 1) := by decide +kernel
theorem dX2_stand_190 : decode cX2_stand 190 = .ok (.getfield 9, 3) := by decide +kernel
theorem dX2_stand_193 : decode cX2_stand 193 = .ok (.getfield 58, 3) := by decide +kernel
theorem dX2_stand_196 : decode cX2_stand 196 = .ok (.isub, 1) := by decide +kernel
theorem dX2_stand_197 : decode cX2_stand 197 = .ok (.i2l, 1) := by decide +kernel
theorem dX2_stand_198 : decode cX2_stand 198 = .ok (.lmul, 1) := by decide +kernel
theorem dX2_stand_199 : decode cX2_stand 199 = .ok (.lsub, 1) := by decide +kernel
theorem dX2_stand_200 : decode cX2_stand 200 = .ok (.putfield 61, 3) := by decide +kernel
theorem dX2_stand_203 : decode cX2_stand 203 = .ok (.return_, 1) := by decide +kernel
set_option maxRecDepth 20000 in
theorem ggX2_isBrokenAt_X2_stand : GoodIn wsX2_isBrokenAt wsX2_stand := goodIn_r _ [6, 7, 8, 9, 10, 11, 12, 13, 14, 15, 16, 17, 18, 19, 20, 21, 22, 23, 24, 1, 25, 26, 27, 28, 29, 30, 31, 32, 33, 34, 35, 36, 37, 38, 39, 40, 41] (by decide +kernel) (by decide +kernel)
set_option maxRecDepth 20000 in
theorem gX2_isBrokenAt_X2_stand : GoodIn wsX2_isBrokenAt (wsV RX2 64 RX2 yX2_stand wsX2_stand) := goodIn_app (goodIn_of _ (by decide +kernel)) ggX2_isBrokenAt_X2_stand
theorem dX2_isBrokenAt_0 : decode cX2_isBrokenAt 0 = .ok (.aload_n 0, 1) := by decide +kernel
theorem dX2_isBrokenAt_1 : decode cX2_isBrokenAt 1 = .ok (.iload_n 1, 1) := by decide +kernel
theorem dX2_isBrokenAt_2 : decode cX2_isBrokenAt 2 = .ok (.invokevirtual 64, 3) := by decide +kernel
theorem dX2_isBrokenAt_5 : decode cX2_isBrokenAt 5 = .ok (.aload_n 0, 1) := by decide +kernel
theorem dX2_isBrokenAt_6 : decode cX2_isBrokenAt 6 = .ok (.getfield 61, 3) := by decide +kernel
theorem dX2_isBrokenAt_9 : decode cX2_isBrokenAt 9 = .ok (.lload_n 2, 1) := by decide +kernel
theorem dX2_isBrokenAt_10 : decode cX2_isBrokenAt 10 = .ok (.lcmp, 1) := by decide +kernel
theorem dX2_isBrokenAt_11 : decode cX2_isBrokenAt 11 = .ok (.ifCond .le 7, 3) := by decide +kernel
theorem dX2_isBrokenAt_14 : decode cX2_isBrokenAt 14 = .ok (.iconst 1, 1) := by decide +kernel
theorem dX2_isBrokenAt_15 : decode cX2_isBrokenAt 15 = .ok (.goto 4, 3) := by decide +kernel
theorem dX2_isBrokenAt_18 : decode cX2_isBrokenAt 18 = .ok (.iconst 0, 1) := by decide +kernel
theorem dX2_isBrokenAt_19 : decode cX2_isBrokenAt 19 = .ok (.ireturn, 1) := by decide +kernel
set_option maxRecDepth 20000 in
theorem ggX2_measure_X2_stand : GoodIn wsX2_measure wsX2_stand := goodIn_r _ [11, 12, 6, 13, 14, 15, 16, 17, 18, 1, 19, 2, 20, 21, 22, 23, 3, 4, 24, 5, 25, 26, 27, 54, 55, 56, 57, 58, 59, 60, 61, 62, 63, 64, 65, 66, 67] (by decide +kernel) (by decide +kernel)
set_option maxRecDepth 20000 in
theorem gX2_measure_X2_stand : GoodIn wsX2_measure (wsV RX2 64 RX2 yX2_stand wsX2_stand) := goodIn_app (goodIn_of _ (by decide +kernel)) ggX2_measure_X2_stand
set_option maxRecDepth 20000 in
theorem ggX2_measure_X8_strength : GoodIn wsX2_measure wsX8_strength := goodIn_r _ [32, 33, 34, 35, 36, 37, 38, 39, 40, 41, 42, 43, 44, 45, 46, 47, 48, 49, 17, 50, 51, 52, 26, 53, 63, 64, 65, 66, 67, 68, 69, 70, 71, 72, 73, 74, 75] (by decide +kernel) (by decide +kernel)
set_option maxRecDepth 20000 in
theorem gX2_measure_X8_strength : GoodIn wsX2_measure (wsV RX2 68 RX8 yX8_strength wsX8_strength) := goodIn_app (goodIn_of _ (by decide +kernel)) ggX2_measure_X8_strength
theorem dX2_measure_0 : decode cX2_measure 0 = .ok (.aload_n 0, 1) := by decide +kernel
theorem dX2_measure_1 : decode cX2_measure 1 = .ok (.iload_n 1, 1) := by decide +kernel
theorem dX2_measure_2 : decode cX2_measure 2 = .ok (.invokevirtual 64, 3) := by decide +kernel
theorem dX2_measure_5 : decode cX2_measure 5 = .ok (.iload_n 2, 1) := by decide +kernel
theorem dX2_measure_6 : decode cX2_measure 6 = .ok (.tableswitch 59 0 4 #[34, 39, 44, 49, 54], 34) := by decide +kernel
theorem dX2_measure_40 : decode cX2_measure 40 = .ok (.aload_n 0, 1) := by decide +kernel
theorem dX2_measure_41 : decode cX2_measure 41 = .ok (.getfield 36, 3) := by decide +kernel
theorem dX2_measure_44 : decode cX2_measure 44 = .ok (.lreturn, 1) := by decide +kernel
theorem dX2_measure_45 : decode cX2_measure 45 = .ok (.aload_n 0, 1) := by decide +kernel
theorem dX2_measure_46 : decode cX2_measure 46 = .ok (.getfield 43, 3) := by decide +kernel
theorem dX2_measure_49 : decode cX2_measure 49 = .ok (.lreturn, 1) := by decide +kernel
theorem dX2_measure_50 : decode cX2_measure 50 = .ok (.aload_n 0, 1) := by decide +kernel
theorem dX2_measure_51 : decode cX2_measure 51 = .ok (.getfield 52, 3) := by decide +kernel
theorem dX2_measure_54 : decode cX2_measure 54 = .ok (.lreturn, 1) := by decide +kernel
theorem dX2_measure_55 : decode cX2_measure 55 = .ok (.aload_n 0, 1) := by decide +kernel
theorem dX2_measure_56 : decode cX2_measure 56 = .ok (.getfield 55, 3) := by decide +kernel
theorem dX2_measure_59 : decode cX2_measure 59 = .ok (.lreturn, 1) := by decide +kernel
theorem dX2_measure_60 : decode cX2_measure 60 = .ok (.aload_n 0, 1) := by decide +kernel
theorem dX2_measure_61 : decode cX2_measure 61 = .ok (.getfield 61, 3) := by decide +kernel
theorem dX2_measure_64 : decode cX2_measure 64 = .ok (.lreturn, 1) := by decide +kernel
theorem dX2_measure_65 : decode cX2_measure 65 = .ok (.aload_n 0, 1) := by decide +kernel
theorem dX2_measure_66 : decode cX2_measure 66 = .ok (.getfield 61, 3) := by decide +kernel
theorem dX2_measure_69 : decode cX2_measure 69 = .ok (.aload_n 0, 1) := by decide +kernel
theorem dX2_measure_70 : decode cX2_measure 70 = .ok (.getfield 9, 3) := by decide +kernel
theorem dX2_measure_73 : decode cX2_measure 73 = .ok (.invokevirtual 68, 3) := by decide +kernel
theorem dX2_measure_76 : decode cX2_measure 76 = .ok (.lcmp, 1) := by decide +kernel
theorem dX2_measure_77 : decode cX2_measure 77 = .ok (.ifCond .le 7, 3) := by decide +kernel
theorem dX2_measure_80 : decode cX2_measure 80 = .ok (.lconst 1, 1) := by decide +kernel
theorem dX2_measure_81 : decode cX2_measure 81 = .ok (.goto 4, 3) := by decide +kernel
theorem dX2_measure_84 : decode cX2_measure 84 = .ok (.lconst 0, 1) := by decide +kernel
theorem dX2_measure_85 : decode cX2_measure 85 = .ok (.lreturn, 1) := by decide +kernel
set_option maxRecDepth 20000 in
theorem ggX2_whereGreatest_X2_stand : GoodIn wsX2_whereGreatest wsX2_stand := goodIn_r _ [9, 10, 2, 3, 11, 12, 13, 14, 15, 16, 17, 4, 18, 19, 20, 21, 22, 23, 24, 25, 26, 27, 28, 29, 30, 31, 32, 33, 34, 35, 36, 37, 38, 39, 40, 41, 42] (by decide +kernel) (by decide +kernel)
set_option maxRecDepth 20000 in
theorem gX2_whereGreatest_X2_stand : GoodIn wsX2_whereGreatest (wsV RX2 64 RX2 yX2_stand wsX2_stand) := goodIn_app (goodIn_of _ (by decide +kernel)) ggX2_whereGreatest_X2_stand
theorem dX2_whereGreatest_0 : decode cX2_whereGreatest 0 = .ok (.ldc2_w 72, 3) := by decide +kernel
theorem dX2_whereGreatest_3 : decode cX2_whereGreatest 3 = .ok (.lstore_n 1, 1) := by decide +kernel
theorem dX2_whereGreatest_4 : decode cX2_whereGreatest 4 = .ok (.iconst 0, 1) := by decide +kernel
theorem dX2_whereGreatest_5 : decode cX2_whereGreatest 5 = .ok (.istore_n 3, 1) := by decide +kernel
theorem dX2_whereGreatest_6 : decode cX2_whereGreatest 6 = .ok (.aload_n 0, 1) := by decide +kernel
theorem dX2_whereGreatest_7 : decode cX2_whereGreatest 7 = .ok (.getfield 9, 3) := by decide +kernel
theorem dX2_whereGreatest_10 : decode cX2_whereGreatest 10 = .ok (.getfield 25, 3) := by decide +kernel
theorem dX2_whereGreatest_13 : decode cX2_whereGreatest 13 = .ok (.istore 4, 2) := by decide +kernel
theorem dX2_whereGreatest_15 : decode cX2_whereGreatest 15 = .ok (.iload 4, 2) := by decide +kernel
theorem dX2_whereGreatest_17 : decode cX2_whereGreatest 17 = .ok (.ifCond .lt 32, 3) := by decide +kernel
theorem dX2_whereGreatest_20 : decode cX2_whereGreatest 20 = .ok (.aload_n 0, 1) := by decide +kernel
theorem dX2_whereGreatest_21 : decode cX2_whereGreatest 21 = .ok (.iload 4, 2) := by decide +kernel
theorem dX2_whereGreatest_23 : decode cX2_whereGreatest 23 = .ok (.invokevirtual 64, 3) := by decide +kernel
theorem dX2_whereGreatest_26 : decode cX2_whereGreatest 26 = .ok (.aload_n 0, 1) := by decide +kernel
theorem dX2_whereGreatest_27 : decode cX2_whereGreatest 27 = .ok (.getfield 43, 3) := by decide +kernel
theorem dX2_whereGreatest_30 : decode cX2_whereGreatest 30 = .ok (.lload_n 1, 1) := by decide +kernel
theorem dX2_whereGreatest_31 : decode cX2_whereGreatest 31 = .ok (.lcmp, 1) := by decide +kernel
theorem dX2_whereGreatest_32 : decode cX2_whereGreatest 32 = .ok (.ifCond .le 11, 3) := by decide +kernel
theorem dX2_whereGreatest_35 : decode cX2_whereGreatest 35 = .ok (.aload_n 0, 1) := by decide +kernel
theorem dX2_whereGreatest_36 : decode cX2_whereGreatest 36 = .ok (.getfield 43, 3) := by decide +kernel
theorem dX2_whereGreatest_39 : decode cX2_whereGreatest 39 = .ok (.lstore_n 1, 1) := by decide +kernel
theorem dX2_whereGreatest_40 : decode cX2_whereGreatest 40 = .ok (.iload 4, 2) := by decide +kernel
theorem dX2_whereGreatest_42 : decode cX2_whereGreatest 42 = .ok (.istore_n 3, 1) := by decide +kernel
theorem dX2_whereGreatest_43 : decode cX2_whereGreatest 43 = .ok (.iinc 4 (-1), 3) := by decide +kernel
theorem dX2_whereGreatest_46 : decode cX2_whereGreatest 46 = .ok (.goto (-31), 3) := by decide +kernel
theorem dX2_whereGreatest_49 : decode cX2_whereGreatest 49 = .ok (.iload_n 3, 1) := by decide +kernel
theorem dX2_whereGreatest_50 : decode cX2_whereGreatest 50 = .ok (.ireturn, 1) := by decide +kernel
set_option maxRecDepth 20000 in
theorem ggX2_whereBroken_X2_isBrokenAt : GoodIn wsX2_whereBroken wsX2_isBrokenAt := goodIn_r _ [7, 8, 9, 10, 11, 6, 12, 13, 1, 2, 14, 15, 16, 17, 18, 19, 20, 21, 22, 23, 24, 25, 26, 27, 28, 29, 30, 31, 32, 33, 34, 35, 36, 37, 38, 39, 40, 41, 42, 43, 44, 45] (by decide +kernel) (by decide +kernel)
set_option maxRecDepth 20000 in
theorem gX2_whereBroken_X2_isBrokenAt : GoodIn wsX2_whereBroken (wsV RX2 74 RX2 yX2_isBrokenAt wsX2_isBrokenAt) := goodIn_app (goodIn_of _ (by decide +kernel)) ggX2_whereBroken_X2_isBrokenAt
theorem dX2_whereBroken_0 : decode cX2_whereBroken 0 = .ok (.aload_n 0, 1) := by decide +kernel
theorem dX2_whereBroken_1 : decode cX2_whereBroken 1 = .ok (.getfield 9, 3) := by decide +kernel
theorem dX2_whereBroken_4 : decode cX2_whereBroken 4 = .ok (.getfield 25, 3) := by decide +kernel
theorem dX2_whereBroken_7 : decode cX2_whereBroken 7 = .ok (.istore_n 3, 1) := by decide +kernel
theorem dX2_whereBroken_8 : decode cX2_whereBroken 8 = .ok (.iload_n 3, 1) := by decide +kernel
theorem dX2_whereBroken_9 : decode cX2_whereBroken 9 = .ok (.ifCond .lt 20, 3) := by decide +kernel
theorem dX2_whereBroken_12 : decode cX2_whereBroken 12 = .ok (.aload_n 0, 1) := by decide +kernel
theorem dX2_whereBroken_13 : decode cX2_whereBroken 13 = .ok (.iload_n 3, 1) := by decide +kernel
theorem dX2_whereBroken_14 : decode cX2_whereBroken 14 = .ok (.lload_n 1, 1) := by decide +kernel
theorem dX2_whereBroken_15 : decode cX2_whereBroken 15 = .ok (.invokevirtual 74, 3) := by decide +kernel
theorem dX2_whereBroken_18 : decode cX2_whereBroken 18 = .ok (.ifCond .eq 5, 3) := by decide +kernel
theorem dX2_whereBroken_21 : decode cX2_whereBroken 21 = .ok (.iload_n 3, 1) := by decide +kernel
theorem dX2_whereBroken_22 : decode cX2_whereBroken 22 = .ok (.ireturn, 1) := by decide +kernel
theorem dX2_whereBroken_23 : decode cX2_whereBroken 23 = .ok (.iinc 3 (-1), 3) := by decide +kernel
theorem dX2_whereBroken_26 : decode cX2_whereBroken 26 = .ok (.goto (-18), 3) := by decide +kernel
theorem dX2_whereBroken_29 : decode cX2_whereBroken 29 = .ok (.iconst (-1), 1) := by decide +kernel
theorem dX2_whereBroken_30 : decode cX2_whereBroken 30 = .ok (.ireturn, 1) := by decide +kernel
set_option maxRecDepth 20000 in
theorem ggX2_greatestBorne_X8_strength : GoodIn wsX2_greatestBorne wsX8_strength := goodIn_r _ [7, 8, 9, 10, 11, 12, 13, 14, 15, 16, 17, 18, 19, 20, 21, 22, 23, 24, 25, 26, 27, 28, 29, 30, 75, 76, 77, 78, 79, 80, 81, 82, 83, 84, 85, 86, 87] (by decide +kernel) (by decide +kernel)
set_option maxRecDepth 20000 in
theorem gX2_greatestBorne_X8_strength : GoodIn wsX2_greatestBorne (wsV RX2 68 RX8 yX8_strength wsX8_strength) := goodIn_app (goodIn_of _ (by decide +kernel)) ggX2_greatestBorne_X8_strength
set_option maxRecDepth 20000 in
theorem ggX2_greatestBorne_X2_comeIn : GoodIn wsX2_greatestBorne wsX2_comeIn := goodIn_r _ [35, 36, 37, 38, 66, 67, 68, 69, 70, 71, 72, 73, 74] (by decide +kernel) (by decide +kernel)
set_option maxRecDepth 20000 in
theorem gX2_greatestBorne_X2_comeIn : GoodIn wsX2_greatestBorne (wsV RX2 78 RX2 yX2_comeIn wsX2_comeIn) := goodIn_app (goodIn_of _ (by decide +kernel)) ggX2_greatestBorne_X2_comeIn
set_option maxRecDepth 20000 in
theorem ggX2_greatestBorne_X2_isBrokenAt : GoodIn wsX2_greatestBorne wsX2_isBrokenAt := goodIn_r _ [42, 43, 44, 45, 46, 34, 47, 37, 1, 2, 38, 48, 49, 25, 50, 51, 36, 52, 53, 54, 55, 56, 57, 58, 59, 60, 29, 61, 66, 67, 68, 69, 70, 71, 72, 73, 74, 75, 76, 77, 78, 79] (by decide +kernel) (by decide +kernel)
set_option maxRecDepth 20000 in
theorem gX2_greatestBorne_X2_isBrokenAt : GoodIn wsX2_greatestBorne (wsV RX2 74 RX2 yX2_isBrokenAt wsX2_isBrokenAt) := goodIn_app (goodIn_of _ (by decide +kernel)) ggX2_greatestBorne_X2_isBrokenAt
set_option maxRecDepth 20000 in
theorem ggX2_greatestBorne_X2_whereBroken : GoodIn wsX2_greatestBorne wsX2_whereBroken := goodIn_r _ [65, 1, 2, 39, 40, 41, 34, 42, 43, 44, 45, 46, 47, 37, 38, 48, 49, 25, 50, 51, 36, 52, 53, 54, 55, 56, 57, 58, 59, 60, 29, 61, 66, 67, 68, 69, 70, 71, 72, 73, 74, 75, 76, 77, 78, 79] (by decide +kernel) (by decide +kernel)
set_option maxRecDepth 20000 in
theorem gX2_greatestBorne_X2_whereBroken : GoodIn wsX2_greatestBorne (wsV RX2 82 RX2 yX2_whereBroken wsX2_whereBroken) := goodIn_app (goodIn_of _ (by decide +kernel)) ggX2_greatestBorne_X2_whereBroken
theorem dX2_greatestBorne_0 : decode cX2_greatestBorne 0 = .ok (.aload_n 0, 1) := by decide +kernel
theorem dX2_greatestBorne_1 : decode cX2_greatestBorne 1 = .ok (.getfield 9, 3) := by decide +kernel
theorem dX2_greatestBorne_4 : decode cX2_greatestBorne 4 = .ok (.invokevirtual 68, 3) := by decide +kernel
theorem dX2_greatestBorne_7 : decode cX2_greatestBorne 7 = .ok (.lstore_n 3, 1) := by decide +kernel
theorem dX2_greatestBorne_8 : decode cX2_greatestBorne 8 = .ok (.aload_n 0, 1) := by decide +kernel
theorem dX2_greatestBorne_9 : decode cX2_greatestBorne 9 = .ok (.getfield 9, 3) := by decide +kernel
theorem dX2_greatestBorne_12 : decode cX2_greatestBorne 12 = .ok (.getfield 25, 3) := by decide +kernel
theorem dX2_greatestBorne_15 : decode cX2_greatestBorne 15 = .ok (.istore 5, 2) := by decide +kernel
theorem dX2_greatestBorne_17 : decode cX2_greatestBorne 17 = .ok (.sipush 1000, 3) := by decide +kernel
theorem dX2_greatestBorne_20 : decode cX2_greatestBorne 20 = .ok (.istore 6, 2) := by decide +kernel
theorem dX2_greatestBorne_22 : decode cX2_greatestBorne 22 = .ok (.iload 6, 2) := by decide +kernel
theorem dX2_greatestBorne_24 : decode cX2_greatestBorne 24 = .ok (.iconst 1, 1) := by decide +kernel
theorem dX2_greatestBorne_25 : decode cX2_greatestBorne 25 = .ok (.if_icmp .lt 50, 3) := by decide +kernel
theorem dX2_greatestBorne_28 : decode cX2_greatestBorne 28 = .ok (.aload_n 0, 1) := by decide +kernel
theorem dX2_greatestBorne_29 : decode cX2_greatestBorne 29 = .ok (.iload 6, 2) := by decide +kernel
theorem dX2_greatestBorne_31 : decode cX2_greatestBorne 31 = .ok (.iload_n 1, 1) := by decide +kernel
theorem dX2_greatestBorne_32 : decode cX2_greatestBorne 32 = .ok (.iload_n 2, 1) := by decide +kernel
theorem dX2_greatestBorne_33 : decode cX2_greatestBorne 33 = .ok (.invokevirtual 78, 3) := by decide +kernel
theorem dX2_greatestBorne_36 : decode cX2_greatestBorne 36 = .ok (.aload_n 0, 1) := by decide +kernel
theorem dX2_greatestBorne_37 : decode cX2_greatestBorne 37 = .ok (.iload 5, 2) := by decide +kernel
theorem dX2_greatestBorne_39 : decode cX2_greatestBorne 39 = .ok (.lload_n 3, 1) := by decide +kernel
theorem dX2_greatestBorne_40 : decode cX2_greatestBorne 40 = .ok (.invokevirtual 74, 3) := by decide +kernel
theorem dX2_greatestBorne_43 : decode cX2_greatestBorne 43 = .ok (.ifCond .eq 6, 3) := by decide +kernel
theorem dX2_greatestBorne_46 : decode cX2_greatestBorne 46 = .ok (.goto 23, 3) := by decide +kernel
theorem dX2_greatestBorne_49 : decode cX2_greatestBorne 49 = .ok (.aload_n 0, 1) := by decide +kernel
theorem dX2_greatestBorne_50 : decode cX2_greatestBorne 50 = .ok (.lload_n 3, 1) := by decide +kernel
theorem dX2_greatestBorne_51 : decode cX2_greatestBorne 51 = .ok (.invokevirtual 82, 3) := by decide +kernel
theorem dX2_greatestBorne_54 : decode cX2_greatestBorne 54 = .ok (.istore 7, 2) := by decide +kernel
theorem dX2_greatestBorne_56 : decode cX2_greatestBorne 56 = .ok (.iload 7, 2) := by decide +kernel
theorem dX2_greatestBorne_58 : decode cX2_greatestBorne 58 = .ok (.iconst (-1), 1) := by decide +kernel
theorem dX2_greatestBorne_59 : decode cX2_greatestBorne 59 = .ok (.if_icmp .ne 6, 3) := by decide +kernel
theorem dX2_greatestBorne_62 : decode cX2_greatestBorne 62 = .ok (.iload 6, 2) := by decide +kernel
theorem dX2_greatestBorne_64 : decode cX2_greatestBorne 64 = .ok (.ireturn, 1) := by decide +kernel
theorem dX2_greatestBorne_65 : decode cX2_greatestBorne 65 = .ok (.iload 7, 2) := by decide +kernel
theorem dX2_greatestBorne_67 : decode cX2_greatestBorne 67 = .ok (.istore 5, 2) := by decide +kernel
theorem dX2_greatestBorne_69 : decode cX2_greatestBorne 69 = .ok (.iinc 6 (-1), 3) := by decide +kernel
theorem dX2_greatestBorne_72 : decode cX2_greatestBorne 72 = .ok (.goto (-50), 3) := by decide +kernel
theorem dX2_greatestBorne_75 : decode cX2_greatestBorne 75 = .ok (.iconst 0, 1) := by decide +kernel
theorem dX2_greatestBorne_76 : decode cX2_greatestBorne 76 = .ok (.ireturn, 1) := by decide +kernel
theorem dX3_init_0 : decode cX3_init 0 = .ok (.aload_n 0, 1) := by decide +kernel
theorem dX3_init_1 : decode cX3_init 1 = .ok (.invokespecial 3, 3) := by decide +kernel
theorem dX3_init_4 : decode cX3_init 4 = .ok (.aload_n 0, 1) := by decide +kernel
theorem dX3_init_5 : decode cX3_init 5 = .ok (.aload_n 1, 1) := by decide +kernel
theorem dX3_init_6 : decode cX3_init 6 = .ok (.putfield 9, 3) := by decide +kernel
theorem dX3_init_9 : decode cX3_init 9 = .ok (.aload_n 0, 1) := by decide +kernel
theorem dX3_init_10 : decode cX3_init 10 = .ok (.aload_n 2, 1) := by decide +kernel
theorem dX3_init_11 : decode cX3_init 11 = .ok (.putfield 15, 3) := by decide +kernel
theorem dX3_init_14 : decode cX3_init 14 = .ok (.return_, 1) := by decide +kernel
set_option maxRecDepth 20000 in
theorem ggX3_poreOf_X6_standingAt : GoodIn wsX3_poreOf wsX6_standingAt := goodIn_r _ [6, 7, 8, 9, 10, 11, 12, 13, 14, 15, 20, 21, 22, 23] (by decide +kernel) (by decide +kernel)
set_option maxRecDepth 20000 in
theorem gX3_poreOf_X6_standingAt : GoodIn wsX3_poreOf (wsV RX3 18 RX6 yX6_standingAt wsX6_standingAt) := goodIn_app (goodIn_of _ (by decide +kernel)) ggX3_poreOf_X6_standingAt
theorem dX3_poreOf_0 : decode cX3_poreOf 0 = .ok (.aload_n 0, 1) := by decide +kernel
theorem dX3_poreOf_1 : decode cX3_poreOf 1 = .ok (.getfield 9, 3) := by decide +kernel
theorem dX3_poreOf_4 : decode cX3_poreOf 4 = .ok (.iload_n 1, 1) := by decide +kernel
theorem dX3_poreOf_5 : decode cX3_poreOf 5 = .ok (.iconst 0, 1) := by decide +kernel
theorem dX3_poreOf_6 : decode cX3_poreOf 6 = .ok (.invokevirtual 18, 3) := by decide +kernel
theorem dX3_poreOf_9 : decode cX3_poreOf 9 = .ok (.ireturn, 1) := by decide +kernel
set_option maxRecDepth 20000 in
theorem ggX3_fracOf_X6_standingAt : GoodIn wsX3_fracOf wsX6_standingAt := goodIn_r _ [6, 7, 8, 9, 10, 11, 12, 13, 14, 15, 20, 21, 22, 23] (by decide +kernel) (by decide +kernel)
set_option maxRecDepth 20000 in
theorem gX3_fracOf_X6_standingAt : GoodIn wsX3_fracOf (wsV RX3 18 RX6 yX6_standingAt wsX6_standingAt) := goodIn_app (goodIn_of _ (by decide +kernel)) ggX3_fracOf_X6_standingAt
theorem dX3_fracOf_0 : decode cX3_fracOf 0 = .ok (.aload_n 0, 1) := by decide +kernel
theorem dX3_fracOf_1 : decode cX3_fracOf 1 = .ok (.getfield 15, 3) := by decide +kernel
theorem dX3_fracOf_4 : decode cX3_fracOf 4 = .ok (.iload_n 1, 1) := by decide +kernel
theorem dX3_fracOf_5 : decode cX3_fracOf 5 = .ok (.sipush 3000, 3) := by decide +kernel
theorem dX3_fracOf_8 : decode cX3_fracOf 8 = .ok (.invokevirtual 18, 3) := by decide +kernel
theorem dX3_fracOf_11 : decode cX3_fracOf 11 = .ok (.ireturn, 1) := by decide +kernel
set_option maxRecDepth 20000 in
theorem ggX3_holds_X3_poreOf : GoodIn wsX3_holds wsX3_poreOf := goodIn_r _ [7, 8, 9, 10, 11, 12, 13, 14, 15, 16, 17, 18, 19, 20, 21, 22, 28, 29, 30, 31, 32, 33, 34, 35] (by decide +kernel) (by decide +kernel)
set_option maxRecDepth 20000 in
theorem gX3_holds_X3_poreOf : GoodIn wsX3_holds (wsV RX3 24 RX3 yX3_poreOf wsX3_poreOf) := goodIn_app (goodIn_of _ (by decide +kernel)) ggX3_holds_X3_poreOf
set_option maxRecDepth 20000 in
theorem ggX3_holds_X3_fracOf : GoodIn wsX3_holds wsX3_fracOf := goodIn_r _ [26, 27, 9, 10, 11, 12, 13, 14, 15, 16, 17, 18, 19, 20, 21, 22, 28, 29, 30, 31, 32, 33, 34, 35] (by decide +kernel) (by decide +kernel)
set_option maxRecDepth 20000 in
theorem gX3_holds_X3_fracOf : GoodIn wsX3_holds (wsV RX3 32 RX3 yX3_fracOf wsX3_fracOf) := goodIn_app (goodIn_of _ (by decide +kernel)) ggX3_holds_X3_fracOf
theorem dX3_holds_0 : decode cX3_holds 0 = .ok (.iload_n 1, 1) := by decide +kernel
theorem dX3_holds_1 : decode cX3_holds 1 = .ok (.aload_n 0, 1) := by decide +kernel
theorem dX3_holds_2 : decode cX3_holds 2 = .ok (.iload_n 2, 1) := by decide +kernel
theorem dX3_holds_3 : decode cX3_holds 3 = .ok (.invokevirtual 24, 3) := by decide +kernel
theorem dX3_holds_6 : decode cX3_holds 6 = .ok (.aload_n 0, 1) := by decide +kernel
theorem dX3_holds_7 : decode cX3_holds 7 = .ok (.getfield 28, 3) := by decide +kernel
theorem dX3_holds_10 : decode cX3_holds 10 = .ok (.iadd, 1) := by decide +kernel
theorem dX3_holds_11 : decode cX3_holds 11 = .ok (.if_icmp .lt 21, 3) := by decide +kernel
theorem dX3_holds_14 : decode cX3_holds 14 = .ok (.iload_n 1, 1) := by decide +kernel
theorem dX3_holds_15 : decode cX3_holds 15 = .ok (.aload_n 0, 1) := by decide +kernel
theorem dX3_holds_16 : decode cX3_holds 16 = .ok (.iload_n 2, 1) := by decide +kernel
theorem dX3_holds_17 : decode cX3_holds 17 = .ok (.invokevirtual 32, 3) := by decide +kernel
theorem dX3_holds_20 : decode cX3_holds 20 = .ok (.aload_n 0, 1) := by decide +kernel
theorem dX3_holds_21 : decode cX3_holds 21 = .ok (.getfield 35, 3) := by decide +kernel
theorem dX3_holds_24 : decode cX3_holds 24 = .ok (.isub, 1) := by decide +kernel
theorem dX3_holds_25 : decode cX3_holds 25 = .ok (.if_icmp .gt 7, 3) := by decide +kernel
theorem dX3_holds_28 : decode cX3_holds 28 = .ok (.iconst 1, 1) := by decide +kernel
theorem dX3_holds_29 : decode cX3_holds 29 = .ok (.goto 4, 3) := by decide +kernel
theorem dX3_holds_32 : decode cX3_holds 32 = .ok (.iconst 0, 1) := by decide +kernel
theorem dX3_holds_33 : decode cX3_holds 33 = .ok (.ireturn, 1) := by decide +kernel
set_option maxRecDepth 20000 in
theorem ggX3_widest_X7_become : GoodIn wsX3_widest wsX7_become := goodIn_r _ [6, 7, 8, 9, 10] (by decide +kernel) (by decide +kernel)
set_option maxRecDepth 20000 in
theorem gX3_widest_X7_become : GoodIn wsX3_widest (wsV RX3 40 RX7 yX7_become wsX7_become) := goodIn_app (goodIn_of _ (by decide +kernel)) ggX3_widest_X7_become
theorem dX3_widest_0 : decode cX3_widest 0 = .ok (.aload_n 1, 1) := by decide +kernel
theorem dX3_widest_1 : decode cX3_widest 1 = .ok (.lconst 0, 1) := by decide +kernel
theorem dX3_widest_2 : decode cX3_widest 2 = .ok (.ldc2_w 38, 3) := by decide +kernel
theorem dX3_widest_5 : decode cX3_widest 5 = .ok (.invokevirtual 40, 3) := by decide +kernel
theorem dX3_widest_8 : decode cX3_widest 8 = .ok (.return_, 1) := by decide +kernel
set_option maxRecDepth 20000 in
theorem ggX3_narrow_X3_poreOf : GoodIn wsX3_narrow wsX3_poreOf := goodIn_r _ [7, 8, 9, 10, 11, 12, 13, 14, 15, 16, 17, 18, 19, 20, 21, 22, 41, 42, 43, 44, 45, 46, 47, 48] (by decide +kernel) (by decide +kernel)
set_option maxRecDepth 20000 in
theorem gX3_narrow_X3_poreOf : GoodIn wsX3_narrow (wsV RX3 24 RX3 yX3_poreOf wsX3_poreOf) := goodIn_app (goodIn_of _ (by decide +kernel)) ggX3_narrow_X3_poreOf
set_option maxRecDepth 20000 in
theorem ggX3_narrow_X3_fracOf : GoodIn wsX3_narrow wsX3_fracOf := goodIn_r _ [26, 27, 9, 10, 11, 12, 13, 14, 15, 16, 17, 18, 19, 20, 21, 22, 41, 42, 43, 44, 45, 46, 47, 48] (by decide +kernel) (by decide +kernel)
set_option maxRecDepth 20000 in
theorem gX3_narrow_X3_fracOf : GoodIn wsX3_narrow (wsV RX3 32 RX3 yX3_fracOf wsX3_fracOf) := goodIn_app (goodIn_of _ (by decide +kernel)) ggX3_narrow_X3_fracOf
set_option maxRecDepth 20000 in
theorem ggX3_narrow_X7_keep : GoodIn wsX3_narrow wsX7_keep := goodIn_r _ [32, 33, 34, 35, 17, 36, 37, 38, 39, 40, 49, 50] (by decide +kernel) (by decide +kernel)
set_option maxRecDepth 20000 in
theorem gX3_narrow_X7_keep : GoodIn wsX3_narrow (wsV RX3 46 RX7 yX7_keep wsX7_keep) := goodIn_app (goodIn_of _ (by decide +kernel)) ggX3_narrow_X7_keep
theorem dX3_narrow_0 : decode cX3_narrow 0 = .ok (.iload_n 2, 1) := by decide +kernel
theorem dX3_narrow_1 : decode cX3_narrow 1 = .ok (.istore 4, 2) := by decide +kernel
theorem dX3_narrow_3 : decode cX3_narrow 3 = .ok (.iload 4, 2) := by decide +kernel
theorem dX3_narrow_5 : decode cX3_narrow 5 = .ok (.iload_n 3, 1) := by decide +kernel
theorem dX3_narrow_6 : decode cX3_narrow 6 = .ok (.if_icmp .gt 37, 3) := by decide +kernel
theorem dX3_narrow_9 : decode cX3_narrow 9 = .ok (.aload_n 1, 1) := by decide +kernel
theorem dX3_narrow_10 : decode cX3_narrow 10 = .ok (.aload_n 0, 1) := by decide +kernel
theorem dX3_narrow_11 : decode cX3_narrow 11 = .ok (.iload 4, 2) := by decide +kernel
theorem dX3_narrow_13 : decode cX3_narrow 13 = .ok (.invokevirtual 24, 3) := by decide +kernel
theorem dX3_narrow_16 : decode cX3_narrow 16 = .ok (.aload_n 0, 1) := by decide +kernel
theorem dX3_narrow_17 : decode cX3_narrow 17 = .ok (.getfield 28, 3) := by decide +kernel
theorem dX3_narrow_20 : decode cX3_narrow 20 = .ok (.iadd, 1) := by decide +kernel
theorem dX3_narrow_21 : decode cX3_narrow 21 = .ok (.i2l, 1) := by decide +kernel
theorem dX3_narrow_22 : decode cX3_narrow 22 = .ok (.aload_n 0, 1) := by decide +kernel
theorem dX3_narrow_23 : decode cX3_narrow 23 = .ok (.iload 4, 2) := by decide +kernel
theorem dX3_narrow_25 : decode cX3_narrow 25 = .ok (.invokevirtual 32, 3) := by decide +kernel
theorem dX3_narrow_28 : decode cX3_narrow 28 = .ok (.aload_n 0, 1) := by decide +kernel
theorem dX3_narrow_29 : decode cX3_narrow 29 = .ok (.getfield 35, 3) := by decide +kernel
theorem dX3_narrow_32 : decode cX3_narrow 32 = .ok (.isub, 1) := by decide +kernel
theorem dX3_narrow_33 : decode cX3_narrow 33 = .ok (.i2l, 1) := by decide +kernel
theorem dX3_narrow_34 : decode cX3_narrow 34 = .ok (.invokevirtual 46, 3) := by decide +kernel
theorem dX3_narrow_37 : decode cX3_narrow 37 = .ok (.iinc 4 1, 3) := by decide +kernel
theorem dX3_narrow_40 : decode cX3_narrow 40 = .ok (.goto (-37), 3) := by decide +kernel
theorem dX3_narrow_43 : decode cX3_narrow 43 = .ok (.return_, 1) := by decide +kernel
theorem dX4_init_0 : decode cX4_init 0 = .ok (.aload_n 0, 1) := by decide +kernel
theorem dX4_init_1 : decode cX4_init 1 = .ok (.invokespecial 1, 3) := by decide +kernel
theorem dX4_init_4 : decode cX4_init 4 = .ok (.aload_n 0, 1) := by decide +kernel
theorem dX4_init_5 : decode cX4_init 5 = .ok (.bipush 41, 2) := by decide +kernel
theorem dX4_init_7 : decode cX4_init 7 = .ok (.newarray .int, 2) := by decide +kernel
theorem dX4_init_9 : decode cX4_init 9 = .ok (.putfield 9, 3) := by decide +kernel
theorem dX4_init_12 : decode cX4_init 12 = .ok (.aload_n 0, 1) := by decide +kernel
theorem dX4_init_13 : decode cX4_init 13 = .ok (.bipush 41, 2) := by decide +kernel
theorem dX4_init_15 : decode cX4_init 15 = .ok (.newarray .int, 2) := by decide +kernel
theorem dX4_init_17 : decode cX4_init 17 = .ok (.putfield 13, 3) := by decide +kernel
theorem dX4_init_20 : decode cX4_init 20 = .ok (.return_, 1) := by decide +kernel
theorem dX4_beginAt_0 : decode cX4_beginAt 0 = .ok (.aload_n 0, 1) := by decide +kernel
theorem dX4_beginAt_1 : decode cX4_beginAt 1 = .ok (.getfield 9, 3) := by decide +kernel
theorem dX4_beginAt_4 : decode cX4_beginAt 4 = .ok (.iconst 0, 1) := by decide +kernel
theorem dX4_beginAt_5 : decode cX4_beginAt 5 = .ok (.iload_n 1, 1) := by decide +kernel
theorem dX4_beginAt_6 : decode cX4_beginAt 6 = .ok (.iastore, 1) := by decide +kernel
theorem dX4_beginAt_7 : decode cX4_beginAt 7 = .ok (.aload_n 0, 1) := by decide +kernel
theorem dX4_beginAt_8 : decode cX4_beginAt 8 = .ok (.iconst 0, 1) := by decide +kernel
theorem dX4_beginAt_9 : decode cX4_beginAt 9 = .ok (.putfield 16, 3) := by decide +kernel
theorem dX4_beginAt_12 : decode cX4_beginAt 12 = .ok (.return_, 1) := by decide +kernel
theorem dX4_goOn_0 : decode cX4_goOn 0 = .ok (.aload_n 0, 1) := by decide +kernel
theorem dX4_goOn_1 : decode cX4_goOn 1 = .ok (.getfield 16, 3) := by decide +kernel
theorem dX4_goOn_4 : decode cX4_goOn 4 = .ok (.bipush 40, 2) := by decide +kernel
theorem dX4_goOn_6 : decode cX4_goOn 6 = .ok (.if_icmp .lt 5, 3) := by decide +kernel
theorem dX4_goOn_9 : decode cX4_goOn 9 = .ok (.iconst 0, 1) := by decide +kernel
theorem dX4_goOn_10 : decode cX4_goOn 10 = .ok (.ireturn, 1) := by decide +kernel
theorem dX4_goOn_11 : decode cX4_goOn 11 = .ok (.aload_n 0, 1) := by decide +kernel
theorem dX4_goOn_12 : decode cX4_goOn 12 = .ok (.getfield 9, 3) := by decide +kernel
theorem dX4_goOn_15 : decode cX4_goOn 15 = .ok (.aload_n 0, 1) := by decide +kernel
theorem dX4_goOn_16 : decode cX4_goOn 16 = .ok (.getfield 16, 3) := by decide +kernel
theorem dX4_goOn_19 : decode cX4_goOn 19 = .ok (.iconst 1, 1) := by decide +kernel
theorem dX4_goOn_20 : decode cX4_goOn 20 = .ok (.iadd, 1) := by decide +kernel
theorem dX4_goOn_21 : decode cX4_goOn 21 = .ok (.aload_n 0, 1) := by decide +kernel
theorem dX4_goOn_22 : decode cX4_goOn 22 = .ok (.getfield 9, 3) := by decide +kernel
theorem dX4_goOn_25 : decode cX4_goOn 25 = .ok (.aload_n 0, 1) := by decide +kernel
theorem dX4_goOn_26 : decode cX4_goOn 26 = .ok (.getfield 16, 3) := by decide +kernel
theorem dX4_goOn_29 : decode cX4_goOn 29 = .ok (.iaload, 1) := by decide +kernel
theorem dX4_goOn_30 : decode cX4_goOn 30 = .ok (.iload_n 2, 1) := by decide +kernel
theorem dX4_goOn_31 : decode cX4_goOn 31 = .ok (.getstatic 20, 3) := by decide +kernel
theorem dX4_goOn_34 : decode cX4_goOn 34 = .ok (.iload_n 1, 1) := by decide +kernel
theorem dX4_goOn_35 : decode cX4_goOn 35 = .ok (.iaload, 1) := by decide +kernel
theorem dX4_goOn_36 : decode cX4_goOn 36 = .ok (.imul, 1) := by decide +kernel
theorem dX4_goOn_37 : decode cX4_goOn 37 = .ok (.iadd, 1) := by decide +kernel
theorem dX4_goOn_38 : decode cX4_goOn 38 = .ok (.iastore, 1) := by decide +kernel
theorem dX4_goOn_39 : decode cX4_goOn 39 = .ok (.aload_n 0, 1) := by decide +kernel
theorem dX4_goOn_40 : decode cX4_goOn 40 = .ok (.getfield 13, 3) := by decide +kernel
theorem dX4_goOn_43 : decode cX4_goOn 43 = .ok (.aload_n 0, 1) := by decide +kernel
theorem dX4_goOn_44 : decode cX4_goOn 44 = .ok (.getfield 16, 3) := by decide +kernel
theorem dX4_goOn_47 : decode cX4_goOn 47 = .ok (.iconst 1, 1) := by decide +kernel
theorem dX4_goOn_48 : decode cX4_goOn 48 = .ok (.iadd, 1) := by decide +kernel
theorem dX4_goOn_49 : decode cX4_goOn 49 = .ok (.aload_n 0, 1) := by decide +kernel
theorem dX4_goOn_50 : decode cX4_goOn 50 = .ok (.getfield 13, 3) := by decide +kernel
theorem dX4_goOn_53 : decode cX4_goOn 53 = .ok (.aload_n 0, 1) := by decide +kernel
theorem dX4_goOn_54 : decode cX4_goOn 54 = .ok (.getfield 16, 3) := by decide +kernel
theorem dX4_goOn_57 : decode cX4_goOn 57 = .ok (.iaload, 1) := by decide +kernel
theorem dX4_goOn_58 : decode cX4_goOn 58 = .ok (.getstatic 23, 3) := by decide +kernel
theorem dX4_goOn_61 : decode cX4_goOn 61 = .ok (.iload_n 1, 1) := by decide +kernel
theorem dX4_goOn_62 : decode cX4_goOn 62 = .ok (.iaload, 1) := by decide +kernel
theorem dX4_goOn_63 : decode cX4_goOn 63 = .ok (.iadd, 1) := by decide +kernel
theorem dX4_goOn_64 : decode cX4_goOn 64 = .ok (.iastore, 1) := by decide +kernel
theorem dX4_goOn_65 : decode cX4_goOn 65 = .ok (.aload_n 0, 1) := by decide +kernel
theorem dX4_goOn_66 : decode cX4_goOn 66 = .ok (.dup, 1) := by decide +kernel
theorem dX4_goOn_67 : decode cX4_goOn 67 = .ok (.getfield 16, 3) := by decide +kernel
theorem dX4_goOn_70 : decode cX4_goOn 70 = .ok (.iconst 1, 1) := by decide +kernel
theorem dX4_goOn_71 : decode cX4_goOn 71 = .ok (.iadd, 1) := by decide +kernel
theorem dX4_goOn_72 : decode cX4_goOn 72 = .ok (.putfield 16, 3) := by decide +kernel
theorem dX4_goOn_75 : decode cX4_goOn 75 = .ok (.iconst 1, 1) := by decide +kernel
theorem dX4_goOn_76 : decode cX4_goOn 76 = .ok (.ireturn, 1) := by decide +kernel
theorem dX5_init_0 : decode cX5_init 0 = .ok (.aload_n 0, 1) := by decide +kernel
theorem dX5_init_1 : decode cX5_init 1 = .ok (.invokespecial 1, 3) := by decide +kernel
theorem dX5_init_4 : decode cX5_init 4 = .ok (.aload_n 0, 1) := by decide +kernel
theorem dX5_init_5 : decode cX5_init 5 = .ok (.bipush 20, 2) := by decide +kernel
theorem dX5_init_7 : decode cX5_init 7 = .ok (.newarray .int, 2) := by decide +kernel
theorem dX5_init_9 : decode cX5_init 9 = .ok (.putfield 9, 3) := by decide +kernel
theorem dX5_init_12 : decode cX5_init 12 = .ok (.aload_n 0, 1) := by decide +kernel
theorem dX5_init_13 : decode cX5_init 13 = .ok (.bipush 20, 2) := by decide +kernel
theorem dX5_init_15 : decode cX5_init 15 = .ok (.newarray .int, 2) := by decide +kernel
theorem dX5_init_17 : decode cX5_init 17 = .ok (.putfield 13, 3) := by decide +kernel
theorem dX5_init_20 : decode cX5_init 20 = .ok (.aload_n 0, 1) := by decide +kernel
theorem dX5_init_21 : decode cX5_init 21 = .ok (.bipush 100, 2) := by decide +kernel
theorem dX5_init_23 : decode cX5_init 23 = .ok (.putfield 16, 3) := by decide +kernel
theorem dX5_init_26 : decode cX5_init 26 = .ok (.return_, 1) := by decide +kernel
theorem dX5_add_0 : decode cX5_add 0 = .ok (.aload_n 0, 1) := by decide +kernel
theorem dX5_add_1 : decode cX5_add 1 = .ok (.getfield 20, 3) := by decide +kernel
theorem dX5_add_4 : decode cX5_add 4 = .ok (.bipush 20, 2) := by decide +kernel
theorem dX5_add_6 : decode cX5_add 6 = .ok (.if_icmp .lt 5, 3) := by decide +kernel
theorem dX5_add_9 : decode cX5_add 9 = .ok (.iconst 0, 1) := by decide +kernel
theorem dX5_add_10 : decode cX5_add 10 = .ok (.ireturn, 1) := by decide +kernel
theorem dX5_add_11 : decode cX5_add 11 = .ok (.aload_n 0, 1) := by decide +kernel
theorem dX5_add_12 : decode cX5_add 12 = .ok (.getfield 9, 3) := by decide +kernel
theorem dX5_add_15 : decode cX5_add 15 = .ok (.aload_n 0, 1) := by decide +kernel
theorem dX5_add_16 : decode cX5_add 16 = .ok (.getfield 20, 3) := by decide +kernel
theorem dX5_add_19 : decode cX5_add 19 = .ok (.iload_n 1, 1) := by decide +kernel
theorem dX5_add_20 : decode cX5_add 20 = .ok (.iastore, 1) := by decide +kernel
theorem dX5_add_21 : decode cX5_add 21 = .ok (.aload_n 0, 1) := by decide +kernel
theorem dX5_add_22 : decode cX5_add 22 = .ok (.getfield 13, 3) := by decide +kernel
theorem dX5_add_25 : decode cX5_add 25 = .ok (.aload_n 0, 1) := by decide +kernel
theorem dX5_add_26 : decode cX5_add 26 = .ok (.getfield 20, 3) := by decide +kernel
theorem dX5_add_29 : decode cX5_add 29 = .ok (.iload_n 2, 1) := by decide +kernel
theorem dX5_add_30 : decode cX5_add 30 = .ok (.iastore, 1) := by decide +kernel
theorem dX5_add_31 : decode cX5_add 31 = .ok (.aload_n 0, 1) := by decide +kernel
theorem dX5_add_32 : decode cX5_add 32 = .ok (.dup, 1) := by decide +kernel
theorem dX5_add_33 : decode cX5_add 33 = .ok (.getfield 20, 3) := by decide +kernel
theorem dX5_add_36 : decode cX5_add 36 = .ok (.iconst 1, 1) := by decide +kernel
theorem dX5_add_37 : decode cX5_add 37 = .ok (.iadd, 1) := by decide +kernel
theorem dX5_add_38 : decode cX5_add 38 = .ok (.putfield 20, 3) := by decide +kernel
theorem dX5_add_41 : decode cX5_add 41 = .ok (.iconst 1, 1) := by decide +kernel
theorem dX5_add_42 : decode cX5_add 42 = .ok (.ireturn, 1) := by decide +kernel
set_option maxRecDepth 20000 in
theorem ggX5_narrow_X9_cut : GoodIn wsX5_narrow wsX9_cut := goodIn_r _ [13] (by decide +kernel) (by decide +kernel)
set_option maxRecDepth 20000 in
theorem gX5_narrow_X9_cut_n35 : GoodIn wsX5_narrow (wsX9_cut) := ggX5_narrow_X9_cut
set_option maxRecDepth 20000 in
theorem ggX5_narrow_X9_roundedUp : GoodIn wsX5_narrow wsX9_roundedUp := goodIn_r _ [15, 16, 11, 12, 13] (by decide +kernel) (by decide +kernel)
set_option maxRecDepth 20000 in
theorem gX5_narrow_X9_roundedUp_n41 : GoodIn wsX5_narrow (wsX9_roundedUp) := ggX5_narrow_X9_roundedUp
set_option maxRecDepth 20000 in
theorem ggX5_narrow_X7_keep : GoodIn wsX5_narrow wsX7_keep := goodIn_r _ [21, 22, 23, 24, 6, 25, 26, 27, 28, 29, 36, 37] (by decide +kernel) (by decide +kernel)
set_option maxRecDepth 20000 in
theorem gX5_narrow_X7_keep : GoodIn wsX5_narrow (wsV RX5 44 RX7 yX7_keep wsX7_keep) := goodIn_app (goodIn_of _ (by decide +kernel)) ggX5_narrow_X7_keep
theorem dX5_narrow_0 : decode cX5_narrow 0 = .ok (.iconst 0, 1) := by decide +kernel
theorem dX5_narrow_1 : decode cX5_narrow 1 = .ok (.istore_n 2, 1) := by decide +kernel
theorem dX5_narrow_2 : decode cX5_narrow 2 = .ok (.iload_n 2, 1) := by decide +kernel
theorem dX5_narrow_3 : decode cX5_narrow 3 = .ok (.aload_n 0, 1) := by decide +kernel
theorem dX5_narrow_4 : decode cX5_narrow 4 = .ok (.getfield 20, 3) := by decide +kernel
theorem dX5_narrow_7 : decode cX5_narrow 7 = .ok (.if_icmp .ge 89, 3) := by decide +kernel
theorem dX5_narrow_10 : decode cX5_narrow 10 = .ok (.iconst 0, 1) := by decide +kernel
theorem dX5_narrow_11 : decode cX5_narrow 11 = .ok (.aload_n 0, 1) := by decide +kernel
theorem dX5_narrow_12 : decode cX5_narrow 12 = .ok (.getfield 13, 3) := by decide +kernel
theorem dX5_narrow_15 : decode cX5_narrow 15 = .ok (.iload_n 2, 1) := by decide +kernel
theorem dX5_narrow_16 : decode cX5_narrow 16 = .ok (.iaload, 1) := by decide +kernel
theorem dX5_narrow_17 : decode cX5_narrow 17 = .ok (.aload_n 0, 1) := by decide +kernel
theorem dX5_narrow_18 : decode cX5_narrow 18 = .ok (.getfield 23, 3) := by decide +kernel
theorem dX5_narrow_21 : decode cX5_narrow 21 = .ok (.isub, 1) := by decide +kernel
theorem dX5_narrow_22 : decode cX5_narrow 22 = .ok (.invokestatic 26, 3) := by decide +kernel
theorem dX5_narrow_25 : decode cX5_narrow 25 = .ok (.i2l, 1) := by decide +kernel
theorem dX5_narrow_26 : decode cX5_narrow 26 = .ok (.lstore_n 3, 1) := by decide +kernel
theorem dX5_narrow_27 : decode cX5_narrow 27 = .ok (.aload_n 0, 1) := by decide +kernel
theorem dX5_narrow_28 : decode cX5_narrow 28 = .ok (.getfield 13, 3) := by decide +kernel
theorem dX5_narrow_31 : decode cX5_narrow 31 = .ok (.iload_n 2, 1) := by decide +kernel
theorem dX5_narrow_32 : decode cX5_narrow 32 = .ok (.iaload, 1) := by decide +kernel
theorem dX5_narrow_33 : decode cX5_narrow 33 = .ok (.aload_n 0, 1) := by decide +kernel
theorem dX5_narrow_34 : decode cX5_narrow 34 = .ok (.getfield 23, 3) := by decide +kernel
theorem dX5_narrow_37 : decode cX5_narrow 37 = .ok (.iadd, 1) := by decide +kernel
theorem dX5_narrow_38 : decode cX5_narrow 38 = .ok (.i2l, 1) := by decide +kernel
theorem dX5_narrow_39 : decode cX5_narrow 39 = .ok (.lstore 5, 2) := by decide +kernel
theorem dX5_narrow_41 : decode cX5_narrow 41 = .ok (.aload_n 1, 1) := by decide +kernel
theorem dX5_narrow_42 : decode cX5_narrow 42 = .ok (.lload_n 3, 1) := by decide +kernel
theorem dX5_narrow_43 : decode cX5_narrow 43 = .ok (.aload_n 0, 1) := by decide +kernel
theorem dX5_narrow_44 : decode cX5_narrow 44 = .ok (.getfield 16, 3) := by decide +kernel
theorem dX5_narrow_47 : decode cX5_narrow 47 = .ok (.i2l, 1) := by decide +kernel
theorem dX5_narrow_48 : decode cX5_narrow 48 = .ok (.lmul, 1) := by decide +kernel
theorem dX5_narrow_49 : decode cX5_narrow 49 = .ok (.aload_n 0, 1) := by decide +kernel
theorem dX5_narrow_50 : decode cX5_narrow 50 = .ok (.getfield 9, 3) := by decide +kernel
theorem dX5_narrow_53 : decode cX5_narrow 53 = .ok (.iload_n 2, 1) := by decide +kernel
theorem dX5_narrow_54 : decode cX5_narrow 54 = .ok (.iaload, 1) := by decide +kernel
theorem dX5_narrow_55 : decode cX5_narrow 55 = .ok (.aload_n 0, 1) := by decide +kernel
theorem dX5_narrow_56 : decode cX5_narrow 56 = .ok (.getfield 32, 3) := by decide +kernel
theorem dX5_narrow_59 : decode cX5_narrow 59 = .ok (.iadd, 1) := by decide +kernel
theorem dX5_narrow_60 : decode cX5_narrow 60 = .ok (.i2l, 1) := by decide +kernel
theorem dX5_narrow_61 : decode cX5_narrow 61 = .ok (.invokestatic 35, 3) := by decide +kernel
theorem dX5_narrow_64 : decode cX5_narrow 64 = .ok (.lload 5, 2) := by decide +kernel
theorem dX5_narrow_66 : decode cX5_narrow 66 = .ok (.aload_n 0, 1) := by decide +kernel
theorem dX5_narrow_67 : decode cX5_narrow 67 = .ok (.getfield 16, 3) := by decide +kernel
theorem dX5_narrow_70 : decode cX5_narrow 70 = .ok (.i2l, 1) := by decide +kernel
theorem dX5_narrow_71 : decode cX5_narrow 71 = .ok (.lmul, 1) := by decide +kernel
theorem dX5_narrow_72 : decode cX5_narrow 72 = .ok (.aload_n 0, 1) := by decide +kernel
theorem dX5_narrow_73 : decode cX5_narrow 73 = .ok (.getfield 9, 3) := by decide +kernel
theorem dX5_narrow_76 : decode cX5_narrow 76 = .ok (.iload_n 2, 1) := by decide +kernel
theorem dX5_narrow_77 : decode cX5_narrow 77 = .ok (.iaload, 1) := by decide +kernel
theorem dX5_narrow_78 : decode cX5_narrow 78 = .ok (.aload_n 0, 1) := by decide +kernel
theorem dX5_narrow_79 : decode cX5_narrow 79 = .ok (.getfield 32, 3) := by decide +kernel
theorem dX5_narrow_82 : decode cX5_narrow 82 = .ok (.isub, 1) := by decide +kernel
theorem dX5_narrow_83 : decode cX5_narrow 83 = .ok (.i2l, 1) := by decide +kernel
theorem dX5_narrow_84 : decode cX5_narrow 84 = .ok (.invokestatic 41, 3) := by decide +kernel
theorem dX5_narrow_87 : decode cX5_narrow 87 = .ok (.invokevirtual 44, 3) := by decide +kernel
theorem dX5_narrow_90 : decode cX5_narrow 90 = .ok (.iinc 2 1, 3) := by decide +kernel
theorem dX5_narrow_93 : decode cX5_narrow 93 = .ok (.goto (-91), 3) := by decide +kernel
theorem dX5_narrow_96 : decode cX5_narrow 96 = .ok (.return_, 1) := by decide +kernel
theorem dX6_init_0 : decode cX6_init 0 = .ok (.aload_n 0, 1) := by decide +kernel
theorem dX6_init_1 : decode cX6_init 1 = .ok (.invokespecial 3, 3) := by decide +kernel
theorem dX6_init_4 : decode cX6_init 4 = .ok (.aload_n 0, 1) := by decide +kernel
theorem dX6_init_5 : decode cX6_init 5 = .ok (.bipush 60, 2) := by decide +kernel
theorem dX6_init_7 : decode cX6_init 7 = .ok (.newarray .int, 2) := by decide +kernel
theorem dX6_init_9 : decode cX6_init 9 = .ok (.putfield 11, 3) := by decide +kernel
theorem dX6_init_12 : decode cX6_init 12 = .ok (.aload_n 0, 1) := by decide +kernel
theorem dX6_init_13 : decode cX6_init 13 = .ok (.iconst 1, 1) := by decide +kernel
theorem dX6_init_14 : decode cX6_init 14 = .ok (.putfield 15, 3) := by decide +kernel
theorem dX6_init_17 : decode cX6_init 17 = .ok (.return_, 1) := by decide +kernel
set_option maxRecDepth 20000 in
theorem ggX6_renew_J7_fill_53178 : GoodIn wsX6_renew wsJ7_fill_53178 := goodIn_r _ [8] (by decide +kernel) (by decide +kernel)
set_option maxRecDepth 20000 in
theorem gX6_renew_J7_fill_53178 : GoodIn wsX6_renew (va_wsS RX6 19 yJ7_fill_53178 wsJ7_fill_53178) := goodIn_app (goodIn_of _ (by decide +kernel)) ggX6_renew_J7_fill_53178
theorem dX6_renew_0 : decode cX6_renew 0 = .ok (.aload_n 0, 1) := by decide +kernel
theorem dX6_renew_1 : decode cX6_renew 1 = .ok (.getfield 11, 3) := by decide +kernel
theorem dX6_renew_4 : decode cX6_renew 4 = .ok (.iconst 0, 1) := by decide +kernel
theorem dX6_renew_5 : decode cX6_renew 5 = .ok (.invokestatic 19, 3) := by decide +kernel
theorem dX6_renew_8 : decode cX6_renew 8 = .ok (.aload_n 0, 1) := by decide +kernel
theorem dX6_renew_9 : decode cX6_renew 9 = .ok (.iconst 0, 1) := by decide +kernel
theorem dX6_renew_10 : decode cX6_renew 10 = .ok (.putfield 15, 3) := by decide +kernel
theorem dX6_renew_13 : decode cX6_renew 13 = .ok (.aload_n 0, 1) := by decide +kernel
theorem dX6_renew_14 : decode cX6_renew 14 = .ok (.iload_n 1, 1) := by decide +kernel
theorem dX6_renew_15 : decode cX6_renew 15 = .ok (.putfield 25, 3) := by decide +kernel
theorem dX6_renew_18 : decode cX6_renew 18 = .ok (.aload_n 0, 1) := by decide +kernel
theorem dX6_renew_19 : decode cX6_renew 19 = .ok (.iload_n 2, 1) := by decide +kernel
theorem dX6_renew_20 : decode cX6_renew 20 = .ok (.putfield 29, 3) := by decide +kernel
theorem dX6_renew_23 : decode cX6_renew 23 = .ok (.return_, 1) := by decide +kernel
theorem dX6_becomeLost_0 : decode cX6_becomeLost 0 = .ok (.aload_n 0, 1) := by decide +kernel
theorem dX6_becomeLost_1 : decode cX6_becomeLost 1 = .ok (.iconst 1, 1) := by decide +kernel
theorem dX6_becomeLost_2 : decode cX6_becomeLost 2 = .ok (.putfield 15, 3) := by decide +kernel
theorem dX6_becomeLost_5 : decode cX6_becomeLost 5 = .ok (.aload_n 0, 1) := by decide +kernel
theorem dX6_becomeLost_6 : decode cX6_becomeLost 6 = .ok (.iconst 0, 1) := by decide +kernel
theorem dX6_becomeLost_7 : decode cX6_becomeLost 7 = .ok (.putfield 29, 3) := by decide +kernel
theorem dX6_becomeLost_10 : decode cX6_becomeLost 10 = .ok (.return_, 1) := by decide +kernel
set_option maxRecDepth 20000 in
theorem ggX6_wrongWith_X9_within : GoodIn wsX6_wrongWith wsX9_within := goodIn_r _ [6] (by decide +kernel) (by decide +kernel)
set_option maxRecDepth 20000 in
theorem gX6_wrongWith_X9_within_n32 : GoodIn wsX6_wrongWith (wsX9_within) := ggX6_wrongWith_X9_within
theorem dX6_wrongWith_0 : decode cX6_wrongWith 0 = .ok (.aload_n 0, 1) := by decide +kernel
theorem dX6_wrongWith_1 : decode cX6_wrongWith 1 = .ok (.getfield 15, 3) := by decide +kernel
theorem dX6_wrongWith_4 : decode cX6_wrongWith 4 = .ok (.ifCond .eq 5, 3) := by decide +kernel
theorem dX6_wrongWith_7 : decode cX6_wrongWith 7 = .ok (.iconst 1, 1) := by decide +kernel
theorem dX6_wrongWith_8 : decode cX6_wrongWith 8 = .ok (.ireturn, 1) := by decide +kernel
theorem dX6_wrongWith_9 : decode cX6_wrongWith 9 = .ok (.aload_n 0, 1) := by decide +kernel
theorem dX6_wrongWith_10 : decode cX6_wrongWith 10 = .ok (.getfield 25, 3) := by decide +kernel
theorem dX6_wrongWith_13 : decode cX6_wrongWith 13 = .ok (.iload_n 1, 1) := by decide +kernel
theorem dX6_wrongWith_14 : decode cX6_wrongWith 14 = .ok (.if_icmp .eq 5, 3) := by decide +kernel
theorem dX6_wrongWith_17 : decode cX6_wrongWith 17 = .ok (.iconst 3, 1) := by decide +kernel
theorem dX6_wrongWith_18 : decode cX6_wrongWith 18 = .ok (.ireturn, 1) := by decide +kernel
theorem dX6_wrongWith_19 : decode cX6_wrongWith 19 = .ok (.iload_n 2, 1) := by decide +kernel
theorem dX6_wrongWith_20 : decode cX6_wrongWith 20 = .ok (.iconst 0, 1) := by decide +kernel
theorem dX6_wrongWith_21 : decode cX6_wrongWith 21 = .ok (.aload_n 0, 1) := by decide +kernel
theorem dX6_wrongWith_22 : decode cX6_wrongWith 22 = .ok (.getfield 29, 3) := by decide +kernel
theorem dX6_wrongWith_25 : decode cX6_wrongWith 25 = .ok (.iconst 1, 1) := by decide +kernel
theorem dX6_wrongWith_26 : decode cX6_wrongWith 26 = .ok (.isub, 1) := by decide +kernel
theorem dX6_wrongWith_27 : decode cX6_wrongWith 27 = .ok (.invokestatic 32, 3) := by decide +kernel
theorem dX6_wrongWith_30 : decode cX6_wrongWith 30 = .ok (.ifCond .eq 7, 3) := by decide +kernel
theorem dX6_wrongWith_33 : decode cX6_wrongWith 33 = .ok (.iconst 0, 1) := by decide +kernel
theorem dX6_wrongWith_34 : decode cX6_wrongWith 34 = .ok (.goto 4, 3) := by decide +kernel
theorem dX6_wrongWith_37 : decode cX6_wrongWith 37 = .ok (.iconst 2, 1) := by decide +kernel
theorem dX6_wrongWith_38 : decode cX6_wrongWith 38 = .ok (.ireturn, 1) := by decide +kernel
set_option maxRecDepth 20000 in
theorem ggX6_hasRun_X9_within : GoodIn wsX6_hasRun wsX9_within := goodIn_r _ [4] (by decide +kernel) (by decide +kernel)
set_option maxRecDepth 20000 in
theorem gX6_hasRun_X9_within_n32 : GoodIn wsX6_hasRun (wsX9_within) := ggX6_hasRun_X9_within
theorem dX6_hasRun_0 : decode cX6_hasRun 0 = .ok (.iload_n 1, 1) := by decide +kernel
theorem dX6_hasRun_1 : decode cX6_hasRun 1 = .ok (.iconst 0, 1) := by decide +kernel
theorem dX6_hasRun_2 : decode cX6_hasRun 2 = .ok (.aload_n 0, 1) := by decide +kernel
theorem dX6_hasRun_3 : decode cX6_hasRun 3 = .ok (.getfield 29, 3) := by decide +kernel
theorem dX6_hasRun_6 : decode cX6_hasRun 6 = .ok (.invokestatic 32, 3) := by decide +kernel
theorem dX6_hasRun_9 : decode cX6_hasRun 9 = .ok (.ifCond .eq 21, 3) := by decide +kernel
theorem dX6_hasRun_12 : decode cX6_hasRun 12 = .ok (.iload_n 2, 1) := by decide +kernel
theorem dX6_hasRun_13 : decode cX6_hasRun 13 = .ok (.iconst 0, 1) := by decide +kernel
theorem dX6_hasRun_14 : decode cX6_hasRun 14 = .ok (.aload_n 0, 1) := by decide +kernel
theorem dX6_hasRun_15 : decode cX6_hasRun 15 = .ok (.getfield 29, 3) := by decide +kernel
theorem dX6_hasRun_18 : decode cX6_hasRun 18 = .ok (.iload_n 1, 1) := by decide +kernel
theorem dX6_hasRun_19 : decode cX6_hasRun 19 = .ok (.isub, 1) := by decide +kernel
theorem dX6_hasRun_20 : decode cX6_hasRun 20 = .ok (.invokestatic 32, 3) := by decide +kernel
theorem dX6_hasRun_23 : decode cX6_hasRun 23 = .ok (.ifCond .eq 7, 3) := by decide +kernel
theorem dX6_hasRun_26 : decode cX6_hasRun 26 = .ok (.iconst 1, 1) := by decide +kernel
theorem dX6_hasRun_27 : decode cX6_hasRun 27 = .ok (.goto 4, 3) := by decide +kernel
theorem dX6_hasRun_30 : decode cX6_hasRun 30 = .ok (.iconst 0, 1) := by decide +kernel
theorem dX6_hasRun_31 : decode cX6_hasRun 31 = .ok (.ireturn, 1) := by decide +kernel
set_option maxRecDepth 20000 in
theorem ggX6_standingAt_X9_within : GoodIn wsX6_standingAt wsX9_within := goodIn_r _ [9] (by decide +kernel) (by decide +kernel)
set_option maxRecDepth 20000 in
theorem gX6_standingAt_X9_within_n32 : GoodIn wsX6_standingAt (wsX9_within) := ggX6_standingAt_X9_within
theorem dX6_standingAt_0 : decode cX6_standingAt 0 = .ok (.iload_n 1, 1) := by decide +kernel
theorem dX6_standingAt_1 : decode cX6_standingAt 1 = .ok (.aload_n 0, 1) := by decide +kernel
theorem dX6_standingAt_2 : decode cX6_standingAt 2 = .ok (.getfield 29, 3) := by decide +kernel
theorem dX6_standingAt_5 : decode cX6_standingAt 5 = .ok (.iconst 1, 1) := by decide +kernel
theorem dX6_standingAt_6 : decode cX6_standingAt 6 = .ok (.isub, 1) := by decide +kernel
theorem dX6_standingAt_7 : decode cX6_standingAt 7 = .ok (.invokestatic 36, 3) := by decide +kernel
theorem dX6_standingAt_10 : decode cX6_standingAt 10 = .ok (.istore_n 3, 1) := by decide +kernel
theorem dX6_standingAt_11 : decode cX6_standingAt 11 = .ok (.iload_n 3, 1) := by decide +kernel
theorem dX6_standingAt_12 : decode cX6_standingAt 12 = .ok (.ifCond .lt 32, 3) := by decide +kernel
theorem dX6_standingAt_15 : decode cX6_standingAt 15 = .ok (.aload_n 0, 1) := by decide +kernel
theorem dX6_standingAt_16 : decode cX6_standingAt 16 = .ok (.getfield 11, 3) := by decide +kernel
theorem dX6_standingAt_19 : decode cX6_standingAt 19 = .ok (.iload_n 3, 1) := by decide +kernel
theorem dX6_standingAt_20 : decode cX6_standingAt 20 = .ok (.iaload, 1) := by decide +kernel
theorem dX6_standingAt_21 : decode cX6_standingAt 21 = .ok (.iconst 0, 1) := by decide +kernel
theorem dX6_standingAt_22 : decode cX6_standingAt 22 = .ok (.sipush 3000, 3) := by decide +kernel
theorem dX6_standingAt_25 : decode cX6_standingAt 25 = .ok (.invokestatic 32, 3) := by decide +kernel
theorem dX6_standingAt_28 : decode cX6_standingAt 28 = .ok (.ifCond .eq 10, 3) := by decide +kernel
theorem dX6_standingAt_31 : decode cX6_standingAt 31 = .ok (.aload_n 0, 1) := by decide +kernel
theorem dX6_standingAt_32 : decode cX6_standingAt 32 = .ok (.getfield 11, 3) := by decide +kernel
theorem dX6_standingAt_35 : decode cX6_standingAt 35 = .ok (.iload_n 3, 1) := by decide +kernel
theorem dX6_standingAt_36 : decode cX6_standingAt 36 = .ok (.iaload, 1) := by decide +kernel
theorem dX6_standingAt_37 : decode cX6_standingAt 37 = .ok (.ireturn, 1) := by decide +kernel
theorem dX6_standingAt_38 : decode cX6_standingAt 38 = .ok (.iinc 3 (-1), 3) := by decide +kernel
theorem dX6_standingAt_41 : decode cX6_standingAt 41 = .ok (.goto (-30), 3) := by decide +kernel
theorem dX6_standingAt_44 : decode cX6_standingAt 44 = .ok (.iload_n 2, 1) := by decide +kernel
theorem dX6_standingAt_45 : decode cX6_standingAt 45 = .ok (.ireturn, 1) := by decide +kernel
theorem dX7_init_0 : decode cX7_init 0 = .ok (.aload_n 0, 1) := by decide +kernel
theorem dX7_init_1 : decode cX7_init 1 = .ok (.invokespecial 1, 3) := by decide +kernel
theorem dX7_init_4 : decode cX7_init 4 = .ok (.return_, 1) := by decide +kernel
theorem dX7_become_0 : decode cX7_become 0 = .ok (.aload_n 0, 1) := by decide +kernel
theorem dX7_become_1 : decode cX7_become 1 = .ok (.lload_n 1, 1) := by decide +kernel
theorem dX7_become_2 : decode cX7_become 2 = .ok (.putfield 7, 3) := by decide +kernel
theorem dX7_become_5 : decode cX7_become 5 = .ok (.aload_n 0, 1) := by decide +kernel
theorem dX7_become_6 : decode cX7_become 6 = .ok (.lload_n 3, 1) := by decide +kernel
theorem dX7_become_7 : decode cX7_become 7 = .ok (.putfield 13, 3) := by decide +kernel
theorem dX7_become_10 : decode cX7_become 10 = .ok (.return_, 1) := by decide +kernel
theorem dX7_keep_0 : decode cX7_keep 0 = .ok (.aload_n 0, 1) := by decide +kernel
theorem dX7_keep_1 : decode cX7_keep 1 = .ok (.aload_n 0, 1) := by decide +kernel
theorem dX7_keep_2 : decode cX7_keep 2 = .ok (.getfield 7, 3) := by decide +kernel
theorem dX7_keep_5 : decode cX7_keep 5 = .ok (.lload_n 1, 1) := by decide +kernel
theorem dX7_keep_6 : decode cX7_keep 6 = .ok (.invokestatic 16, 3) := by decide +kernel
theorem dX7_keep_9 : decode cX7_keep 9 = .ok (.putfield 7, 3) := by decide +kernel
theorem dX7_keep_12 : decode cX7_keep 12 = .ok (.aload_n 0, 1) := by decide +kernel
theorem dX7_keep_13 : decode cX7_keep 13 = .ok (.aload_n 0, 1) := by decide +kernel
theorem dX7_keep_14 : decode cX7_keep 14 = .ok (.getfield 13, 3) := by decide +kernel
theorem dX7_keep_17 : decode cX7_keep 17 = .ok (.lload_n 3, 1) := by decide +kernel
theorem dX7_keep_18 : decode cX7_keep 18 = .ok (.invokestatic 22, 3) := by decide +kernel
theorem dX7_keep_21 : decode cX7_keep 21 = .ok (.putfield 13, 3) := by decide +kernel
theorem dX7_keep_24 : decode cX7_keep 24 = .ok (.return_, 1) := by decide +kernel
theorem dX7_isEmpty_0 : decode cX7_isEmpty 0 = .ok (.aload_n 0, 1) := by decide +kernel
theorem dX7_isEmpty_1 : decode cX7_isEmpty 1 = .ok (.getfield 7, 3) := by decide +kernel
theorem dX7_isEmpty_4 : decode cX7_isEmpty 4 = .ok (.aload_n 0, 1) := by decide +kernel
theorem dX7_isEmpty_5 : decode cX7_isEmpty 5 = .ok (.getfield 13, 3) := by decide +kernel
theorem dX7_isEmpty_8 : decode cX7_isEmpty 8 = .ok (.lcmp, 1) := by decide +kernel
theorem dX7_isEmpty_9 : decode cX7_isEmpty 9 = .ok (.ifCond .le 7, 3) := by decide +kernel
theorem dX7_isEmpty_12 : decode cX7_isEmpty 12 = .ok (.iconst 1, 1) := by decide +kernel
theorem dX7_isEmpty_13 : decode cX7_isEmpty 13 = .ok (.goto 4, 3) := by decide +kernel
theorem dX7_isEmpty_16 : decode cX7_isEmpty 16 = .ok (.iconst 0, 1) := by decide +kernel
theorem dX7_isEmpty_17 : decode cX7_isEmpty 17 = .ok (.ireturn, 1) := by decide +kernel
theorem dX7_end_0 : decode cX7_end 0 = .ok (.iload_n 1, 1) := by decide +kernel
theorem dX7_end_1 : decode cX7_end 1 = .ok (.ifCond .ne 10, 3) := by decide +kernel
theorem dX7_end_4 : decode cX7_end 4 = .ok (.aload_n 0, 1) := by decide +kernel
theorem dX7_end_5 : decode cX7_end 5 = .ok (.getfield 7, 3) := by decide +kernel
theorem dX7_end_8 : decode cX7_end 8 = .ok (.goto 7, 3) := by decide +kernel
theorem dX7_end_11 : decode cX7_end 11 = .ok (.aload_n 0, 1) := by decide +kernel
theorem dX7_end_12 : decode cX7_end 12 = .ok (.getfield 13, 3) := by decide +kernel
theorem dX7_end_15 : decode cX7_end 15 = .ok (.lreturn, 1) := by decide +kernel
theorem dX8_init_0 : decode cX8_init 0 = .ok (.aload_n 0, 1) := by decide +kernel
theorem dX8_init_1 : decode cX8_init 1 = .ok (.invokespecial 3, 3) := by decide +kernel
theorem dX8_init_4 : decode cX8_init 4 = .ok (.aload_n 0, 1) := by decide +kernel
theorem dX8_init_5 : decode cX8_init 5 = .ok (.bipush 10, 2) := by decide +kernel
theorem dX8_init_7 : decode cX8_init 7 = .ok (.putfield 9, 3) := by decide +kernel
theorem dX8_init_10 : decode cX8_init 10 = .ok (.aload_n 0, 1) := by decide +kernel
theorem dX8_init_11 : decode cX8_init 11 = .ok (.bipush 100, 2) := by decide +kernel
theorem dX8_init_13 : decode cX8_init 13 = .ok (.putfield 15, 3) := by decide +kernel
theorem dX8_init_16 : decode cX8_init 16 = .ok (.aload_n 0, 1) := by decide +kernel
theorem dX8_init_17 : decode cX8_init 17 = .ok (.aload_n 1, 1) := by decide +kernel
theorem dX8_init_18 : decode cX8_init 18 = .ok (.putfield 18, 3) := by decide +kernel
theorem dX8_init_21 : decode cX8_init 21 = .ok (.return_, 1) := by decide +kernel
set_option maxRecDepth 20000 in
theorem ggX8_firstNotHeld_X3_holds : GoodIn wsX8_firstNotHeld wsX3_holds := goodIn_r _ [8, 9, 10, 11, 12, 13, 7, 14, 15, 16, 17, 18, 19, 20, 21, 22, 23, 24, 25, 26, 27, 28, 29, 30, 31, 32, 33, 34, 40, 41, 42, 43, 44, 45, 46, 47] (by decide +kernel) (by decide +kernel)
set_option maxRecDepth 20000 in
theorem gX8_firstNotHeld_X3_holds : GoodIn wsX8_firstNotHeld (wsV RX8 28 RX3 yX3_holds wsX3_holds) := goodIn_app (goodIn_of _ (by decide +kernel)) ggX8_firstNotHeld_X3_holds
theorem dX8_firstNotHeld_0 : decode cX8_firstNotHeld 0 = .ok (.aload_n 0, 1) := by decide +kernel
theorem dX8_firstNotHeld_1 : decode cX8_firstNotHeld 1 = .ok (.getfield 22, 3) := by decide +kernel
theorem dX8_firstNotHeld_4 : decode cX8_firstNotHeld 4 = .ok (.istore_n 2, 1) := by decide +kernel
theorem dX8_firstNotHeld_5 : decode cX8_firstNotHeld 5 = .ok (.iload_n 2, 1) := by decide +kernel
theorem dX8_firstNotHeld_6 : decode cX8_firstNotHeld 6 = .ok (.aload_n 0, 1) := by decide +kernel
theorem dX8_firstNotHeld_7 : decode cX8_firstNotHeld 7 = .ok (.getfield 25, 3) := by decide +kernel
theorem dX8_firstNotHeld_10 : decode cX8_firstNotHeld 10 = .ok (.if_icmp .ge 23, 3) := by decide +kernel
theorem dX8_firstNotHeld_13 : decode cX8_firstNotHeld 13 = .ok (.aload_n 0, 1) := by decide +kernel
theorem dX8_firstNotHeld_14 : decode cX8_firstNotHeld 14 = .ok (.getfield 18, 3) := by decide +kernel
theorem dX8_firstNotHeld_17 : decode cX8_firstNotHeld 17 = .ok (.iload_n 1, 1) := by decide +kernel
theorem dX8_firstNotHeld_18 : decode cX8_firstNotHeld 18 = .ok (.iload_n 2, 1) := by decide +kernel
theorem dX8_firstNotHeld_19 : decode cX8_firstNotHeld 19 = .ok (.invokevirtual 28, 3) := by decide +kernel
theorem dX8_firstNotHeld_22 : decode cX8_firstNotHeld 22 = .ok (.ifCond .ne 5, 3) := by decide +kernel
theorem dX8_firstNotHeld_25 : decode cX8_firstNotHeld 25 = .ok (.iload_n 2, 1) := by decide +kernel
theorem dX8_firstNotHeld_26 : decode cX8_firstNotHeld 26 = .ok (.ireturn, 1) := by decide +kernel
theorem dX8_firstNotHeld_27 : decode cX8_firstNotHeld 27 = .ok (.iinc 2 1, 3) := by decide +kernel
theorem dX8_firstNotHeld_30 : decode cX8_firstNotHeld 30 = .ok (.goto (-25), 3) := by decide +kernel
theorem dX8_firstNotHeld_33 : decode cX8_firstNotHeld 33 = .ok (.iconst (-1), 1) := by decide +kernel
theorem dX8_firstNotHeld_34 : decode cX8_firstNotHeld 34 = .ok (.ireturn, 1) := by decide +kernel
set_option maxRecDepth 20000 in
theorem ggX8_strength_X3_fracOf : GoodIn wsX8_strength wsX3_fracOf := goodIn_r _ [8, 9, 10, 11, 12, 13, 14, 15, 16, 17, 18, 19, 20, 21, 22, 23, 29, 30, 31, 32, 33, 34, 35, 36] (by decide +kernel) (by decide +kernel)
set_option maxRecDepth 20000 in
theorem gX8_strength_X3_fracOf : GoodIn wsX8_strength (wsV RX8 34 RX3 yX3_fracOf wsX3_fracOf) := goodIn_app (goodIn_of _ (by decide +kernel)) ggX8_strength_X3_fracOf
theorem dX8_strength_0 : decode cX8_strength 0 = .ok (.aload_n 0, 1) := by decide +kernel
theorem dX8_strength_1 : decode cX8_strength 1 = .ok (.getfield 22, 3) := by decide +kernel
theorem dX8_strength_4 : decode cX8_strength 4 = .ok (.ifCond .le 26, 3) := by decide +kernel
theorem dX8_strength_7 : decode cX8_strength 7 = .ok (.aload_n 0, 1) := by decide +kernel
theorem dX8_strength_8 : decode cX8_strength 8 = .ok (.getfield 18, 3) := by decide +kernel
theorem dX8_strength_11 : decode cX8_strength 11 = .ok (.aload_n 0, 1) := by decide +kernel
theorem dX8_strength_12 : decode cX8_strength 12 = .ok (.getfield 22, 3) := by decide +kernel
theorem dX8_strength_15 : decode cX8_strength 15 = .ok (.iconst 1, 1) := by decide +kernel
theorem dX8_strength_16 : decode cX8_strength 16 = .ok (.isub, 1) := by decide +kernel
theorem dX8_strength_17 : decode cX8_strength 17 = .ok (.invokevirtual 34, 3) := by decide +kernel
theorem dX8_strength_20 : decode cX8_strength 20 = .ok (.i2l, 1) := by decide +kernel
theorem dX8_strength_21 : decode cX8_strength 21 = .ok (.aload_n 0, 1) := by decide +kernel
theorem dX8_strength_22 : decode cX8_strength 22 = .ok (.getfield 22, 3) := by decide +kernel
theorem dX8_strength_25 : decode cX8_strength 25 = .ok (.i2l, 1) := by decide +kernel
theorem dX8_strength_26 : decode cX8_strength 26 = .ok (.lmul, 1) := by decide +kernel
theorem dX8_strength_27 : decode cX8_strength 27 = .ok (.goto 6, 3) := by decide +kernel
theorem dX8_strength_30 : decode cX8_strength 30 = .ok (.ldc2_w 38, 3) := by decide +kernel
theorem dX8_strength_33 : decode cX8_strength 33 = .ok (.lreturn, 1) := by decide +kernel
set_option maxRecDepth 20000 in
theorem ggX8_heaviestPore_X3_poreOf : GoodIn wsX8_heaviestPore wsX3_poreOf := goodIn_r _ [13, 14, 15, 16, 17, 18, 19, 20, 21, 22, 7, 23, 24, 25, 26, 27, 33, 34, 35, 36, 37, 38, 39, 40] (by decide +kernel) (by decide +kernel)
set_option maxRecDepth 20000 in
theorem gX8_heaviestPore_X3_poreOf : GoodIn wsX8_heaviestPore (wsV RX8 41 RX3 yX3_poreOf wsX3_poreOf) := goodIn_app (goodIn_of _ (by decide +kernel)) ggX8_heaviestPore_X3_poreOf
theorem dX8_heaviestPore_0 : decode cX8_heaviestPore 0 = .ok (.ldc 40, 2) := by decide +kernel
theorem dX8_heaviestPore_2 : decode cX8_heaviestPore 2 = .ok (.istore_n 1, 1) := by decide +kernel
theorem dX8_heaviestPore_3 : decode cX8_heaviestPore 3 = .ok (.aload_n 0, 1) := by decide +kernel
theorem dX8_heaviestPore_4 : decode cX8_heaviestPore 4 = .ok (.getfield 22, 3) := by decide +kernel
theorem dX8_heaviestPore_7 : decode cX8_heaviestPore 7 = .ok (.istore_n 2, 1) := by decide +kernel
theorem dX8_heaviestPore_8 : decode cX8_heaviestPore 8 = .ok (.iload_n 2, 1) := by decide +kernel
theorem dX8_heaviestPore_9 : decode cX8_heaviestPore 9 = .ok (.aload_n 0, 1) := by decide +kernel
theorem dX8_heaviestPore_10 : decode cX8_heaviestPore 10 = .ok (.getfield 25, 3) := by decide +kernel
theorem dX8_heaviestPore_13 : decode cX8_heaviestPore 13 = .ok (.if_icmp .ge 22, 3) := by decide +kernel
theorem dX8_heaviestPore_16 : decode cX8_heaviestPore 16 = .ok (.iload_n 1, 1) := by decide +kernel
theorem dX8_heaviestPore_17 : decode cX8_heaviestPore 17 = .ok (.aload_n 0, 1) := by decide +kernel
theorem dX8_heaviestPore_18 : decode cX8_heaviestPore 18 = .ok (.getfield 18, 3) := by decide +kernel
theorem dX8_heaviestPore_21 : decode cX8_heaviestPore 21 = .ok (.iload_n 2, 1) := by decide +kernel
theorem dX8_heaviestPore_22 : decode cX8_heaviestPore 22 = .ok (.invokevirtual 41, 3) := by decide +kernel
theorem dX8_heaviestPore_25 : decode cX8_heaviestPore 25 = .ok (.invokestatic 44, 3) := by decide +kernel
theorem dX8_heaviestPore_28 : decode cX8_heaviestPore 28 = .ok (.istore_n 1, 1) := by decide +kernel
theorem dX8_heaviestPore_29 : decode cX8_heaviestPore 29 = .ok (.iinc 2 1, 3) := by decide +kernel
theorem dX8_heaviestPore_32 : decode cX8_heaviestPore 32 = .ok (.goto (-24), 3) := by decide +kernel
theorem dX8_heaviestPore_35 : decode cX8_heaviestPore 35 = .ok (.iload_n 1, 1) := by decide +kernel
theorem dX8_heaviestPore_36 : decode cX8_heaviestPore 36 = .ok (.ireturn, 1) := by decide +kernel
theorem dX8_safeSpeed_0 : decode cX8_safeSpeed 0 = .ok (.bipush 9, 2) := by decide +kernel
theorem dX8_safeSpeed_2 : decode cX8_safeSpeed 2 = .ok (.istore 4, 2) := by decide +kernel
theorem dX8_safeSpeed_4 : decode cX8_safeSpeed 4 = .ok (.iload 4, 2) := by decide +kernel
theorem dX8_safeSpeed_6 : decode cX8_safeSpeed 6 = .ok (.iconst 1, 1) := by decide +kernel
theorem dX8_safeSpeed_7 : decode cX8_safeSpeed 7 = .ok (.if_icmp .lt 31, 3) := by decide +kernel
theorem dX8_safeSpeed_10 : decode cX8_safeSpeed 10 = .ok (.iload_n 1, 1) := by decide +kernel
theorem dX8_safeSpeed_11 : decode cX8_safeSpeed 11 = .ok (.aload_n 0, 1) := by decide +kernel
theorem dX8_safeSpeed_12 : decode cX8_safeSpeed 12 = .ok (.getfield 15, 3) := by decide +kernel
theorem dX8_safeSpeed_15 : decode cX8_safeSpeed 15 = .ok (.iload 4, 2) := by decide +kernel
theorem dX8_safeSpeed_17 : decode cX8_safeSpeed 17 = .ok (.imul, 1) := by decide +kernel
theorem dX8_safeSpeed_18 : decode cX8_safeSpeed 18 = .ok (.iload_n 2, 1) := by decide +kernel
theorem dX8_safeSpeed_19 : decode cX8_safeSpeed 19 = .ok (.imul, 1) := by decide +kernel
theorem dX8_safeSpeed_20 : decode cX8_safeSpeed 20 = .ok (.sipush 1000, 3) := by decide +kernel
theorem dX8_safeSpeed_23 : decode cX8_safeSpeed 23 = .ok (.idiv, 1) := by decide +kernel
theorem dX8_safeSpeed_24 : decode cX8_safeSpeed 24 = .ok (.isub, 1) := by decide +kernel
theorem dX8_safeSpeed_25 : decode cX8_safeSpeed 25 = .ok (.iload_n 3, 1) := by decide +kernel
theorem dX8_safeSpeed_26 : decode cX8_safeSpeed 26 = .ok (.if_icmp .lt 6, 3) := by decide +kernel
theorem dX8_safeSpeed_29 : decode cX8_safeSpeed 29 = .ok (.iload 4, 2) := by decide +kernel
theorem dX8_safeSpeed_31 : decode cX8_safeSpeed 31 = .ok (.ireturn, 1) := by decide +kernel
theorem dX8_safeSpeed_32 : decode cX8_safeSpeed 32 = .ok (.iinc 4 (-1), 3) := by decide +kernel
theorem dX8_safeSpeed_35 : decode cX8_safeSpeed 35 = .ok (.goto (-31), 3) := by decide +kernel
theorem dX8_safeSpeed_38 : decode cX8_safeSpeed 38 = .ok (.iconst 0, 1) := by decide +kernel
theorem dX8_safeSpeed_39 : decode cX8_safeSpeed 39 = .ok (.ireturn, 1) := by decide +kernel
set_option maxRecDepth 20000 in
theorem ggX8_tripTime_X8_safeSpeed : GoodIn wsX8_tripTime wsX8_safeSpeed := goodIn_r _ [7, 8, 15, 16, 17, 18, 19] (by decide +kernel) (by decide +kernel)
set_option maxRecDepth 20000 in
theorem gX8_tripTime_X8_safeSpeed : GoodIn wsX8_tripTime (wsV RX8 50 RX8 yX8_safeSpeed wsX8_safeSpeed) := goodIn_app (goodIn_of _ (by decide +kernel)) ggX8_tripTime_X8_safeSpeed
set_option maxRecDepth 20000 in
theorem ggX8_tripTime_X9_roundedUp : GoodIn wsX8_tripTime wsX9_roundedUp := goodIn_r _ [11, 12, 13, 10, 14] (by decide +kernel) (by decide +kernel)
set_option maxRecDepth 20000 in
theorem gX8_tripTime_X9_roundedUp_n56 : GoodIn wsX8_tripTime (wsX9_roundedUp) := ggX8_tripTime_X9_roundedUp
theorem dX8_tripTime_0 : decode cX8_tripTime 0 = .ok (.lconst 0, 1) := by decide +kernel
theorem dX8_tripTime_1 : decode cX8_tripTime 1 = .ok (.lstore_n 3, 1) := by decide +kernel
theorem dX8_tripTime_2 : decode cX8_tripTime 2 = .ok (.aload_n 0, 1) := by decide +kernel
theorem dX8_tripTime_3 : decode cX8_tripTime 3 = .ok (.getfield 25, 3) := by decide +kernel
theorem dX8_tripTime_6 : decode cX8_tripTime 6 = .ok (.istore 5, 2) := by decide +kernel
theorem dX8_tripTime_8 : decode cX8_tripTime 8 = .ok (.iload 5, 2) := by decide +kernel
theorem dX8_tripTime_10 : decode cX8_tripTime 10 = .ok (.iconst 1, 1) := by decide +kernel
theorem dX8_tripTime_11 : decode cX8_tripTime 11 = .ok (.if_icmp .lt 43, 3) := by decide +kernel
theorem dX8_tripTime_14 : decode cX8_tripTime 14 = .ok (.aload_n 0, 1) := by decide +kernel
theorem dX8_tripTime_15 : decode cX8_tripTime 15 = .ok (.iload_n 1, 1) := by decide +kernel
theorem dX8_tripTime_16 : decode cX8_tripTime 16 = .ok (.iload 5, 2) := by decide +kernel
theorem dX8_tripTime_18 : decode cX8_tripTime 18 = .ok (.iload_n 2, 1) := by decide +kernel
theorem dX8_tripTime_19 : decode cX8_tripTime 19 = .ok (.invokevirtual 50, 3) := by decide +kernel
theorem dX8_tripTime_22 : decode cX8_tripTime 22 = .ok (.istore 6, 2) := by decide +kernel
theorem dX8_tripTime_24 : decode cX8_tripTime 24 = .ok (.iload 6, 2) := by decide +kernel
theorem dX8_tripTime_26 : decode cX8_tripTime 26 = .ok (.ifCond .ne 10, 3) := by decide +kernel
theorem dX8_tripTime_29 : decode cX8_tripTime 29 = .ok (.sipush (-1000), 3) := by decide +kernel
theorem dX8_tripTime_32 : decode cX8_tripTime 32 = .ok (.iload 5, 2) := by decide +kernel
theorem dX8_tripTime_34 : decode cX8_tripTime 34 = .ok (.isub, 1) := by decide +kernel
theorem dX8_tripTime_35 : decode cX8_tripTime 35 = .ok (.ireturn, 1) := by decide +kernel
theorem dX8_tripTime_36 : decode cX8_tripTime 36 = .ok (.lload_n 3, 1) := by decide +kernel
theorem dX8_tripTime_37 : decode cX8_tripTime 37 = .ok (.ldc2_w 54, 3) := by decide +kernel
theorem dX8_tripTime_40 : decode cX8_tripTime 40 = .ok (.iload 6, 2) := by decide +kernel
theorem dX8_tripTime_42 : decode cX8_tripTime 42 = .ok (.i2l, 1) := by decide +kernel
theorem dX8_tripTime_43 : decode cX8_tripTime 43 = .ok (.invokestatic 56, 3) := by decide +kernel
theorem dX8_tripTime_46 : decode cX8_tripTime 46 = .ok (.ladd, 1) := by decide +kernel
theorem dX8_tripTime_47 : decode cX8_tripTime 47 = .ok (.lstore_n 3, 1) := by decide +kernel
theorem dX8_tripTime_48 : decode cX8_tripTime 48 = .ok (.iinc 5 (-1), 3) := by decide +kernel
theorem dX8_tripTime_51 : decode cX8_tripTime 51 = .ok (.goto (-43), 3) := by decide +kernel
theorem dX8_tripTime_54 : decode cX8_tripTime 54 = .ok (.lload_n 3, 1) := by decide +kernel
theorem dX8_tripTime_55 : decode cX8_tripTime 55 = .ok (.l2i, 1) := by decide +kernel
theorem dX8_tripTime_56 : decode cX8_tripTime 56 = .ok (.ireturn, 1) := by decide +kernel
set_option maxRecDepth 20000 in
theorem ggX8_isInTime_X8_tripTime : GoodIn wsX8_isInTime wsX8_tripTime := goodIn_r _ [5, 6, 7, 8, 9, 10, 4, 11, 12, 13, 14, 15, 16, 17, 18, 19, 20, 21, 22, 23] (by decide +kernel) (by decide +kernel)
set_option maxRecDepth 20000 in
theorem gX8_isInTime_X8_tripTime : GoodIn wsX8_isInTime (wsV RX8 60 RX8 yX8_tripTime wsX8_tripTime) := goodIn_app (goodIn_of _ (by decide +kernel)) ggX8_isInTime_X8_tripTime
theorem dX8_isInTime_0 : decode cX8_isInTime 0 = .ok (.aload_n 0, 1) := by decide +kernel
theorem dX8_isInTime_1 : decode cX8_isInTime 1 = .ok (.iload_n 1, 1) := by decide +kernel
theorem dX8_isInTime_2 : decode cX8_isInTime 2 = .ok (.iload_n 2, 1) := by decide +kernel
theorem dX8_isInTime_3 : decode cX8_isInTime 3 = .ok (.invokevirtual 60, 3) := by decide +kernel
theorem dX8_isInTime_6 : decode cX8_isInTime 6 = .ok (.istore 4, 2) := by decide +kernel
theorem dX8_isInTime_8 : decode cX8_isInTime 8 = .ok (.iload 4, 2) := by decide +kernel
theorem dX8_isInTime_10 : decode cX8_isInTime 10 = .ok (.ifCond .lt 13, 3) := by decide +kernel
theorem dX8_isInTime_13 : decode cX8_isInTime 13 = .ok (.iload 4, 2) := by decide +kernel
theorem dX8_isInTime_15 : decode cX8_isInTime 15 = .ok (.iload_n 3, 1) := by decide +kernel
theorem dX8_isInTime_16 : decode cX8_isInTime 16 = .ok (.if_icmp .gt 7, 3) := by decide +kernel
theorem dX8_isInTime_19 : decode cX8_isInTime 19 = .ok (.iconst 1, 1) := by decide +kernel
theorem dX8_isInTime_20 : decode cX8_isInTime 20 = .ok (.goto 4, 3) := by decide +kernel
theorem dX8_isInTime_23 : decode cX8_isInTime 23 = .ok (.iconst 0, 1) := by decide +kernel
theorem dX8_isInTime_24 : decode cX8_isInTime 24 = .ok (.ireturn, 1) := by decide +kernel
set_option maxRecDepth 20000 in
theorem ggX8_lightestInTime_X8_heaviestPore : GoodIn wsX8_lightestInTime wsX8_heaviestPore := goodIn_r _ [5, 6, 7, 8, 9, 10, 11, 12, 13, 14, 15, 16, 17, 18, 19, 20, 21, 22, 23, 24, 25, 26, 27, 28, 29, 30, 31, 32, 52, 53, 54, 55, 56, 57, 58, 59, 60, 61, 62, 63, 64] (by decide +kernel) (by decide +kernel)
set_option maxRecDepth 20000 in
theorem gX8_lightestInTime_X8_heaviestPore : GoodIn wsX8_lightestInTime (wsV RX8 63 RX8 yX8_heaviestPore wsX8_heaviestPore) := goodIn_app (goodIn_of _ (by decide +kernel)) ggX8_lightestInTime_X8_heaviestPore
set_option maxRecDepth 20000 in
theorem ggX8_lightestInTime_X8_isInTime : GoodIn wsX8_lightestInTime wsX8_isInTime := goodIn_r _ [36, 37, 38, 39, 4, 40, 8, 41, 42, 43, 44, 45, 46, 47, 31, 48, 49, 50, 51, 52, 53, 54, 55, 56] (by decide +kernel) (by decide +kernel)
set_option maxRecDepth 20000 in
theorem gX8_lightestInTime_X8_isInTime : GoodIn wsX8_lightestInTime (wsV RX8 67 RX8 yX8_isInTime wsX8_isInTime) := goodIn_app (goodIn_of _ (by decide +kernel)) ggX8_lightestInTime_X8_isInTime
theorem dX8_lightestInTime_0 : decode cX8_lightestInTime 0 = .ok (.aload_n 0, 1) := by decide +kernel
theorem dX8_lightestInTime_1 : decode cX8_lightestInTime 1 = .ok (.invokevirtual 63, 3) := by decide +kernel
theorem dX8_lightestInTime_4 : decode cX8_lightestInTime 4 = .ok (.istore 4, 2) := by decide +kernel
theorem dX8_lightestInTime_6 : decode cX8_lightestInTime 6 = .ok (.aload_n 0, 1) := by decide +kernel
theorem dX8_lightestInTime_7 : decode cX8_lightestInTime 7 = .ok (.iload_n 2, 1) := by decide +kernel
theorem dX8_lightestInTime_8 : decode cX8_lightestInTime 8 = .ok (.iload 4, 2) := by decide +kernel
theorem dX8_lightestInTime_10 : decode cX8_lightestInTime 10 = .ok (.iload_n 3, 1) := by decide +kernel
theorem dX8_lightestInTime_11 : decode cX8_lightestInTime 11 = .ok (.invokevirtual 67, 3) := by decide +kernel
theorem dX8_lightestInTime_14 : decode cX8_lightestInTime 14 = .ok (.ifCond .ne 6, 3) := by decide +kernel
theorem dX8_lightestInTime_17 : decode cX8_lightestInTime 17 = .ok (.bipush (-3), 2) := by decide +kernel
theorem dX8_lightestInTime_19 : decode cX8_lightestInTime 19 = .ok (.ireturn, 1) := by decide +kernel
theorem dX8_lightestInTime_20 : decode cX8_lightestInTime 20 = .ok (.iload_n 1, 1) := by decide +kernel
theorem dX8_lightestInTime_21 : decode cX8_lightestInTime 21 = .ok (.istore 5, 2) := by decide +kernel
theorem dX8_lightestInTime_23 : decode cX8_lightestInTime 23 = .ok (.iload_n 2, 1) := by decide +kernel
theorem dX8_lightestInTime_24 : decode cX8_lightestInTime 24 = .ok (.istore 6, 2) := by decide +kernel
theorem dX8_lightestInTime_26 : decode cX8_lightestInTime 26 = .ok (.iconst 0, 1) := by decide +kernel
theorem dX8_lightestInTime_27 : decode cX8_lightestInTime 27 = .ok (.istore 7, 2) := by decide +kernel
theorem dX8_lightestInTime_29 : decode cX8_lightestInTime 29 = .ok (.iload 7, 2) := by decide +kernel
theorem dX8_lightestInTime_31 : decode cX8_lightestInTime 31 = .ok (.bipush 32, 2) := by decide +kernel
theorem dX8_lightestInTime_33 : decode cX8_lightestInTime 33 = .ok (.if_icmp .ge 50, 3) := by decide +kernel
theorem dX8_lightestInTime_36 : decode cX8_lightestInTime 36 = .ok (.iload 5, 2) := by decide +kernel
theorem dX8_lightestInTime_38 : decode cX8_lightestInTime 38 = .ok (.iload 6, 2) := by decide +kernel
theorem dX8_lightestInTime_40 : decode cX8_lightestInTime 40 = .ok (.if_icmp .ge 43, 3) := by decide +kernel
theorem dX8_lightestInTime_43 : decode cX8_lightestInTime 43 = .ok (.iload 5, 2) := by decide +kernel
theorem dX8_lightestInTime_45 : decode cX8_lightestInTime 45 = .ok (.iload 6, 2) := by decide +kernel
theorem dX8_lightestInTime_47 : decode cX8_lightestInTime 47 = .ok (.iadd, 1) := by decide +kernel
theorem dX8_lightestInTime_48 : decode cX8_lightestInTime 48 = .ok (.iconst 2, 1) := by decide +kernel
theorem dX8_lightestInTime_49 : decode cX8_lightestInTime 49 = .ok (.idiv, 1) := by decide +kernel
theorem dX8_lightestInTime_50 : decode cX8_lightestInTime 50 = .ok (.istore 8, 2) := by decide +kernel
theorem dX8_lightestInTime_52 : decode cX8_lightestInTime 52 = .ok (.aload_n 0, 1) := by decide +kernel
theorem dX8_lightestInTime_53 : decode cX8_lightestInTime 53 = .ok (.iload 8, 2) := by decide +kernel
theorem dX8_lightestInTime_55 : decode cX8_lightestInTime 55 = .ok (.iload 4, 2) := by decide +kernel
theorem dX8_lightestInTime_57 : decode cX8_lightestInTime 57 = .ok (.iload_n 3, 1) := by decide +kernel
theorem dX8_lightestInTime_58 : decode cX8_lightestInTime 58 = .ok (.invokevirtual 67, 3) := by decide +kernel
theorem dX8_lightestInTime_61 : decode cX8_lightestInTime 61 = .ok (.ifCond .eq 10, 3) := by decide +kernel
theorem dX8_lightestInTime_64 : decode cX8_lightestInTime 64 = .ok (.iload 8, 2) := by decide +kernel
theorem dX8_lightestInTime_66 : decode cX8_lightestInTime 66 = .ok (.istore 6, 2) := by decide +kernel
theorem dX8_lightestInTime_68 : decode cX8_lightestInTime 68 = .ok (.goto 9, 3) := by decide +kernel
theorem dX8_lightestInTime_71 : decode cX8_lightestInTime 71 = .ok (.iload 8, 2) := by decide +kernel
theorem dX8_lightestInTime_73 : decode cX8_lightestInTime 73 = .ok (.iconst 1, 1) := by decide +kernel
theorem dX8_lightestInTime_74 : decode cX8_lightestInTime 74 = .ok (.iadd, 1) := by decide +kernel
theorem dX8_lightestInTime_75 : decode cX8_lightestInTime 75 = .ok (.istore 5, 2) := by decide +kernel
theorem dX8_lightestInTime_77 : decode cX8_lightestInTime 77 = .ok (.iinc 7 1, 3) := by decide +kernel
theorem dX8_lightestInTime_80 : decode cX8_lightestInTime 80 = .ok (.goto (-51), 3) := by decide +kernel
theorem dX8_lightestInTime_83 : decode cX8_lightestInTime 83 = .ok (.iload 6, 2) := by decide +kernel
theorem dX8_lightestInTime_85 : decode cX8_lightestInTime 85 = .ok (.ireturn, 1) := by decide +kernel
