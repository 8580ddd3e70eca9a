set_option maxRecDepth 20000 in
theorem ggX9_init_X5_init : GoodIn wsX9_init wsX5_init := goodIn_r _ [43, 44, 2, 3, 45, 46, 47, 48, 111, 112, 113, 114, 115, 116] (by decide +kernel) (by decide +kernel)
set_option maxRecDepth 20000 in
theorem gX9_init_X5_init : GoodIn wsX9_init (wsX5_init) := ggX9_init_X5_init
set_option maxRecDepth 20000 in
theorem ggX9_init_X0_init : GoodIn wsX9_init wsX0_init := goodIn_r _ [51, 52, 2, 3] (by decide +kernel) (by decide +kernel)
set_option maxRecDepth 20000 in
theorem gX9_init_X0_init : GoodIn wsX9_init (wsX0_init) := ggX9_init_X0_init
set_option maxRecDepth 20000 in
theorem ggX9_init_X7_init : GoodIn wsX9_init wsX7_init := goodIn_r _ [55, 56, 2, 3] (by decide +kernel) (by decide +kernel)
set_option maxRecDepth 20000 in
theorem gX9_init_X7_init : GoodIn wsX9_init (wsX7_init) := ggX9_init_X7_init
set_option maxRecDepth 20000 in
theorem ggX9_init_X6_init : GoodIn wsX9_init wsX6_init := goodIn_r _ [59, 60, 2, 3, 45, 61, 62, 122, 123, 124, 125] (by decide +kernel) (by decide +kernel)
set_option maxRecDepth 20000 in
theorem gX9_init_X6_init : GoodIn wsX9_init (wsX6_init) := ggX9_init_X6_init
set_option maxRecDepth 20000 in
theorem ggX9_init_X4_init : GoodIn wsX9_init wsX4_init := goodIn_r _ [65, 66, 2, 3, 45, 67, 68, 126, 127, 128] (by decide +kernel) (by decide +kernel)
set_option maxRecDepth 20000 in
theorem gX9_init_X4_init : GoodIn wsX9_init (wsX4_init) := ggX9_init_X4_init
set_option maxRecDepth 20000 in
theorem ggX9_init_X3_init : GoodIn wsX9_init wsX3_init := goodIn_r _ [71, 72, 2, 3, 73, 74, 129, 130, 131, 132] (by decide +kernel) (by decide +kernel)
set_option maxRecDepth 20000 in
theorem gX9_init_X3_init : GoodIn wsX9_init (wsX3_init) := ggX9_init_X3_init
set_option maxRecDepth 20000 in
theorem ggX9_init_X8_init : GoodIn wsX9_init wsX8_init := goodIn_r _ [77, 78, 2, 3, 79, 80, 81, 133, 134, 135, 136, 137] (by decide +kernel) (by decide +kernel)
set_option maxRecDepth 20000 in
theorem gX9_init_X8_init : GoodIn wsX9_init (wsX8_init) := ggX9_init_X8_init
set_option maxRecDepth 20000 in
theorem ggX9_init_X1_init : GoodIn wsX9_init wsX1_init := goodIn_r _ [84, 85, 2, 3, 86, 17, 18, 87, 45, 88, 89, 90, 91, 92, 93, 94, 54, 55, 56, 120, 121, 138, 139, 140, 141, 142, 143, 144, 145] (by decide +kernel) (by decide +kernel)
set_option maxRecDepth 20000 in
theorem gX9_init_X1_init : GoodIn wsX9_init (wsX1_init) := ggX9_init_X1_init
set_option maxRecDepth 20000 in
theorem ggX9_init_X2_init : GoodIn wsX9_init wsX2_init := goodIn_r _ [97, 98, 2, 3, 99, 146, 147, 148, 149, 150, 151, 152, 153, 154] (by decide +kernel) (by decide +kernel)
set_option maxRecDepth 20000 in
theorem gX9_init_X2_init : GoodIn wsX9_init (wsX2_init) := ggX9_init_X2_init
theorem dX9_init_0 : decode cX9_init 0 = .ok (.aload_n 0, 1) := by decide +kernel
theorem dX9_init_1 : decode cX9_init 1 = .ok (.invokespecial 1, 3) := by decide +kernel
theorem dX9_init_4 : decode cX9_init 4 = .ok (.aload_n 0, 1) := by decide +kernel
theorem dX9_init_5 : decode cX9_init 5 = .ok (.iconst 4, 1) := by decide +kernel
theorem dX9_init_6 : decode cX9_init 6 = .ok (.anewarray 9, 3) := by decide +kernel
theorem dX9_init_9 : decode cX9_init 9 = .ok (.putfield 11, 3) := by decide +kernel
theorem dX9_init_12 : decode cX9_init 12 = .ok (.aload_n 0, 1) := by decide +kernel
theorem dX9_init_13 : decode cX9_init 13 = .ok (.new 15, 3) := by decide +kernel
theorem dX9_init_16 : decode cX9_init 16 = .ok (.dup, 1) := by decide +kernel
theorem dX9_init_17 : decode cX9_init 17 = .ok (.invokespecial 17, 3) := by decide +kernel
theorem dX9_init_20 : decode cX9_init 20 = .ok (.putfield 18, 3) := by decide +kernel
theorem dX9_init_23 : decode cX9_init 23 = .ok (.aload_n 0, 1) := by decide +kernel
theorem dX9_init_24 : decode cX9_init 24 = .ok (.iconst 2, 1) := by decide +kernel
theorem dX9_init_25 : decode cX9_init 25 = .ok (.anewarray 22, 3) := by decide +kernel
theorem dX9_init_28 : decode cX9_init 28 = .ok (.putfield 24, 3) := by decide +kernel
theorem dX9_init_31 : decode cX9_init 31 = .ok (.aload_n 0, 1) := by decide +kernel
theorem dX9_init_32 : decode cX9_init 32 = .ok (.new 28, 3) := by decide +kernel
theorem dX9_init_35 : decode cX9_init 35 = .ok (.dup, 1) := by decide +kernel
theorem dX9_init_36 : decode cX9_init 36 = .ok (.invokespecial 30, 3) := by decide +kernel
theorem dX9_init_39 : decode cX9_init 39 = .ok (.putfield 31, 3) := by decide +kernel
theorem dX9_init_42 : decode cX9_init 42 = .ok (.aload_n 0, 1) := by decide +kernel
theorem dX9_init_43 : decode cX9_init 43 = .ok (.new 35, 3) := by decide +kernel
theorem dX9_init_46 : decode cX9_init 46 = .ok (.dup, 1) := by decide +kernel
theorem dX9_init_47 : decode cX9_init 47 = .ok (.invokespecial 37, 3) := by decide +kernel
theorem dX9_init_50 : decode cX9_init 50 = .ok (.putfield 38, 3) := by decide +kernel
theorem dX9_init_53 : decode cX9_init 53 = .ok (.iconst 0, 1) := by decide +kernel
theorem dX9_init_54 : decode cX9_init 54 = .ok (.istore_n 1, 1) := by decide +kernel
theorem dX9_init_55 : decode cX9_init 55 = .ok (.iload_n 1, 1) := by decide +kernel
theorem dX9_init_56 : decode cX9_init 56 = .ok (.iconst 4, 1) := by decide +kernel
theorem dX9_init_57 : decode cX9_init 57 = .ok (.if_icmp .ge 22, 3) := by decide +kernel
theorem dX9_init_60 : decode cX9_init 60 = .ok (.aload_n 0, 1) := by decide +kernel
theorem dX9_init_61 : decode cX9_init 61 = .ok (.getfield 11, 3) := by decide +kernel
theorem dX9_init_64 : decode cX9_init 64 = .ok (.iload_n 1, 1) := by decide +kernel
theorem dX9_init_65 : decode cX9_init 65 = .ok (.new 9, 3) := by decide +kernel
theorem dX9_init_68 : decode cX9_init 68 = .ok (.dup, 1) := by decide +kernel
theorem dX9_init_69 : decode cX9_init 69 = .ok (.invokespecial 42, 3) := by decide +kernel
theorem dX9_init_72 : decode cX9_init 72 = .ok (.aastore, 1) := by decide +kernel
theorem dX9_init_73 : decode cX9_init 73 = .ok (.iinc 1 1, 3) := by decide +kernel
theorem dX9_init_76 : decode cX9_init 76 = .ok (.goto (-21), 3) := by decide +kernel
theorem dX9_init_79 : decode cX9_init 79 = .ok (.iconst 0, 1) := by decide +kernel
theorem dX9_init_80 : decode cX9_init 80 = .ok (.istore_n 1, 1) := by decide +kernel
theorem dX9_init_81 : decode cX9_init 81 = .ok (.iload_n 1, 1) := by decide +kernel
theorem dX9_init_82 : decode cX9_init 82 = .ok (.iconst 2, 1) := by decide +kernel
theorem dX9_init_83 : decode cX9_init 83 = .ok (.if_icmp .ge 22, 3) := by decide +kernel
theorem dX9_init_86 : decode cX9_init 86 = .ok (.aload_n 0, 1) := by decide +kernel
theorem dX9_init_87 : decode cX9_init 87 = .ok (.getfield 24, 3) := by decide +kernel
theorem dX9_init_90 : decode cX9_init 90 = .ok (.iload_n 1, 1) := by decide +kernel
theorem dX9_init_91 : decode cX9_init 91 = .ok (.new 22, 3) := by decide +kernel
theorem dX9_init_94 : decode cX9_init 94 = .ok (.dup, 1) := by decide +kernel
theorem dX9_init_95 : decode cX9_init 95 = .ok (.invokespecial 43, 3) := by decide +kernel
theorem dX9_init_98 : decode cX9_init 98 = .ok (.aastore, 1) := by decide +kernel
theorem dX9_init_99 : decode cX9_init 99 = .ok (.iinc 1 1, 3) := by decide +kernel
theorem dX9_init_102 : decode cX9_init 102 = .ok (.goto (-21), 3) := by decide +kernel
theorem dX9_init_105 : decode cX9_init 105 = .ok (.aload_n 0, 1) := by decide +kernel
theorem dX9_init_106 : decode cX9_init 106 = .ok (.new 44, 3) := by decide +kernel
theorem dX9_init_109 : decode cX9_init 109 = .ok (.dup, 1) := by decide +kernel
theorem dX9_init_110 : decode cX9_init 110 = .ok (.aload_n 0, 1) := by decide +kernel
theorem dX9_init_111 : decode cX9_init 111 = .ok (.getfield 11, 3) := by decide +kernel
theorem dX9_init_114 : decode cX9_init 114 = .ok (.iconst 0, 1) := by decide +kernel
theorem dX9_init_115 : decode cX9_init 115 = .ok (.aaload, 1) := by decide +kernel
theorem dX9_init_116 : decode cX9_init 116 = .ok (.aload_n 0, 1) := by decide +kernel
theorem dX9_init_117 : decode cX9_init 117 = .ok (.getfield 11, 3) := by decide +kernel
theorem dX9_init_120 : decode cX9_init 120 = .ok (.iconst 1, 1) := by decide +kernel
theorem dX9_init_121 : decode cX9_init 121 = .ok (.aaload, 1) := by decide +kernel
theorem dX9_init_122 : decode cX9_init 122 = .ok (.invokespecial 46, 3) := by decide +kernel
theorem dX9_init_125 : decode cX9_init 125 = .ok (.putfield 49, 3) := by decide +kernel
theorem dX9_init_128 : decode cX9_init 128 = .ok (.aload_n 0, 1) := by decide +kernel
theorem dX9_init_129 : decode cX9_init 129 = .ok (.new 53, 3) := by decide +kernel
theorem dX9_init_132 : decode cX9_init 132 = .ok (.dup, 1) := by decide +kernel
theorem dX9_init_133 : decode cX9_init 133 = .ok (.aload_n 0, 1) := by decide +kernel
theorem dX9_init_134 : decode cX9_init 134 = .ok (.getfield 49, 3) := by decide +kernel
theorem dX9_init_137 : decode cX9_init 137 = .ok (.invokespecial 55, 3) := by decide +kernel
theorem dX9_init_140 : decode cX9_init 140 = .ok (.putfield 58, 3) := by decide +kernel
theorem dX9_init_143 : decode cX9_init 143 = .ok (.aload_n 0, 1) := by decide +kernel
theorem dX9_init_144 : decode cX9_init 144 = .ok (.new 62, 3) := by decide +kernel
theorem dX9_init_147 : decode cX9_init 147 = .ok (.dup, 1) := by decide +kernel
theorem dX9_init_148 : decode cX9_init 148 = .ok (.aload_n 0, 1) := by decide +kernel
theorem dX9_init_149 : decode cX9_init 149 = .ok (.getfield 49, 3) := by decide +kernel
theorem dX9_init_152 : decode cX9_init 152 = .ok (.invokespecial 64, 3) := by decide +kernel
theorem dX9_init_155 : decode cX9_init 155 = .ok (.putfield 65, 3) := by decide +kernel
theorem dX9_init_158 : decode cX9_init 158 = .ok (.aload_n 0, 1) := by decide +kernel
theorem dX9_init_159 : decode cX9_init 159 = .ok (.new 69, 3) := by decide +kernel
theorem dX9_init_162 : decode cX9_init 162 = .ok (.dup, 1) := by decide +kernel
theorem dX9_init_163 : decode cX9_init 163 = .ok (.aload_n 0, 1) := by decide +kernel
theorem dX9_init_164 : decode cX9_init 164 = .ok (.getfield 58, 3) := by decide +kernel
theorem dX9_init_167 : decode cX9_init 167 = .ok (.invokespecial 71, 3) := by decide +kernel
theorem dX9_init_170 : decode cX9_init 170 = .ok (.putfield 74, 3) := by decide +kernel
theorem dX9_init_173 : decode cX9_init 173 = .ok (.aload_n 0, 1) := by decide +kernel
theorem dX9_init_174 : decode cX9_init 174 = .ok (.new 69, 3) := by decide +kernel
theorem dX9_init_177 : decode cX9_init 177 = .ok (.dup, 1) := by decide +kernel
theorem dX9_init_178 : decode cX9_init 178 = .ok (.aload_n 0, 1) := by decide +kernel
theorem dX9_init_179 : decode cX9_init 179 = .ok (.getfield 58, 3) := by decide +kernel
theorem dX9_init_182 : decode cX9_init 182 = .ok (.invokespecial 71, 3) := by decide +kernel
theorem dX9_init_185 : decode cX9_init 185 = .ok (.putfield 78, 3) := by decide +kernel
theorem dX9_init_188 : decode cX9_init 188 = .ok (.return_, 1) := by decide +kernel
set_option maxRecDepth 20000 in
theorem ggX9_hole_X9_within : GoodIn wsX9_hole wsX9_within := goodIn_r _ [7] (by decide +kernel) (by decide +kernel)
set_option maxRecDepth 20000 in
theorem gX9_hole_X9_within : GoodIn wsX9_hole (va_wsS RX9 81 yX9_within wsX9_within) := goodIn_app (goodIn_of _ (by decide +kernel)) ggX9_hole_X9_within
theorem dX9_hole_0 : decode cX9_hole 0 = .ok (.iload_n 1, 1) := by decide +kernel
theorem dX9_hole_1 : decode cX9_hole 1 = .ok (.iconst 0, 1) := by decide +kernel
theorem dX9_hole_2 : decode cX9_hole 2 = .ok (.bipush 50, 2) := by decide +kernel
theorem dX9_hole_4 : decode cX9_hole 4 = .ok (.invokestatic 81, 3) := by decide +kernel
theorem dX9_hole_7 : decode cX9_hole 7 = .ok (.ifCond .eq 12, 3) := by decide +kernel
theorem dX9_hole_10 : decode cX9_hole 10 = .ok (.iload_n 2, 1) := by decide +kernel
theorem dX9_hole_11 : decode cX9_hole 11 = .ok (.iconst 0, 1) := by decide +kernel
theorem dX9_hole_12 : decode cX9_hole 12 = .ok (.iload_n 1, 1) := by decide +kernel
theorem dX9_hole_13 : decode cX9_hole 13 = .ok (.invokestatic 81, 3) := by decide +kernel
theorem dX9_hole_16 : decode cX9_hole 16 = .ok (.ifCond .ne 6, 3) := by decide +kernel
theorem dX9_hole_19 : decode cX9_hole 19 = .ok (.bipush (-2), 2) := by decide +kernel
theorem dX9_hole_21 : decode cX9_hole 21 = .ok (.ireturn, 1) := by decide +kernel
theorem dX9_hole_22 : decode cX9_hole 22 = .ok (.aload_n 0, 1) := by decide +kernel
theorem dX9_hole_23 : decode cX9_hole 23 = .ok (.getfield 58, 3) := by decide +kernel
theorem dX9_hole_26 : decode cX9_hole 26 = .ok (.iload_n 1, 1) := by decide +kernel
theorem dX9_hole_27 : decode cX9_hole 27 = .ok (.putfield 85, 3) := by decide +kernel
theorem dX9_hole_30 : decode cX9_hole 30 = .ok (.aload_n 0, 1) := by decide +kernel
theorem dX9_hole_31 : decode cX9_hole 31 = .ok (.getfield 58, 3) := by decide +kernel
theorem dX9_hole_34 : decode cX9_hole 34 = .ok (.iload_n 2, 1) := by decide +kernel
theorem dX9_hole_35 : decode cX9_hole 35 = .ok (.putfield 89, 3) := by decide +kernel
theorem dX9_hole_38 : decode cX9_hole 38 = .ok (.iconst 1, 1) := by decide +kernel
theorem dX9_hole_39 : decode cX9_hole 39 = .ok (.ireturn, 1) := by decide +kernel
set_option maxRecDepth 20000 in
theorem ggX9_margins_X9_within : GoodIn wsX9_margins wsX9_within := goodIn_r _ [7] (by decide +kernel) (by decide +kernel)
set_option maxRecDepth 20000 in
theorem gX9_margins_X9_within : GoodIn wsX9_margins (va_wsS RX9 81 yX9_within wsX9_within) := goodIn_app (goodIn_of _ (by decide +kernel)) ggX9_margins_X9_within
theorem dX9_margins_0 : decode cX9_margins 0 = .ok (.iload_n 1, 1) := by decide +kernel
theorem dX9_margins_1 : decode cX9_margins 1 = .ok (.iconst 0, 1) := by decide +kernel
theorem dX9_margins_2 : decode cX9_margins 2 = .ok (.sipush 500, 3) := by decide +kernel
theorem dX9_margins_5 : decode cX9_margins 5 = .ok (.invokestatic 81, 3) := by decide +kernel
theorem dX9_margins_8 : decode cX9_margins 8 = .ok (.ifCond .eq 14, 3) := by decide +kernel
theorem dX9_margins_11 : decode cX9_margins 11 = .ok (.iload_n 2, 1) := by decide +kernel
theorem dX9_margins_12 : decode cX9_margins 12 = .ok (.iconst 0, 1) := by decide +kernel
theorem dX9_margins_13 : decode cX9_margins 13 = .ok (.sipush 500, 3) := by decide +kernel
theorem dX9_margins_16 : decode cX9_margins 16 = .ok (.invokestatic 81, 3) := by decide +kernel
theorem dX9_margins_19 : decode cX9_margins 19 = .ok (.ifCond .ne 6, 3) := by decide +kernel
theorem dX9_margins_22 : decode cX9_margins 22 = .ok (.bipush (-2), 2) := by decide +kernel
theorem dX9_margins_24 : decode cX9_margins 24 = .ok (.ireturn, 1) := by decide +kernel
theorem dX9_margins_25 : decode cX9_margins 25 = .ok (.aload_n 0, 1) := by decide +kernel
theorem dX9_margins_26 : decode cX9_margins 26 = .ok (.getfield 49, 3) := by decide +kernel
theorem dX9_margins_29 : decode cX9_margins 29 = .ok (.iload_n 1, 1) := by decide +kernel
theorem dX9_margins_30 : decode cX9_margins 30 = .ok (.putfield 92, 3) := by decide +kernel
theorem dX9_margins_33 : decode cX9_margins 33 = .ok (.aload_n 0, 1) := by decide +kernel
theorem dX9_margins_34 : decode cX9_margins 34 = .ok (.getfield 49, 3) := by decide +kernel
theorem dX9_margins_37 : decode cX9_margins 37 = .ok (.iload_n 2, 1) := by decide +kernel
theorem dX9_margins_38 : decode cX9_margins 38 = .ok (.putfield 95, 3) := by decide +kernel
theorem dX9_margins_41 : decode cX9_margins 41 = .ok (.iconst 1, 1) := by decide +kernel
theorem dX9_margins_42 : decode cX9_margins 42 = .ok (.ireturn, 1) := by decide +kernel
set_option maxRecDepth 20000 in
theorem ggX9_ground_X9_within : GoodIn wsX9_ground wsX9_within := goodIn_r _ [5] (by decide +kernel) (by decide +kernel)
set_option maxRecDepth 20000 in
theorem gX9_ground_X9_within : GoodIn wsX9_ground (va_wsS RX9 81 yX9_within wsX9_within) := goodIn_app (goodIn_of _ (by decide +kernel)) ggX9_ground_X9_within
set_option maxRecDepth 20000 in
theorem ggX9_ground_X9_isPiece : GoodIn wsX9_ground wsX9_isPiece := goodIn_r _ [8, 2, 3, 4, 5] (by decide +kernel) (by decide +kernel)
set_option maxRecDepth 20000 in
theorem gX9_ground_X9_isPiece : GoodIn wsX9_ground (va_wsS RX9 98 yX9_isPiece wsX9_isPiece) := goodIn_app (goodIn_of _ (by decide +kernel)) ggX9_ground_X9_isPiece
set_option maxRecDepth 20000 in
theorem ggX9_ground_X3_poreOf : GoodIn wsX9_ground wsX3_poreOf := goodIn_r _ [13, 14, 15, 16, 17, 18, 19, 20, 21, 22, 23, 24, 25, 3, 4, 5, 42, 43, 44, 45, 46, 47, 48, 49] (by decide +kernel) (by decide +kernel)
set_option maxRecDepth 20000 in
theorem gX9_ground_X3_poreOf : GoodIn wsX9_ground (wsV RX9 102 RX3 yX3_poreOf wsX3_poreOf) := goodIn_app (goodIn_of _ (by decide +kernel)) ggX9_ground_X3_poreOf
set_option maxRecDepth 20000 in
theorem ggX9_ground_X3_fracOf : GoodIn wsX9_ground wsX3_fracOf := goodIn_r _ [29, 30, 15, 16, 17, 18, 19, 20, 21, 22, 23, 24, 25, 3, 4, 5, 42, 43, 44, 45, 46, 47, 48, 49] (by decide +kernel) (by decide +kernel)
set_option maxRecDepth 20000 in
theorem gX9_ground_X3_fracOf : GoodIn wsX9_ground (wsV RX9 106 RX3 yX3_fracOf wsX3_fracOf) := goodIn_app (goodIn_of _ (by decide +kernel)) ggX9_ground_X3_fracOf
theorem dX9_ground_0 : decode cX9_ground 0 = .ok (.iload_n 1, 1) := by decide +kernel
theorem dX9_ground_1 : decode cX9_ground 1 = .ok (.iconst 0, 1) := by decide +kernel
theorem dX9_ground_2 : decode cX9_ground 2 = .ok (.iconst 1, 1) := by decide +kernel
theorem dX9_ground_3 : decode cX9_ground 3 = .ok (.invokestatic 81, 3) := by decide +kernel
theorem dX9_ground_6 : decode cX9_ground 6 = .ok (.ifCond .eq 10, 3) := by decide +kernel
theorem dX9_ground_9 : decode cX9_ground 9 = .ok (.iload_n 2, 1) := by decide +kernel
theorem dX9_ground_10 : decode cX9_ground 10 = .ok (.invokestatic 98, 3) := by decide +kernel
theorem dX9_ground_13 : decode cX9_ground 13 = .ok (.ifCond .ne 6, 3) := by decide +kernel
theorem dX9_ground_16 : decode cX9_ground 16 = .ok (.bipush (-2), 2) := by decide +kernel
theorem dX9_ground_18 : decode cX9_ground 18 = .ok (.ireturn, 1) := by decide +kernel
theorem dX9_ground_19 : decode cX9_ground 19 = .ok (.iload_n 1, 1) := by decide +kernel
theorem dX9_ground_20 : decode cX9_ground 20 = .ok (.ifCond .ne 14, 3) := by decide +kernel
theorem dX9_ground_23 : decode cX9_ground 23 = .ok (.aload_n 0, 1) := by decide +kernel
theorem dX9_ground_24 : decode cX9_ground 24 = .ok (.getfield 49, 3) := by decide +kernel
theorem dX9_ground_27 : decode cX9_ground 27 = .ok (.iload_n 2, 1) := by decide +kernel
theorem dX9_ground_28 : decode cX9_ground 28 = .ok (.invokevirtual 102, 3) := by decide +kernel
theorem dX9_ground_31 : decode cX9_ground 31 = .ok (.goto 11, 3) := by decide +kernel
theorem dX9_ground_34 : decode cX9_ground 34 = .ok (.aload_n 0, 1) := by decide +kernel
theorem dX9_ground_35 : decode cX9_ground 35 = .ok (.getfield 49, 3) := by decide +kernel
theorem dX9_ground_38 : decode cX9_ground 38 = .ok (.iload_n 2, 1) := by decide +kernel
theorem dX9_ground_39 : decode cX9_ground 39 = .ok (.invokevirtual 106, 3) := by decide +kernel
theorem dX9_ground_42 : decode cX9_ground 42 = .ok (.ireturn, 1) := by decide +kernel
set_option maxRecDepth 20000 in
theorem ggX9_breaks_X9_isMud : GoodIn wsX9_breaks wsX9_isMud := goodIn_r _ [5, 6, 7, 4, 8] (by decide +kernel) (by decide +kernel)
set_option maxRecDepth 20000 in
theorem gX9_breaks_X9_isMud : GoodIn wsX9_breaks (va_wsS RX9 109 yX9_isMud wsX9_isMud) := goodIn_app (goodIn_of _ (by decide +kernel)) ggX9_breaks_X9_isMud
set_option maxRecDepth 20000 in
theorem ggX9_breaks_X8_firstNotHeld : GoodIn wsX9_breaks wsX8_firstNotHeld := goodIn_r _ [13, 14, 15, 16, 17, 18, 19, 20, 21, 22, 23, 24, 25, 26, 27, 28, 29, 30, 31, 32, 33, 34, 35, 36, 37, 38, 39, 7, 4, 8, 40, 41, 42, 43, 44, 56, 57, 58, 59, 60, 61, 62, 63, 64, 65, 66, 67, 68] (by decide +kernel) (by decide +kernel)
set_option maxRecDepth 20000 in
theorem gX9_breaks_X8_firstNotHeld : GoodIn wsX9_breaks (wsV RX9 112 RX8 yX8_firstNotHeld wsX8_firstNotHeld) := goodIn_app (goodIn_of _ (by decide +kernel)) ggX9_breaks_X8_firstNotHeld
theorem dX9_breaks_0 : decode cX9_breaks 0 = .ok (.iload_n 1, 1) := by decide +kernel
theorem dX9_breaks_1 : decode cX9_breaks 1 = .ok (.invokestatic 109, 3) := by decide +kernel
theorem dX9_breaks_4 : decode cX9_breaks 4 = .ok (.ifCond .eq 14, 3) := by decide +kernel
theorem dX9_breaks_7 : decode cX9_breaks 7 = .ok (.aload_n 0, 1) := by decide +kernel
theorem dX9_breaks_8 : decode cX9_breaks 8 = .ok (.getfield 58, 3) := by decide +kernel
theorem dX9_breaks_11 : decode cX9_breaks 11 = .ok (.iload_n 1, 1) := by decide +kernel
theorem dX9_breaks_12 : decode cX9_breaks 12 = .ok (.invokevirtual 112, 3) := by decide +kernel
theorem dX9_breaks_15 : decode cX9_breaks 15 = .ok (.goto 5, 3) := by decide +kernel
theorem dX9_breaks_18 : decode cX9_breaks 18 = .ok (.bipush (-2), 2) := by decide +kernel
theorem dX9_breaks_20 : decode cX9_breaks 20 = .ok (.ireturn, 1) := by decide +kernel
set_option maxRecDepth 20000 in
theorem ggX9_window_X9_isPiece : GoodIn wsX9_window wsX9_isPiece := goodIn_r _ [6, 7, 8, 5, 9] (by decide +kernel) (by decide +kernel)
set_option maxRecDepth 20000 in
theorem gX9_window_X9_isPiece : GoodIn wsX9_window (va_wsS RX9 98 yX9_isPiece wsX9_isPiece) := goodIn_app (goodIn_of _ (by decide +kernel)) ggX9_window_X9_isPiece
set_option maxRecDepth 20000 in
theorem ggX9_window_X9_within : GoodIn wsX9_window wsX9_within := goodIn_r _ [9] (by decide +kernel) (by decide +kernel)
set_option maxRecDepth 20000 in
theorem gX9_window_X9_within : GoodIn wsX9_window (va_wsS RX9 81 yX9_within wsX9_within) := goodIn_app (goodIn_of _ (by decide +kernel)) ggX9_window_X9_within
set_option maxRecDepth 20000 in
theorem ggX9_window_X3_widest : GoodIn wsX9_window wsX3_widest := goodIn_r _ [14, 15, 16, 17, 18, 19, 20, 21, 22, 79, 80] (by decide +kernel) (by decide +kernel)
set_option maxRecDepth 20000 in
theorem gX9_window_X3_widest : GoodIn wsX9_window (wsV RX9 115 RX3 yX3_widest wsX3_widest) := goodIn_app (goodIn_of _ (by decide +kernel)) ggX9_window_X3_widest
set_option maxRecDepth 20000 in
theorem ggX9_window_X3_narrow : GoodIn wsX9_window wsX3_narrow := goodIn_r _ [26, 27, 28, 29, 30, 31, 13, 32, 33, 34, 35, 36, 37, 38, 39, 40, 41, 42, 43, 44, 8, 5, 9, 45, 46, 47, 48, 49, 50, 51, 52, 19, 53, 21, 54, 55, 56, 22, 57, 58, 59, 81, 82, 83, 84, 85, 86, 87, 88, 79, 80] (by decide +kernel) (by decide +kernel)
set_option maxRecDepth 20000 in
theorem gX9_window_X3_narrow : GoodIn wsX9_window (wsV RX9 119 RX3 yX3_narrow wsX3_narrow) := goodIn_app (goodIn_of _ (by decide +kernel)) ggX9_window_X3_narrow
set_option maxRecDepth 20000 in
theorem ggX9_window_X7_isEmpty : GoodIn wsX9_window wsX7_isEmpty := goodIn_r _ [63, 21, 22, 79, 80] (by decide +kernel) (by decide +kernel)
set_option maxRecDepth 20000 in
theorem gX9_window_X7_isEmpty : GoodIn wsX9_window (wsV RX9 123 RX7 yX7_isEmpty wsX7_isEmpty) := goodIn_app (goodIn_of _ (by decide +kernel)) ggX9_window_X7_isEmpty
set_option maxRecDepth 20000 in
theorem ggX9_window_X7_end : GoodIn wsX9_window wsX7_end := goodIn_r _ [67, 21, 22, 79, 80] (by decide +kernel) (by decide +kernel)
set_option maxRecDepth 20000 in
theorem gX9_window_X7_end : GoodIn wsX9_window (wsV RX9 127 RX7 yX7_end wsX7_end) := goodIn_app (goodIn_of _ (by decide +kernel)) ggX9_window_X7_end
theorem dX9_window_0 : decode cX9_window 0 = .ok (.iload_n 1, 1) := by decide +kernel
theorem dX9_window_1 : decode cX9_window 1 = .ok (.invokestatic 98, 3) := by decide +kernel
theorem dX9_window_4 : decode cX9_window 4 = .ok (.ifCond .eq 24, 3) := by decide +kernel
theorem dX9_window_7 : decode cX9_window 7 = .ok (.iload_n 2, 1) := by decide +kernel
theorem dX9_window_8 : decode cX9_window 8 = .ok (.invokestatic 98, 3) := by decide +kernel
theorem dX9_window_11 : decode cX9_window 11 = .ok (.ifCond .eq 17, 3) := by decide +kernel
theorem dX9_window_14 : decode cX9_window 14 = .ok (.iload_n 1, 1) := by decide +kernel
theorem dX9_window_15 : decode cX9_window 15 = .ok (.iload_n 2, 1) := by decide +kernel
theorem dX9_window_16 : decode cX9_window 16 = .ok (.if_icmp .gt 12, 3) := by decide +kernel
theorem dX9_window_19 : decode cX9_window 19 = .ok (.iload_n 3, 1) := by decide +kernel
theorem dX9_window_20 : decode cX9_window 20 = .ok (.iconst 0, 1) := by decide +kernel
theorem dX9_window_21 : decode cX9_window 21 = .ok (.iconst 1, 1) := by decide +kernel
theorem dX9_window_22 : decode cX9_window 22 = .ok (.invokestatic 81, 3) := by decide +kernel
theorem dX9_window_25 : decode cX9_window 25 = .ok (.ifCond .ne 6, 3) := by decide +kernel
theorem dX9_window_28 : decode cX9_window 28 = .ok (.bipush (-2), 2) := by decide +kernel
theorem dX9_window_30 : decode cX9_window 30 = .ok (.ireturn, 1) := by decide +kernel
theorem dX9_window_31 : decode cX9_window 31 = .ok (.aload_n 0, 1) := by decide +kernel
theorem dX9_window_32 : decode cX9_window 32 = .ok (.getfield 49, 3) := by decide +kernel
theorem dX9_window_35 : decode cX9_window 35 = .ok (.aload_n 0, 1) := by decide +kernel
theorem dX9_window_36 : decode cX9_window 36 = .ok (.getfield 38, 3) := by decide +kernel
theorem dX9_window_39 : decode cX9_window 39 = .ok (.invokevirtual 115, 3) := by decide +kernel
theorem dX9_window_42 : decode cX9_window 42 = .ok (.aload_n 0, 1) := by decide +kernel
theorem dX9_window_43 : decode cX9_window 43 = .ok (.getfield 49, 3) := by decide +kernel
theorem dX9_window_46 : decode cX9_window 46 = .ok (.aload_n 0, 1) := by decide +kernel
theorem dX9_window_47 : decode cX9_window 47 = .ok (.getfield 38, 3) := by decide +kernel
theorem dX9_window_50 : decode cX9_window 50 = .ok (.iload_n 1, 1) := by decide +kernel
theorem dX9_window_51 : decode cX9_window 51 = .ok (.iload_n 2, 1) := by decide +kernel
theorem dX9_window_52 : decode cX9_window 52 = .ok (.invokevirtual 119, 3) := by decide +kernel
theorem dX9_window_55 : decode cX9_window 55 = .ok (.aload_n 0, 1) := by decide +kernel
theorem dX9_window_56 : decode cX9_window 56 = .ok (.getfield 38, 3) := by decide +kernel
theorem dX9_window_59 : decode cX9_window 59 = .ok (.invokevirtual 123, 3) := by decide +kernel
theorem dX9_window_62 : decode cX9_window 62 = .ok (.ifCond .eq 8, 3) := by decide +kernel
theorem dX9_window_65 : decode cX9_window 65 = .ok (.bipush (-3), 2) := by decide +kernel
theorem dX9_window_67 : decode cX9_window 67 = .ok (.goto 12, 3) := by decide +kernel
theorem dX9_window_70 : decode cX9_window 70 = .ok (.aload_n 0, 1) := by decide +kernel
theorem dX9_window_71 : decode cX9_window 71 = .ok (.getfield 38, 3) := by decide +kernel
theorem dX9_window_74 : decode cX9_window 74 = .ok (.iload_n 3, 1) := by decide +kernel
theorem dX9_window_75 : decode cX9_window 75 = .ok (.invokevirtual 127, 3) := by decide +kernel
theorem dX9_window_78 : decode cX9_window 78 = .ok (.l2i, 1) := by decide +kernel
theorem dX9_window_79 : decode cX9_window 79 = .ok (.ireturn, 1) := by decide +kernel
set_option maxRecDepth 20000 in
theorem ggX9_string_X9_within : GoodIn wsX9_string wsX9_within := goodIn_r _ [6] (by decide +kernel) (by decide +kernel)
set_option maxRecDepth 20000 in
theorem gX9_string_X9_within : GoodIn wsX9_string (va_wsS RX9 81 yX9_within wsX9_within) := goodIn_app (goodIn_of _ (by decide +kernel)) ggX9_string_X9_within
set_option maxRecDepth 20000 in
theorem ggX9_string_X1_add : GoodIn wsX9_string wsX1_add := goodIn_r _ [11, 12, 13, 14, 26, 27, 28, 29, 30, 31, 32, 33] (by decide +kernel) (by decide +kernel)
set_option maxRecDepth 20000 in
theorem gX9_string_X1_add : GoodIn wsX9_string (wsV RX9 131 RX1 yX1_add wsX1_add) := goodIn_app (goodIn_of _ (by decide +kernel)) ggX9_string_X1_add
theorem dX9_string_0 : decode cX9_string 0 = .ok (.iload_n 1, 1) := by decide +kernel
theorem dX9_string_1 : decode cX9_string 1 = .ok (.iconst 1, 1) := by decide +kernel
theorem dX9_string_2 : decode cX9_string 2 = .ok (.sipush 1000, 3) := by decide +kernel
theorem dX9_string_5 : decode cX9_string 5 = .ok (.invokestatic 81, 3) := by decide +kernel
theorem dX9_string_8 : decode cX9_string 8 = .ok (.ifCond .eq 13, 3) := by decide +kernel
theorem dX9_string_11 : decode cX9_string 11 = .ok (.iload_n 2, 1) := by decide +kernel
theorem dX9_string_12 : decode cX9_string 12 = .ok (.iconst 1, 1) := by decide +kernel
theorem dX9_string_13 : decode cX9_string 13 = .ok (.bipush 50, 2) := by decide +kernel
theorem dX9_string_15 : decode cX9_string 15 = .ok (.invokestatic 81, 3) := by decide +kernel
theorem dX9_string_18 : decode cX9_string 18 = .ok (.ifCond .ne 6, 3) := by decide +kernel
theorem dX9_string_21 : decode cX9_string 21 = .ok (.bipush (-2), 2) := by decide +kernel
theorem dX9_string_23 : decode cX9_string 23 = .ok (.ireturn, 1) := by decide +kernel
theorem dX9_string_24 : decode cX9_string 24 = .ok (.aload_n 0, 1) := by decide +kernel
theorem dX9_string_25 : decode cX9_string 25 = .ok (.getfield 65, 3) := by decide +kernel
theorem dX9_string_28 : decode cX9_string 28 = .ok (.iload_n 1, 1) := by decide +kernel
theorem dX9_string_29 : decode cX9_string 29 = .ok (.iload_n 2, 1) := by decide +kernel
theorem dX9_string_30 : decode cX9_string 30 = .ok (.invokevirtual 131, 3) := by decide +kernel
theorem dX9_string_33 : decode cX9_string 33 = .ok (.ifCond .eq 13, 3) := by decide +kernel
theorem dX9_string_36 : decode cX9_string 36 = .ok (.aload_n 0, 1) := by decide +kernel
theorem dX9_string_37 : decode cX9_string 37 = .ok (.getfield 65, 3) := by decide +kernel
theorem dX9_string_40 : decode cX9_string 40 = .ok (.getfield 135, 3) := by decide +kernel
theorem dX9_string_43 : decode cX9_string 43 = .ok (.goto 5, 3) := by decide +kernel
theorem dX9_string_46 : decode cX9_string 46 = .ok (.bipush (-4), 2) := by decide +kernel
theorem dX9_string_48 : decode cX9_string 48 = .ok (.ireturn, 1) := by decide +kernel
theorem dX9_bare_0 : decode cX9_bare 0 = .ok (.aload_n 0, 1) := by decide +kernel
theorem dX9_bare_1 : decode cX9_bare 1 = .ok (.getfield 65, 3) := by decide +kernel
theorem dX9_bare_4 : decode cX9_bare 4 = .ok (.getfield 135, 3) := by decide +kernel
theorem dX9_bare_7 : decode cX9_bare 7 = .ok (.istore_n 1, 1) := by decide +kernel
theorem dX9_bare_8 : decode cX9_bare 8 = .ok (.aload_n 0, 1) := by decide +kernel
theorem dX9_bare_9 : decode cX9_bare 9 = .ok (.getfield 65, 3) := by decide +kernel
theorem dX9_bare_12 : decode cX9_bare 12 = .ok (.iconst 0, 1) := by decide +kernel
theorem dX9_bare_13 : decode cX9_bare 13 = .ok (.putfield 135, 3) := by decide +kernel
theorem dX9_bare_16 : decode cX9_bare 16 = .ok (.iload_n 1, 1) := by decide +kernel
theorem dX9_bare_17 : decode cX9_bare 17 = .ok (.ireturn, 1) := by decide +kernel
set_option maxRecDepth 20000 in
theorem ggX9_plan_X9_within : GoodIn wsX9_plan wsX9_within := goodIn_r _ [5] (by decide +kernel) (by decide +kernel)
set_option maxRecDepth 20000 in
theorem gX9_plan_X9_within : GoodIn wsX9_plan (va_wsS RX9 81 yX9_within wsX9_within) := goodIn_app (goodIn_of _ (by decide +kernel)) ggX9_plan_X9_within
set_option maxRecDepth 20000 in
theorem ggX9_plan_X1_reckon : GoodIn wsX9_plan wsX1_reckon := goodIn_r _ [10, 11, 12, 13, 14, 15, 16, 17, 9, 18, 19, 20, 21, 22, 23, 24, 25, 26, 27, 28, 29, 30, 31, 32, 33, 34, 35, 36, 37, 38, 39, 40, 41, 42, 43, 44, 45, 46, 47, 48, 49, 50, 51, 52, 53, 54, 55, 3, 4, 5, 56, 57, 58, 59, 60, 61, 62, 63, 64, 65, 66, 67, 68, 69, 70, 71, 72, 73, 74, 75, 76, 77, 78, 79, 80, 81, 82, 83, 84, 85, 86, 102, 103, 104, 105, 106, 107, 108, 109, 110, 111, 112, 113, 114, 115, 116, 117, 118, 119] (by decide +kernel) (by decide +kernel)
set_option maxRecDepth 20000 in
theorem gX9_plan_X1_reckon : GoodIn wsX9_plan (wsV RX9 138 RX1 yX1_reckon wsX1_reckon) := goodIn_app (goodIn_of _ (by decide +kernel)) ggX9_plan_X1_reckon
set_option maxRecDepth 20000 in
theorem ggX9_plan_X1_costOfPlan : GoodIn wsX9_plan wsX1_costOfPlan := goodIn_r _ [90, 13, 102, 103, 104, 105, 106, 107, 108, 109] (by decide +kernel) (by decide +kernel)
set_option maxRecDepth 20000 in
theorem gX9_plan_X1_costOfPlan : GoodIn wsX9_plan (wsV RX9 141 RX1 yX1_costOfPlan wsX1_costOfPlan) := goodIn_app (goodIn_of _ (by decide +kernel)) ggX9_plan_X1_costOfPlan
theorem dX9_plan_0 : decode cX9_plan 0 = .ok (.iload_n 1, 1) := by decide +kernel
theorem dX9_plan_1 : decode cX9_plan 1 = .ok (.iconst 1, 1) := by decide +kernel
theorem dX9_plan_2 : decode cX9_plan 2 = .ok (.bipush 50, 2) := by decide +kernel
theorem dX9_plan_4 : decode cX9_plan 4 = .ok (.invokestatic 81, 3) := by decide +kernel
theorem dX9_plan_7 : decode cX9_plan 7 = .ok (.ifCond .ne 6, 3) := by decide +kernel
theorem dX9_plan_10 : decode cX9_plan 10 = .ok (.bipush (-2), 2) := by decide +kernel
theorem dX9_plan_12 : decode cX9_plan 12 = .ok (.ireturn, 1) := by decide +kernel
theorem dX9_plan_13 : decode cX9_plan 13 = .ok (.aload_n 0, 1) := by decide +kernel
theorem dX9_plan_14 : decode cX9_plan 14 = .ok (.getfield 65, 3) := by decide +kernel
theorem dX9_plan_17 : decode cX9_plan 17 = .ok (.iload_n 1, 1) := by decide +kernel
theorem dX9_plan_18 : decode cX9_plan 18 = .ok (.invokevirtual 138, 3) := by decide +kernel
theorem dX9_plan_21 : decode cX9_plan 21 = .ok (.ifCond .eq 13, 3) := by decide +kernel
theorem dX9_plan_24 : decode cX9_plan 24 = .ok (.aload_n 0, 1) := by decide +kernel
theorem dX9_plan_25 : decode cX9_plan 25 = .ok (.getfield 65, 3) := by decide +kernel
theorem dX9_plan_28 : decode cX9_plan 28 = .ok (.invokevirtual 141, 3) := by decide +kernel
theorem dX9_plan_31 : decode cX9_plan 31 = .ok (.goto 5, 3) := by decide +kernel
theorem dX9_plan_34 : decode cX9_plan 34 = .ok (.bipush (-3), 2) := by decide +kernel
theorem dX9_plan_36 : decode cX9_plan 36 = .ok (.ireturn, 1) := by decide +kernel
set_option maxRecDepth 20000 in
theorem ggX9_shoe_X9_within : GoodIn wsX9_shoe wsX9_within := goodIn_r _ [5] (by decide +kernel) (by decide +kernel)
set_option maxRecDepth 20000 in
theorem gX9_shoe_X9_within : GoodIn wsX9_shoe (va_wsS RX9 81 yX9_within wsX9_within) := goodIn_app (goodIn_of _ (by decide +kernel)) ggX9_shoe_X9_within
set_option maxRecDepth 20000 in
theorem ggX9_shoe_X1_reckon : GoodIn wsX9_shoe wsX1_reckon := goodIn_r _ [10, 11, 12, 13, 14, 15, 16, 17, 9, 18, 19, 20, 21, 22, 23, 24, 25, 26, 27, 28, 29, 30, 31, 32, 33, 34, 35, 36, 37, 38, 39, 40, 41, 42, 43, 44, 45, 46, 47, 48, 49, 50, 51, 52, 53, 54, 55, 3, 4, 5, 56, 57, 58, 59, 60, 61, 62, 63, 64, 65, 66, 67, 68, 69, 70, 71, 72, 73, 74, 75, 76, 77, 78, 79, 80, 81, 82, 83, 84, 85, 86, 106, 107, 108, 109, 110, 111, 112, 113, 114, 115, 116, 117, 118, 119, 120, 121, 122, 123] (by decide +kernel) (by decide +kernel)
set_option maxRecDepth 20000 in
theorem gX9_shoe_X1_reckon : GoodIn wsX9_shoe (wsV RX9 138 RX1 yX1_reckon wsX1_reckon) := goodIn_app (goodIn_of _ (by decide +kernel)) ggX9_shoe_X1_reckon
set_option maxRecDepth 20000 in
theorem ggX9_shoe_X1_stringsOfPlan : GoodIn wsX9_shoe wsX1_stringsOfPlan := goodIn_r _ [90, 13, 106, 107, 108, 109, 110, 111, 112, 113] (by decide +kernel) (by decide +kernel)
set_option maxRecDepth 20000 in
theorem gX9_shoe_X1_stringsOfPlan : GoodIn wsX9_shoe (wsV RX9 145 RX1 yX1_stringsOfPlan wsX1_stringsOfPlan) := goodIn_app (goodIn_of _ (by decide +kernel)) ggX9_shoe_X1_stringsOfPlan
set_option maxRecDepth 20000 in
theorem ggX9_shoe_X1_shoeOfPlan : GoodIn wsX9_shoe wsX1_shoeOfPlan := goodIn_r _ [94, 11, 82, 106, 107, 108, 109, 110, 111, 112, 113] (by decide +kernel) (by decide +kernel)
set_option maxRecDepth 20000 in
theorem gX9_shoe_X1_shoeOfPlan : GoodIn wsX9_shoe (wsV RX9 148 RX1 yX1_shoeOfPlan wsX1_shoeOfPlan) := goodIn_app (goodIn_of _ (by decide +kernel)) ggX9_shoe_X1_shoeOfPlan
theorem dX9_shoe_0 : decode cX9_shoe 0 = .ok (.iload_n 1, 1) := by decide +kernel
theorem dX9_shoe_1 : decode cX9_shoe 1 = .ok (.iconst 1, 1) := by decide +kernel
theorem dX9_shoe_2 : decode cX9_shoe 2 = .ok (.bipush 50, 2) := by decide +kernel
theorem dX9_shoe_4 : decode cX9_shoe 4 = .ok (.invokestatic 81, 3) := by decide +kernel
theorem dX9_shoe_7 : decode cX9_shoe 7 = .ok (.ifCond .eq 7, 3) := by decide +kernel
theorem dX9_shoe_10 : decode cX9_shoe 10 = .ok (.iload_n 2, 1) := by decide +kernel
theorem dX9_shoe_11 : decode cX9_shoe 11 = .ok (.ifCond .ge 6, 3) := by decide +kernel
theorem dX9_shoe_14 : decode cX9_shoe 14 = .ok (.bipush (-2), 2) := by decide +kernel
theorem dX9_shoe_16 : decode cX9_shoe 16 = .ok (.ireturn, 1) := by decide +kernel
theorem dX9_shoe_17 : decode cX9_shoe 17 = .ok (.aload_n 0, 1) := by decide +kernel
theorem dX9_shoe_18 : decode cX9_shoe 18 = .ok (.getfield 65, 3) := by decide +kernel
theorem dX9_shoe_21 : decode cX9_shoe 21 = .ok (.iload_n 1, 1) := by decide +kernel
theorem dX9_shoe_22 : decode cX9_shoe 22 = .ok (.invokevirtual 138, 3) := by decide +kernel
theorem dX9_shoe_25 : decode cX9_shoe 25 = .ok (.ifCond .ne 6, 3) := by decide +kernel
theorem dX9_shoe_28 : decode cX9_shoe 28 = .ok (.bipush (-3), 2) := by decide +kernel
theorem dX9_shoe_30 : decode cX9_shoe 30 = .ok (.ireturn, 1) := by decide +kernel
theorem dX9_shoe_31 : decode cX9_shoe 31 = .ok (.iload_n 2, 1) := by decide +kernel
theorem dX9_shoe_32 : decode cX9_shoe 32 = .ok (.aload_n 0, 1) := by decide +kernel
theorem dX9_shoe_33 : decode cX9_shoe 33 = .ok (.getfield 65, 3) := by decide +kernel
theorem dX9_shoe_36 : decode cX9_shoe 36 = .ok (.invokevirtual 145, 3) := by decide +kernel
theorem dX9_shoe_39 : decode cX9_shoe 39 = .ok (.if_icmp .ge 14, 3) := by decide +kernel
theorem dX9_shoe_42 : decode cX9_shoe 42 = .ok (.aload_n 0, 1) := by decide +kernel
theorem dX9_shoe_43 : decode cX9_shoe 43 = .ok (.getfield 65, 3) := by decide +kernel
theorem dX9_shoe_46 : decode cX9_shoe 46 = .ok (.iload_n 2, 1) := by decide +kernel
theorem dX9_shoe_47 : decode cX9_shoe 47 = .ok (.invokevirtual 148, 3) := by decide +kernel
theorem dX9_shoe_50 : decode cX9_shoe 50 = .ok (.goto 5, 3) := by decide +kernel
theorem dX9_shoe_53 : decode cX9_shoe 53 = .ok (.bipush (-2), 2) := by decide +kernel
theorem dX9_shoe_55 : decode cX9_shoe 55 = .ok (.ireturn, 1) := by decide +kernel
set_option maxRecDepth 20000 in
theorem ggX9_cap_X9_within : GoodIn wsX9_cap wsX9_within := goodIn_r _ [6] (by decide +kernel) (by decide +kernel)
set_option maxRecDepth 20000 in
theorem gX9_cap_X9_within : GoodIn wsX9_cap (va_wsS RX9 81 yX9_within wsX9_within) := goodIn_app (goodIn_of _ (by decide +kernel)) ggX9_cap_X9_within
theorem dX9_cap_0 : decode cX9_cap 0 = .ok (.iload_n 1, 1) := by decide +kernel
theorem dX9_cap_1 : decode cX9_cap 1 = .ok (.iconst 1, 1) := by decide +kernel
theorem dX9_cap_2 : decode cX9_cap 2 = .ok (.sipush 1000, 3) := by decide +kernel
theorem dX9_cap_5 : decode cX9_cap 5 = .ok (.invokestatic 81, 3) := by decide +kernel
theorem dX9_cap_8 : decode cX9_cap 8 = .ok (.ifCond .ne 6, 3) := by decide +kernel
theorem dX9_cap_11 : decode cX9_cap 11 = .ok (.bipush (-2), 2) := by decide +kernel
theorem dX9_cap_13 : decode cX9_cap 13 = .ok (.ireturn, 1) := by decide +kernel
theorem dX9_cap_14 : decode cX9_cap 14 = .ok (.aload_n 0, 1) := by decide +kernel
theorem dX9_cap_15 : decode cX9_cap 15 = .ok (.getfield 58, 3) := by decide +kernel
theorem dX9_cap_18 : decode cX9_cap 18 = .ok (.getfield 151, 3) := by decide +kernel
theorem dX9_cap_21 : decode cX9_cap 21 = .ok (.istore_n 2, 1) := by decide +kernel
theorem dX9_cap_22 : decode cX9_cap 22 = .ok (.aload_n 0, 1) := by decide +kernel
theorem dX9_cap_23 : decode cX9_cap 23 = .ok (.getfield 58, 3) := by decide +kernel
theorem dX9_cap_26 : decode cX9_cap 26 = .ok (.iload_n 1, 1) := by decide +kernel
theorem dX9_cap_27 : decode cX9_cap 27 = .ok (.putfield 151, 3) := by decide +kernel
theorem dX9_cap_30 : decode cX9_cap 30 = .ok (.iload_n 2, 1) := by decide +kernel
theorem dX9_cap_31 : decode cX9_cap 31 = .ok (.ireturn, 1) := by decide +kernel
set_option maxRecDepth 20000 in
theorem ggX9_kick_X9_within : GoodIn wsX9_kick wsX9_within := goodIn_r _ [7] (by decide +kernel) (by decide +kernel)
set_option maxRecDepth 20000 in
theorem gX9_kick_X9_within : GoodIn wsX9_kick (va_wsS RX9 81 yX9_within wsX9_within) := goodIn_app (goodIn_of _ (by decide +kernel)) ggX9_kick_X9_within
set_option maxRecDepth 20000 in
theorem ggX9_kick_X9_isWeight : GoodIn wsX9_kick wsX9_isWeight := goodIn_r _ [10, 4, 5, 6, 7] (by decide +kernel) (by decide +kernel)
set_option maxRecDepth 20000 in
theorem gX9_kick_X9_isWeight : GoodIn wsX9_kick (va_wsS RX9 154 yX9_isWeight wsX9_isWeight) := goodIn_app (goodIn_of _ (by decide +kernel)) ggX9_kick_X9_isWeight
set_option maxRecDepth 20000 in
theorem ggX9_kick_X9_isMud : GoodIn wsX9_kick wsX9_isMud := goodIn_r _ [13, 4, 5, 6, 7] (by decide +kernel) (by decide +kernel)
set_option maxRecDepth 20000 in
theorem gX9_kick_X9_isMud : GoodIn wsX9_kick (va_wsS RX9 109 yX9_isMud wsX9_isMud) := goodIn_app (goodIn_of _ (by decide +kernel)) ggX9_kick_X9_isMud
set_option maxRecDepth 20000 in
theorem ggX9_kick_X2_comeIn : GoodIn wsX9_kick wsX2_comeIn := goodIn_r _ [18, 19, 20, 21, 65, 66, 67, 68, 69, 70, 71, 72, 73] (by decide +kernel) (by decide +kernel)
set_option maxRecDepth 20000 in
theorem gX9_kick_X2_comeIn : GoodIn wsX9_kick (wsV RX9 157 RX2 yX2_comeIn wsX2_comeIn) := goodIn_app (goodIn_of _ (by decide +kernel)) ggX9_kick_X2_comeIn
set_option maxRecDepth 20000 in
theorem ggX9_kick_X2_whereGreatest : GoodIn wsX9_kick wsX2_whereGreatest := goodIn_r _ [25, 26, 27, 28, 29, 30, 31, 32, 17, 33, 20, 21, 34, 35, 36, 37, 38, 19, 39, 40, 41, 42, 43, 44, 45, 46, 47, 6, 48, 65, 66, 67, 68, 69, 70, 71, 72, 73, 60, 61, 62, 63, 64] (by decide +kernel) (by decide +kernel)
set_option maxRecDepth 20000 in
theorem gX9_kick_X2_whereGreatest : GoodIn wsX9_kick (wsV RX9 161 RX2 yX2_whereGreatest wsX2_whereGreatest) := goodIn_app (goodIn_of _ (by decide +kernel)) ggX9_kick_X2_whereGreatest
theorem dX9_kick_0 : decode cX9_kick 0 = .ok (.iload_n 1, 1) := by decide +kernel
theorem dX9_kick_1 : decode cX9_kick 1 = .ok (.iconst 1, 1) := by decide +kernel
theorem dX9_kick_2 : decode cX9_kick 2 = .ok (.sipush 1000, 3) := by decide +kernel
theorem dX9_kick_5 : decode cX9_kick 5 = .ok (.invokestatic 81, 3) := by decide +kernel
theorem dX9_kick_8 : decode cX9_kick 8 = .ok (.ifCond .eq 17, 3) := by decide +kernel
theorem dX9_kick_11 : decode cX9_kick 11 = .ok (.iload_n 2, 1) := by decide +kernel
theorem dX9_kick_12 : decode cX9_kick 12 = .ok (.invokestatic 154, 3) := by decide +kernel
theorem dX9_kick_15 : decode cX9_kick 15 = .ok (.ifCond .eq 10, 3) := by decide +kernel
theorem dX9_kick_18 : decode cX9_kick 18 = .ok (.iload_n 3, 1) := by decide +kernel
theorem dX9_kick_19 : decode cX9_kick 19 = .ok (.invokestatic 109, 3) := by decide +kernel
theorem dX9_kick_22 : decode cX9_kick 22 = .ok (.ifCond .ne 6, 3) := by decide +kernel
theorem dX9_kick_25 : decode cX9_kick 25 = .ok (.bipush (-2), 2) := by decide +kernel
theorem dX9_kick_27 : decode cX9_kick 27 = .ok (.ireturn, 1) := by decide +kernel
theorem dX9_kick_28 : decode cX9_kick 28 = .ok (.aload_n 0, 1) := by decide +kernel
theorem dX9_kick_29 : decode cX9_kick 29 = .ok (.getfield 58, 3) := by decide +kernel
theorem dX9_kick_32 : decode cX9_kick 32 = .ok (.getfield 85, 3) := by decide +kernel
theorem dX9_kick_35 : decode cX9_kick 35 = .ok (.ifCond .ne 6, 3) := by decide +kernel
theorem dX9_kick_38 : decode cX9_kick 38 = .ok (.bipush (-3), 2) := by decide +kernel
theorem dX9_kick_40 : decode cX9_kick 40 = .ok (.ireturn, 1) := by decide +kernel
theorem dX9_kick_41 : decode cX9_kick 41 = .ok (.aload_n 0, 1) := by decide +kernel
theorem dX9_kick_42 : decode cX9_kick 42 = .ok (.getfield 74, 3) := by decide +kernel
theorem dX9_kick_45 : decode cX9_kick 45 = .ok (.iload_n 1, 1) := by decide +kernel
theorem dX9_kick_46 : decode cX9_kick 46 = .ok (.iload_n 2, 1) := by decide +kernel
theorem dX9_kick_47 : decode cX9_kick 47 = .ok (.iload_n 3, 1) := by decide +kernel
theorem dX9_kick_48 : decode cX9_kick 48 = .ok (.invokevirtual 157, 3) := by decide +kernel
theorem dX9_kick_51 : decode cX9_kick 51 = .ok (.aload_n 0, 1) := by decide +kernel
theorem dX9_kick_52 : decode cX9_kick 52 = .ok (.getfield 74, 3) := by decide +kernel
theorem dX9_kick_55 : decode cX9_kick 55 = .ok (.invokevirtual 161, 3) := by decide +kernel
theorem dX9_kick_58 : decode cX9_kick 58 = .ok (.ireturn, 1) := by decide +kernel
set_option maxRecDepth 20000 in
theorem ggX9_gas_X9_within : GoodIn wsX9_gas wsX9_within := goodIn_r _ [7] (by decide +kernel) (by decide +kernel)
set_option maxRecDepth 20000 in
theorem gX9_gas_X9_within : GoodIn wsX9_gas (va_wsS RX9 81 yX9_within wsX9_within) := goodIn_app (goodIn_of _ (by decide +kernel)) ggX9_gas_X9_within
set_option maxRecDepth 20000 in
theorem ggX9_gas_X9_refusal : GoodIn wsX9_gas wsX9_refusal := goodIn_r _ [10, 11] (by decide +kernel) (by decide +kernel)
set_option maxRecDepth 20000 in
theorem gX9_gas_X9_refusal : GoodIn wsX9_gas (va_wsS RX9 164 yX9_refusal wsX9_refusal) := goodIn_app (goodIn_of _ (by decide +kernel)) ggX9_gas_X9_refusal
set_option maxRecDepth 20000 in
theorem ggX9_gas_X2_cameIn : GoodIn wsX9_gas wsX2_cameIn := goodIn_r _ [16, 17, 86, 87, 88, 89, 90, 91, 92, 93, 94] (by decide +kernel) (by decide +kernel)
set_option maxRecDepth 20000 in
theorem gX9_gas_X2_cameIn : GoodIn wsX9_gas (wsV RX9 167 RX2 yX2_cameIn wsX2_cameIn) := goodIn_app (goodIn_of _ (by decide +kernel)) ggX9_gas_X2_cameIn
set_option maxRecDepth 20000 in
theorem ggX9_gas_X2_measure : GoodIn wsX9_gas wsX2_measure := goodIn_r _ [21, 22, 23, 24, 25, 26, 27, 28, 29, 30, 15, 31, 32, 33, 34, 35, 36, 37, 38, 17, 39, 40, 41, 42, 43, 44, 6, 45, 46, 47, 48, 49, 50, 51, 52, 53, 54, 55, 56, 57, 58, 59, 60, 61, 62, 63, 64, 65, 66, 67, 68, 69, 5, 7, 86, 87, 88, 89, 90, 91, 92, 93, 94, 81, 82, 83, 84, 85, 95, 96, 97, 98, 99, 100, 101, 102] (by decide +kernel) (by decide +kernel)
set_option maxRecDepth 20000 in
theorem gX9_gas_X2_measure : GoodIn wsX9_gas (wsV RX9 170 RX2 yX2_measure wsX2_measure) := goodIn_app (goodIn_of _ (by decide +kernel)) ggX9_gas_X2_measure
theorem dX9_gas_0 : decode cX9_gas 0 = .ok (.iload_n 1, 1) := by decide +kernel
theorem dX9_gas_1 : decode cX9_gas 1 = .ok (.iconst 0, 1) := by decide +kernel
theorem dX9_gas_2 : decode cX9_gas 2 = .ok (.aload_n 0, 1) := by decide +kernel
theorem dX9_gas_3 : decode cX9_gas 3 = .ok (.getfield 58, 3) := by decide +kernel
theorem dX9_gas_6 : decode cX9_gas 6 = .ok (.getfield 85, 3) := by decide +kernel
theorem dX9_gas_9 : decode cX9_gas 9 = .ok (.invokestatic 81, 3) := by decide +kernel
theorem dX9_gas_12 : decode cX9_gas 12 = .ok (.ifCond .eq 12, 3) := by decide +kernel
theorem dX9_gas_15 : decode cX9_gas 15 = .ok (.iload_n 2, 1) := by decide +kernel
theorem dX9_gas_16 : decode cX9_gas 16 = .ok (.iconst 0, 1) := by decide +kernel
theorem dX9_gas_17 : decode cX9_gas 17 = .ok (.iconst 5, 1) := by decide +kernel
theorem dX9_gas_18 : decode cX9_gas 18 = .ok (.invokestatic 81, 3) := by decide +kernel
theorem dX9_gas_21 : decode cX9_gas 21 = .ok (.ifCond .ne 9, 3) := by decide +kernel
theorem dX9_gas_24 : decode cX9_gas 24 = .ok (.bipush (-2), 2) := by decide +kernel
theorem dX9_gas_26 : decode cX9_gas 26 = .ok (.invokestatic 164, 3) := by decide +kernel
theorem dX9_gas_29 : decode cX9_gas 29 = .ok (.lreturn, 1) := by decide +kernel
theorem dX9_gas_30 : decode cX9_gas 30 = .ok (.aload_n 0, 1) := by decide +kernel
theorem dX9_gas_31 : decode cX9_gas 31 = .ok (.getfield 74, 3) := by decide +kernel
theorem dX9_gas_34 : decode cX9_gas 34 = .ok (.invokevirtual 167, 3) := by decide +kernel
theorem dX9_gas_37 : decode cX9_gas 37 = .ok (.ifCond .eq 15, 3) := by decide +kernel
theorem dX9_gas_40 : decode cX9_gas 40 = .ok (.aload_n 0, 1) := by decide +kernel
theorem dX9_gas_41 : decode cX9_gas 41 = .ok (.getfield 74, 3) := by decide +kernel
theorem dX9_gas_44 : decode cX9_gas 44 = .ok (.iload_n 1, 1) := by decide +kernel
theorem dX9_gas_45 : decode cX9_gas 45 = .ok (.iload_n 2, 1) := by decide +kernel
theorem dX9_gas_46 : decode cX9_gas 46 = .ok (.invokevirtual 170, 3) := by decide +kernel
theorem dX9_gas_49 : decode cX9_gas 49 = .ok (.goto 8, 3) := by decide +kernel
theorem dX9_gas_52 : decode cX9_gas 52 = .ok (.bipush (-3), 2) := by decide +kernel
theorem dX9_gas_54 : decode cX9_gas 54 = .ok (.invokestatic 164, 3) := by decide +kernel
theorem dX9_gas_57 : decode cX9_gas 57 = .ok (.lreturn, 1) := by decide +kernel
set_option maxRecDepth 20000 in
theorem ggX9_broken_X2_cameIn : GoodIn wsX9_broken wsX2_cameIn := goodIn_r _ [7, 8, 79, 80, 81, 82, 83, 84, 85, 86, 87] (by decide +kernel) (by decide +kernel)
set_option maxRecDepth 20000 in
theorem gX9_broken_X2_cameIn : GoodIn wsX9_broken (wsV RX9 167 RX2 yX2_cameIn wsX2_cameIn) := goodIn_app (goodIn_of _ (by decide +kernel)) ggX9_broken_X2_cameIn
set_option maxRecDepth 20000 in
theorem ggX9_broken_X8_strength : GoodIn wsX9_broken wsX8_strength := goodIn_r _ [13, 14, 15, 16, 17, 18, 19, 20, 21, 22, 23, 24, 25, 26, 27, 28, 29, 30, 31, 32, 33, 34, 35, 36, 88, 89, 90, 91, 92, 93, 94, 95, 96, 97, 98, 99, 100] (by decide +kernel) (by decide +kernel)
set_option maxRecDepth 20000 in
theorem gX9_broken_X8_strength : GoodIn wsX9_broken (wsV RX9 174 RX8 yX8_strength wsX8_strength) := goodIn_app (goodIn_of _ (by decide +kernel)) ggX9_broken_X8_strength
set_option maxRecDepth 20000 in
theorem ggX9_broken_X2_whereBroken : GoodIn wsX9_broken wsX2_whereBroken := goodIn_r _ [40, 41, 42, 43, 44, 45, 6, 46, 47, 48, 49, 50, 51, 52, 53, 54, 55, 31, 56, 57, 8, 58, 59, 60, 61, 62, 63, 64, 65, 66, 35, 67, 79, 80, 81, 82, 83, 84, 85, 86, 87, 88, 89, 90, 91, 92] (by decide +kernel) (by decide +kernel)
set_option maxRecDepth 20000 in
theorem gX9_broken_X2_whereBroken : GoodIn wsX9_broken (wsV RX9 178 RX2 yX2_whereBroken wsX2_whereBroken) := goodIn_app (goodIn_of _ (by decide +kernel)) ggX9_broken_X2_whereBroken
theorem dX9_broken_0 : decode cX9_broken 0 = .ok (.aload_n 0, 1) := by decide +kernel
theorem dX9_broken_1 : decode cX9_broken 1 = .ok (.getfield 74, 3) := by decide +kernel
theorem dX9_broken_4 : decode cX9_broken 4 = .ok (.invokevirtual 167, 3) := by decide +kernel
theorem dX9_broken_7 : decode cX9_broken 7 = .ok (.ifCond .eq 20, 3) := by decide +kernel
theorem dX9_broken_10 : decode cX9_broken 10 = .ok (.aload_n 0, 1) := by decide +kernel
theorem dX9_broken_11 : decode cX9_broken 11 = .ok (.getfield 74, 3) := by decide +kernel
theorem dX9_broken_14 : decode cX9_broken 14 = .ok (.aload_n 0, 1) := by decide +kernel
theorem dX9_broken_15 : decode cX9_broken 15 = .ok (.getfield 58, 3) := by decide +kernel
theorem dX9_broken_18 : decode cX9_broken 18 = .ok (.invokevirtual 174, 3) := by decide +kernel
theorem dX9_broken_21 : decode cX9_broken 21 = .ok (.invokevirtual 178, 3) := by decide +kernel
theorem dX9_broken_24 : decode cX9_broken 24 = .ok (.goto 5, 3) := by decide +kernel
theorem dX9_broken_27 : decode cX9_broken 27 = .ok (.bipush (-3), 2) := by decide +kernel
theorem dX9_broken_29 : decode cX9_broken 29 = .ok (.ireturn, 1) := by decide +kernel
set_option maxRecDepth 20000 in
theorem ggX9_bears_X9_isWeight : GoodIn wsX9_bears wsX9_isWeight := goodIn_r _ [7, 8, 9, 6, 10] (by decide +kernel) (by decide +kernel)
set_option maxRecDepth 20000 in
theorem gX9_bears_X9_isWeight : GoodIn wsX9_bears (va_wsS RX9 154 yX9_isWeight wsX9_isWeight) := goodIn_app (goodIn_of _ (by decide +kernel)) ggX9_bears_X9_isWeight
set_option maxRecDepth 20000 in
theorem ggX9_bears_X9_isMud : GoodIn wsX9_bears wsX9_isMud := goodIn_r _ [13, 8, 9, 6, 10] (by decide +kernel) (by decide +kernel)
set_option maxRecDepth 20000 in
theorem gX9_bears_X9_isMud : GoodIn wsX9_bears (va_wsS RX9 109 yX9_isMud wsX9_isMud) := goodIn_app (goodIn_of _ (by decide +kernel)) ggX9_bears_X9_isMud
set_option maxRecDepth 20000 in
theorem ggX9_bears_X2_greatestBorne : GoodIn wsX9_bears wsX2_greatestBorne := goodIn_r _ [18, 19, 20, 21, 22, 23, 24, 25, 26, 27, 28, 29, 30, 31, 32, 33, 34, 35, 36, 37, 38, 39, 40, 41, 42, 43, 44, 45, 9, 6, 10, 46, 47, 48, 17, 49, 50, 51, 52, 53, 54, 55, 56, 57, 58, 59, 60, 61, 62, 63, 64, 65, 66, 67, 68, 69, 70, 71, 72, 73, 74, 75, 76, 77, 78, 79, 96, 97, 98, 99, 100, 101, 102, 103, 104, 91, 92, 93, 94, 95, 105, 106, 107, 108, 109, 110, 111, 112] (by decide +kernel) (by decide +kernel)
set_option maxRecDepth 20000 in
theorem gX9_bears_X2_greatestBorne : GoodIn wsX9_bears (wsV RX9 182 RX2 yX2_greatestBorne wsX2_greatestBorne) := goodIn_app (goodIn_of _ (by decide +kernel)) ggX9_bears_X2_greatestBorne
theorem dX9_bears_0 : decode cX9_bears 0 = .ok (.iload_n 1, 1) := by decide +kernel
theorem dX9_bears_1 : decode cX9_bears 1 = .ok (.invokestatic 154, 3) := by decide +kernel
theorem dX9_bears_4 : decode cX9_bears 4 = .ok (.ifCond .eq 10, 3) := by decide +kernel
theorem dX9_bears_7 : decode cX9_bears 7 = .ok (.iload_n 2, 1) := by decide +kernel
theorem dX9_bears_8 : decode cX9_bears 8 = .ok (.invokestatic 109, 3) := by decide +kernel
theorem dX9_bears_11 : decode cX9_bears 11 = .ok (.ifCond .ne 6, 3) := by decide +kernel
theorem dX9_bears_14 : decode cX9_bears 14 = .ok (.bipush (-2), 2) := by decide +kernel
theorem dX9_bears_16 : decode cX9_bears 16 = .ok (.ireturn, 1) := by decide +kernel
theorem dX9_bears_17 : decode cX9_bears 17 = .ok (.aload_n 0, 1) := by decide +kernel
theorem dX9_bears_18 : decode cX9_bears 18 = .ok (.getfield 58, 3) := by decide +kernel
theorem dX9_bears_21 : decode cX9_bears 21 = .ok (.getfield 85, 3) := by decide +kernel
theorem dX9_bears_24 : decode cX9_bears 24 = .ok (.ifCond .ne 8, 3) := by decide +kernel
theorem dX9_bears_27 : decode cX9_bears 27 = .ok (.bipush (-3), 2) := by decide +kernel
theorem dX9_bears_29 : decode cX9_bears 29 = .ok (.goto 12, 3) := by decide +kernel
theorem dX9_bears_32 : decode cX9_bears 32 = .ok (.aload_n 0, 1) := by decide +kernel
theorem dX9_bears_33 : decode cX9_bears 33 = .ok (.getfield 78, 3) := by decide +kernel
theorem dX9_bears_36 : decode cX9_bears 36 = .ok (.iload_n 1, 1) := by decide +kernel
theorem dX9_bears_37 : decode cX9_bears 37 = .ok (.iload_n 2, 1) := by decide +kernel
theorem dX9_bears_38 : decode cX9_bears 38 = .ok (.invokevirtual 182, 3) := by decide +kernel
theorem dX9_bears_41 : decode cX9_bears 41 = .ok (.ireturn, 1) := by decide +kernel
set_option maxRecDepth 20000 in
theorem ggX9_swab_X9_within : GoodIn wsX9_swab wsX9_within := goodIn_r _ [6] (by decide +kernel) (by decide +kernel)
set_option maxRecDepth 20000 in
theorem gX9_swab_X9_within : GoodIn wsX9_swab (va_wsS RX9 81 yX9_within wsX9_within) := goodIn_app (goodIn_of _ (by decide +kernel)) ggX9_swab_X9_within
theorem dX9_swab_0 : decode cX9_swab 0 = .ok (.iload_n 1, 1) := by decide +kernel
theorem dX9_swab_1 : decode cX9_swab 1 = .ok (.iconst 0, 1) := by decide +kernel
theorem dX9_swab_2 : decode cX9_swab 2 = .ok (.sipush 1000, 3) := by decide +kernel
theorem dX9_swab_5 : decode cX9_swab 5 = .ok (.invokestatic 81, 3) := by decide +kernel
theorem dX9_swab_8 : decode cX9_swab 8 = .ok (.ifCond .ne 6, 3) := by decide +kernel
theorem dX9_swab_11 : decode cX9_swab 11 = .ok (.bipush (-2), 2) := by decide +kernel
theorem dX9_swab_13 : decode cX9_swab 13 = .ok (.ireturn, 1) := by decide +kernel
theorem dX9_swab_14 : decode cX9_swab 14 = .ok (.aload_n 0, 1) := by decide +kernel
theorem dX9_swab_15 : decode cX9_swab 15 = .ok (.getfield 58, 3) := by decide +kernel
theorem dX9_swab_18 : decode cX9_swab 18 = .ok (.getfield 186, 3) := by decide +kernel
theorem dX9_swab_21 : decode cX9_swab 21 = .ok (.istore_n 2, 1) := by decide +kernel
theorem dX9_swab_22 : decode cX9_swab 22 = .ok (.aload_n 0, 1) := by decide +kernel
theorem dX9_swab_23 : decode cX9_swab 23 = .ok (.getfield 58, 3) := by decide +kernel
theorem dX9_swab_26 : decode cX9_swab 26 = .ok (.iload_n 1, 1) := by decide +kernel
theorem dX9_swab_27 : decode cX9_swab 27 = .ok (.putfield 186, 3) := by decide +kernel
theorem dX9_swab_30 : decode cX9_swab 30 = .ok (.iload_n 2, 1) := by decide +kernel
theorem dX9_swab_31 : decode cX9_swab 31 = .ok (.ireturn, 1) := by decide +kernel
set_option maxRecDepth 20000 in
theorem ggX9_speed_X9_isMud : GoodIn wsX9_speed wsX9_isMud := goodIn_r _ [6, 7, 8, 5, 9] (by decide +kernel) (by decide +kernel)
set_option maxRecDepth 20000 in
theorem gX9_speed_X9_isMud : GoodIn wsX9_speed (va_wsS RX9 109 yX9_isMud wsX9_isMud) := goodIn_app (goodIn_of _ (by decide +kernel)) ggX9_speed_X9_isMud
set_option maxRecDepth 20000 in
theorem ggX9_speed_X9_within : GoodIn wsX9_speed wsX9_within := goodIn_r _ [9] (by decide +kernel) (by decide +kernel)
set_option maxRecDepth 20000 in
theorem gX9_speed_X9_within : GoodIn wsX9_speed (va_wsS RX9 81 yX9_within wsX9_within) := goodIn_app (goodIn_of _ (by decide +kernel)) ggX9_speed_X9_within
set_option maxRecDepth 20000 in
theorem ggX9_speed_X8_heaviestPore : GoodIn wsX9_speed wsX8_heaviestPore := goodIn_r _ [14, 15, 16, 17, 18, 19, 20, 21, 22, 23, 24, 25, 26, 27, 28, 29, 30, 31, 32, 33, 34, 35, 36, 37, 38, 8, 5, 9, 55, 56, 57, 58, 59, 60, 61, 62, 63, 64, 65, 66, 67] (by decide +kernel) (by decide +kernel)
set_option maxRecDepth 20000 in
theorem gX9_speed_X8_heaviestPore : GoodIn wsX9_speed (wsV RX9 189 RX8 yX8_heaviestPore wsX8_heaviestPore) := goodIn_app (goodIn_of _ (by decide +kernel)) ggX9_speed_X8_heaviestPore
set_option maxRecDepth 20000 in
theorem ggX9_speed_X8_safeSpeed : GoodIn wsX9_speed wsX8_safeSpeed := goodIn_r _ [42, 43, 55, 56, 57, 58, 59] (by decide +kernel) (by decide +kernel)
set_option maxRecDepth 20000 in
theorem gX9_speed_X8_safeSpeed : GoodIn wsX9_speed (wsV RX9 192 RX8 yX8_safeSpeed wsX8_safeSpeed) := goodIn_app (goodIn_of _ (by decide +kernel)) ggX9_speed_X8_safeSpeed
theorem dX9_speed_0 : decode cX9_speed 0 = .ok (.iload_n 1, 1) := by decide +kernel
theorem dX9_speed_1 : decode cX9_speed 1 = .ok (.invokestatic 109, 3) := by decide +kernel
theorem dX9_speed_4 : decode cX9_speed 4 = .ok (.ifCond .eq 18, 3) := by decide +kernel
theorem dX9_speed_7 : decode cX9_speed 7 = .ok (.iload_n 2, 1) := by decide +kernel
theorem dX9_speed_8 : decode cX9_speed 8 = .ok (.iconst 1, 1) := by decide +kernel
theorem dX9_speed_9 : decode cX9_speed 9 = .ok (.aload_n 0, 1) := by decide +kernel
theorem dX9_speed_10 : decode cX9_speed 10 = .ok (.getfield 58, 3) := by decide +kernel
theorem dX9_speed_13 : decode cX9_speed 13 = .ok (.getfield 85, 3) := by decide +kernel
theorem dX9_speed_16 : decode cX9_speed 16 = .ok (.invokestatic 81, 3) := by decide +kernel
theorem dX9_speed_19 : decode cX9_speed 19 = .ok (.ifCond .ne 6, 3) := by decide +kernel
theorem dX9_speed_22 : decode cX9_speed 22 = .ok (.bipush (-2), 2) := by decide +kernel
theorem dX9_speed_24 : decode cX9_speed 24 = .ok (.ireturn, 1) := by decide +kernel
theorem dX9_speed_25 : decode cX9_speed 25 = .ok (.aload_n 0, 1) := by decide +kernel
theorem dX9_speed_26 : decode cX9_speed 26 = .ok (.getfield 58, 3) := by decide +kernel
theorem dX9_speed_29 : decode cX9_speed 29 = .ok (.iload_n 1, 1) := by decide +kernel
theorem dX9_speed_30 : decode cX9_speed 30 = .ok (.iload_n 2, 1) := by decide +kernel
theorem dX9_speed_31 : decode cX9_speed 31 = .ok (.aload_n 0, 1) := by decide +kernel
theorem dX9_speed_32 : decode cX9_speed 32 = .ok (.getfield 58, 3) := by decide +kernel
theorem dX9_speed_35 : decode cX9_speed 35 = .ok (.invokevirtual 189, 3) := by decide +kernel
theorem dX9_speed_38 : decode cX9_speed 38 = .ok (.invokevirtual 192, 3) := by decide +kernel
theorem dX9_speed_41 : decode cX9_speed 41 = .ok (.ireturn, 1) := by decide +kernel
set_option maxRecDepth 20000 in
theorem ggX9_trip_X9_isMud : GoodIn wsX9_trip wsX9_isMud := goodIn_r _ [5, 6, 7, 4, 8] (by decide +kernel) (by decide +kernel)
set_option maxRecDepth 20000 in
theorem gX9_trip_X9_isMud : GoodIn wsX9_trip (va_wsS RX9 109 yX9_isMud wsX9_isMud) := goodIn_app (goodIn_of _ (by decide +kernel)) ggX9_trip_X9_isMud
set_option maxRecDepth 20000 in
theorem ggX9_trip_X8_heaviestPore : GoodIn wsX9_trip wsX8_heaviestPore := goodIn_r _ [13, 14, 15, 16, 17, 18, 19, 20, 21, 22, 23, 24, 25, 26, 27, 28, 29, 30, 31, 32, 33, 34, 35, 36, 37, 7, 4, 8, 64, 65, 66, 67, 68, 69, 70, 71, 72, 73, 74, 75, 76] (by decide +kernel) (by decide +kernel)
set_option maxRecDepth 20000 in
theorem gX9_trip_X8_heaviestPore : GoodIn wsX9_trip (wsV RX9 189 RX8 yX8_heaviestPore wsX8_heaviestPore) := goodIn_app (goodIn_of _ (by decide +kernel)) ggX9_trip_X8_heaviestPore
set_option maxRecDepth 20000 in
theorem ggX9_trip_X8_tripTime : GoodIn wsX9_trip wsX8_tripTime := goodIn_r _ [41, 16, 42, 43, 44, 45, 12, 46, 47, 48, 4, 49, 50, 51, 52, 64, 65, 66, 67, 68] (by decide +kernel) (by decide +kernel)
set_option maxRecDepth 20000 in
theorem gX9_trip_X8_tripTime : GoodIn wsX9_trip (wsV RX9 196 RX8 yX8_tripTime wsX8_tripTime) := goodIn_app (goodIn_of _ (by decide +kernel)) ggX9_trip_X8_tripTime
theorem dX9_trip_0 : decode cX9_trip 0 = .ok (.iload_n 1, 1) := by decide +kernel
theorem dX9_trip_1 : decode cX9_trip 1 = .ok (.invokestatic 109, 3) := by decide +kernel
theorem dX9_trip_4 : decode cX9_trip 4 = .ok (.ifCond .eq 21, 3) := by decide +kernel
theorem dX9_trip_7 : decode cX9_trip 7 = .ok (.aload_n 0, 1) := by decide +kernel
theorem dX9_trip_8 : decode cX9_trip 8 = .ok (.getfield 58, 3) := by decide +kernel
theorem dX9_trip_11 : decode cX9_trip 11 = .ok (.iload_n 1, 1) := by decide +kernel
theorem dX9_trip_12 : decode cX9_trip 12 = .ok (.aload_n 0, 1) := by decide +kernel
theorem dX9_trip_13 : decode cX9_trip 13 = .ok (.getfield 58, 3) := by decide +kernel
theorem dX9_trip_16 : decode cX9_trip 16 = .ok (.invokevirtual 189, 3) := by decide +kernel
theorem dX9_trip_19 : decode cX9_trip 19 = .ok (.invokevirtual 196, 3) := by decide +kernel
theorem dX9_trip_22 : decode cX9_trip 22 = .ok (.goto 5, 3) := by decide +kernel
theorem dX9_trip_25 : decode cX9_trip 25 = .ok (.bipush (-2), 2) := by decide +kernel
theorem dX9_trip_27 : decode cX9_trip 27 = .ok (.ireturn, 1) := by decide +kernel
set_option maxRecDepth 20000 in
theorem ggX9_lightest_X9_within : GoodIn wsX9_lightest wsX9_within := goodIn_r _ [12] (by decide +kernel) (by decide +kernel)
set_option maxRecDepth 20000 in
theorem gX9_lightest_X9_within : GoodIn wsX9_lightest (va_wsS RX9 81 yX9_within wsX9_within) := goodIn_app (goodIn_of _ (by decide +kernel)) ggX9_lightest_X9_within
set_option maxRecDepth 20000 in
theorem ggX9_lightest_X3_widest : GoodIn wsX9_lightest wsX3_widest := goodIn_r _ [17, 18, 19, 20, 21, 22, 23, 24, 25, 119, 120] (by decide +kernel) (by decide +kernel)
set_option maxRecDepth 20000 in
theorem gX9_lightest_X3_widest : GoodIn wsX9_lightest (wsV RX9 115 RX3 yX3_widest wsX3_widest) := goodIn_app (goodIn_of _ (by decide +kernel)) ggX9_lightest_X3_widest
set_option maxRecDepth 20000 in
theorem ggX9_lightest_X3_narrow : GoodIn wsX9_lightest wsX3_narrow := goodIn_r _ [29, 30, 31, 32, 33, 34, 16, 35, 36, 37, 38, 39, 40, 41, 42, 43, 44, 45, 46, 47, 10, 11, 12, 48, 49, 50, 51, 52, 53, 54, 55, 22, 56, 24, 57, 58, 59, 25, 60, 61, 62, 121, 122, 123, 124, 125, 126, 127, 128, 119, 120] (by decide +kernel) (by decide +kernel)
set_option maxRecDepth 20000 in
theorem gX9_lightest_X3_narrow : GoodIn wsX9_lightest (wsV RX9 119 RX3 yX3_narrow wsX3_narrow) := goodIn_app (goodIn_of _ (by decide +kernel)) ggX9_lightest_X3_narrow
set_option maxRecDepth 20000 in
theorem ggX9_lightest_X7_isEmpty : GoodIn wsX9_lightest wsX7_isEmpty := goodIn_r _ [66, 24, 25, 119, 120] (by decide +kernel) (by decide +kernel)
set_option maxRecDepth 20000 in
theorem gX9_lightest_X7_isEmpty : GoodIn wsX9_lightest (wsV RX9 123 RX7 yX7_isEmpty wsX7_isEmpty) := goodIn_app (goodIn_of _ (by decide +kernel)) ggX9_lightest_X7_isEmpty
set_option maxRecDepth 20000 in
theorem ggX9_lightest_X8_lightestInTime : GoodIn wsX9_lightest wsX8_lightestInTime := goodIn_r _ [71, 72, 73, 74, 70, 75, 76, 77, 78, 79, 80, 81, 45, 82, 83, 33, 34, 16, 35, 36, 37, 38, 39, 40, 41, 42, 43, 44, 46, 47, 10, 11, 12, 84, 85, 86, 87, 88, 89, 90, 91, 92, 93, 94, 95, 96, 97, 98, 99, 100, 101, 102, 114, 115, 116, 117, 118, 121, 122, 123, 124, 125, 126, 127, 128] (by decide +kernel) (by decide +kernel)
set_option maxRecDepth 20000 in
theorem gX9_lightest_X8_lightestInTime : GoodIn wsX9_lightest (wsV RX9 207 RX8 yX8_lightestInTime wsX8_lightestInTime) := goodIn_app (goodIn_of _ (by decide +kernel)) ggX9_lightest_X8_lightestInTime
theorem dX9_lightest_0 : decode cX9_lightest 0 = .ok (.iload_n 1, 1) := by decide +kernel
theorem dX9_lightest_1 : decode cX9_lightest 1 = .ok (.iconst 0, 1) := by decide +kernel
theorem dX9_lightest_2 : decode cX9_lightest 2 = .ok (.ldc 199, 2) := by decide +kernel
theorem dX9_lightest_4 : decode cX9_lightest 4 = .ok (.invokestatic 81, 3) := by decide +kernel
theorem dX9_lightest_7 : decode cX9_lightest 7 = .ok (.ifCond .ne 6, 3) := by decide +kernel
theorem dX9_lightest_10 : decode cX9_lightest 10 = .ok (.bipush (-2), 2) := by decide +kernel
theorem dX9_lightest_12 : decode cX9_lightest 12 = .ok (.ireturn, 1) := by decide +kernel
theorem dX9_lightest_13 : decode cX9_lightest 13 = .ok (.aload_n 0, 1) := by decide +kernel
theorem dX9_lightest_14 : decode cX9_lightest 14 = .ok (.getfield 49, 3) := by decide +kernel
theorem dX9_lightest_17 : decode cX9_lightest 17 = .ok (.aload_n 0, 1) := by decide +kernel
theorem dX9_lightest_18 : decode cX9_lightest 18 = .ok (.getfield 38, 3) := by decide +kernel
theorem dX9_lightest_21 : decode cX9_lightest 21 = .ok (.invokevirtual 115, 3) := by decide +kernel
theorem dX9_lightest_24 : decode cX9_lightest 24 = .ok (.aload_n 0, 1) := by decide +kernel
theorem dX9_lightest_25 : decode cX9_lightest 25 = .ok (.getfield 49, 3) := by decide +kernel
theorem dX9_lightest_28 : decode cX9_lightest 28 = .ok (.aload_n 0, 1) := by decide +kernel
theorem dX9_lightest_29 : decode cX9_lightest 29 = .ok (.getfield 38, 3) := by decide +kernel
theorem dX9_lightest_32 : decode cX9_lightest 32 = .ok (.aload_n 0, 1) := by decide +kernel
theorem dX9_lightest_33 : decode cX9_lightest 33 = .ok (.getfield 58, 3) := by decide +kernel
theorem dX9_lightest_36 : decode cX9_lightest 36 = .ok (.getfield 89, 3) := by decide +kernel
theorem dX9_lightest_39 : decode cX9_lightest 39 = .ok (.aload_n 0, 1) := by decide +kernel
theorem dX9_lightest_40 : decode cX9_lightest 40 = .ok (.getfield 58, 3) := by decide +kernel
theorem dX9_lightest_43 : decode cX9_lightest 43 = .ok (.getfield 85, 3) := by decide +kernel
theorem dX9_lightest_46 : decode cX9_lightest 46 = .ok (.iconst 1, 1) := by decide +kernel
theorem dX9_lightest_47 : decode cX9_lightest 47 = .ok (.isub, 1) := by decide +kernel
theorem dX9_lightest_48 : decode cX9_lightest 48 = .ok (.invokevirtual 119, 3) := by decide +kernel
theorem dX9_lightest_51 : decode cX9_lightest 51 = .ok (.aload_n 0, 1) := by decide +kernel
theorem dX9_lightest_52 : decode cX9_lightest 52 = .ok (.getfield 38, 3) := by decide +kernel
theorem dX9_lightest_55 : decode cX9_lightest 55 = .ok (.invokevirtual 123, 3) := by decide +kernel
theorem dX9_lightest_58 : decode cX9_lightest 58 = .ok (.ifCond .eq 8, 3) := by decide +kernel
theorem dX9_lightest_61 : decode cX9_lightest 61 = .ok (.bipush (-3), 2) := by decide +kernel
theorem dX9_lightest_63 : decode cX9_lightest 63 = .ok (.goto 27, 3) := by decide +kernel
theorem dX9_lightest_66 : decode cX9_lightest 66 = .ok (.aload_n 0, 1) := by decide +kernel
theorem dX9_lightest_67 : decode cX9_lightest 67 = .ok (.getfield 58, 3) := by decide +kernel
theorem dX9_lightest_70 : decode cX9_lightest 70 = .ok (.aload_n 0, 1) := by decide +kernel
theorem dX9_lightest_71 : decode cX9_lightest 71 = .ok (.getfield 38, 3) := by decide +kernel
theorem dX9_lightest_74 : decode cX9_lightest 74 = .ok (.getfield 200, 3) := by decide +kernel
theorem dX9_lightest_77 : decode cX9_lightest 77 = .ok (.l2i, 1) := by decide +kernel
theorem dX9_lightest_78 : decode cX9_lightest 78 = .ok (.aload_n 0, 1) := by decide +kernel
theorem dX9_lightest_79 : decode cX9_lightest 79 = .ok (.getfield 38, 3) := by decide +kernel
theorem dX9_lightest_82 : decode cX9_lightest 82 = .ok (.getfield 204, 3) := by decide +kernel
theorem dX9_lightest_85 : decode cX9_lightest 85 = .ok (.l2i, 1) := by decide +kernel
theorem dX9_lightest_86 : decode cX9_lightest 86 = .ok (.iload_n 1, 1) := by decide +kernel
theorem dX9_lightest_87 : decode cX9_lightest 87 = .ok (.invokevirtual 207, 3) := by decide +kernel
theorem dX9_lightest_90 : decode cX9_lightest 90 = .ok (.ireturn, 1) := by decide +kernel
set_option maxRecDepth 20000 in
theorem ggX9_pull_X9_within : GoodIn wsX9_pull wsX9_within := goodIn_r _ [7] (by decide +kernel) (by decide +kernel)
set_option maxRecDepth 20000 in
theorem gX9_pull_X9_within : GoodIn wsX9_pull (va_wsS RX9 81 yX9_within wsX9_within) := goodIn_app (goodIn_of _ (by decide +kernel)) ggX9_pull_X9_within
set_option maxRecDepth 20000 in
theorem ggX9_pull_X5_add : GoodIn wsX9_pull wsX5_add := goodIn_r _ [12, 13, 14, 15, 27, 28, 29, 30, 31, 32] (by decide +kernel) (by decide +kernel)
set_option maxRecDepth 20000 in
theorem gX9_pull_X5_add : GoodIn wsX9_pull (wsV RX9 210 RX5 yX5_add wsX5_add) := goodIn_app (goodIn_of _ (by decide +kernel)) ggX9_pull_X5_add
theorem dX9_pull_0 : decode cX9_pull 0 = .ok (.iload_n 1, 1) := by decide +kernel
theorem dX9_pull_1 : decode cX9_pull 1 = .ok (.bipush 10, 2) := by decide +kernel
theorem dX9_pull_3 : decode cX9_pull 3 = .ok (.sipush 10000, 3) := by decide +kernel
theorem dX9_pull_6 : decode cX9_pull 6 = .ok (.invokestatic 81, 3) := by decide +kernel
theorem dX9_pull_9 : decode cX9_pull 9 = .ok (.ifCond .eq 13, 3) := by decide +kernel
theorem dX9_pull_12 : decode cX9_pull 12 = .ok (.iload_n 2, 1) := by decide +kernel
theorem dX9_pull_13 : decode cX9_pull 13 = .ok (.iconst 0, 1) := by decide +kernel
theorem dX9_pull_14 : decode cX9_pull 14 = .ok (.ldc 199, 2) := by decide +kernel
theorem dX9_pull_16 : decode cX9_pull 16 = .ok (.invokestatic 81, 3) := by decide +kernel
theorem dX9_pull_19 : decode cX9_pull 19 = .ok (.ifCond .ne 6, 3) := by decide +kernel
theorem dX9_pull_22 : decode cX9_pull 22 = .ok (.bipush (-2), 2) := by decide +kernel
theorem dX9_pull_24 : decode cX9_pull 24 = .ok (.ireturn, 1) := by decide +kernel
theorem dX9_pull_25 : decode cX9_pull 25 = .ok (.aload_n 0, 1) := by decide +kernel
theorem dX9_pull_26 : decode cX9_pull 26 = .ok (.getfield 18, 3) := by decide +kernel
theorem dX9_pull_29 : decode cX9_pull 29 = .ok (.iload_n 1, 1) := by decide +kernel
theorem dX9_pull_30 : decode cX9_pull 30 = .ok (.iload_n 2, 1) := by decide +kernel
theorem dX9_pull_31 : decode cX9_pull 31 = .ok (.invokevirtual 210, 3) := by decide +kernel
theorem dX9_pull_34 : decode cX9_pull 34 = .ok (.ifCond .eq 13, 3) := by decide +kernel
theorem dX9_pull_37 : decode cX9_pull 37 = .ok (.aload_n 0, 1) := by decide +kernel
theorem dX9_pull_38 : decode cX9_pull 38 = .ok (.getfield 18, 3) := by decide +kernel
theorem dX9_pull_41 : decode cX9_pull 41 = .ok (.getfield 211, 3) := by decide +kernel
theorem dX9_pull_44 : decode cX9_pull 44 = .ok (.goto 5, 3) := by decide +kernel
theorem dX9_pull_47 : decode cX9_pull 47 = .ok (.bipush (-4), 2) := by decide +kernel
theorem dX9_pull_49 : decode cX9_pull 49 = .ok (.ireturn, 1) := by decide +kernel
theorem dX9_slack_0 : decode cX9_slack 0 = .ok (.aload_n 0, 1) := by decide +kernel
theorem dX9_slack_1 : decode cX9_slack 1 = .ok (.getfield 18, 3) := by decide +kernel
theorem dX9_slack_4 : decode cX9_slack 4 = .ok (.getfield 211, 3) := by decide +kernel
theorem dX9_slack_7 : decode cX9_slack 7 = .ok (.istore_n 1, 1) := by decide +kernel
theorem dX9_slack_8 : decode cX9_slack 8 = .ok (.aload_n 0, 1) := by decide +kernel
theorem dX9_slack_9 : decode cX9_slack 9 = .ok (.getfield 18, 3) := by decide +kernel
theorem dX9_slack_12 : decode cX9_slack 12 = .ok (.iconst 0, 1) := by decide +kernel
theorem dX9_slack_13 : decode cX9_slack 13 = .ok (.putfield 211, 3) := by decide +kernel
theorem dX9_slack_16 : decode cX9_slack 16 = .ok (.iload_n 1, 1) := by decide +kernel
theorem dX9_slack_17 : decode cX9_slack 17 = .ok (.ireturn, 1) := by decide +kernel
set_option maxRecDepth 20000 in
theorem ggX9_ends_X9_within : GoodIn wsX9_ends wsX9_within := goodIn_r _ [8] (by decide +kernel) (by decide +kernel)
set_option maxRecDepth 20000 in
theorem gX9_ends_X9_within : GoodIn wsX9_ends (va_wsS RX9 81 yX9_within wsX9_within) := goodIn_app (goodIn_of _ (by decide +kernel)) ggX9_ends_X9_within
theorem dX9_ends_0 : decode cX9_ends 0 = .ok (.iload_n 1, 1) := by decide +kernel
theorem dX9_ends_1 : decode cX9_ends 1 = .ok (.iconst 0, 1) := by decide +kernel
theorem dX9_ends_2 : decode cX9_ends 2 = .ok (.bipush 9, 2) := by decide +kernel
theorem dX9_ends_4 : decode cX9_ends 4 = .ok (.invokestatic 81, 3) := by decide +kernel
theorem dX9_ends_7 : decode cX9_ends 7 = .ok (.ifCond .eq 25, 3) := by decide +kernel
theorem dX9_ends_10 : decode cX9_ends 10 = .ok (.iload_n 2, 1) := by decide +kernel
theorem dX9_ends_11 : decode cX9_ends 11 = .ok (.iconst 0, 1) := by decide +kernel
theorem dX9_ends_12 : decode cX9_ends 12 = .ok (.sipush 1000, 3) := by decide +kernel
theorem dX9_ends_15 : decode cX9_ends 15 = .ok (.invokestatic 81, 3) := by decide +kernel
theorem dX9_ends_18 : decode cX9_ends 18 = .ok (.ifCond .eq 14, 3) := by decide +kernel
theorem dX9_ends_21 : decode cX9_ends 21 = .ok (.iload_n 3, 1) := by decide +kernel
theorem dX9_ends_22 : decode cX9_ends 22 = .ok (.iconst 1, 1) := by decide +kernel
theorem dX9_ends_23 : decode cX9_ends 23 = .ok (.sipush 1000, 3) := by decide +kernel
theorem dX9_ends_26 : decode cX9_ends 26 = .ok (.invokestatic 81, 3) := by decide +kernel
theorem dX9_ends_29 : decode cX9_ends 29 = .ok (.ifCond .ne 6, 3) := by decide +kernel
theorem dX9_ends_32 : decode cX9_ends 32 = .ok (.bipush (-2), 2) := by decide +kernel
theorem dX9_ends_34 : decode cX9_ends 34 = .ok (.ireturn, 1) := by decide +kernel
theorem dX9_ends_35 : decode cX9_ends 35 = .ok (.aload_n 0, 1) := by decide +kernel
theorem dX9_ends_36 : decode cX9_ends 36 = .ok (.getfield 18, 3) := by decide +kernel
theorem dX9_ends_39 : decode cX9_ends 39 = .ok (.iload_n 1, 1) := by decide +kernel
theorem dX9_ends_40 : decode cX9_ends 40 = .ok (.putfield 212, 3) := by decide +kernel
theorem dX9_ends_43 : decode cX9_ends 43 = .ok (.aload_n 0, 1) := by decide +kernel
theorem dX9_ends_44 : decode cX9_ends 44 = .ok (.getfield 18, 3) := by decide +kernel
theorem dX9_ends_47 : decode cX9_ends 47 = .ok (.iload_n 2, 1) := by decide +kernel
theorem dX9_ends_48 : decode cX9_ends 48 = .ok (.putfield 215, 3) := by decide +kernel
theorem dX9_ends_51 : decode cX9_ends 51 = .ok (.aload_n 0, 1) := by decide +kernel
theorem dX9_ends_52 : decode cX9_ends 52 = .ok (.getfield 18, 3) := by decide +kernel
theorem dX9_ends_55 : decode cX9_ends 55 = .ok (.iload_n 3, 1) := by decide +kernel
theorem dX9_ends_56 : decode cX9_ends 56 = .ok (.putfield 218, 3) := by decide +kernel
theorem dX9_ends_59 : decode cX9_ends 59 = .ok (.iconst 1, 1) := by decide +kernel
theorem dX9_ends_60 : decode cX9_ends 60 = .ok (.ireturn, 1) := by decide +kernel
set_option maxRecDepth 20000 in
theorem ggX9_free_X9_within : GoodIn wsX9_free wsX9_within := goodIn_r _ [8] (by decide +kernel) (by decide +kernel)
set_option maxRecDepth 20000 in
theorem gX9_free_X9_within : GoodIn wsX9_free (va_wsS RX9 81 yX9_within wsX9_within) := goodIn_app (goodIn_of _ (by decide +kernel)) ggX9_free_X9_within
set_option maxRecDepth 20000 in
theorem ggX9_free_X9_refusal : GoodIn wsX9_free wsX9_refusal := goodIn_r _ [11, 12] (by decide +kernel) (by decide +kernel)
set_option maxRecDepth 20000 in
theorem gX9_free_X9_refusal : GoodIn wsX9_free (va_wsS RX9 164 yX9_refusal wsX9_refusal) := goodIn_app (goodIn_of _ (by decide +kernel)) ggX9_free_X9_refusal
set_option maxRecDepth 20000 in
theorem ggX9_free_X7_become : GoodIn wsX9_free wsX7_become := goodIn_r _ [17, 18, 19, 75, 76] (by decide +kernel) (by decide +kernel)
set_option maxRecDepth 20000 in
theorem gX9_free_X7_become : GoodIn wsX9_free (wsV RX9 223 RX7 yX7_become wsX7_become) := goodIn_app (goodIn_of _ (by decide +kernel)) ggX9_free_X7_become
set_option maxRecDepth 20000 in
theorem ggX9_free_X5_narrow : GoodIn wsX9_free wsX5_narrow := goodIn_r _ [24, 25, 26, 27, 28, 29, 30, 31, 32, 33, 34, 35, 7, 36, 37, 38, 39, 40, 41, 42, 16, 43, 18, 44, 45, 46, 19, 47, 48, 49, 69, 70, 71, 72, 73, 74, 75, 76] (by decide +kernel) (by decide +kernel)
set_option maxRecDepth 20000 in
theorem gX9_free_X5_narrow : GoodIn wsX9_free (wsV RX9 227 RX5 yX5_narrow wsX5_narrow) := goodIn_app (goodIn_of _ (by decide +kernel)) ggX9_free_X5_narrow
set_option maxRecDepth 20000 in
theorem ggX9_free_X7_isEmpty : GoodIn wsX9_free wsX7_isEmpty := goodIn_r _ [53, 18, 19, 75, 76] (by decide +kernel) (by decide +kernel)
set_option maxRecDepth 20000 in
theorem gX9_free_X7_isEmpty : GoodIn wsX9_free (wsV RX9 123 RX7 yX7_isEmpty wsX7_isEmpty) := goodIn_app (goodIn_of _ (by decide +kernel)) ggX9_free_X7_isEmpty
set_option maxRecDepth 20000 in
theorem ggX9_free_X7_end : GoodIn wsX9_free wsX7_end := goodIn_r _ [57, 18, 19, 75, 76] (by decide +kernel) (by decide +kernel)
set_option maxRecDepth 20000 in
theorem gX9_free_X7_end : GoodIn wsX9_free (wsV RX9 127 RX7 yX7_end wsX7_end) := goodIn_app (goodIn_of _ (by decide +kernel)) ggX9_free_X7_end
theorem dX9_free_0 : decode cX9_free 0 = .ok (.iload_n 1, 1) := by decide +kernel
theorem dX9_free_1 : decode cX9_free 1 = .ok (.iconst 0, 1) := by decide +kernel
theorem dX9_free_2 : decode cX9_free 2 = .ok (.iconst 1, 1) := by decide +kernel
theorem dX9_free_3 : decode cX9_free 3 = .ok (.invokestatic 81, 3) := by decide +kernel
theorem dX9_free_6 : decode cX9_free 6 = .ok (.ifCond .ne 9, 3) := by decide +kernel
theorem dX9_free_9 : decode cX9_free 9 = .ok (.bipush (-2), 2) := by decide +kernel
theorem dX9_free_11 : decode cX9_free 11 = .ok (.invokestatic 164, 3) := by decide +kernel
theorem dX9_free_14 : decode cX9_free 14 = .ok (.lreturn, 1) := by decide +kernel
theorem dX9_free_15 : decode cX9_free 15 = .ok (.aload_n 0, 1) := by decide +kernel
theorem dX9_free_16 : decode cX9_free 16 = .ok (.getfield 18, 3) := by decide +kernel
theorem dX9_free_19 : decode cX9_free 19 = .ok (.getfield 211, 3) := by decide +kernel
theorem dX9_free_22 : decode cX9_free 22 = .ok (.ifCond .ne 9, 3) := by decide +kernel
theorem dX9_free_25 : decode cX9_free 25 = .ok (.bipush (-3), 2) := by decide +kernel
theorem dX9_free_27 : decode cX9_free 27 = .ok (.invokestatic 164, 3) := by decide +kernel
theorem dX9_free_30 : decode cX9_free 30 = .ok (.lreturn, 1) := by decide +kernel
theorem dX9_free_31 : decode cX9_free 31 = .ok (.aload_n 0, 1) := by decide +kernel
theorem dX9_free_32 : decode cX9_free 32 = .ok (.getfield 38, 3) := by decide +kernel
theorem dX9_free_35 : decode cX9_free 35 = .ok (.lconst 0, 1) := by decide +kernel
theorem dX9_free_36 : decode cX9_free 36 = .ok (.ldc2_w 221, 3) := by decide +kernel
theorem dX9_free_39 : decode cX9_free 39 = .ok (.invokevirtual 223, 3) := by decide +kernel
theorem dX9_free_42 : decode cX9_free 42 = .ok (.aload_n 0, 1) := by decide +kernel
theorem dX9_free_43 : decode cX9_free 43 = .ok (.getfield 18, 3) := by decide +kernel
theorem dX9_free_46 : decode cX9_free 46 = .ok (.aload_n 0, 1) := by decide +kernel
theorem dX9_free_47 : decode cX9_free 47 = .ok (.getfield 38, 3) := by decide +kernel
theorem dX9_free_50 : decode cX9_free 50 = .ok (.invokevirtual 227, 3) := by decide +kernel
theorem dX9_free_53 : decode cX9_free 53 = .ok (.aload_n 0, 1) := by decide +kernel
theorem dX9_free_54 : decode cX9_free 54 = .ok (.getfield 38, 3) := by decide +kernel
theorem dX9_free_57 : decode cX9_free 57 = .ok (.invokevirtual 123, 3) := by decide +kernel
theorem dX9_free_60 : decode cX9_free 60 = .ok (.ifCond .eq 11, 3) := by decide +kernel
theorem dX9_free_63 : decode cX9_free 63 = .ok (.bipush (-3), 2) := by decide +kernel
theorem dX9_free_65 : decode cX9_free 65 = .ok (.invokestatic 164, 3) := by decide +kernel
theorem dX9_free_68 : decode cX9_free 68 = .ok (.goto 11, 3) := by decide +kernel
theorem dX9_free_71 : decode cX9_free 71 = .ok (.aload_n 0, 1) := by decide +kernel
theorem dX9_free_72 : decode cX9_free 72 = .ok (.getfield 38, 3) := by decide +kernel
theorem dX9_free_75 : decode cX9_free 75 = .ok (.iload_n 1, 1) := by decide +kernel
theorem dX9_free_76 : decode cX9_free 76 = .ok (.invokevirtual 127, 3) := by decide +kernel
theorem dX9_free_79 : decode cX9_free 79 = .ok (.lreturn, 1) := by decide +kernel
set_option maxRecDepth 20000 in
theorem ggX9_begin_X9_isHole : GoodIn wsX9_begin wsX9_isHole := goodIn_r _ [8, 9, 10, 7, 11] (by decide +kernel) (by decide +kernel)
set_option maxRecDepth 20000 in
theorem gX9_begin_X9_isHole : GoodIn wsX9_begin (va_wsS RX9 229 yX9_isHole wsX9_isHole) := goodIn_app (goodIn_of _ (by decide +kernel)) ggX9_begin_X9_isHole
set_option maxRecDepth 20000 in
theorem ggX9_begin_X9_within : GoodIn wsX9_begin wsX9_within := goodIn_r _ [11] (by decide +kernel) (by decide +kernel)
set_option maxRecDepth 20000 in
theorem gX9_begin_X9_within : GoodIn wsX9_begin (va_wsS RX9 81 yX9_within wsX9_within) := goodIn_app (goodIn_of _ (by decide +kernel)) ggX9_begin_X9_within
set_option maxRecDepth 20000 in
theorem ggX9_begin_X4_beginAt : GoodIn wsX9_begin wsX4_beginAt := goodIn_r _ [16, 17, 18, 30, 31, 32] (by decide +kernel) (by decide +kernel)
set_option maxRecDepth 20000 in
theorem gX9_begin_X4_beginAt : GoodIn wsX9_begin (wsV RX9 236 RX4 yX4_beginAt wsX4_beginAt) := goodIn_app (goodIn_of _ (by decide +kernel)) ggX9_begin_X4_beginAt
theorem dX9_begin_0 : decode cX9_begin 0 = .ok (.iload_n 1, 1) := by decide +kernel
theorem dX9_begin_1 : decode cX9_begin 1 = .ok (.invokestatic 229, 3) := by decide +kernel
theorem dX9_begin_4 : decode cX9_begin 4 = .ok (.ifCond .eq 14, 3) := by decide +kernel
theorem dX9_begin_7 : decode cX9_begin 7 = .ok (.iload_n 2, 1) := by decide +kernel
theorem dX9_begin_8 : decode cX9_begin 8 = .ok (.ldc 232, 2) := by decide +kernel
theorem dX9_begin_10 : decode cX9_begin 10 = .ok (.ldc 199, 2) := by decide +kernel
theorem dX9_begin_12 : decode cX9_begin 12 = .ok (.invokestatic 81, 3) := by decide +kernel
theorem dX9_begin_15 : decode cX9_begin 15 = .ok (.ifCond .ne 6, 3) := by decide +kernel
theorem dX9_begin_18 : decode cX9_begin 18 = .ok (.bipush (-2), 2) := by decide +kernel
theorem dX9_begin_20 : decode cX9_begin 20 = .ok (.ireturn, 1) := by decide +kernel
theorem dX9_begin_21 : decode cX9_begin 21 = .ok (.aload_n 0, 1) := by decide +kernel
theorem dX9_begin_22 : decode cX9_begin 22 = .ok (.getfield 24, 3) := by decide +kernel
theorem dX9_begin_25 : decode cX9_begin 25 = .ok (.iload_n 1, 1) := by decide +kernel
theorem dX9_begin_26 : decode cX9_begin 26 = .ok (.aaload, 1) := by decide +kernel
theorem dX9_begin_27 : decode cX9_begin 27 = .ok (.getfield 233, 3) := by decide +kernel
theorem dX9_begin_30 : decode cX9_begin 30 = .ok (.istore_n 3, 1) := by decide +kernel
theorem dX9_begin_31 : decode cX9_begin 31 = .ok (.aload_n 0, 1) := by decide +kernel
theorem dX9_begin_32 : decode cX9_begin 32 = .ok (.getfield 24, 3) := by decide +kernel
theorem dX9_begin_35 : decode cX9_begin 35 = .ok (.iload_n 1, 1) := by decide +kernel
theorem dX9_begin_36 : decode cX9_begin 36 = .ok (.aaload, 1) := by decide +kernel
theorem dX9_begin_37 : decode cX9_begin 37 = .ok (.iload_n 2, 1) := by decide +kernel
theorem dX9_begin_38 : decode cX9_begin 38 = .ok (.invokevirtual 236, 3) := by decide +kernel
theorem dX9_begin_41 : decode cX9_begin 41 = .ok (.iload_n 3, 1) := by decide +kernel
theorem dX9_begin_42 : decode cX9_begin 42 = .ok (.ireturn, 1) := by decide +kernel
set_option maxRecDepth 20000 in
theorem ggX9_station_X9_isHole : GoodIn wsX9_station wsX9_isHole := goodIn_r _ [6, 7, 8, 5, 9] (by decide +kernel) (by decide +kernel)
set_option maxRecDepth 20000 in
theorem gX9_station_X9_isHole : GoodIn wsX9_station (va_wsS RX9 229 yX9_isHole wsX9_isHole) := goodIn_app (goodIn_of _ (by decide +kernel)) ggX9_station_X9_isHole
set_option maxRecDepth 20000 in
theorem ggX9_station_X9_within : GoodIn wsX9_station wsX9_within := goodIn_r _ [9] (by decide +kernel) (by decide +kernel)
set_option maxRecDepth 20000 in
theorem gX9_station_X9_within : GoodIn wsX9_station (va_wsS RX9 81 yX9_within wsX9_within) := goodIn_app (goodIn_of _ (by decide +kernel)) ggX9_station_X9_within
set_option maxRecDepth 20000 in
theorem ggX9_station_X4_goOn : GoodIn wsX9_station wsX4_goOn := goodIn_r _ [14, 15, 16, 17, 18, 19, 31, 32, 33] (by decide +kernel) (by decide +kernel)
set_option maxRecDepth 20000 in
theorem gX9_station_X4_goOn : GoodIn wsX9_station (wsV RX9 240 RX4 yX4_goOn wsX4_goOn) := goodIn_app (goodIn_of _ (by decide +kernel)) ggX9_station_X4_goOn
theorem dX9_station_0 : decode cX9_station 0 = .ok (.iload_n 1, 1) := by decide +kernel
theorem dX9_station_1 : decode cX9_station 1 = .ok (.invokestatic 229, 3) := by decide +kernel
theorem dX9_station_4 : decode cX9_station 4 = .ok (.ifCond .eq 23, 3) := by decide +kernel
theorem dX9_station_7 : decode cX9_station 7 = .ok (.iload_n 2, 1) := by decide +kernel
theorem dX9_station_8 : decode cX9_station 8 = .ok (.iconst 0, 1) := by decide +kernel
theorem dX9_station_9 : decode cX9_station 9 = .ok (.bipush 9, 2) := by decide +kernel
theorem dX9_station_11 : decode cX9_station 11 = .ok (.invokestatic 81, 3) := by decide +kernel
theorem dX9_station_14 : decode cX9_station 14 = .ok (.ifCond .eq 13, 3) := by decide +kernel
theorem dX9_station_17 : decode cX9_station 17 = .ok (.iload_n 3, 1) := by decide +kernel
theorem dX9_station_18 : decode cX9_station 18 = .ok (.iconst (-1), 1) := by decide +kernel
theorem dX9_station_19 : decode cX9_station 19 = .ok (.if_icmp .eq 11, 3) := by decide +kernel
theorem dX9_station_22 : decode cX9_station 22 = .ok (.iload_n 3, 1) := by decide +kernel
theorem dX9_station_23 : decode cX9_station 23 = .ok (.iconst 1, 1) := by decide +kernel
theorem dX9_station_24 : decode cX9_station 24 = .ok (.if_icmp .eq 6, 3) := by decide +kernel
theorem dX9_station_27 : decode cX9_station 27 = .ok (.bipush (-2), 2) := by decide +kernel
theorem dX9_station_29 : decode cX9_station 29 = .ok (.ireturn, 1) := by decide +kernel
theorem dX9_station_30 : decode cX9_station 30 = .ok (.aload_n 0, 1) := by decide +kernel
theorem dX9_station_31 : decode cX9_station 31 = .ok (.getfield 24, 3) := by decide +kernel
theorem dX9_station_34 : decode cX9_station 34 = .ok (.iload_n 1, 1) := by decide +kernel
theorem dX9_station_35 : decode cX9_station 35 = .ok (.aaload, 1) := by decide +kernel
theorem dX9_station_36 : decode cX9_station 36 = .ok (.iload_n 2, 1) := by decide +kernel
theorem dX9_station_37 : decode cX9_station 37 = .ok (.iload_n 3, 1) := by decide +kernel
theorem dX9_station_38 : decode cX9_station 38 = .ok (.invokevirtual 240, 3) := by decide +kernel
theorem dX9_station_41 : decode cX9_station 41 = .ok (.ifCond .eq 15, 3) := by decide +kernel
theorem dX9_station_44 : decode cX9_station 44 = .ok (.aload_n 0, 1) := by decide +kernel
theorem dX9_station_45 : decode cX9_station 45 = .ok (.getfield 24, 3) := by decide +kernel
theorem dX9_station_48 : decode cX9_station 48 = .ok (.iload_n 1, 1) := by decide +kernel
theorem dX9_station_49 : decode cX9_station 49 = .ok (.aaload, 1) := by decide +kernel
theorem dX9_station_50 : decode cX9_station 50 = .ok (.getfield 233, 3) := by decide +kernel
theorem dX9_station_53 : decode cX9_station 53 = .ok (.goto 5, 3) := by decide +kernel
theorem dX9_station_56 : decode cX9_station 56 = .ok (.bipush (-4), 2) := by decide +kernel
theorem dX9_station_58 : decode cX9_station 58 = .ok (.ireturn, 1) := by decide +kernel
set_option maxRecDepth 20000 in
theorem ggX9_place_X9_isHole : GoodIn wsX9_place wsX9_isHole := goodIn_r _ [9, 10, 11, 8, 12] (by decide +kernel) (by decide +kernel)
set_option maxRecDepth 20000 in
theorem gX9_place_X9_isHole : GoodIn wsX9_place (va_wsS RX9 229 yX9_isHole wsX9_isHole) := goodIn_app (goodIn_of _ (by decide +kernel)) ggX9_place_X9_isHole
set_option maxRecDepth 20000 in
theorem ggX9_place_X9_within : GoodIn wsX9_place wsX9_within := goodIn_r _ [12] (by decide +kernel) (by decide +kernel)
set_option maxRecDepth 20000 in
theorem gX9_place_X9_within : GoodIn wsX9_place (va_wsS RX9 81 yX9_within wsX9_within) := goodIn_app (goodIn_of _ (by decide +kernel)) ggX9_place_X9_within
theorem dX9_place_0 : decode cX9_place 0 = .ok (.iload_n 1, 1) := by decide +kernel
theorem dX9_place_1 : decode cX9_place 1 = .ok (.invokestatic 229, 3) := by decide +kernel
theorem dX9_place_4 : decode cX9_place 4 = .ok (.ifCond .eq 29, 3) := by decide +kernel
theorem dX9_place_7 : decode cX9_place 7 = .ok (.iload_n 2, 1) := by decide +kernel
theorem dX9_place_8 : decode cX9_place 8 = .ok (.iconst 0, 1) := by decide +kernel
theorem dX9_place_9 : decode cX9_place 9 = .ok (.aload_n 0, 1) := by decide +kernel
theorem dX9_place_10 : decode cX9_place 10 = .ok (.getfield 24, 3) := by decide +kernel
theorem dX9_place_13 : decode cX9_place 13 = .ok (.iload_n 1, 1) := by decide +kernel
theorem dX9_place_14 : decode cX9_place 14 = .ok (.aaload, 1) := by decide +kernel
theorem dX9_place_15 : decode cX9_place 15 = .ok (.getfield 233, 3) := by decide +kernel
theorem dX9_place_18 : decode cX9_place 18 = .ok (.invokestatic 81, 3) := by decide +kernel
theorem dX9_place_21 : decode cX9_place 21 = .ok (.ifCond .eq 12, 3) := by decide +kernel
theorem dX9_place_24 : decode cX9_place 24 = .ok (.iload_n 3, 1) := by decide +kernel
theorem dX9_place_25 : decode cX9_place 25 = .ok (.iconst 0, 1) := by decide +kernel
theorem dX9_place_26 : decode cX9_place 26 = .ok (.iconst 1, 1) := by decide +kernel
theorem dX9_place_27 : decode cX9_place 27 = .ok (.invokestatic 81, 3) := by decide +kernel
theorem dX9_place_30 : decode cX9_place 30 = .ok (.ifCond .ne 6, 3) := by decide +kernel
theorem dX9_place_33 : decode cX9_place 33 = .ok (.ldc 243, 2) := by decide +kernel
theorem dX9_place_35 : decode cX9_place 35 = .ok (.ireturn, 1) := by decide +kernel
theorem dX9_place_36 : decode cX9_place 36 = .ok (.iload_n 3, 1) := by decide +kernel
theorem dX9_place_37 : decode cX9_place 37 = .ok (.ifCond .ne 17, 3) := by decide +kernel
theorem dX9_place_40 : decode cX9_place 40 = .ok (.aload_n 0, 1) := by decide +kernel
theorem dX9_place_41 : decode cX9_place 41 = .ok (.getfield 24, 3) := by decide +kernel
theorem dX9_place_44 : decode cX9_place 44 = .ok (.iload_n 1, 1) := by decide +kernel
theorem dX9_place_45 : decode cX9_place 45 = .ok (.aaload, 1) := by decide +kernel
theorem dX9_place_46 : decode cX9_place 46 = .ok (.getfield 244, 3) := by decide +kernel
theorem dX9_place_49 : decode cX9_place 49 = .ok (.iload_n 2, 1) := by decide +kernel
theorem dX9_place_50 : decode cX9_place 50 = .ok (.iaload, 1) := by decide +kernel
theorem dX9_place_51 : decode cX9_place 51 = .ok (.goto 14, 3) := by decide +kernel
theorem dX9_place_54 : decode cX9_place 54 = .ok (.aload_n 0, 1) := by decide +kernel
theorem dX9_place_55 : decode cX9_place 55 = .ok (.getfield 24, 3) := by decide +kernel
theorem dX9_place_58 : decode cX9_place 58 = .ok (.iload_n 1, 1) := by decide +kernel
theorem dX9_place_59 : decode cX9_place 59 = .ok (.aaload, 1) := by decide +kernel
theorem dX9_place_60 : decode cX9_place 60 = .ok (.getfield 248, 3) := by decide +kernel
theorem dX9_place_63 : decode cX9_place 63 = .ok (.iload_n 2, 1) := by decide +kernel
theorem dX9_place_64 : decode cX9_place 64 = .ok (.iaload, 1) := by decide +kernel
theorem dX9_place_65 : decode cX9_place 65 = .ok (.ireturn, 1) := by decide +kernel
set_option maxRecDepth 20000 in
theorem ggX9_nearest_X0_find : GoodIn wsX9_nearest wsX0_find := goodIn_r _ [8, 9, 10, 11, 12, 13, 14, 15, 32, 33, 34, 35, 36, 37] (by decide +kernel) (by decide +kernel)
set_option maxRecDepth 20000 in
theorem gX9_nearest_X0_find : GoodIn wsX9_nearest (wsV RX9 251 RX0 yX0_find wsX0_find) := goodIn_app (goodIn_of _ (by decide +kernel)) ggX9_nearest_X0_find
set_option maxRecDepth 20000 in
theorem ggX9_nearest_X9_refusal : GoodIn wsX9_nearest wsX9_refusal := goodIn_r _ [19, 20] (by decide +kernel) (by decide +kernel)
set_option maxRecDepth 20000 in
theorem gX9_nearest_X9_refusal : GoodIn wsX9_nearest (va_wsS RX9 164 yX9_refusal wsX9_refusal) := goodIn_app (goodIn_of _ (by decide +kernel)) ggX9_nearest_X9_refusal
theorem dX9_nearest_0 : decode cX9_nearest 0 = .ok (.aload_n 0, 1) := by decide +kernel
theorem dX9_nearest_1 : decode cX9_nearest 1 = .ok (.getfield 31, 3) := by decide +kernel
theorem dX9_nearest_4 : decode cX9_nearest 4 = .ok (.aload_n 0, 1) := by decide +kernel
theorem dX9_nearest_5 : decode cX9_nearest 5 = .ok (.getfield 24, 3) := by decide +kernel
theorem dX9_nearest_8 : decode cX9_nearest 8 = .ok (.iconst 0, 1) := by decide +kernel
theorem dX9_nearest_9 : decode cX9_nearest 9 = .ok (.aaload, 1) := by decide +kernel
theorem dX9_nearest_10 : decode cX9_nearest 10 = .ok (.aload_n 0, 1) := by decide +kernel
theorem dX9_nearest_11 : decode cX9_nearest 11 = .ok (.getfield 24, 3) := by decide +kernel
theorem dX9_nearest_14 : decode cX9_nearest 14 = .ok (.iconst 1, 1) := by decide +kernel
theorem dX9_nearest_15 : decode cX9_nearest 15 = .ok (.aaload, 1) := by decide +kernel
theorem dX9_nearest_16 : decode cX9_nearest 16 = .ok (.invokevirtual 251, 3) := by decide +kernel
theorem dX9_nearest_19 : decode cX9_nearest 19 = .ok (.ifCond .eq 13, 3) := by decide +kernel
theorem dX9_nearest_22 : decode cX9_nearest 22 = .ok (.aload_n 0, 1) := by decide +kernel
theorem dX9_nearest_23 : decode cX9_nearest 23 = .ok (.getfield 31, 3) := by decide +kernel
theorem dX9_nearest_26 : decode cX9_nearest 26 = .ok (.getfield 255, 3) := by decide +kernel
theorem dX9_nearest_29 : decode cX9_nearest 29 = .ok (.goto 8, 3) := by decide +kernel
theorem dX9_nearest_32 : decode cX9_nearest 32 = .ok (.bipush (-3), 2) := by decide +kernel
theorem dX9_nearest_34 : decode cX9_nearest 34 = .ok (.invokestatic 164, 3) := by decide +kernel
theorem dX9_nearest_37 : decode cX9_nearest 37 = .ok (.lreturn, 1) := by decide +kernel
set_option maxRecDepth 20000 in
theorem ggX9_where_X9_isHole : GoodIn wsX9_where wsX9_isHole := goodIn_r _ [8, 9, 10, 7, 11] (by decide +kernel) (by decide +kernel)
set_option maxRecDepth 20000 in
theorem gX9_where_X9_isHole : GoodIn wsX9_where (va_wsS RX9 229 yX9_isHole wsX9_isHole) := goodIn_app (goodIn_of _ (by decide +kernel)) ggX9_where_X9_isHole
set_option maxRecDepth 20000 in
theorem ggX9_where_X0_find : GoodIn wsX9_where wsX0_find := goodIn_r _ [16, 17, 18, 19, 20, 21, 22, 23, 35, 36, 37, 38, 39, 40] (by decide +kernel) (by decide +kernel)
set_option maxRecDepth 20000 in
theorem gX9_where_X0_find : GoodIn wsX9_where (wsV RX9 251 RX0 yX0_find wsX0_find) := goodIn_app (goodIn_of _ (by decide +kernel)) ggX9_where_X0_find
theorem dX9_where_0 : decode cX9_where 0 = .ok (.iload_n 1, 1) := by decide +kernel
theorem dX9_where_1 : decode cX9_where 1 = .ok (.invokestatic 229, 3) := by decide +kernel
theorem dX9_where_4 : decode cX9_where 4 = .ok (.ifCond .ne 6, 3) := by decide +kernel
theorem dX9_where_7 : decode cX9_where 7 = .ok (.bipush (-2), 2) := by decide +kernel
theorem dX9_where_9 : decode cX9_where 9 = .ok (.ireturn, 1) := by decide +kernel
theorem dX9_where_10 : decode cX9_where 10 = .ok (.aload_n 0, 1) := by decide +kernel
theorem dX9_where_11 : decode cX9_where 11 = .ok (.getfield 31, 3) := by decide +kernel
theorem dX9_where_14 : decode cX9_where 14 = .ok (.aload_n 0, 1) := by decide +kernel
theorem dX9_where_15 : decode cX9_where 15 = .ok (.getfield 24, 3) := by decide +kernel
theorem dX9_where_18 : decode cX9_where 18 = .ok (.iconst 0, 1) := by decide +kernel
theorem dX9_where_19 : decode cX9_where 19 = .ok (.aaload, 1) := by decide +kernel
theorem dX9_where_20 : decode cX9_where 20 = .ok (.aload_n 0, 1) := by decide +kernel
theorem dX9_where_21 : decode cX9_where 21 = .ok (.getfield 24, 3) := by decide +kernel
theorem dX9_where_24 : decode cX9_where 24 = .ok (.iconst 1, 1) := by decide +kernel
theorem dX9_where_25 : decode cX9_where 25 = .ok (.aaload, 1) := by decide +kernel
theorem dX9_where_26 : decode cX9_where 26 = .ok (.invokevirtual 251, 3) := by decide +kernel
theorem dX9_where_29 : decode cX9_where 29 = .ok (.ifCond .ne 6, 3) := by decide +kernel
theorem dX9_where_32 : decode cX9_where 32 = .ok (.bipush (-3), 2) := by decide +kernel
theorem dX9_where_34 : decode cX9_where 34 = .ok (.ireturn, 1) := by decide +kernel
theorem dX9_where_35 : decode cX9_where 35 = .ok (.iload_n 1, 1) := by decide +kernel
theorem dX9_where_36 : decode cX9_where 36 = .ok (.ifCond .ne 13, 3) := by decide +kernel
theorem dX9_where_39 : decode cX9_where 39 = .ok (.aload_n 0, 1) := by decide +kernel
theorem dX9_where_40 : decode cX9_where 40 = .ok (.getfield 31, 3) := by decide +kernel
theorem dX9_where_43 : decode cX9_where 43 = .ok (.getfield 258, 3) := by decide +kernel
theorem dX9_where_46 : decode cX9_where 46 = .ok (.goto 10, 3) := by decide +kernel
theorem dX9_where_49 : decode cX9_where 49 = .ok (.aload_n 0, 1) := by decide +kernel
theorem dX9_where_50 : decode cX9_where 50 = .ok (.getfield 31, 3) := by decide +kernel
theorem dX9_where_53 : decode cX9_where 53 = .ok (.getfield 261, 3) := by decide +kernel
theorem dX9_where_56 : decode cX9_where 56 = .ok (.ireturn, 1) := by decide +kernel
set_option maxRecDepth 20000 in
theorem ggX9_sheet_X9_isSheet : GoodIn wsX9_sheet wsX9_isSheet := goodIn_r _ [5, 6, 7, 4, 8] (by decide +kernel) (by decide +kernel)
set_option maxRecDepth 20000 in
theorem gX9_sheet_X9_isSheet : GoodIn wsX9_sheet (va_wsS RX9 264 yX9_isSheet wsX9_isSheet) := goodIn_app (goodIn_of _ (by decide +kernel)) ggX9_sheet_X9_isSheet
set_option maxRecDepth 20000 in
theorem ggX9_sheet_X9_isForm : GoodIn wsX9_sheet wsX9_isForm := goodIn_r _ [11, 6, 7, 4, 8] (by decide +kernel) (by decide +kernel)
set_option maxRecDepth 20000 in
theorem gX9_sheet_X9_isForm : GoodIn wsX9_sheet (va_wsS RX9 267 yX9_isForm wsX9_isForm) := goodIn_app (goodIn_of _ (by decide +kernel)) ggX9_sheet_X9_isForm
set_option maxRecDepth 20000 in
theorem ggX9_sheet_X9_found : GoodIn wsX9_sheet wsX9_found := goodIn_r _ [15, 16, 30, 31, 32, 33, 34, 35, 36, 37, 38, 39, 40] (by decide +kernel) (by decide +kernel)
set_option maxRecDepth 20000 in
theorem gX9_sheet_X9_found : GoodIn wsX9_sheet (wsV RX9 270 RX9 yX9_found wsX9_found) := goodIn_app (goodIn_of _ (by decide +kernel)) ggX9_sheet_X9_found
set_option maxRecDepth 20000 in
theorem ggX9_sheet_X6_renew : GoodIn wsX9_sheet wsX6_renew := goodIn_r _ [21, 22, 23, 24, 25, 26, 27, 28, 29, 41, 42, 43, 44] (by decide +kernel) (by decide +kernel)
set_option maxRecDepth 20000 in
theorem gX9_sheet_X6_renew : GoodIn wsX9_sheet (wsV RX9 273 RX6 yX6_renew wsX6_renew) := goodIn_app (goodIn_of _ (by decide +kernel)) ggX9_sheet_X6_renew
theorem dX9_sheet_0 : decode cX9_sheet 0 = .ok (.iload_n 1, 1) := by decide +kernel
theorem dX9_sheet_1 : decode cX9_sheet 1 = .ok (.invokestatic 264, 3) := by decide +kernel
theorem dX9_sheet_4 : decode cX9_sheet 4 = .ok (.ifCond .eq 16, 3) := by decide +kernel
theorem dX9_sheet_7 : decode cX9_sheet 7 = .ok (.iload_n 2, 1) := by decide +kernel
theorem dX9_sheet_8 : decode cX9_sheet 8 = .ok (.invokestatic 267, 3) := by decide +kernel
theorem dX9_sheet_11 : decode cX9_sheet 11 = .ok (.ifCond .eq 9, 3) := by decide +kernel
theorem dX9_sheet_14 : decode cX9_sheet 14 = .ok (.iload_n 3, 1) := by decide +kernel
theorem dX9_sheet_15 : decode cX9_sheet 15 = .ok (.bipush 60, 2) := by decide +kernel
theorem dX9_sheet_17 : decode cX9_sheet 17 = .ok (.if_icmp .le 6, 3) := by decide +kernel
theorem dX9_sheet_20 : decode cX9_sheet 20 = .ok (.bipush (-2), 2) := by decide +kernel
theorem dX9_sheet_22 : decode cX9_sheet 22 = .ok (.ireturn, 1) := by decide +kernel
theorem dX9_sheet_23 : decode cX9_sheet 23 = .ok (.iload_n 3, 1) := by decide +kernel
theorem dX9_sheet_24 : decode cX9_sheet 24 = .ok (.ifCond .ge 9, 3) := by decide +kernel
theorem dX9_sheet_27 : decode cX9_sheet 27 = .ok (.aload_n 0, 1) := by decide +kernel
theorem dX9_sheet_28 : decode cX9_sheet 28 = .ok (.iconst 5, 1) := by decide +kernel
theorem dX9_sheet_29 : decode cX9_sheet 29 = .ok (.invokevirtual 270, 3) := by decide +kernel
theorem dX9_sheet_32 : decode cX9_sheet 32 = .ok (.ireturn, 1) := by decide +kernel
theorem dX9_sheet_33 : decode cX9_sheet 33 = .ok (.aload_n 0, 1) := by decide +kernel
theorem dX9_sheet_34 : decode cX9_sheet 34 = .ok (.getfield 11, 3) := by decide +kernel
theorem dX9_sheet_37 : decode cX9_sheet 37 = .ok (.iload_n 1, 1) := by decide +kernel
theorem dX9_sheet_38 : decode cX9_sheet 38 = .ok (.aaload, 1) := by decide +kernel
theorem dX9_sheet_39 : decode cX9_sheet 39 = .ok (.iload_n 2, 1) := by decide +kernel
theorem dX9_sheet_40 : decode cX9_sheet 40 = .ok (.iload_n 3, 1) := by decide +kernel
theorem dX9_sheet_41 : decode cX9_sheet 41 = .ok (.invokevirtual 273, 3) := by decide +kernel
theorem dX9_sheet_44 : decode cX9_sheet 44 = .ok (.iload_n 3, 1) := by decide +kernel
theorem dX9_sheet_45 : decode cX9_sheet 45 = .ok (.ireturn, 1) := by decide +kernel
set_option maxRecDepth 20000 in
theorem ggX9_lose_X9_isSheet : GoodIn wsX9_lose wsX9_isSheet := goodIn_r _ [7, 8, 9, 6, 10] (by decide +kernel) (by decide +kernel)
set_option maxRecDepth 20000 in
theorem gX9_lose_X9_isSheet : GoodIn wsX9_lose (va_wsS RX9 264 yX9_isSheet wsX9_isSheet) := goodIn_app (goodIn_of _ (by decide +kernel)) ggX9_lose_X9_isSheet
set_option maxRecDepth 20000 in
theorem ggX9_lose_X9_found : GoodIn wsX9_lose wsX9_found := goodIn_r _ [14, 15, 23, 24, 25, 26, 27, 28, 29, 30, 31, 32, 33] (by decide +kernel) (by decide +kernel)
set_option maxRecDepth 20000 in
theorem gX9_lose_X9_found : GoodIn wsX9_lose (wsV RX9 270 RX9 yX9_found wsX9_found) := goodIn_app (goodIn_of _ (by decide +kernel)) ggX9_lose_X9_found
set_option maxRecDepth 20000 in
theorem ggX9_lose_X6_becomeLost : GoodIn wsX9_lose wsX6_becomeLost := goodIn_r _ [20, 21, 22, 34, 35, 36, 37] (by decide +kernel) (by decide +kernel)
set_option maxRecDepth 20000 in
theorem gX9_lose_X6_becomeLost : GoodIn wsX9_lose (wsV RX9 284 RX6 yX6_becomeLost wsX6_becomeLost) := goodIn_app (goodIn_of _ (by decide +kernel)) ggX9_lose_X6_becomeLost
theorem dX9_lose_0 : decode cX9_lose 0 = .ok (.iload_n 1, 1) := by decide +kernel
theorem dX9_lose_1 : decode cX9_lose 1 = .ok (.invokestatic 264, 3) := by decide +kernel
theorem dX9_lose_4 : decode cX9_lose 4 = .ok (.ifCond .ne 6, 3) := by decide +kernel
theorem dX9_lose_7 : decode cX9_lose 7 = .ok (.bipush (-2), 2) := by decide +kernel
theorem dX9_lose_9 : decode cX9_lose 9 = .ok (.ireturn, 1) := by decide +kernel
theorem dX9_lose_10 : decode cX9_lose 10 = .ok (.aload_n 0, 1) := by decide +kernel
theorem dX9_lose_11 : decode cX9_lose 11 = .ok (.getfield 11, 3) := by decide +kernel
theorem dX9_lose_14 : decode cX9_lose 14 = .ok (.iload_n 1, 1) := by decide +kernel
theorem dX9_lose_15 : decode cX9_lose 15 = .ok (.aaload, 1) := by decide +kernel
theorem dX9_lose_16 : decode cX9_lose 16 = .ok (.getfield 277, 3) := by decide +kernel
theorem dX9_lose_19 : decode cX9_lose 19 = .ok (.ifCond .eq 9, 3) := by decide +kernel
theorem dX9_lose_22 : decode cX9_lose 22 = .ok (.aload_n 0, 1) := by decide +kernel
theorem dX9_lose_23 : decode cX9_lose 23 = .ok (.iconst 1, 1) := by decide +kernel
theorem dX9_lose_24 : decode cX9_lose 24 = .ok (.invokevirtual 270, 3) := by decide +kernel
theorem dX9_lose_27 : decode cX9_lose 27 = .ok (.ireturn, 1) := by decide +kernel
theorem dX9_lose_28 : decode cX9_lose 28 = .ok (.aload_n 0, 1) := by decide +kernel
theorem dX9_lose_29 : decode cX9_lose 29 = .ok (.getfield 11, 3) := by decide +kernel
theorem dX9_lose_32 : decode cX9_lose 32 = .ok (.iload_n 1, 1) := by decide +kernel
theorem dX9_lose_33 : decode cX9_lose 33 = .ok (.aaload, 1) := by decide +kernel
theorem dX9_lose_34 : decode cX9_lose 34 = .ok (.getfield 281, 3) := by decide +kernel
theorem dX9_lose_37 : decode cX9_lose 37 = .ok (.istore_n 2, 1) := by decide +kernel
theorem dX9_lose_38 : decode cX9_lose 38 = .ok (.aload_n 0, 1) := by decide +kernel
theorem dX9_lose_39 : decode cX9_lose 39 = .ok (.getfield 11, 3) := by decide +kernel
theorem dX9_lose_42 : decode cX9_lose 42 = .ok (.iload_n 1, 1) := by decide +kernel
theorem dX9_lose_43 : decode cX9_lose 43 = .ok (.aaload, 1) := by decide +kernel
theorem dX9_lose_44 : decode cX9_lose 44 = .ok (.invokevirtual 284, 3) := by decide +kernel
theorem dX9_lose_47 : decode cX9_lose 47 = .ok (.iload_n 2, 1) := by decide +kernel
theorem dX9_lose_48 : decode cX9_lose 48 = .ok (.ireturn, 1) := by decide +kernel
set_option maxRecDepth 20000 in
theorem ggX9_put_X9_isSheet : GoodIn wsX9_put wsX9_isSheet := goodIn_r _ [6, 7, 8, 5, 9] (by decide +kernel) (by decide +kernel)
set_option maxRecDepth 20000 in
theorem gX9_put_X9_isSheet : GoodIn wsX9_put (va_wsS RX9 264 yX9_isSheet wsX9_isSheet) := goodIn_app (goodIn_of _ (by decide +kernel)) ggX9_put_X9_isSheet
set_option maxRecDepth 20000 in
theorem ggX9_put_X9_isForm : GoodIn wsX9_put wsX9_isForm := goodIn_r _ [12, 7, 8, 5, 9] (by decide +kernel) (by decide +kernel)
set_option maxRecDepth 20000 in
theorem gX9_put_X9_isForm : GoodIn wsX9_put (va_wsS RX9 267 yX9_isForm wsX9_isForm) := goodIn_app (goodIn_of _ (by decide +kernel)) ggX9_put_X9_isForm
set_option maxRecDepth 20000 in
theorem ggX9_put_X6_wrongWith : GoodIn wsX9_put wsX6_wrongWith := goodIn_r _ [17, 18, 19, 20, 8, 5, 9, 40, 41, 42, 43] (by decide +kernel) (by decide +kernel)
set_option maxRecDepth 20000 in
theorem gX9_put_X6_wrongWith : GoodIn wsX9_put (wsV RX9 287 RX6 yX6_wrongWith wsX6_wrongWith) := goodIn_app (goodIn_of _ (by decide +kernel)) ggX9_put_X6_wrongWith
set_option maxRecDepth 20000 in
theorem ggX9_put_X9_found : GoodIn wsX9_put wsX9_found := goodIn_r _ [24, 25, 29, 30, 31, 32, 33, 34, 35, 36, 37, 38, 39] (by decide +kernel) (by decide +kernel)
set_option maxRecDepth 20000 in
theorem gX9_put_X9_found : GoodIn wsX9_put (wsV RX9 270 RX9 yX9_found wsX9_found) := goodIn_app (goodIn_of _ (by decide +kernel)) ggX9_put_X9_found
set_option maxRecDepth 20000 in
theorem ggX9_put_X9_lowestBits : GoodIn wsX9_put wsX9_lowestBits := goodIn_r _ [28] (by decide +kernel) (by decide +kernel)
set_option maxRecDepth 20000 in
theorem gX9_put_X9_lowestBits : GoodIn wsX9_put (va_wsS RX9 293 yX9_lowestBits wsX9_lowestBits) := goodIn_app (goodIn_of _ (by decide +kernel)) ggX9_put_X9_lowestBits
theorem dX9_put_0 : decode cX9_put 0 = .ok (.iload_n 1, 1) := by decide +kernel
theorem dX9_put_1 : decode cX9_put 1 = .ok (.invokestatic 264, 3) := by decide +kernel
theorem dX9_put_4 : decode cX9_put 4 = .ok (.ifCond .eq 10, 3) := by decide +kernel
theorem dX9_put_7 : decode cX9_put 7 = .ok (.iload_n 2, 1) := by decide +kernel
theorem dX9_put_8 : decode cX9_put 8 = .ok (.invokestatic 267, 3) := by decide +kernel
theorem dX9_put_11 : decode cX9_put 11 = .ok (.ifCond .ne 6, 3) := by decide +kernel
theorem dX9_put_14 : decode cX9_put 14 = .ok (.bipush (-2), 2) := by decide +kernel
theorem dX9_put_16 : decode cX9_put 16 = .ok (.ireturn, 1) := by decide +kernel
theorem dX9_put_17 : decode cX9_put 17 = .ok (.aload_n 0, 1) := by decide +kernel
theorem dX9_put_18 : decode cX9_put 18 = .ok (.getfield 11, 3) := by decide +kernel
theorem dX9_put_21 : decode cX9_put 21 = .ok (.iload_n 1, 1) := by decide +kernel
theorem dX9_put_22 : decode cX9_put 22 = .ok (.aaload, 1) := by decide +kernel
theorem dX9_put_23 : decode cX9_put 23 = .ok (.iload_n 2, 1) := by decide +kernel
theorem dX9_put_24 : decode cX9_put 24 = .ok (.iload_n 3, 1) := by decide +kernel
theorem dX9_put_25 : decode cX9_put 25 = .ok (.invokevirtual 287, 3) := by decide +kernel
theorem dX9_put_28 : decode cX9_put 28 = .ok (.istore 5, 2) := by decide +kernel
theorem dX9_put_30 : decode cX9_put 30 = .ok (.iload 5, 2) := by decide +kernel
theorem dX9_put_32 : decode cX9_put 32 = .ok (.ifCond .eq 10, 3) := by decide +kernel
theorem dX9_put_35 : decode cX9_put 35 = .ok (.aload_n 0, 1) := by decide +kernel
theorem dX9_put_36 : decode cX9_put 36 = .ok (.iload 5, 2) := by decide +kernel
theorem dX9_put_38 : decode cX9_put 38 = .ok (.invokevirtual 270, 3) := by decide +kernel
theorem dX9_put_41 : decode cX9_put 41 = .ok (.ireturn, 1) := by decide +kernel
theorem dX9_put_42 : decode cX9_put 42 = .ok (.aload_n 0, 1) := by decide +kernel
theorem dX9_put_43 : decode cX9_put 43 = .ok (.getfield 11, 3) := by decide +kernel
theorem dX9_put_46 : decode cX9_put 46 = .ok (.iload_n 1, 1) := by decide +kernel
theorem dX9_put_47 : decode cX9_put 47 = .ok (.aaload, 1) := by decide +kernel
theorem dX9_put_48 : decode cX9_put 48 = .ok (.getfield 290, 3) := by decide +kernel
theorem dX9_put_51 : decode cX9_put 51 = .ok (.iload_n 3, 1) := by decide +kernel
theorem dX9_put_52 : decode cX9_put 52 = .ok (.iload_n 2, 1) := by decide +kernel
theorem dX9_put_53 : decode cX9_put 53 = .ok (.iload 4, 2) := by decide +kernel
theorem dX9_put_55 : decode cX9_put 55 = .ok (.invokestatic 293, 3) := by decide +kernel
theorem dX9_put_58 : decode cX9_put 58 = .ok (.iastore, 1) := by decide +kernel
theorem dX9_put_59 : decode cX9_put 59 = .ok (.iconst 1, 1) := by decide +kernel
theorem dX9_put_60 : decode cX9_put 60 = .ok (.ireturn, 1) := by decide +kernel
set_option maxRecDepth 20000 in
theorem ggX9_get_X9_isSheet : GoodIn wsX9_get wsX9_isSheet := goodIn_r _ [7, 8, 9, 6, 10] (by decide +kernel) (by decide +kernel)
set_option maxRecDepth 20000 in
theorem gX9_get_X9_isSheet : GoodIn wsX9_get (va_wsS RX9 264 yX9_isSheet wsX9_isSheet) := goodIn_app (goodIn_of _ (by decide +kernel)) ggX9_get_X9_isSheet
set_option maxRecDepth 20000 in
theorem ggX9_get_X9_isForm : GoodIn wsX9_get wsX9_isForm := goodIn_r _ [13, 8, 9, 6, 10] (by decide +kernel) (by decide +kernel)
set_option maxRecDepth 20000 in
theorem gX9_get_X9_isForm : GoodIn wsX9_get (va_wsS RX9 267 yX9_isForm wsX9_isForm) := goodIn_app (goodIn_of _ (by decide +kernel)) ggX9_get_X9_isForm
set_option maxRecDepth 20000 in
theorem ggX9_get_X6_wrongWith : GoodIn wsX9_get wsX6_wrongWith := goodIn_r _ [18, 19, 20, 21, 9, 6, 10, 38, 39, 40, 41] (by decide +kernel) (by decide +kernel)
set_option maxRecDepth 20000 in
theorem gX9_get_X6_wrongWith : GoodIn wsX9_get (wsV RX9 287 RX6 yX6_wrongWith wsX6_wrongWith) := goodIn_app (goodIn_of _ (by decide +kernel)) ggX9_get_X6_wrongWith
set_option maxRecDepth 20000 in
theorem ggX9_get_X9_found : GoodIn wsX9_get wsX9_found := goodIn_r _ [25, 26, 27, 28, 29, 30, 31, 32, 33, 34, 35, 36, 37] (by decide +kernel) (by decide +kernel)
set_option maxRecDepth 20000 in
theorem gX9_get_X9_found : GoodIn wsX9_get (wsV RX9 270 RX9 yX9_found wsX9_found) := goodIn_app (goodIn_of _ (by decide +kernel)) ggX9_get_X9_found
theorem dX9_get_0 : decode cX9_get 0 = .ok (.iload_n 1, 1) := by decide +kernel
theorem dX9_get_1 : decode cX9_get 1 = .ok (.invokestatic 264, 3) := by decide +kernel
theorem dX9_get_4 : decode cX9_get 4 = .ok (.ifCond .eq 10, 3) := by decide +kernel
theorem dX9_get_7 : decode cX9_get 7 = .ok (.iload_n 2, 1) := by decide +kernel
theorem dX9_get_8 : decode cX9_get 8 = .ok (.invokestatic 267, 3) := by decide +kernel
theorem dX9_get_11 : decode cX9_get 11 = .ok (.ifCond .ne 6, 3) := by decide +kernel
theorem dX9_get_14 : decode cX9_get 14 = .ok (.ldc 243, 2) := by decide +kernel
theorem dX9_get_16 : decode cX9_get 16 = .ok (.ireturn, 1) := by decide +kernel
theorem dX9_get_17 : decode cX9_get 17 = .ok (.aload_n 0, 1) := by decide +kernel
theorem dX9_get_18 : decode cX9_get 18 = .ok (.getfield 11, 3) := by decide +kernel
theorem dX9_get_21 : decode cX9_get 21 = .ok (.iload_n 1, 1) := by decide +kernel
theorem dX9_get_22 : decode cX9_get 22 = .ok (.aaload, 1) := by decide +kernel
theorem dX9_get_23 : decode cX9_get 23 = .ok (.iload_n 2, 1) := by decide +kernel
theorem dX9_get_24 : decode cX9_get 24 = .ok (.iload_n 3, 1) := by decide +kernel
theorem dX9_get_25 : decode cX9_get 25 = .ok (.invokevirtual 287, 3) := by decide +kernel
theorem dX9_get_28 : decode cX9_get 28 = .ok (.istore 4, 2) := by decide +kernel
theorem dX9_get_30 : decode cX9_get 30 = .ok (.iload 4, 2) := by decide +kernel
theorem dX9_get_32 : decode cX9_get 32 = .ok (.ifCond .eq 13, 3) := by decide +kernel
theorem dX9_get_35 : decode cX9_get 35 = .ok (.aload_n 0, 1) := by decide +kernel
theorem dX9_get_36 : decode cX9_get 36 = .ok (.iload 4, 2) := by decide +kernel
theorem dX9_get_38 : decode cX9_get 38 = .ok (.invokevirtual 270, 3) := by decide +kernel
theorem dX9_get_41 : decode cX9_get 41 = .ok (.pop, 1) := by decide +kernel
theorem dX9_get_42 : decode cX9_get 42 = .ok (.ldc 243, 2) := by decide +kernel
theorem dX9_get_44 : decode cX9_get 44 = .ok (.ireturn, 1) := by decide +kernel
theorem dX9_get_45 : decode cX9_get 45 = .ok (.aload_n 0, 1) := by decide +kernel
theorem dX9_get_46 : decode cX9_get 46 = .ok (.getfield 11, 3) := by decide +kernel
theorem dX9_get_49 : decode cX9_get 49 = .ok (.iload_n 1, 1) := by decide +kernel
theorem dX9_get_50 : decode cX9_get 50 = .ok (.aaload, 1) := by decide +kernel
theorem dX9_get_51 : decode cX9_get 51 = .ok (.getfield 290, 3) := by decide +kernel
theorem dX9_get_54 : decode cX9_get 54 = .ok (.iload_n 3, 1) := by decide +kernel
theorem dX9_get_55 : decode cX9_get 55 = .ok (.iaload, 1) := by decide +kernel
theorem dX9_get_56 : decode cX9_get 56 = .ok (.ireturn, 1) := by decide +kernel
set_option maxRecDepth 20000 in
theorem ggX9_copy_X9_isSheet : GoodIn wsX9_copy wsX9_isSheet := goodIn_r _ [12, 13, 14, 11, 15] (by decide +kernel) (by decide +kernel)
set_option maxRecDepth 20000 in
theorem gX9_copy_X9_isSheet : GoodIn wsX9_copy (va_wsS RX9 264 yX9_isSheet wsX9_isSheet) := goodIn_app (goodIn_of _ (by decide +kernel)) ggX9_copy_X9_isSheet
set_option maxRecDepth 20000 in
theorem ggX9_copy_X9_found : GoodIn wsX9_copy wsX9_found := goodIn_r _ [19, 20, 27, 28, 29, 30, 31, 32, 33, 34, 35, 36, 37] (by decide +kernel) (by decide +kernel)
set_option maxRecDepth 20000 in
theorem gX9_copy_X9_found : GoodIn wsX9_copy (wsV RX9 270 RX9 yX9_found wsX9_found) := goodIn_app (goodIn_of _ (by decide +kernel)) ggX9_copy_X9_found
set_option maxRecDepth 20000 in
theorem ggX9_copy_X6_hasRun : GoodIn wsX9_copy wsX6_hasRun := goodIn_r _ [25, 26, 14, 11, 15, 38, 39, 40, 41] (by decide +kernel) (by decide +kernel)
set_option maxRecDepth 20000 in
theorem gX9_copy_X6_hasRun : GoodIn wsX9_copy (wsV RX9 299 RX6 yX6_hasRun wsX6_hasRun) := goodIn_app (goodIn_of _ (by decide +kernel)) ggX9_copy_X6_hasRun
theorem dX9_copy_0 : decode cX9_copy 0 = .ok (.iload_n 1, 1) := by decide +kernel
theorem dX9_copy_1 : decode cX9_copy 1 = .ok (.invokestatic 264, 3) := by decide +kernel
theorem dX9_copy_4 : decode cX9_copy 4 = .ok (.ifCond .eq 10, 3) := by decide +kernel
theorem dX9_copy_7 : decode cX9_copy 7 = .ok (.iload_n 3, 1) := by decide +kernel
theorem dX9_copy_8 : decode cX9_copy 8 = .ok (.invokestatic 264, 3) := by decide +kernel
theorem dX9_copy_11 : decode cX9_copy 11 = .ok (.ifCond .ne 6, 3) := by decide +kernel
theorem dX9_copy_14 : decode cX9_copy 14 = .ok (.bipush (-2), 2) := by decide +kernel
theorem dX9_copy_16 : decode cX9_copy 16 = .ok (.ireturn, 1) := by decide +kernel
theorem dX9_copy_17 : decode cX9_copy 17 = .ok (.aload_n 0, 1) := by decide +kernel
theorem dX9_copy_18 : decode cX9_copy 18 = .ok (.getfield 11, 3) := by decide +kernel
theorem dX9_copy_21 : decode cX9_copy 21 = .ok (.iload_n 1, 1) := by decide +kernel
theorem dX9_copy_22 : decode cX9_copy 22 = .ok (.aaload, 1) := by decide +kernel
theorem dX9_copy_23 : decode cX9_copy 23 = .ok (.astore 6, 2) := by decide +kernel
theorem dX9_copy_25 : decode cX9_copy 25 = .ok (.aload_n 0, 1) := by decide +kernel
theorem dX9_copy_26 : decode cX9_copy 26 = .ok (.getfield 11, 3) := by decide +kernel
theorem dX9_copy_29 : decode cX9_copy 29 = .ok (.iload_n 3, 1) := by decide +kernel
theorem dX9_copy_30 : decode cX9_copy 30 = .ok (.aaload, 1) := by decide +kernel
theorem dX9_copy_31 : decode cX9_copy 31 = .ok (.astore 7, 2) := by decide +kernel
theorem dX9_copy_33 : decode cX9_copy 33 = .ok (.aload 6, 2) := by decide +kernel
theorem dX9_copy_35 : decode cX9_copy 35 = .ok (.getfield 277, 3) := by decide +kernel
theorem dX9_copy_38 : decode cX9_copy 38 = .ok (.ifCond .ne 11, 3) := by decide +kernel
theorem dX9_copy_41 : decode cX9_copy 41 = .ok (.aload 7, 2) := by decide +kernel
theorem dX9_copy_43 : decode cX9_copy 43 = .ok (.getfield 277, 3) := by decide +kernel
theorem dX9_copy_46 : decode cX9_copy 46 = .ok (.ifCond .eq 9, 3) := by decide +kernel
theorem dX9_copy_49 : decode cX9_copy 49 = .ok (.aload_n 0, 1) := by decide +kernel
theorem dX9_copy_50 : decode cX9_copy 50 = .ok (.iconst 1, 1) := by decide +kernel
theorem dX9_copy_51 : decode cX9_copy 51 = .ok (.invokevirtual 270, 3) := by decide +kernel
theorem dX9_copy_54 : decode cX9_copy 54 = .ok (.ireturn, 1) := by decide +kernel
theorem dX9_copy_55 : decode cX9_copy 55 = .ok (.aload 6, 2) := by decide +kernel
theorem dX9_copy_57 : decode cX9_copy 57 = .ok (.getfield 296, 3) := by decide +kernel
theorem dX9_copy_60 : decode cX9_copy 60 = .ok (.aload 7, 2) := by decide +kernel
theorem dX9_copy_62 : decode cX9_copy 62 = .ok (.getfield 296, 3) := by decide +kernel
theorem dX9_copy_65 : decode cX9_copy 65 = .ok (.if_icmp .eq 9, 3) := by decide +kernel
theorem dX9_copy_68 : decode cX9_copy 68 = .ok (.aload_n 0, 1) := by decide +kernel
theorem dX9_copy_69 : decode cX9_copy 69 = .ok (.iconst 4, 1) := by decide +kernel
theorem dX9_copy_70 : decode cX9_copy 70 = .ok (.invokevirtual 270, 3) := by decide +kernel
theorem dX9_copy_73 : decode cX9_copy 73 = .ok (.ireturn, 1) := by decide +kernel
theorem dX9_copy_74 : decode cX9_copy 74 = .ok (.aload 6, 2) := by decide +kernel
theorem dX9_copy_76 : decode cX9_copy 76 = .ok (.iload_n 2, 1) := by decide +kernel
theorem dX9_copy_77 : decode cX9_copy 77 = .ok (.iload 5, 2) := by decide +kernel
theorem dX9_copy_79 : decode cX9_copy 79 = .ok (.invokevirtual 299, 3) := by decide +kernel
theorem dX9_copy_82 : decode cX9_copy 82 = .ok (.ifCond .eq 15, 3) := by decide +kernel
theorem dX9_copy_85 : decode cX9_copy 85 = .ok (.aload 7, 2) := by decide +kernel
theorem dX9_copy_87 : decode cX9_copy 87 = .ok (.iload 4, 2) := by decide +kernel
theorem dX9_copy_89 : decode cX9_copy 89 = .ok (.iload 5, 2) := by decide +kernel
theorem dX9_copy_91 : decode cX9_copy 91 = .ok (.invokevirtual 299, 3) := by decide +kernel
theorem dX9_copy_94 : decode cX9_copy 94 = .ok (.ifCond .ne 9, 3) := by decide +kernel
theorem dX9_copy_97 : decode cX9_copy 97 = .ok (.aload_n 0, 1) := by decide +kernel
theorem dX9_copy_98 : decode cX9_copy 98 = .ok (.iconst 2, 1) := by decide +kernel
theorem dX9_copy_99 : decode cX9_copy 99 = .ok (.invokevirtual 270, 3) := by decide +kernel
theorem dX9_copy_102 : decode cX9_copy 102 = .ok (.ireturn, 1) := by decide +kernel
theorem dX9_copy_103 : decode cX9_copy 103 = .ok (.aload 6, 2) := by decide +kernel
theorem dX9_copy_105 : decode cX9_copy 105 = .ok (.getfield 290, 3) := by decide +kernel
theorem dX9_copy_108 : decode cX9_copy 108 = .ok (.iload_n 2, 1) := by decide +kernel
theorem dX9_copy_109 : decode cX9_copy 109 = .ok (.aload 7, 2) := by decide +kernel
theorem dX9_copy_111 : decode cX9_copy 111 = .ok (.getfield 290, 3) := by decide +kernel
theorem dX9_copy_114 : decode cX9_copy 114 = .ok (.iload 4, 2) := by decide +kernel
theorem dX9_copy_116 : decode cX9_copy 116 = .ok (.iload 5, 2) := by decide +kernel
theorem dX9_copy_118 : decode cX9_copy 118 = .ok (.invokestatic 302, 3) := by decide +kernel
theorem dX9_copy_121 : decode cX9_copy 121 = .ok (.iconst 1, 1) := by decide +kernel
theorem dX9_copy_122 : decode cX9_copy 122 = .ok (.ireturn, 1) := by decide +kernel
theorem dX9_count_0 : decode cX9_count 0 = .ok (.iload_n 1, 1) := by decide +kernel
theorem dX9_count_1 : decode cX9_count 1 = .ok (.tableswitch 120 0 7 #[47, 55, 63, 71, 79, 99, 104, 112], 47) := by decide +kernel
theorem dX9_count_48 : decode cX9_count 48 = .ok (.aload_n 0, 1) := by decide +kernel
theorem dX9_count_49 : decode cX9_count 49 = .ok (.getfield 58, 3) := by decide +kernel
theorem dX9_count_52 : decode cX9_count 52 = .ok (.getfield 85, 3) := by decide +kernel
theorem dX9_count_55 : decode cX9_count 55 = .ok (.ireturn, 1) := by decide +kernel
theorem dX9_count_56 : decode cX9_count 56 = .ok (.aload_n 0, 1) := by decide +kernel
theorem dX9_count_57 : decode cX9_count 57 = .ok (.getfield 58, 3) := by decide +kernel
theorem dX9_count_60 : decode cX9_count 60 = .ok (.getfield 89, 3) := by decide +kernel
theorem dX9_count_63 : decode cX9_count 63 = .ok (.ireturn, 1) := by decide +kernel
theorem dX9_count_64 : decode cX9_count 64 = .ok (.aload_n 0, 1) := by decide +kernel
theorem dX9_count_65 : decode cX9_count 65 = .ok (.getfield 65, 3) := by decide +kernel
theorem dX9_count_68 : decode cX9_count 68 = .ok (.getfield 135, 3) := by decide +kernel
theorem dX9_count_71 : decode cX9_count 71 = .ok (.ireturn, 1) := by decide +kernel
theorem dX9_count_72 : decode cX9_count 72 = .ok (.aload_n 0, 1) := by decide +kernel
theorem dX9_count_73 : decode cX9_count 73 = .ok (.getfield 18, 3) := by decide +kernel
theorem dX9_count_76 : decode cX9_count 76 = .ok (.getfield 211, 3) := by decide +kernel
theorem dX9_count_79 : decode cX9_count 79 = .ok (.ireturn, 1) := by decide +kernel
theorem dX9_count_80 : decode cX9_count 80 = .ok (.aload_n 0, 1) := by decide +kernel
theorem dX9_count_81 : decode cX9_count 81 = .ok (.getfield 24, 3) := by decide +kernel
theorem dX9_count_84 : decode cX9_count 84 = .ok (.iconst 0, 1) := by decide +kernel
theorem dX9_count_85 : decode cX9_count 85 = .ok (.aaload, 1) := by decide +kernel
theorem dX9_count_86 : decode cX9_count 86 = .ok (.getfield 233, 3) := by decide +kernel
theorem dX9_count_89 : decode cX9_count 89 = .ok (.aload_n 0, 1) := by decide +kernel
theorem dX9_count_90 : decode cX9_count 90 = .ok (.getfield 24, 3) := by decide +kernel
theorem dX9_count_93 : decode cX9_count 93 = .ok (.iconst 1, 1) := by decide +kernel
theorem dX9_count_94 : decode cX9_count 94 = .ok (.aaload, 1) := by decide +kernel
theorem dX9_count_95 : decode cX9_count 95 = .ok (.getfield 233, 3) := by decide +kernel
theorem dX9_count_98 : decode cX9_count 98 = .ok (.iadd, 1) := by decide +kernel
theorem dX9_count_99 : decode cX9_count 99 = .ok (.ireturn, 1) := by decide +kernel
theorem dX9_count_100 : decode cX9_count 100 = .ok (.aload_n 0, 1) := by decide +kernel
theorem dX9_count_101 : decode cX9_count 101 = .ok (.getfield 308, 3) := by decide +kernel
theorem dX9_count_104 : decode cX9_count 104 = .ok (.ireturn, 1) := by decide +kernel
theorem dX9_count_105 : decode cX9_count 105 = .ok (.aload_n 0, 1) := by decide +kernel
theorem dX9_count_106 : decode cX9_count 106 = .ok (.getfield 49, 3) := by decide +kernel
theorem dX9_count_109 : decode cX9_count 109 = .ok (.getfield 92, 3) := by decide +kernel
theorem dX9_count_112 : decode cX9_count 112 = .ok (.ireturn, 1) := by decide +kernel
theorem dX9_count_113 : decode cX9_count 113 = .ok (.aload_n 0, 1) := by decide +kernel
theorem dX9_count_114 : decode cX9_count 114 = .ok (.getfield 49, 3) := by decide +kernel
theorem dX9_count_117 : decode cX9_count 117 = .ok (.getfield 95, 3) := by decide +kernel
theorem dX9_count_120 : decode cX9_count 120 = .ok (.ireturn, 1) := by decide +kernel
theorem dX9_count_121 : decode cX9_count 121 = .ok (.bipush (-2), 2) := by decide +kernel
theorem dX9_count_123 : decode cX9_count 123 = .ok (.ireturn, 1) := by decide +kernel
set_option maxRecDepth 20000 in
theorem ggX9_digest_X9_count : GoodIn wsX9_digest wsX9_count := goodIn_r _ [12, 13, 14, 15, 16, 17, 18, 19, 4, 6, 20, 3, 21, 22, 47, 48, 49, 50, 51, 52, 53, 54, 55, 56, 57, 61, 62, 63, 64, 65, 66, 67, 68, 69, 70, 71, 72, 73, 74, 75, 76, 77, 78, 79, 58, 59, 60, 80, 81, 82, 83] (by decide +kernel) (by decide +kernel)
set_option maxRecDepth 20000 in
theorem gX9_digest_X9_count : GoodIn wsX9_digest (wsV RX9 315 RX9 yX9_count wsX9_count) := goodIn_app (goodIn_of _ (by decide +kernel)) ggX9_digest_X9_count
set_option maxRecDepth 20000 in
theorem ggX9_digest_X3_poreOf : GoodIn wsX9_digest wsX3_poreOf := goodIn_r _ [27, 28, 29, 30, 31, 32, 33, 34, 35, 36, 37, 38, 39, 40, 11, 41, 80, 81, 82, 83, 84, 85, 86, 87] (by decide +kernel) (by decide +kernel)
set_option maxRecDepth 20000 in
theorem gX9_digest_X3_poreOf : GoodIn wsX9_digest (wsV RX9 102 RX3 yX3_poreOf wsX3_poreOf) := goodIn_app (goodIn_of _ (by decide +kernel)) ggX9_digest_X3_poreOf
set_option maxRecDepth 20000 in
theorem ggX9_digest_X3_fracOf : GoodIn wsX9_digest wsX3_fracOf := goodIn_r _ [45, 46, 29, 30, 31, 32, 33, 34, 35, 36, 37, 38, 39, 40, 11, 41, 80, 81, 82, 83, 84, 85, 86, 87] (by decide +kernel) (by decide +kernel)
set_option maxRecDepth 20000 in
theorem gX9_digest_X3_fracOf : GoodIn wsX9_digest (wsV RX9 106 RX3 yX3_fracOf wsX3_fracOf) := goodIn_app (goodIn_of _ (by decide +kernel)) ggX9_digest_X3_fracOf
theorem dX9_digest_0 : decode cX9_digest 0 = .ok (.ldc2_w 311, 3) := by decide +kernel
theorem dX9_digest_3 : decode cX9_digest 3 = .ok (.lstore_n 1, 1) := by decide +kernel
theorem dX9_digest_4 : decode cX9_digest 4 = .ok (.iconst 0, 1) := by decide +kernel
theorem dX9_digest_5 : decode cX9_digest 5 = .ok (.istore_n 3, 1) := by decide +kernel
theorem dX9_digest_6 : decode cX9_digest 6 = .ok (.iload_n 3, 1) := by decide +kernel
theorem dX9_digest_7 : decode cX9_digest 7 = .ok (.bipush 7, 2) := by decide +kernel
theorem dX9_digest_9 : decode cX9_digest 9 = .ok (.if_icmp .gt 27, 3) := by decide +kernel
theorem dX9_digest_12 : decode cX9_digest 12 = .ok (.iload_n 3, 1) := by decide +kernel
theorem dX9_digest_13 : decode cX9_digest 13 = .ok (.iconst 5, 1) := by decide +kernel
theorem dX9_digest_14 : decode cX9_digest 14 = .ok (.if_icmp .eq 16, 3) := by decide +kernel
theorem dX9_digest_17 : decode cX9_digest 17 = .ok (.ldc2_w 313, 3) := by decide +kernel
theorem dX9_digest_20 : decode cX9_digest 20 = .ok (.lload_n 1, 1) := by decide +kernel
theorem dX9_digest_21 : decode cX9_digest 21 = .ok (.lmul, 1) := by decide +kernel
theorem dX9_digest_22 : decode cX9_digest 22 = .ok (.aload_n 0, 1) := by decide +kernel
theorem dX9_digest_23 : decode cX9_digest 23 = .ok (.iload_n 3, 1) := by decide +kernel
theorem dX9_digest_24 : decode cX9_digest 24 = .ok (.invokevirtual 315, 3) := by decide +kernel
theorem dX9_digest_27 : decode cX9_digest 27 = .ok (.i2l, 1) := by decide +kernel
theorem dX9_digest_28 : decode cX9_digest 28 = .ok (.ladd, 1) := by decide +kernel
theorem dX9_digest_29 : decode cX9_digest 29 = .ok (.lstore_n 1, 1) := by decide +kernel
theorem dX9_digest_30 : decode cX9_digest 30 = .ok (.iinc 3 1, 3) := by decide +kernel
theorem dX9_digest_33 : decode cX9_digest 33 = .ok (.goto (-27), 3) := by decide +kernel
theorem dX9_digest_36 : decode cX9_digest 36 = .ok (.iconst 0, 1) := by decide +kernel
theorem dX9_digest_37 : decode cX9_digest 37 = .ok (.istore_n 3, 1) := by decide +kernel
theorem dX9_digest_38 : decode cX9_digest 38 = .ok (.iload_n 3, 1) := by decide +kernel
theorem dX9_digest_39 : decode cX9_digest 39 = .ok (.bipush 50, 2) := by decide +kernel
theorem dX9_digest_41 : decode cX9_digest 41 = .ok (.if_icmp .ge 41, 3) := by decide +kernel
theorem dX9_digest_44 : decode cX9_digest 44 = .ok (.ldc2_w 313, 3) := by decide +kernel
theorem dX9_digest_47 : decode cX9_digest 47 = .ok (.lload_n 1, 1) := by decide +kernel
theorem dX9_digest_48 : decode cX9_digest 48 = .ok (.lmul, 1) := by decide +kernel
theorem dX9_digest_49 : decode cX9_digest 49 = .ok (.aload_n 0, 1) := by decide +kernel
theorem dX9_digest_50 : decode cX9_digest 50 = .ok (.getfield 49, 3) := by decide +kernel
theorem dX9_digest_53 : decode cX9_digest 53 = .ok (.iload_n 3, 1) := by decide +kernel
theorem dX9_digest_54 : decode cX9_digest 54 = .ok (.invokevirtual 102, 3) := by decide +kernel
theorem dX9_digest_57 : decode cX9_digest 57 = .ok (.i2l, 1) := by decide +kernel
theorem dX9_digest_58 : decode cX9_digest 58 = .ok (.ladd, 1) := by decide +kernel
theorem dX9_digest_59 : decode cX9_digest 59 = .ok (.lstore_n 1, 1) := by decide +kernel
theorem dX9_digest_60 : decode cX9_digest 60 = .ok (.ldc2_w 313, 3) := by decide +kernel
theorem dX9_digest_63 : decode cX9_digest 63 = .ok (.lload_n 1, 1) := by decide +kernel
theorem dX9_digest_64 : decode cX9_digest 64 = .ok (.lmul, 1) := by decide +kernel
theorem dX9_digest_65 : decode cX9_digest 65 = .ok (.aload_n 0, 1) := by decide +kernel
theorem dX9_digest_66 : decode cX9_digest 66 = .ok (.getfield 49, 3) := by decide +kernel
theorem dX9_digest_69 : decode cX9_digest 69 = .ok (.iload_n 3, 1) := by decide +kernel
theorem dX9_digest_70 : decode cX9_digest 70 = .ok (.invokevirtual 106, 3) := by decide +kernel
theorem dX9_digest_73 : decode cX9_digest 73 = .ok (.i2l, 1) := by decide +kernel
theorem dX9_digest_74 : decode cX9_digest 74 = .ok (.ladd, 1) := by decide +kernel
theorem dX9_digest_75 : decode cX9_digest 75 = .ok (.lstore_n 1, 1) := by decide +kernel
theorem dX9_digest_76 : decode cX9_digest 76 = .ok (.iinc 3 1, 3) := by decide +kernel
theorem dX9_digest_79 : decode cX9_digest 79 = .ok (.goto (-41), 3) := by decide +kernel
theorem dX9_digest_82 : decode cX9_digest 82 = .ok (.iconst 0, 1) := by decide +kernel
theorem dX9_digest_83 : decode cX9_digest 83 = .ok (.istore_n 3, 1) := by decide +kernel
theorem dX9_digest_84 : decode cX9_digest 84 = .ok (.iload_n 3, 1) := by decide +kernel
theorem dX9_digest_85 : decode cX9_digest 85 = .ok (.iconst 2, 1) := by decide +kernel
theorem dX9_digest_86 : decode cX9_digest 86 = .ok (.if_icmp .ge 55, 3) := by decide +kernel
theorem dX9_digest_89 : decode cX9_digest 89 = .ok (.aload_n 0, 1) := by decide +kernel
theorem dX9_digest_90 : decode cX9_digest 90 = .ok (.getfield 24, 3) := by decide +kernel
theorem dX9_digest_93 : decode cX9_digest 93 = .ok (.iload_n 3, 1) := by decide +kernel
theorem dX9_digest_94 : decode cX9_digest 94 = .ok (.aaload, 1) := by decide +kernel
theorem dX9_digest_95 : decode cX9_digest 95 = .ok (.astore 4, 2) := by decide +kernel
theorem dX9_digest_97 : decode cX9_digest 97 = .ok (.ldc2_w 313, 3) := by decide +kernel
theorem dX9_digest_100 : decode cX9_digest 100 = .ok (.lload_n 1, 1) := by decide +kernel
theorem dX9_digest_101 : decode cX9_digest 101 = .ok (.lmul, 1) := by decide +kernel
theorem dX9_digest_102 : decode cX9_digest 102 = .ok (.aload 4, 2) := by decide +kernel
theorem dX9_digest_104 : decode cX9_digest 104 = .ok (.getfield 244, 3) := by decide +kernel
theorem dX9_digest_107 : decode cX9_digest 107 = .ok (.aload 4, 2) := by decide +kernel
theorem dX9_digest_109 : decode cX9_digest 109 = .ok (.getfield 233, 3) := by decide +kernel
theorem dX9_digest_112 : decode cX9_digest 112 = .ok (.iaload, 1) := by decide +kernel
theorem dX9_digest_113 : decode cX9_digest 113 = .ok (.i2l, 1) := by decide +kernel
theorem dX9_digest_114 : decode cX9_digest 114 = .ok (.ladd, 1) := by decide +kernel
theorem dX9_digest_115 : decode cX9_digest 115 = .ok (.lstore_n 1, 1) := by decide +kernel
theorem dX9_digest_116 : decode cX9_digest 116 = .ok (.ldc2_w 313, 3) := by decide +kernel
theorem dX9_digest_119 : decode cX9_digest 119 = .ok (.lload_n 1, 1) := by decide +kernel
theorem dX9_digest_120 : decode cX9_digest 120 = .ok (.lmul, 1) := by decide +kernel
theorem dX9_digest_121 : decode cX9_digest 121 = .ok (.aload 4, 2) := by decide +kernel
theorem dX9_digest_123 : decode cX9_digest 123 = .ok (.getfield 248, 3) := by decide +kernel
theorem dX9_digest_126 : decode cX9_digest 126 = .ok (.aload 4, 2) := by decide +kernel
theorem dX9_digest_128 : decode cX9_digest 128 = .ok (.getfield 233, 3) := by decide +kernel
theorem dX9_digest_131 : decode cX9_digest 131 = .ok (.iaload, 1) := by decide +kernel
theorem dX9_digest_132 : decode cX9_digest 132 = .ok (.i2l, 1) := by decide +kernel
theorem dX9_digest_133 : decode cX9_digest 133 = .ok (.ladd, 1) := by decide +kernel
theorem dX9_digest_134 : decode cX9_digest 134 = .ok (.lstore_n 1, 1) := by decide +kernel
theorem dX9_digest_135 : decode cX9_digest 135 = .ok (.iinc 3 1, 3) := by decide +kernel
theorem dX9_digest_138 : decode cX9_digest 138 = .ok (.goto (-54), 3) := by decide +kernel
