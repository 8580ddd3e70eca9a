theorem dX10_speedOf_23 : decode cX10_speedOf 23 = .ok (.isub, 1) := by decide +kernel
theorem dX10_speedOf_24 : decode cX10_speedOf 24 = .ok (.iload_n 3, 1) := by decide +kernel
theorem dX10_speedOf_25 : decode cX10_speedOf 25 = .ok (.if_icmp .ge 9, 3) := by decide +kernel
theorem dX10_speedOf_28 : decode cX10_speedOf 28 = .ok (.iinc 4 (-1), 3) := by decide +kernel
theorem dX10_speedOf_31 : decode cX10_speedOf 31 = .ok (.goto (-27), 3) := by decide +kernel
theorem dX10_speedOf_34 : decode cX10_speedOf 34 = .ok (.iload 4, 2) := by decide +kernel
theorem dX10_speedOf_36 : decode cX10_speedOf 36 = .ok (.ireturn, 1) := by decide +kernel
set_option maxRecDepth 20000 in
theorem ggX10_speed_X10_in : GoodIn wsX10_speed wsX10_in := goodIn_r _ [6] (by decide +kernel) (by decide +kernel)
set_option maxRecDepth 20000 in
theorem gX10_speed_X10_in : GoodIn wsX10_speed (va_wsS RX10 69 yX10_in wsX10_in) := goodIn_app (goodIn_of _ (by decide +kernel)) ggX10_speed_X10_in
set_option maxRecDepth 20000 in
theorem ggX10_speed_X10_greatestPore : GoodIn wsX10_speed wsX10_greatestPore := goodIn_r _ [10, 11, 2, 12, 13, 14, 15, 5, 16, 17, 18, 19, 1, 3, 4, 6, 25, 26, 27, 28, 29, 30, 31, 32, 33, 34, 35, 36, 37, 38, 39, 40, 41, 42, 43, 44, 45, 46, 47, 48, 49, 50, 51, 52, 53, 54, 55, 56, 57, 58, 59, 60, 61, 62, 63, 64] (by decide +kernel) (by decide +kernel)
set_option maxRecDepth 20000 in
theorem gX10_speed_X10_greatestPore : GoodIn wsX10_speed (wsV RX10 167 RX10 yX10_greatestPore wsX10_greatestPore) := goodIn_app (goodIn_of _ (by decide +kernel)) ggX10_speed_X10_greatestPore
set_option maxRecDepth 20000 in
theorem ggX10_speed_X10_speedOf : GoodIn wsX10_speed wsX10_speedOf := goodIn_r _ [23, 24, 25, 26, 27, 28, 29, 30, 31, 32, 33, 34, 35, 36, 37, 38, 39, 40, 41, 42, 43, 44, 45, 46, 47, 48, 49, 50, 51, 52, 53, 54, 55, 56, 57, 58, 59, 60, 61, 62, 63, 64] (by decide +kernel) (by decide +kernel)
set_option maxRecDepth 20000 in
theorem gX10_speed_X10_speedOf : GoodIn wsX10_speed (wsV RX10 171 RX10 yX10_speedOf wsX10_speedOf) := goodIn_app (goodIn_of _ (by decide +kernel)) ggX10_speed_X10_speedOf
theorem dX10_speed_0 : decode cX10_speed 0 = .ok (.iload_n 1, 1) := by decide +kernel
theorem dX10_speed_1 : decode cX10_speed 1 = .ok (.i2l, 1) := by decide +kernel
theorem dX10_speed_2 : decode cX10_speed 2 = .ok (.lconst 0, 1) := by decide +kernel
theorem dX10_speed_3 : decode cX10_speed 3 = .ok (.ldc2_w 87, 3) := by decide +kernel
theorem dX10_speed_6 : decode cX10_speed 6 = .ok (.invokestatic 69, 3) := by decide +kernel
theorem dX10_speed_9 : decode cX10_speed 9 = .ok (.ifCond .eq 30, 3) := by decide +kernel
theorem dX10_speed_12 : decode cX10_speed 12 = .ok (.iload_n 2, 1) := by decide +kernel
theorem dX10_speed_13 : decode cX10_speed 13 = .ok (.i2l, 1) := by decide +kernel
theorem dX10_speed_14 : decode cX10_speed 14 = .ok (.lconst 1, 1) := by decide +kernel
theorem dX10_speed_15 : decode cX10_speed 15 = .ok (.aload_n 0, 1) := by decide +kernel
theorem dX10_speed_16 : decode cX10_speed 16 = .ok (.getfield 73, 3) := by decide +kernel
theorem dX10_speed_19 : decode cX10_speed 19 = .ok (.i2l, 1) := by decide +kernel
theorem dX10_speed_20 : decode cX10_speed 20 = .ok (.invokestatic 69, 3) := by decide +kernel
theorem dX10_speed_23 : decode cX10_speed 23 = .ok (.ifCond .eq 16, 3) := by decide +kernel
theorem dX10_speed_26 : decode cX10_speed 26 = .ok (.aload_n 0, 1) := by decide +kernel
theorem dX10_speed_27 : decode cX10_speed 27 = .ok (.iload_n 1, 1) := by decide +kernel
theorem dX10_speed_28 : decode cX10_speed 28 = .ok (.iload_n 2, 1) := by decide +kernel
theorem dX10_speed_29 : decode cX10_speed 29 = .ok (.aload_n 0, 1) := by decide +kernel
theorem dX10_speed_30 : decode cX10_speed 30 = .ok (.invokevirtual 167, 3) := by decide +kernel
theorem dX10_speed_33 : decode cX10_speed 33 = .ok (.invokevirtual 171, 3) := by decide +kernel
theorem dX10_speed_36 : decode cX10_speed 36 = .ok (.goto 5, 3) := by decide +kernel
theorem dX10_speed_39 : decode cX10_speed 39 = .ok (.bipush (-2), 2) := by decide +kernel
theorem dX10_speed_41 : decode cX10_speed 41 = .ok (.ireturn, 1) := by decide +kernel
set_option maxRecDepth 20000 in
theorem ggX10_tripOf_X10_speedOf : GoodIn wsX10_tripOf wsX10_speedOf := goodIn_r _ [6, 7, 8, 9, 10, 11, 12, 13, 14, 15, 16, 17, 18, 19, 20, 21, 22, 23, 24, 25, 26, 27, 28, 29, 30, 31, 32, 33, 34, 35, 36, 37, 38, 39, 40, 41, 42, 43, 44, 45, 46, 47] (by decide +kernel) (by decide +kernel)
set_option maxRecDepth 20000 in
theorem gX10_tripOf_X10_speedOf : GoodIn wsX10_tripOf (wsV RX10 171 RX10 yX10_speedOf wsX10_speedOf) := goodIn_app (goodIn_of _ (by decide +kernel)) ggX10_tripOf_X10_speedOf
theorem dX10_tripOf_0 : decode cX10_tripOf 0 = .ok (.iconst 0, 1) := by decide +kernel
theorem dX10_tripOf_1 : decode cX10_tripOf 1 = .ok (.istore_n 3, 1) := by decide +kernel
theorem dX10_tripOf_2 : decode cX10_tripOf 2 = .ok (.aload_n 0, 1) := by decide +kernel
theorem dX10_tripOf_3 : decode cX10_tripOf 3 = .ok (.getfield 73, 3) := by decide +kernel
theorem dX10_tripOf_6 : decode cX10_tripOf 6 = .ok (.istore 4, 2) := by decide +kernel
theorem dX10_tripOf_8 : decode cX10_tripOf 8 = .ok (.iload 4, 2) := by decide +kernel
theorem dX10_tripOf_10 : decode cX10_tripOf 10 = .ok (.ifCond .le 43, 3) := by decide +kernel
theorem dX10_tripOf_13 : decode cX10_tripOf 13 = .ok (.aload_n 0, 1) := by decide +kernel
theorem dX10_tripOf_14 : decode cX10_tripOf 14 = .ok (.iload_n 1, 1) := by decide +kernel
theorem dX10_tripOf_15 : decode cX10_tripOf 15 = .ok (.iload 4, 2) := by decide +kernel
theorem dX10_tripOf_17 : decode cX10_tripOf 17 = .ok (.iload_n 2, 1) := by decide +kernel
theorem dX10_tripOf_18 : decode cX10_tripOf 18 = .ok (.invokevirtual 171, 3) := by decide +kernel
theorem dX10_tripOf_21 : decode cX10_tripOf 21 = .ok (.istore 5, 2) := by decide +kernel
theorem dX10_tripOf_23 : decode cX10_tripOf 23 = .ok (.iload 5, 2) := by decide +kernel
theorem dX10_tripOf_25 : decode cX10_tripOf 25 = .ok (.ifCond .ne 10, 3) := by decide +kernel
theorem dX10_tripOf_28 : decode cX10_tripOf 28 = .ok (.sipush (-1000), 3) := by decide +kernel
theorem dX10_tripOf_31 : decode cX10_tripOf 31 = .ok (.iload 4, 2) := by decide +kernel
theorem dX10_tripOf_33 : decode cX10_tripOf 33 = .ok (.isub, 1) := by decide +kernel
theorem dX10_tripOf_34 : decode cX10_tripOf 34 = .ok (.ireturn, 1) := by decide +kernel
theorem dX10_tripOf_35 : decode cX10_tripOf 35 = .ok (.iload_n 3, 1) := by decide +kernel
theorem dX10_tripOf_36 : decode cX10_tripOf 36 = .ok (.sipush 359, 3) := by decide +kernel
theorem dX10_tripOf_39 : decode cX10_tripOf 39 = .ok (.iload 5, 2) := by decide +kernel
theorem dX10_tripOf_41 : decode cX10_tripOf 41 = .ok (.iadd, 1) := by decide +kernel
theorem dX10_tripOf_42 : decode cX10_tripOf 42 = .ok (.iload 5, 2) := by decide +kernel
theorem dX10_tripOf_44 : decode cX10_tripOf 44 = .ok (.idiv, 1) := by decide +kernel
theorem dX10_tripOf_45 : decode cX10_tripOf 45 = .ok (.iadd, 1) := by decide +kernel
theorem dX10_tripOf_46 : decode cX10_tripOf 46 = .ok (.istore_n 3, 1) := by decide +kernel
theorem dX10_tripOf_47 : decode cX10_tripOf 47 = .ok (.iinc 4 (-1), 3) := by decide +kernel
theorem dX10_tripOf_50 : decode cX10_tripOf 50 = .ok (.goto (-42), 3) := by decide +kernel
theorem dX10_tripOf_53 : decode cX10_tripOf 53 = .ok (.iload_n 3, 1) := by decide +kernel
theorem dX10_tripOf_54 : decode cX10_tripOf 54 = .ok (.ireturn, 1) := by decide +kernel
set_option maxRecDepth 20000 in
theorem ggX10_trip_X10_in : GoodIn wsX10_trip wsX10_in := goodIn_r _ [5] (by decide +kernel) (by decide +kernel)
set_option maxRecDepth 20000 in
theorem gX10_trip_X10_in : GoodIn wsX10_trip (va_wsS RX10 69 yX10_in wsX10_in) := goodIn_app (goodIn_of _ (by decide +kernel)) ggX10_trip_X10_in
set_option maxRecDepth 20000 in
theorem ggX10_trip_X10_greatestPore : GoodIn wsX10_trip wsX10_greatestPore := goodIn_r _ [9, 10, 11, 12, 13, 14, 15, 4, 16, 17, 18, 19, 1, 2, 3, 5, 29, 30, 31, 32, 33, 34, 35, 36, 37, 38, 39, 40, 41, 42, 43, 44, 45, 46, 47, 48, 49, 50, 51, 52, 53, 54, 55, 56, 57, 58, 59, 60, 61, 62, 63, 64, 65, 66, 67, 68] (by decide +kernel) (by decide +kernel)
set_option maxRecDepth 20000 in
theorem gX10_trip_X10_greatestPore : GoodIn wsX10_trip (wsV RX10 167 RX10 yX10_greatestPore wsX10_greatestPore) := goodIn_app (goodIn_of _ (by decide +kernel)) ggX10_trip_X10_greatestPore
set_option maxRecDepth 20000 in
theorem ggX10_trip_X10_tripOf : GoodIn wsX10_trip wsX10_tripOf := goodIn_r _ [23, 11, 24, 25, 26, 4, 27, 28, 29, 30, 31, 32, 33, 34, 35, 36, 37, 38, 39, 40, 41, 42, 43, 44, 45, 46, 47, 48, 49, 50, 51, 52, 53, 54, 55, 56, 57, 58, 59, 60, 61, 62, 63, 64, 65, 66, 67, 68] (by decide +kernel) (by decide +kernel)
set_option maxRecDepth 20000 in
theorem gX10_trip_X10_tripOf : GoodIn wsX10_trip (wsV RX10 174 RX10 yX10_tripOf wsX10_tripOf) := goodIn_app (goodIn_of _ (by decide +kernel)) ggX10_trip_X10_tripOf
theorem dX10_trip_0 : decode cX10_trip 0 = .ok (.iload_n 1, 1) := by decide +kernel
theorem dX10_trip_1 : decode cX10_trip 1 = .ok (.i2l, 1) := by decide +kernel
theorem dX10_trip_2 : decode cX10_trip 2 = .ok (.lconst 0, 1) := by decide +kernel
theorem dX10_trip_3 : decode cX10_trip 3 = .ok (.ldc2_w 87, 3) := by decide +kernel
theorem dX10_trip_6 : decode cX10_trip 6 = .ok (.invokestatic 69, 3) := by decide +kernel
theorem dX10_trip_9 : decode cX10_trip 9 = .ok (.ifCond .eq 15, 3) := by decide +kernel
theorem dX10_trip_12 : decode cX10_trip 12 = .ok (.aload_n 0, 1) := by decide +kernel
theorem dX10_trip_13 : decode cX10_trip 13 = .ok (.iload_n 1, 1) := by decide +kernel
theorem dX10_trip_14 : decode cX10_trip 14 = .ok (.aload_n 0, 1) := by decide +kernel
theorem dX10_trip_15 : decode cX10_trip 15 = .ok (.invokevirtual 167, 3) := by decide +kernel
theorem dX10_trip_18 : decode cX10_trip 18 = .ok (.invokevirtual 174, 3) := by decide +kernel
theorem dX10_trip_21 : decode cX10_trip 21 = .ok (.goto 5, 3) := by decide +kernel
theorem dX10_trip_24 : decode cX10_trip 24 = .ok (.bipush (-2), 2) := by decide +kernel
theorem dX10_trip_26 : decode cX10_trip 26 = .ok (.ireturn, 1) := by decide +kernel
set_option maxRecDepth 20000 in
theorem ggX10_lightest_X10_in : GoodIn wsX10_lightest wsX10_in := goodIn_r _ [9] (by decide +kernel) (by decide +kernel)
set_option maxRecDepth 20000 in
theorem gX10_lightest_X10_in : GoodIn wsX10_lightest (va_wsS RX10 69 yX10_in wsX10_in) := goodIn_app (goodIn_of _ (by decide +kernel)) ggX10_lightest_X10_in
set_option maxRecDepth 20000 in
theorem ggX10_lightest_X10_greatestPore : GoodIn wsX10_lightest wsX10_greatestPore := goodIn_r _ [13, 2, 3, 14, 15, 16, 17, 8, 18, 19, 20, 21, 22, 6, 7, 9, 38, 39, 40, 41, 42, 43, 44, 45, 46, 47, 48, 49, 50, 51, 52, 53, 54, 55, 56, 57, 58, 59, 60, 61, 62, 63, 64, 65, 66, 67, 68, 69, 70, 71, 72, 73, 74, 75, 76, 77] (by decide +kernel) (by decide +kernel)
set_option maxRecDepth 20000 in
theorem gX10_lightest_X10_greatestPore : GoodIn wsX10_lightest (wsV RX10 167 RX10 yX10_greatestPore wsX10_greatestPore) := goodIn_app (goodIn_of _ (by decide +kernel)) ggX10_lightest_X10_greatestPore
set_option maxRecDepth 20000 in
theorem ggX10_lightest_X10_hasWindow : GoodIn wsX10_lightest wsX10_hasWindow := goodIn_r _ [26, 4, 5, 27, 28, 15, 16, 17, 8, 18, 19, 20, 21, 22, 6, 7, 9, 38, 39, 40, 41, 42, 43, 44, 45, 46, 47, 48, 49, 50, 51, 52, 53, 54, 55, 56, 57, 58, 59, 60, 61, 62, 63, 64, 65, 66, 67, 68, 69, 70, 71, 72, 73, 74, 75, 76, 77] (by decide +kernel) (by decide +kernel)
set_option maxRecDepth 20000 in
theorem gX10_lightest_X10_hasWindow : GoodIn wsX10_lightest (wsV RX10 105 RX10 yX10_hasWindow wsX10_hasWindow) := goodIn_app (goodIn_of _ (by decide +kernel)) ggX10_lightest_X10_hasWindow
set_option maxRecDepth 20000 in
theorem ggX10_lightest_X10_tripOf : GoodIn wsX10_lightest wsX10_tripOf := goodIn_r _ [32, 3, 33, 34, 35, 8, 36, 37, 38, 39, 40, 41, 42, 43, 44, 45, 46, 47, 48, 49, 50, 51, 52, 53, 54, 55, 56, 57, 58, 59, 60, 61, 62, 63, 64, 65, 66, 67, 68, 69, 70, 71, 72, 73, 74, 75, 76, 77] (by decide +kernel) (by decide +kernel)
set_option maxRecDepth 20000 in
theorem gX10_lightest_X10_tripOf : GoodIn wsX10_lightest (wsV RX10 174 RX10 yX10_tripOf wsX10_tripOf) := goodIn_app (goodIn_of _ (by decide +kernel)) ggX10_lightest_X10_tripOf
theorem dX10_lightest_0 : decode cX10_lightest 0 = .ok (.iload_n 1, 1) := by decide +kernel
theorem dX10_lightest_1 : decode cX10_lightest 1 = .ok (.i2l, 1) := by decide +kernel
theorem dX10_lightest_2 : decode cX10_lightest 2 = .ok (.lconst 0, 1) := by decide +kernel
theorem dX10_lightest_3 : decode cX10_lightest 3 = .ok (.ldc2_w 177, 3) := by decide +kernel
theorem dX10_lightest_6 : decode cX10_lightest 6 = .ok (.invokestatic 69, 3) := by decide +kernel
theorem dX10_lightest_9 : decode cX10_lightest 9 = .ok (.ifCond .ne 6, 3) := by decide +kernel
theorem dX10_lightest_12 : decode cX10_lightest 12 = .ok (.bipush (-2), 2) := by decide +kernel
theorem dX10_lightest_14 : decode cX10_lightest 14 = .ok (.ireturn, 1) := by decide +kernel
theorem dX10_lightest_15 : decode cX10_lightest 15 = .ok (.aload_n 0, 1) := by decide +kernel
theorem dX10_lightest_16 : decode cX10_lightest 16 = .ok (.invokevirtual 167, 3) := by decide +kernel
theorem dX10_lightest_19 : decode cX10_lightest 19 = .ok (.istore_n 2, 1) := by decide +kernel
theorem dX10_lightest_20 : decode cX10_lightest 20 = .ok (.aload_n 0, 1) := by decide +kernel
theorem dX10_lightest_21 : decode cX10_lightest 21 = .ok (.getfield 76, 3) := by decide +kernel
theorem dX10_lightest_24 : decode cX10_lightest 24 = .ok (.aload_n 0, 1) := by decide +kernel
theorem dX10_lightest_25 : decode cX10_lightest 25 = .ok (.getfield 73, 3) := by decide +kernel
theorem dX10_lightest_28 : decode cX10_lightest 28 = .ok (.if_icmp .ge 23, 3) := by decide +kernel
theorem dX10_lightest_31 : decode cX10_lightest 31 = .ok (.aload_n 0, 1) := by decide +kernel
theorem dX10_lightest_32 : decode cX10_lightest 32 = .ok (.aload_n 0, 1) := by decide +kernel
theorem dX10_lightest_33 : decode cX10_lightest 33 = .ok (.getfield 76, 3) := by decide +kernel
theorem dX10_lightest_36 : decode cX10_lightest 36 = .ok (.aload_n 0, 1) := by decide +kernel
theorem dX10_lightest_37 : decode cX10_lightest 37 = .ok (.getfield 73, 3) := by decide +kernel
theorem dX10_lightest_40 : decode cX10_lightest 40 = .ok (.iconst 1, 1) := by decide +kernel
theorem dX10_lightest_41 : decode cX10_lightest 41 = .ok (.isub, 1) := by decide +kernel
theorem dX10_lightest_42 : decode cX10_lightest 42 = .ok (.invokevirtual 105, 3) := by decide +kernel
theorem dX10_lightest_45 : decode cX10_lightest 45 = .ok (.ifCond .ne 6, 3) := by decide +kernel
theorem dX10_lightest_48 : decode cX10_lightest 48 = .ok (.bipush (-3), 2) := by decide +kernel
theorem dX10_lightest_50 : decode cX10_lightest 50 = .ok (.ireturn, 1) := by decide +kernel
theorem dX10_lightest_51 : decode cX10_lightest 51 = .ok (.aload_n 0, 1) := by decide +kernel
theorem dX10_lightest_52 : decode cX10_lightest 52 = .ok (.getfield 76, 3) := by decide +kernel
theorem dX10_lightest_55 : decode cX10_lightest 55 = .ok (.aload_n 0, 1) := by decide +kernel
theorem dX10_lightest_56 : decode cX10_lightest 56 = .ok (.getfield 73, 3) := by decide +kernel
theorem dX10_lightest_59 : decode cX10_lightest 59 = .ok (.if_icmp .ge 10, 3) := by decide +kernel
theorem dX10_lightest_62 : decode cX10_lightest 62 = .ok (.aload_n 0, 1) := by decide +kernel
theorem dX10_lightest_63 : decode cX10_lightest 63 = .ok (.getfield 99, 3) := by decide +kernel
theorem dX10_lightest_66 : decode cX10_lightest 66 = .ok (.goto 4, 3) := by decide +kernel
theorem dX10_lightest_69 : decode cX10_lightest 69 = .ok (.iconst 0, 1) := by decide +kernel
theorem dX10_lightest_70 : decode cX10_lightest 70 = .ok (.istore_n 3, 1) := by decide +kernel
theorem dX10_lightest_71 : decode cX10_lightest 71 = .ok (.aload_n 0, 1) := by decide +kernel
theorem dX10_lightest_72 : decode cX10_lightest 72 = .ok (.getfield 76, 3) := by decide +kernel
theorem dX10_lightest_75 : decode cX10_lightest 75 = .ok (.aload_n 0, 1) := by decide +kernel
theorem dX10_lightest_76 : decode cX10_lightest 76 = .ok (.getfield 73, 3) := by decide +kernel
theorem dX10_lightest_79 : decode cX10_lightest 79 = .ok (.if_icmp .ge 10, 3) := by decide +kernel
theorem dX10_lightest_82 : decode cX10_lightest 82 = .ok (.aload_n 0, 1) := by decide +kernel
theorem dX10_lightest_83 : decode cX10_lightest 83 = .ok (.getfield 102, 3) := by decide +kernel
theorem dX10_lightest_86 : decode cX10_lightest 86 = .ok (.goto 6, 3) := by decide +kernel
theorem dX10_lightest_89 : decode cX10_lightest 89 = .ok (.sipush 3000, 3) := by decide +kernel
theorem dX10_lightest_92 : decode cX10_lightest 92 = .ok (.istore 4, 2) := by decide +kernel
theorem dX10_lightest_94 : decode cX10_lightest 94 = .ok (.iload_n 3, 1) := by decide +kernel
theorem dX10_lightest_95 : decode cX10_lightest 95 = .ok (.istore 5, 2) := by decide +kernel
theorem dX10_lightest_97 : decode cX10_lightest 97 = .ok (.iload 5, 2) := by decide +kernel
theorem dX10_lightest_99 : decode cX10_lightest 99 = .ok (.iload 4, 2) := by decide +kernel
theorem dX10_lightest_101 : decode cX10_lightest 101 = .ok (.if_icmp .gt 29, 3) := by decide +kernel
theorem dX10_lightest_104 : decode cX10_lightest 104 = .ok (.aload_n 0, 1) := by decide +kernel
theorem dX10_lightest_105 : decode cX10_lightest 105 = .ok (.iload 5, 2) := by decide +kernel
theorem dX10_lightest_107 : decode cX10_lightest 107 = .ok (.iload_n 2, 1) := by decide +kernel
theorem dX10_lightest_108 : decode cX10_lightest 108 = .ok (.invokevirtual 174, 3) := by decide +kernel
theorem dX10_lightest_111 : decode cX10_lightest 111 = .ok (.i2l, 1) := by decide +kernel
theorem dX10_lightest_112 : decode cX10_lightest 112 = .ok (.lconst 0, 1) := by decide +kernel
theorem dX10_lightest_113 : decode cX10_lightest 113 = .ok (.iload_n 1, 1) := by decide +kernel
theorem dX10_lightest_114 : decode cX10_lightest 114 = .ok (.i2l, 1) := by decide +kernel
theorem dX10_lightest_115 : decode cX10_lightest 115 = .ok (.invokestatic 69, 3) := by decide +kernel
theorem dX10_lightest_118 : decode cX10_lightest 118 = .ok (.ifCond .eq 6, 3) := by decide +kernel
theorem dX10_lightest_121 : decode cX10_lightest 121 = .ok (.iload 5, 2) := by decide +kernel
theorem dX10_lightest_123 : decode cX10_lightest 123 = .ok (.ireturn, 1) := by decide +kernel
theorem dX10_lightest_124 : decode cX10_lightest 124 = .ok (.iinc 5 1, 3) := by decide +kernel
theorem dX10_lightest_127 : decode cX10_lightest 127 = .ok (.goto (-30), 3) := by decide +kernel
theorem dX10_lightest_130 : decode cX10_lightest 130 = .ok (.bipush (-3), 2) := by decide +kernel
theorem dX10_lightest_132 : decode cX10_lightest 132 = .ok (.ireturn, 1) := by decide +kernel
set_option maxRecDepth 20000 in
theorem ggX10_pull_X10_in : GoodIn wsX10_pull wsX10_in := goodIn_r _ [10] (by decide +kernel) (by decide +kernel)
set_option maxRecDepth 20000 in
theorem gX10_pull_X10_in : GoodIn wsX10_pull (va_wsS RX10 69 yX10_in wsX10_in) := goodIn_app (goodIn_of _ (by decide +kernel)) ggX10_pull_X10_in
theorem dX10_pull_0 : decode cX10_pull 0 = .ok (.iload_n 1, 1) := by decide +kernel
theorem dX10_pull_1 : decode cX10_pull 1 = .ok (.i2l, 1) := by decide +kernel
theorem dX10_pull_2 : decode cX10_pull 2 = .ok (.ldc2_w 179, 3) := by decide +kernel
theorem dX10_pull_5 : decode cX10_pull 5 = .ok (.ldc2_w 181, 3) := by decide +kernel
theorem dX10_pull_8 : decode cX10_pull 8 = .ok (.invokestatic 69, 3) := by decide +kernel
theorem dX10_pull_11 : decode cX10_pull 11 = .ok (.ifCond .eq 15, 3) := by decide +kernel
theorem dX10_pull_14 : decode cX10_pull 14 = .ok (.iload_n 2, 1) := by decide +kernel
theorem dX10_pull_15 : decode cX10_pull 15 = .ok (.i2l, 1) := by decide +kernel
theorem dX10_pull_16 : decode cX10_pull 16 = .ok (.lconst 0, 1) := by decide +kernel
theorem dX10_pull_17 : decode cX10_pull 17 = .ok (.ldc2_w 177, 3) := by decide +kernel
theorem dX10_pull_20 : decode cX10_pull 20 = .ok (.invokestatic 69, 3) := by decide +kernel
theorem dX10_pull_23 : decode cX10_pull 23 = .ok (.ifCond .ne 6, 3) := by decide +kernel
theorem dX10_pull_26 : decode cX10_pull 26 = .ok (.bipush (-2), 2) := by decide +kernel
theorem dX10_pull_28 : decode cX10_pull 28 = .ok (.ireturn, 1) := by decide +kernel
theorem dX10_pull_29 : decode cX10_pull 29 = .ok (.aload_n 0, 1) := by decide +kernel
theorem dX10_pull_30 : decode cX10_pull 30 = .ok (.getfield 183, 3) := by decide +kernel
theorem dX10_pull_33 : decode cX10_pull 33 = .ok (.bipush 20, 2) := by decide +kernel
theorem dX10_pull_35 : decode cX10_pull 35 = .ok (.if_icmp .ne 6, 3) := by decide +kernel
theorem dX10_pull_38 : decode cX10_pull 38 = .ok (.bipush (-4), 2) := by decide +kernel
theorem dX10_pull_40 : decode cX10_pull 40 = .ok (.ireturn, 1) := by decide +kernel
theorem dX10_pull_41 : decode cX10_pull 41 = .ok (.aload_n 0, 1) := by decide +kernel
theorem dX10_pull_42 : decode cX10_pull 42 = .ok (.getfield 35, 3) := by decide +kernel
theorem dX10_pull_45 : decode cX10_pull 45 = .ok (.aload_n 0, 1) := by decide +kernel
theorem dX10_pull_46 : decode cX10_pull 46 = .ok (.getfield 183, 3) := by decide +kernel
theorem dX10_pull_49 : decode cX10_pull 49 = .ok (.iload_n 1, 1) := by decide +kernel
theorem dX10_pull_50 : decode cX10_pull 50 = .ok (.iastore, 1) := by decide +kernel
theorem dX10_pull_51 : decode cX10_pull 51 = .ok (.aload_n 0, 1) := by decide +kernel
theorem dX10_pull_52 : decode cX10_pull 52 = .ok (.getfield 38, 3) := by decide +kernel
theorem dX10_pull_55 : decode cX10_pull 55 = .ok (.aload_n 0, 1) := by decide +kernel
theorem dX10_pull_56 : decode cX10_pull 56 = .ok (.getfield 183, 3) := by decide +kernel
theorem dX10_pull_59 : decode cX10_pull 59 = .ok (.iload_n 2, 1) := by decide +kernel
theorem dX10_pull_60 : decode cX10_pull 60 = .ok (.iastore, 1) := by decide +kernel
theorem dX10_pull_61 : decode cX10_pull 61 = .ok (.aload_n 0, 1) := by decide +kernel
theorem dX10_pull_62 : decode cX10_pull 62 = .ok (.dup, 1) := by decide +kernel
theorem dX10_pull_63 : decode cX10_pull 63 = .ok (.getfield 183, 3) := by decide +kernel
theorem dX10_pull_66 : decode cX10_pull 66 = .ok (.iconst 1, 1) := by decide +kernel
theorem dX10_pull_67 : decode cX10_pull 67 = .ok (.iadd, 1) := by decide +kernel
theorem dX10_pull_68 : decode cX10_pull 68 = .ok (.putfield 183, 3) := by decide +kernel
theorem dX10_pull_71 : decode cX10_pull 71 = .ok (.aload_n 0, 1) := by decide +kernel
theorem dX10_pull_72 : decode cX10_pull 72 = .ok (.getfield 183, 3) := by decide +kernel
theorem dX10_pull_75 : decode cX10_pull 75 = .ok (.ireturn, 1) := by decide +kernel
theorem dX10_slack_0 : decode cX10_slack 0 = .ok (.aload_n 0, 1) := by decide +kernel
theorem dX10_slack_1 : decode cX10_slack 1 = .ok (.getfield 183, 3) := by decide +kernel
theorem dX10_slack_4 : decode cX10_slack 4 = .ok (.istore_n 1, 1) := by decide +kernel
theorem dX10_slack_5 : decode cX10_slack 5 = .ok (.aload_n 0, 1) := by decide +kernel
theorem dX10_slack_6 : decode cX10_slack 6 = .ok (.iconst 0, 1) := by decide +kernel
theorem dX10_slack_7 : decode cX10_slack 7 = .ok (.putfield 183, 3) := by decide +kernel
theorem dX10_slack_10 : decode cX10_slack 10 = .ok (.iload_n 1, 1) := by decide +kernel
theorem dX10_slack_11 : decode cX10_slack 11 = .ok (.ireturn, 1) := by decide +kernel
set_option maxRecDepth 20000 in
theorem ggX10_ends_X10_in : GoodIn wsX10_ends wsX10_in := goodIn_r _ [9] (by decide +kernel) (by decide +kernel)
set_option maxRecDepth 20000 in
theorem gX10_ends_X10_in : GoodIn wsX10_ends (va_wsS RX10 69 yX10_in wsX10_in) := goodIn_app (goodIn_of _ (by decide +kernel)) ggX10_ends_X10_in
theorem dX10_ends_0 : decode cX10_ends 0 = .ok (.iload_n 1, 1) := by decide +kernel
theorem dX10_ends_1 : decode cX10_ends 1 = .ok (.i2l, 1) := by decide +kernel
theorem dX10_ends_2 : decode cX10_ends 2 = .ok (.lconst 0, 1) := by decide +kernel
theorem dX10_ends_3 : decode cX10_ends 3 = .ok (.ldc2_w 186, 3) := by decide +kernel
theorem dX10_ends_6 : decode cX10_ends 6 = .ok (.invokestatic 69, 3) := by decide +kernel
theorem dX10_ends_9 : decode cX10_ends 9 = .ok (.ifCond .eq 27, 3) := by decide +kernel
theorem dX10_ends_12 : decode cX10_ends 12 = .ok (.iload_n 2, 1) := by decide +kernel
theorem dX10_ends_13 : decode cX10_ends 13 = .ok (.i2l, 1) := by decide +kernel
theorem dX10_ends_14 : decode cX10_ends 14 = .ok (.lconst 0, 1) := by decide +kernel
theorem dX10_ends_15 : decode cX10_ends 15 = .ok (.ldc2_w 108, 3) := by decide +kernel
theorem dX10_ends_18 : decode cX10_ends 18 = .ok (.invokestatic 69, 3) := by decide +kernel
theorem dX10_ends_21 : decode cX10_ends 21 = .ok (.ifCond .eq 15, 3) := by decide +kernel
theorem dX10_ends_24 : decode cX10_ends 24 = .ok (.iload_n 3, 1) := by decide +kernel
theorem dX10_ends_25 : decode cX10_ends 25 = .ok (.i2l, 1) := by decide +kernel
theorem dX10_ends_26 : decode cX10_ends 26 = .ok (.lconst 1, 1) := by decide +kernel
theorem dX10_ends_27 : decode cX10_ends 27 = .ok (.ldc2_w 108, 3) := by decide +kernel
theorem dX10_ends_30 : decode cX10_ends 30 = .ok (.invokestatic 69, 3) := by decide +kernel
theorem dX10_ends_33 : decode cX10_ends 33 = .ok (.ifCond .ne 6, 3) := by decide +kernel
theorem dX10_ends_36 : decode cX10_ends 36 = .ok (.bipush (-2), 2) := by decide +kernel
theorem dX10_ends_38 : decode cX10_ends 38 = .ok (.ireturn, 1) := by decide +kernel
theorem dX10_ends_39 : decode cX10_ends 39 = .ok (.aload_n 0, 1) := by decide +kernel
theorem dX10_ends_40 : decode cX10_ends 40 = .ok (.iload_n 1, 1) := by decide +kernel
theorem dX10_ends_41 : decode cX10_ends 41 = .ok (.putfield 188, 3) := by decide +kernel
theorem dX10_ends_44 : decode cX10_ends 44 = .ok (.aload_n 0, 1) := by decide +kernel
theorem dX10_ends_45 : decode cX10_ends 45 = .ok (.iload_n 2, 1) := by decide +kernel
theorem dX10_ends_46 : decode cX10_ends 46 = .ok (.putfield 191, 3) := by decide +kernel
theorem dX10_ends_49 : decode cX10_ends 49 = .ok (.aload_n 0, 1) := by decide +kernel
theorem dX10_ends_50 : decode cX10_ends 50 = .ok (.iload_n 3, 1) := by decide +kernel
theorem dX10_ends_51 : decode cX10_ends 51 = .ok (.putfield 41, 3) := by decide +kernel
theorem dX10_ends_54 : decode cX10_ends 54 = .ok (.iconst 1, 1) := by decide +kernel
theorem dX10_ends_55 : decode cX10_ends 55 = .ok (.ireturn, 1) := by decide +kernel
set_option maxRecDepth 20000 in
theorem ggX10_free_X10_in : GoodIn wsX10_free wsX10_in := goodIn_r _ [11] (by decide +kernel) (by decide +kernel)
set_option maxRecDepth 20000 in
theorem gX10_free_X10_in : GoodIn wsX10_free (va_wsS RX10 69 yX10_in wsX10_in) := goodIn_app (goodIn_of _ (by decide +kernel)) ggX10_free_X10_in
set_option maxRecDepth 20000 in
theorem ggX10_free_X10_no : GoodIn wsX10_free wsX10_no := goodIn_r _ [14, 15] (by decide +kernel) (by decide +kernel)
set_option maxRecDepth 20000 in
theorem gX10_free_X10_no : GoodIn wsX10_free (va_wsS RX10 154 yX10_no wsX10_no) := goodIn_app (goodIn_of _ (by decide +kernel)) ggX10_free_X10_no
theorem dX10_free_0 : decode cX10_free 0 = .ok (.iload_n 1, 1) := by decide +kernel
theorem dX10_free_1 : decode cX10_free 1 = .ok (.i2l, 1) := by decide +kernel
theorem dX10_free_2 : decode cX10_free 2 = .ok (.lconst 0, 1) := by decide +kernel
theorem dX10_free_3 : decode cX10_free 3 = .ok (.lconst 1, 1) := by decide +kernel
theorem dX10_free_4 : decode cX10_free 4 = .ok (.invokestatic 69, 3) := by decide +kernel
theorem dX10_free_7 : decode cX10_free 7 = .ok (.ifCond .ne 9, 3) := by decide +kernel
theorem dX10_free_10 : decode cX10_free 10 = .ok (.bipush (-2), 2) := by decide +kernel
theorem dX10_free_12 : decode cX10_free 12 = .ok (.invokestatic 154, 3) := by decide +kernel
theorem dX10_free_15 : decode cX10_free 15 = .ok (.lreturn, 1) := by decide +kernel
theorem dX10_free_16 : decode cX10_free 16 = .ok (.aload_n 0, 1) := by decide +kernel
theorem dX10_free_17 : decode cX10_free 17 = .ok (.getfield 183, 3) := by decide +kernel
theorem dX10_free_20 : decode cX10_free 20 = .ok (.ifCond .ne 9, 3) := by decide +kernel
theorem dX10_free_23 : decode cX10_free 23 = .ok (.bipush (-3), 2) := by decide +kernel
theorem dX10_free_25 : decode cX10_free 25 = .ok (.invokestatic 154, 3) := by decide +kernel
theorem dX10_free_28 : decode cX10_free 28 = .ok (.lreturn, 1) := by decide +kernel
theorem dX10_free_29 : decode cX10_free 29 = .ok (.lconst 0, 1) := by decide +kernel
theorem dX10_free_30 : decode cX10_free 30 = .ok (.lstore_n 2, 1) := by decide +kernel
theorem dX10_free_31 : decode cX10_free 31 = .ok (.ldc2_w 194, 3) := by decide +kernel
theorem dX10_free_34 : decode cX10_free 34 = .ok (.lstore 4, 2) := by decide +kernel
theorem dX10_free_36 : decode cX10_free 36 = .ok (.iconst 0, 1) := by decide +kernel
theorem dX10_free_37 : decode cX10_free 37 = .ok (.istore 6, 2) := by decide +kernel
theorem dX10_free_39 : decode cX10_free 39 = .ok (.iload 6, 2) := by decide +kernel
theorem dX10_free_41 : decode cX10_free 41 = .ok (.aload_n 0, 1) := by decide +kernel
theorem dX10_free_42 : decode cX10_free 42 = .ok (.getfield 183, 3) := by decide +kernel
theorem dX10_free_45 : decode cX10_free 45 = .ok (.if_icmp .ge 141, 3) := by decide +kernel
theorem dX10_free_48 : decode cX10_free 48 = .ok (.aload_n 0, 1) := by decide +kernel
theorem dX10_free_49 : decode cX10_free 49 = .ok (.getfield 38, 3) := by decide +kernel
theorem dX10_free_52 : decode cX10_free 52 = .ok (.iload 6, 2) := by decide +kernel
theorem dX10_free_54 : decode cX10_free 54 = .ok (.iaload, 1) := by decide +kernel
theorem dX10_free_55 : decode cX10_free 55 = .ok (.aload_n 0, 1) := by decide +kernel
theorem dX10_free_56 : decode cX10_free 56 = .ok (.getfield 191, 3) := by decide +kernel
theorem dX10_free_59 : decode cX10_free 59 = .ok (.if_icmp .le 18, 3) := by decide +kernel
theorem dX10_free_62 : decode cX10_free 62 = .ok (.aload_n 0, 1) := by decide +kernel
theorem dX10_free_63 : decode cX10_free 63 = .ok (.getfield 38, 3) := by decide +kernel
theorem dX10_free_66 : decode cX10_free 66 = .ok (.iload 6, 2) := by decide +kernel
theorem dX10_free_68 : decode cX10_free 68 = .ok (.iaload, 1) := by decide +kernel
theorem dX10_free_69 : decode cX10_free 69 = .ok (.aload_n 0, 1) := by decide +kernel
theorem dX10_free_70 : decode cX10_free 70 = .ok (.getfield 191, 3) := by decide +kernel
theorem dX10_free_73 : decode cX10_free 73 = .ok (.isub, 1) := by decide +kernel
theorem dX10_free_74 : decode cX10_free 74 = .ok (.goto 4, 3) := by decide +kernel
theorem dX10_free_77 : decode cX10_free 77 = .ok (.iconst 0, 1) := by decide +kernel
theorem dX10_free_78 : decode cX10_free 78 = .ok (.istore 7, 2) := by decide +kernel
theorem dX10_free_80 : decode cX10_free 80 = .ok (.iload 7, 2) := by decide +kernel
theorem dX10_free_82 : decode cX10_free 82 = .ok (.i2l, 1) := by decide +kernel
theorem dX10_free_83 : decode cX10_free 83 = .ok (.aload_n 0, 1) := by decide +kernel
theorem dX10_free_84 : decode cX10_free 84 = .ok (.getfield 41, 3) := by decide +kernel
theorem dX10_free_87 : decode cX10_free 87 = .ok (.i2l, 1) := by decide +kernel
theorem dX10_free_88 : decode cX10_free 88 = .ok (.lmul, 1) := by decide +kernel
theorem dX10_free_89 : decode cX10_free 89 = .ok (.aload_n 0, 1) := by decide +kernel
theorem dX10_free_90 : decode cX10_free 90 = .ok (.getfield 35, 3) := by decide +kernel
theorem dX10_free_93 : decode cX10_free 93 = .ok (.iload 6, 2) := by decide +kernel
theorem dX10_free_95 : decode cX10_free 95 = .ok (.iaload, 1) := by decide +kernel
theorem dX10_free_96 : decode cX10_free 96 = .ok (.aload_n 0, 1) := by decide +kernel
theorem dX10_free_97 : decode cX10_free 97 = .ok (.getfield 188, 3) := by decide +kernel
theorem dX10_free_100 : decode cX10_free 100 = .ok (.iadd, 1) := by decide +kernel
theorem dX10_free_101 : decode cX10_free 101 = .ok (.i2l, 1) := by decide +kernel
theorem dX10_free_102 : decode cX10_free 102 = .ok (.ldiv, 1) := by decide +kernel
theorem dX10_free_103 : decode cX10_free 103 = .ok (.lstore 8, 2) := by decide +kernel
theorem dX10_free_105 : decode cX10_free 105 = .ok (.aload_n 0, 1) := by decide +kernel
theorem dX10_free_106 : decode cX10_free 106 = .ok (.getfield 35, 3) := by decide +kernel
theorem dX10_free_109 : decode cX10_free 109 = .ok (.iload 6, 2) := by decide +kernel
theorem dX10_free_111 : decode cX10_free 111 = .ok (.iaload, 1) := by decide +kernel
theorem dX10_free_112 : decode cX10_free 112 = .ok (.aload_n 0, 1) := by decide +kernel
theorem dX10_free_113 : decode cX10_free 113 = .ok (.getfield 188, 3) := by decide +kernel
theorem dX10_free_116 : decode cX10_free 116 = .ok (.isub, 1) := by decide +kernel
theorem dX10_free_117 : decode cX10_free 117 = .ok (.i2l, 1) := by decide +kernel
theorem dX10_free_118 : decode cX10_free 118 = .ok (.lstore 10, 2) := by decide +kernel
theorem dX10_free_120 : decode cX10_free 120 = .ok (.aload_n 0, 1) := by decide +kernel
theorem dX10_free_121 : decode cX10_free 121 = .ok (.getfield 38, 3) := by decide +kernel
theorem dX10_free_124 : decode cX10_free 124 = .ok (.iload 6, 2) := by decide +kernel
theorem dX10_free_126 : decode cX10_free 126 = .ok (.iaload, 1) := by decide +kernel
theorem dX10_free_127 : decode cX10_free 127 = .ok (.aload_n 0, 1) := by decide +kernel
theorem dX10_free_128 : decode cX10_free 128 = .ok (.getfield 191, 3) := by decide +kernel
theorem dX10_free_131 : decode cX10_free 131 = .ok (.iadd, 1) := by decide +kernel
theorem dX10_free_132 : decode cX10_free 132 = .ok (.i2l, 1) := by decide +kernel
theorem dX10_free_133 : decode cX10_free 133 = .ok (.aload_n 0, 1) := by decide +kernel
theorem dX10_free_134 : decode cX10_free 134 = .ok (.getfield 41, 3) := by decide +kernel
theorem dX10_free_137 : decode cX10_free 137 = .ok (.i2l, 1) := by decide +kernel
theorem dX10_free_138 : decode cX10_free 138 = .ok (.lmul, 1) := by decide +kernel
theorem dX10_free_139 : decode cX10_free 139 = .ok (.lload 10, 2) := by decide +kernel
theorem dX10_free_141 : decode cX10_free 141 = .ok (.ladd, 1) := by decide +kernel
theorem dX10_free_142 : decode cX10_free 142 = .ok (.lconst 1, 1) := by decide +kernel
theorem dX10_free_143 : decode cX10_free 143 = .ok (.lsub, 1) := by decide +kernel
theorem dX10_free_144 : decode cX10_free 144 = .ok (.lload 10, 2) := by decide +kernel
theorem dX10_free_146 : decode cX10_free 146 = .ok (.ldiv, 1) := by decide +kernel
theorem dX10_free_147 : decode cX10_free 147 = .ok (.lstore 12, 2) := by decide +kernel
theorem dX10_free_149 : decode cX10_free 149 = .ok (.lload 8, 2) := by decide +kernel
theorem dX10_free_151 : decode cX10_free 151 = .ok (.lload_n 2, 1) := by decide +kernel
theorem dX10_free_152 : decode cX10_free 152 = .ok (.lcmp, 1) := by decide +kernel
theorem dX10_free_153 : decode cX10_free 153 = .ok (.ifCond .le 8, 3) := by decide +kernel
theorem dX10_free_156 : decode cX10_free 156 = .ok (.lload 8, 2) := by decide +kernel
theorem dX10_free_158 : decode cX10_free 158 = .ok (.goto 4, 3) := by decide +kernel
theorem dX10_free_161 : decode cX10_free 161 = .ok (.lload_n 2, 1) := by decide +kernel
theorem dX10_free_162 : decode cX10_free 162 = .ok (.lstore_n 2, 1) := by decide +kernel
theorem dX10_free_163 : decode cX10_free 163 = .ok (.lload 12, 2) := by decide +kernel
theorem dX10_free_165 : decode cX10_free 165 = .ok (.lload 4, 2) := by decide +kernel
theorem dX10_free_167 : decode cX10_free 167 = .ok (.lcmp, 1) := by decide +kernel
theorem dX10_free_168 : decode cX10_free 168 = .ok (.ifCond .ge 8, 3) := by decide +kernel
theorem dX10_free_171 : decode cX10_free 171 = .ok (.lload 12, 2) := by decide +kernel
theorem dX10_free_173 : decode cX10_free 173 = .ok (.goto 5, 3) := by decide +kernel
theorem dX10_free_176 : decode cX10_free 176 = .ok (.lload 4, 2) := by decide +kernel
theorem dX10_free_178 : decode cX10_free 178 = .ok (.lstore 4, 2) := by decide +kernel
theorem dX10_free_180 : decode cX10_free 180 = .ok (.iinc 6 1, 3) := by decide +kernel
theorem dX10_free_183 : decode cX10_free 183 = .ok (.goto (-144), 3) := by decide +kernel
theorem dX10_free_186 : decode cX10_free 186 = .ok (.lload_n 2, 1) := by decide +kernel
theorem dX10_free_187 : decode cX10_free 187 = .ok (.lload 4, 2) := by decide +kernel
theorem dX10_free_189 : decode cX10_free 189 = .ok (.lcmp, 1) := by decide +kernel
theorem dX10_free_190 : decode cX10_free 190 = .ok (.ifCond .le 11, 3) := by decide +kernel
theorem dX10_free_193 : decode cX10_free 193 = .ok (.bipush (-3), 2) := by decide +kernel
theorem dX10_free_195 : decode cX10_free 195 = .ok (.invokestatic 154, 3) := by decide +kernel
theorem dX10_free_198 : decode cX10_free 198 = .ok (.goto 13, 3) := by decide +kernel
theorem dX10_free_201 : decode cX10_free 201 = .ok (.iload_n 1, 1) := by decide +kernel
theorem dX10_free_202 : decode cX10_free 202 = .ok (.ifCond .ne 7, 3) := by decide +kernel
theorem dX10_free_205 : decode cX10_free 205 = .ok (.lload_n 2, 1) := by decide +kernel
theorem dX10_free_206 : decode cX10_free 206 = .ok (.goto 5, 3) := by decide +kernel
theorem dX10_free_209 : decode cX10_free 209 = .ok (.lload 4, 2) := by decide +kernel
theorem dX10_free_211 : decode cX10_free 211 = .ok (.lreturn, 1) := by decide +kernel
set_option maxRecDepth 20000 in
theorem ggX10_isHole_X10_in : GoodIn wsX10_isHole wsX10_in := goodIn_r _ [4] (by decide +kernel) (by decide +kernel)
set_option maxRecDepth 20000 in
theorem gX10_isHole_X10_in : GoodIn wsX10_isHole (va_wsS RX10 69 yX10_in wsX10_in) := goodIn_app (goodIn_of _ (by decide +kernel)) ggX10_isHole_X10_in
theorem dX10_isHole_0 : decode cX10_isHole 0 = .ok (.iload_n 0, 1) := by decide +kernel
theorem dX10_isHole_1 : decode cX10_isHole 1 = .ok (.i2l, 1) := by decide +kernel
theorem dX10_isHole_2 : decode cX10_isHole 2 = .ok (.lconst 0, 1) := by decide +kernel
theorem dX10_isHole_3 : decode cX10_isHole 3 = .ok (.lconst 1, 1) := by decide +kernel
theorem dX10_isHole_4 : decode cX10_isHole 4 = .ok (.invokestatic 69, 3) := by decide +kernel
theorem dX10_isHole_7 : decode cX10_isHole 7 = .ok (.ireturn, 1) := by decide +kernel
set_option maxRecDepth 20000 in
theorem ggX10_begin_X10_isHole : GoodIn wsX10_begin wsX10_isHole := goodIn_r _ [9, 10, 11, 8, 12] (by decide +kernel) (by decide +kernel)
set_option maxRecDepth 20000 in
theorem gX10_begin_X10_isHole : GoodIn wsX10_begin (va_wsS RX10 196 yX10_isHole wsX10_isHole) := goodIn_app (goodIn_of _ (by decide +kernel)) ggX10_begin_X10_isHole
set_option maxRecDepth 20000 in
theorem ggX10_begin_X10_in : GoodIn wsX10_begin wsX10_in := goodIn_r _ [12] (by decide +kernel) (by decide +kernel)
set_option maxRecDepth 20000 in
theorem gX10_begin_X10_in : GoodIn wsX10_begin (va_wsS RX10 69 yX10_in wsX10_in) := goodIn_app (goodIn_of _ (by decide +kernel)) ggX10_begin_X10_in
theorem dX10_begin_0 : decode cX10_begin 0 = .ok (.iload_n 1, 1) := by decide +kernel
theorem dX10_begin_1 : decode cX10_begin 1 = .ok (.invokestatic 196, 3) := by decide +kernel
theorem dX10_begin_4 : decode cX10_begin 4 = .ok (.ifCond .eq 17, 3) := by decide +kernel
theorem dX10_begin_7 : decode cX10_begin 7 = .ok (.iload_n 2, 1) := by decide +kernel
theorem dX10_begin_8 : decode cX10_begin 8 = .ok (.i2l, 1) := by decide +kernel
theorem dX10_begin_9 : decode cX10_begin 9 = .ok (.ldc2_w 200, 3) := by decide +kernel
theorem dX10_begin_12 : decode cX10_begin 12 = .ok (.ldc2_w 177, 3) := by decide +kernel
theorem dX10_begin_15 : decode cX10_begin 15 = .ok (.invokestatic 69, 3) := by decide +kernel
theorem dX10_begin_18 : decode cX10_begin 18 = .ok (.ifCond .ne 6, 3) := by decide +kernel
theorem dX10_begin_21 : decode cX10_begin 21 = .ok (.bipush (-2), 2) := by decide +kernel
theorem dX10_begin_23 : decode cX10_begin 23 = .ok (.ireturn, 1) := by decide +kernel
theorem dX10_begin_24 : decode cX10_begin 24 = .ok (.aload_n 0, 1) := by decide +kernel
theorem dX10_begin_25 : decode cX10_begin 25 = .ok (.getfield 44, 3) := by decide +kernel
theorem dX10_begin_28 : decode cX10_begin 28 = .ok (.iload_n 1, 1) := by decide +kernel
theorem dX10_begin_29 : decode cX10_begin 29 = .ok (.iaload, 1) := by decide +kernel
theorem dX10_begin_30 : decode cX10_begin 30 = .ok (.istore_n 3, 1) := by decide +kernel
theorem dX10_begin_31 : decode cX10_begin 31 = .ok (.aload_n 0, 1) := by decide +kernel
theorem dX10_begin_32 : decode cX10_begin 32 = .ok (.getfield 44, 3) := by decide +kernel
theorem dX10_begin_35 : decode cX10_begin 35 = .ok (.iload_n 1, 1) := by decide +kernel
theorem dX10_begin_36 : decode cX10_begin 36 = .ok (.iconst 0, 1) := by decide +kernel
theorem dX10_begin_37 : decode cX10_begin 37 = .ok (.iastore, 1) := by decide +kernel
theorem dX10_begin_38 : decode cX10_begin 38 = .ok (.aload_n 0, 1) := by decide +kernel
theorem dX10_begin_39 : decode cX10_begin 39 = .ok (.getfield 47, 3) := by decide +kernel
theorem dX10_begin_42 : decode cX10_begin 42 = .ok (.bipush 41, 2) := by decide +kernel
theorem dX10_begin_44 : decode cX10_begin 44 = .ok (.iload_n 1, 1) := by decide +kernel
theorem dX10_begin_45 : decode cX10_begin 45 = .ok (.imul, 1) := by decide +kernel
theorem dX10_begin_46 : decode cX10_begin 46 = .ok (.iload_n 2, 1) := by decide +kernel
theorem dX10_begin_47 : decode cX10_begin 47 = .ok (.iastore, 1) := by decide +kernel
theorem dX10_begin_48 : decode cX10_begin 48 = .ok (.aload_n 0, 1) := by decide +kernel
theorem dX10_begin_49 : decode cX10_begin 49 = .ok (.getfield 50, 3) := by decide +kernel
theorem dX10_begin_52 : decode cX10_begin 52 = .ok (.bipush 41, 2) := by decide +kernel
theorem dX10_begin_54 : decode cX10_begin 54 = .ok (.iload_n 1, 1) := by decide +kernel
theorem dX10_begin_55 : decode cX10_begin 55 = .ok (.imul, 1) := by decide +kernel
theorem dX10_begin_56 : decode cX10_begin 56 = .ok (.iconst 0, 1) := by decide +kernel
theorem dX10_begin_57 : decode cX10_begin 57 = .ok (.iastore, 1) := by decide +kernel
theorem dX10_begin_58 : decode cX10_begin 58 = .ok (.iload_n 3, 1) := by decide +kernel
theorem dX10_begin_59 : decode cX10_begin 59 = .ok (.ireturn, 1) := by decide +kernel
set_option maxRecDepth 20000 in
theorem ggX10_station_X10_isHole : GoodIn wsX10_station wsX10_isHole := goodIn_r _ [9, 10, 11, 8, 12] (by decide +kernel) (by decide +kernel)
set_option maxRecDepth 20000 in
theorem gX10_station_X10_isHole : GoodIn wsX10_station (va_wsS RX10 196 yX10_isHole wsX10_isHole) := goodIn_app (goodIn_of _ (by decide +kernel)) ggX10_station_X10_isHole
set_option maxRecDepth 20000 in
theorem ggX10_station_X10_in : GoodIn wsX10_station wsX10_in := goodIn_r _ [12] (by decide +kernel) (by decide +kernel)
set_option maxRecDepth 20000 in
theorem gX10_station_X10_in : GoodIn wsX10_station (va_wsS RX10 69 yX10_in wsX10_in) := goodIn_app (goodIn_of _ (by decide +kernel)) ggX10_station_X10_in
theorem dX10_station_0 : decode cX10_station 0 = .ok (.iload_n 1, 1) := by decide +kernel
theorem dX10_station_1 : decode cX10_station 1 = .ok (.invokestatic 196, 3) := by decide +kernel
theorem dX10_station_4 : decode cX10_station 4 = .ok (.ifCond .eq 25, 3) := by decide +kernel
theorem dX10_station_7 : decode cX10_station 7 = .ok (.iload_n 2, 1) := by decide +kernel
theorem dX10_station_8 : decode cX10_station 8 = .ok (.i2l, 1) := by decide +kernel
theorem dX10_station_9 : decode cX10_station 9 = .ok (.lconst 0, 1) := by decide +kernel
theorem dX10_station_10 : decode cX10_station 10 = .ok (.ldc2_w 186, 3) := by decide +kernel
theorem dX10_station_13 : decode cX10_station 13 = .ok (.invokestatic 69, 3) := by decide +kernel
theorem dX10_station_16 : decode cX10_station 16 = .ok (.ifCond .eq 13, 3) := by decide +kernel
theorem dX10_station_19 : decode cX10_station 19 = .ok (.iload_n 3, 1) := by decide +kernel
theorem dX10_station_20 : decode cX10_station 20 = .ok (.iconst (-1), 1) := by decide +kernel
theorem dX10_station_21 : decode cX10_station 21 = .ok (.if_icmp .eq 11, 3) := by decide +kernel
theorem dX10_station_24 : decode cX10_station 24 = .ok (.iload_n 3, 1) := by decide +kernel
theorem dX10_station_25 : decode cX10_station 25 = .ok (.iconst 1, 1) := by decide +kernel
theorem dX10_station_26 : decode cX10_station 26 = .ok (.if_icmp .eq 6, 3) := by decide +kernel
theorem dX10_station_29 : decode cX10_station 29 = .ok (.bipush (-2), 2) := by decide +kernel
theorem dX10_station_31 : decode cX10_station 31 = .ok (.ireturn, 1) := by decide +kernel
theorem dX10_station_32 : decode cX10_station 32 = .ok (.aload_n 0, 1) := by decide +kernel
theorem dX10_station_33 : decode cX10_station 33 = .ok (.getfield 44, 3) := by decide +kernel
theorem dX10_station_36 : decode cX10_station 36 = .ok (.iload_n 1, 1) := by decide +kernel
theorem dX10_station_37 : decode cX10_station 37 = .ok (.iaload, 1) := by decide +kernel
theorem dX10_station_38 : decode cX10_station 38 = .ok (.bipush 40, 2) := by decide +kernel
theorem dX10_station_40 : decode cX10_station 40 = .ok (.if_icmp .ne 6, 3) := by decide +kernel
theorem dX10_station_43 : decode cX10_station 43 = .ok (.bipush (-4), 2) := by decide +kernel
theorem dX10_station_45 : decode cX10_station 45 = .ok (.ireturn, 1) := by decide +kernel
theorem dX10_station_46 : decode cX10_station 46 = .ok (.bipush 41, 2) := by decide +kernel
theorem dX10_station_48 : decode cX10_station 48 = .ok (.iload_n 1, 1) := by decide +kernel
theorem dX10_station_49 : decode cX10_station 49 = .ok (.imul, 1) := by decide +kernel
theorem dX10_station_50 : decode cX10_station 50 = .ok (.aload_n 0, 1) := by decide +kernel
theorem dX10_station_51 : decode cX10_station 51 = .ok (.getfield 44, 3) := by decide +kernel
theorem dX10_station_54 : decode cX10_station 54 = .ok (.iload_n 1, 1) := by decide +kernel
theorem dX10_station_55 : decode cX10_station 55 = .ok (.iaload, 1) := by decide +kernel
theorem dX10_station_56 : decode cX10_station 56 = .ok (.iadd, 1) := by decide +kernel
theorem dX10_station_57 : decode cX10_station 57 = .ok (.istore 4, 2) := by decide +kernel
theorem dX10_station_59 : decode cX10_station 59 = .ok (.aload_n 0, 1) := by decide +kernel
theorem dX10_station_60 : decode cX10_station 60 = .ok (.getfield 47, 3) := by decide +kernel
theorem dX10_station_63 : decode cX10_station 63 = .ok (.iload 4, 2) := by decide +kernel
theorem dX10_station_65 : decode cX10_station 65 = .ok (.iconst 1, 1) := by decide +kernel
theorem dX10_station_66 : decode cX10_station 66 = .ok (.iadd, 1) := by decide +kernel
theorem dX10_station_67 : decode cX10_station 67 = .ok (.aload_n 0, 1) := by decide +kernel
theorem dX10_station_68 : decode cX10_station 68 = .ok (.getfield 47, 3) := by decide +kernel
theorem dX10_station_71 : decode cX10_station 71 = .ok (.iload 4, 2) := by decide +kernel
theorem dX10_station_73 : decode cX10_station 73 = .ok (.iaload, 1) := by decide +kernel
theorem dX10_station_74 : decode cX10_station 74 = .ok (.iload_n 3, 1) := by decide +kernel
theorem dX10_station_75 : decode cX10_station 75 = .ok (.aload_n 0, 1) := by decide +kernel
theorem dX10_station_76 : decode cX10_station 76 = .ok (.getfield 7, 3) := by decide +kernel
theorem dX10_station_79 : decode cX10_station 79 = .ok (.bipush 9, 2) := by decide +kernel
theorem dX10_station_81 : decode cX10_station 81 = .ok (.iload_n 2, 1) := by decide +kernel
theorem dX10_station_82 : decode cX10_station 82 = .ok (.isub, 1) := by decide +kernel
theorem dX10_station_83 : decode cX10_station 83 = .ok (.iaload, 1) := by decide +kernel
theorem dX10_station_84 : decode cX10_station 84 = .ok (.imul, 1) := by decide +kernel
theorem dX10_station_85 : decode cX10_station 85 = .ok (.iadd, 1) := by decide +kernel
theorem dX10_station_86 : decode cX10_station 86 = .ok (.iastore, 1) := by decide +kernel
theorem dX10_station_87 : decode cX10_station 87 = .ok (.aload_n 0, 1) := by decide +kernel
theorem dX10_station_88 : decode cX10_station 88 = .ok (.getfield 50, 3) := by decide +kernel
theorem dX10_station_91 : decode cX10_station 91 = .ok (.iload 4, 2) := by decide +kernel
theorem dX10_station_93 : decode cX10_station 93 = .ok (.iconst 1, 1) := by decide +kernel
theorem dX10_station_94 : decode cX10_station 94 = .ok (.iadd, 1) := by decide +kernel
theorem dX10_station_95 : decode cX10_station 95 = .ok (.aload_n 0, 1) := by decide +kernel
theorem dX10_station_96 : decode cX10_station 96 = .ok (.getfield 50, 3) := by decide +kernel
theorem dX10_station_99 : decode cX10_station 99 = .ok (.iload 4, 2) := by decide +kernel
theorem dX10_station_101 : decode cX10_station 101 = .ok (.iaload, 1) := by decide +kernel
theorem dX10_station_102 : decode cX10_station 102 = .ok (.aload_n 0, 1) := by decide +kernel
theorem dX10_station_103 : decode cX10_station 103 = .ok (.getfield 7, 3) := by decide +kernel
theorem dX10_station_106 : decode cX10_station 106 = .ok (.iload_n 2, 1) := by decide +kernel
theorem dX10_station_107 : decode cX10_station 107 = .ok (.iaload, 1) := by decide +kernel
theorem dX10_station_108 : decode cX10_station 108 = .ok (.iadd, 1) := by decide +kernel
theorem dX10_station_109 : decode cX10_station 109 = .ok (.iastore, 1) := by decide +kernel
theorem dX10_station_110 : decode cX10_station 110 = .ok (.aload_n 0, 1) := by decide +kernel
theorem dX10_station_111 : decode cX10_station 111 = .ok (.getfield 44, 3) := by decide +kernel
theorem dX10_station_114 : decode cX10_station 114 = .ok (.iload_n 1, 1) := by decide +kernel
theorem dX10_station_115 : decode cX10_station 115 = .ok (.dup2, 1) := by decide +kernel
theorem dX10_station_116 : decode cX10_station 116 = .ok (.iaload, 1) := by decide +kernel
theorem dX10_station_117 : decode cX10_station 117 = .ok (.iconst 1, 1) := by decide +kernel
theorem dX10_station_118 : decode cX10_station 118 = .ok (.iadd, 1) := by decide +kernel
theorem dX10_station_119 : decode cX10_station 119 = .ok (.iastore, 1) := by decide +kernel
theorem dX10_station_120 : decode cX10_station 120 = .ok (.aload_n 0, 1) := by decide +kernel
theorem dX10_station_121 : decode cX10_station 121 = .ok (.getfield 44, 3) := by decide +kernel
theorem dX10_station_124 : decode cX10_station 124 = .ok (.iload_n 1, 1) := by decide +kernel
theorem dX10_station_125 : decode cX10_station 125 = .ok (.iaload, 1) := by decide +kernel
theorem dX10_station_126 : decode cX10_station 126 = .ok (.ireturn, 1) := by decide +kernel
set_option maxRecDepth 20000 in
theorem ggX10_place_X10_isHole : GoodIn wsX10_place wsX10_isHole := goodIn_r _ [8, 9, 10, 7, 11] (by decide +kernel) (by decide +kernel)
set_option maxRecDepth 20000 in
theorem gX10_place_X10_isHole : GoodIn wsX10_place (va_wsS RX10 196 yX10_isHole wsX10_isHole) := goodIn_app (goodIn_of _ (by decide +kernel)) ggX10_place_X10_isHole
set_option maxRecDepth 20000 in
theorem ggX10_place_X10_in : GoodIn wsX10_place wsX10_in := goodIn_r _ [11] (by decide +kernel) (by decide +kernel)
set_option maxRecDepth 20000 in
theorem gX10_place_X10_in : GoodIn wsX10_place (va_wsS RX10 69 yX10_in wsX10_in) := goodIn_app (goodIn_of _ (by decide +kernel)) ggX10_place_X10_in
theorem dX10_place_0 : decode cX10_place 0 = .ok (.iload_n 1, 1) := by decide +kernel
theorem dX10_place_1 : decode cX10_place 1 = .ok (.invokestatic 196, 3) := by decide +kernel
theorem dX10_place_4 : decode cX10_place 4 = .ok (.ifCond .eq 29, 3) := by decide +kernel
theorem dX10_place_7 : decode cX10_place 7 = .ok (.iload_n 2, 1) := by decide +kernel
theorem dX10_place_8 : decode cX10_place 8 = .ok (.i2l, 1) := by decide +kernel
theorem dX10_place_9 : decode cX10_place 9 = .ok (.lconst 0, 1) := by decide +kernel
theorem dX10_place_10 : decode cX10_place 10 = .ok (.aload_n 0, 1) := by decide +kernel
theorem dX10_place_11 : decode cX10_place 11 = .ok (.getfield 44, 3) := by decide +kernel
theorem dX10_place_14 : decode cX10_place 14 = .ok (.iload_n 1, 1) := by decide +kernel
theorem dX10_place_15 : decode cX10_place 15 = .ok (.iaload, 1) := by decide +kernel
theorem dX10_place_16 : decode cX10_place 16 = .ok (.i2l, 1) := by decide +kernel
theorem dX10_place_17 : decode cX10_place 17 = .ok (.invokestatic 69, 3) := by decide +kernel
theorem dX10_place_20 : decode cX10_place 20 = .ok (.ifCond .eq 13, 3) := by decide +kernel
theorem dX10_place_23 : decode cX10_place 23 = .ok (.iload_n 3, 1) := by decide +kernel
theorem dX10_place_24 : decode cX10_place 24 = .ok (.i2l, 1) := by decide +kernel
theorem dX10_place_25 : decode cX10_place 25 = .ok (.lconst 0, 1) := by decide +kernel
theorem dX10_place_26 : decode cX10_place 26 = .ok (.lconst 1, 1) := by decide +kernel
theorem dX10_place_27 : decode cX10_place 27 = .ok (.invokestatic 69, 3) := by decide +kernel
theorem dX10_place_30 : decode cX10_place 30 = .ok (.ifCond .ne 6, 3) := by decide +kernel
theorem dX10_place_33 : decode cX10_place 33 = .ok (.ldc 202, 2) := by decide +kernel
theorem dX10_place_35 : decode cX10_place 35 = .ok (.ireturn, 1) := by decide +kernel
theorem dX10_place_36 : decode cX10_place 36 = .ok (.iload_n 3, 1) := by decide +kernel
theorem dX10_place_37 : decode cX10_place 37 = .ok (.ifCond .ne 17, 3) := by decide +kernel
theorem dX10_place_40 : decode cX10_place 40 = .ok (.aload_n 0, 1) := by decide +kernel
theorem dX10_place_41 : decode cX10_place 41 = .ok (.getfield 47, 3) := by decide +kernel
theorem dX10_place_44 : decode cX10_place 44 = .ok (.bipush 41, 2) := by decide +kernel
theorem dX10_place_46 : decode cX10_place 46 = .ok (.iload_n 1, 1) := by decide +kernel
theorem dX10_place_47 : decode cX10_place 47 = .ok (.imul, 1) := by decide +kernel
theorem dX10_place_48 : decode cX10_place 48 = .ok (.iload_n 2, 1) := by decide +kernel
theorem dX10_place_49 : decode cX10_place 49 = .ok (.iadd, 1) := by decide +kernel
theorem dX10_place_50 : decode cX10_place 50 = .ok (.iaload, 1) := by decide +kernel
theorem dX10_place_51 : decode cX10_place 51 = .ok (.goto 14, 3) := by decide +kernel
theorem dX10_place_54 : decode cX10_place 54 = .ok (.aload_n 0, 1) := by decide +kernel
theorem dX10_place_55 : decode cX10_place 55 = .ok (.getfield 50, 3) := by decide +kernel
theorem dX10_place_58 : decode cX10_place 58 = .ok (.bipush 41, 2) := by decide +kernel
theorem dX10_place_60 : decode cX10_place 60 = .ok (.iload_n 1, 1) := by decide +kernel
theorem dX10_place_61 : decode cX10_place 61 = .ok (.imul, 1) := by decide +kernel
theorem dX10_place_62 : decode cX10_place 62 = .ok (.iload_n 2, 1) := by decide +kernel
theorem dX10_place_63 : decode cX10_place 63 = .ok (.iadd, 1) := by decide +kernel
theorem dX10_place_64 : decode cX10_place 64 = .ok (.iaload, 1) := by decide +kernel
theorem dX10_place_65 : decode cX10_place 65 = .ok (.ireturn, 1) := by decide +kernel
theorem dX10_findNearest_0 : decode cX10_findNearest 0 = .ok (.ldc2_w 146, 3) := by decide +kernel
theorem dX10_findNearest_3 : decode cX10_findNearest 3 = .ok (.lstore_n 1, 1) := by decide +kernel
theorem dX10_findNearest_4 : decode cX10_findNearest 4 = .ok (.iconst 0, 1) := by decide +kernel
theorem dX10_findNearest_5 : decode cX10_findNearest 5 = .ok (.istore_n 3, 1) := by decide +kernel
theorem dX10_findNearest_6 : decode cX10_findNearest 6 = .ok (.iload_n 3, 1) := by decide +kernel
theorem dX10_findNearest_7 : decode cX10_findNearest 7 = .ok (.aload_n 0, 1) := by decide +kernel
theorem dX10_findNearest_8 : decode cX10_findNearest 8 = .ok (.getfield 44, 3) := by decide +kernel
theorem dX10_findNearest_11 : decode cX10_findNearest 11 = .ok (.iconst 0, 1) := by decide +kernel
theorem dX10_findNearest_12 : decode cX10_findNearest 12 = .ok (.iaload, 1) := by decide +kernel
theorem dX10_findNearest_13 : decode cX10_findNearest 13 = .ok (.if_icmp .gt 121, 3) := by decide +kernel
theorem dX10_findNearest_16 : decode cX10_findNearest 16 = .ok (.iconst 0, 1) := by decide +kernel
theorem dX10_findNearest_17 : decode cX10_findNearest 17 = .ok (.istore 4, 2) := by decide +kernel
theorem dX10_findNearest_19 : decode cX10_findNearest 19 = .ok (.iload 4, 2) := by decide +kernel
theorem dX10_findNearest_21 : decode cX10_findNearest 21 = .ok (.aload_n 0, 1) := by decide +kernel
theorem dX10_findNearest_22 : decode cX10_findNearest 22 = .ok (.getfield 44, 3) := by decide +kernel
theorem dX10_findNearest_25 : decode cX10_findNearest 25 = .ok (.iconst 1, 1) := by decide +kernel
theorem dX10_findNearest_26 : decode cX10_findNearest 26 = .ok (.iaload, 1) := by decide +kernel
theorem dX10_findNearest_27 : decode cX10_findNearest 27 = .ok (.if_icmp .gt 101, 3) := by decide +kernel
theorem dX10_findNearest_30 : decode cX10_findNearest 30 = .ok (.aload_n 0, 1) := by decide +kernel
theorem dX10_findNearest_31 : decode cX10_findNearest 31 = .ok (.getfield 47, 3) := by decide +kernel
theorem dX10_findNearest_34 : decode cX10_findNearest 34 = .ok (.iload_n 3, 1) := by decide +kernel
theorem dX10_findNearest_35 : decode cX10_findNearest 35 = .ok (.iaload, 1) := by decide +kernel
theorem dX10_findNearest_36 : decode cX10_findNearest 36 = .ok (.aload_n 0, 1) := by decide +kernel
theorem dX10_findNearest_37 : decode cX10_findNearest 37 = .ok (.getfield 47, 3) := by decide +kernel
theorem dX10_findNearest_40 : decode cX10_findNearest 40 = .ok (.bipush 41, 2) := by decide +kernel
theorem dX10_findNearest_42 : decode cX10_findNearest 42 = .ok (.iload 4, 2) := by decide +kernel
theorem dX10_findNearest_44 : decode cX10_findNearest 44 = .ok (.iadd, 1) := by decide +kernel
theorem dX10_findNearest_45 : decode cX10_findNearest 45 = .ok (.iaload, 1) := by decide +kernel
theorem dX10_findNearest_46 : decode cX10_findNearest 46 = .ok (.isub, 1) := by decide +kernel
theorem dX10_findNearest_47 : decode cX10_findNearest 47 = .ok (.i2l, 1) := by decide +kernel
theorem dX10_findNearest_48 : decode cX10_findNearest 48 = .ok (.lstore 5, 2) := by decide +kernel
theorem dX10_findNearest_50 : decode cX10_findNearest 50 = .ok (.aload_n 0, 1) := by decide +kernel
theorem dX10_findNearest_51 : decode cX10_findNearest 51 = .ok (.getfield 50, 3) := by decide +kernel
theorem dX10_findNearest_54 : decode cX10_findNearest 54 = .ok (.iload_n 3, 1) := by decide +kernel
theorem dX10_findNearest_55 : decode cX10_findNearest 55 = .ok (.iaload, 1) := by decide +kernel
theorem dX10_findNearest_56 : decode cX10_findNearest 56 = .ok (.aload_n 0, 1) := by decide +kernel
theorem dX10_findNearest_57 : decode cX10_findNearest 57 = .ok (.getfield 50, 3) := by decide +kernel
theorem dX10_findNearest_60 : decode cX10_findNearest 60 = .ok (.bipush 41, 2) := by decide +kernel
theorem dX10_findNearest_62 : decode cX10_findNearest 62 = .ok (.iload 4, 2) := by decide +kernel
theorem dX10_findNearest_64 : decode cX10_findNearest 64 = .ok (.iadd, 1) := by decide +kernel
theorem dX10_findNearest_65 : decode cX10_findNearest 65 = .ok (.iaload, 1) := by decide +kernel
theorem dX10_findNearest_66 : decode cX10_findNearest 66 = .ok (.isub, 1) := by decide +kernel
theorem dX10_findNearest_67 : decode cX10_findNearest 67 = .ok (.i2l, 1) := by decide +kernel
theorem dX10_findNearest_68 : decode cX10_findNearest 68 = .ok (.lstore 7, 2) := by decide +kernel
theorem dX10_findNearest_70 : decode cX10_findNearest 70 = .ok (.iload_n 3, 1) := by decide +kernel
theorem dX10_findNearest_71 : decode cX10_findNearest 71 = .ok (.iload 4, 2) := by decide +kernel
theorem dX10_findNearest_73 : decode cX10_findNearest 73 = .ok (.iadd, 1) := by decide +kernel
theorem dX10_findNearest_74 : decode cX10_findNearest 74 = .ok (.ifCond .le 48, 3) := by decide +kernel
theorem dX10_findNearest_77 : decode cX10_findNearest 77 = .ok (.lload_n 1, 1) := by decide +kernel
theorem dX10_findNearest_78 : decode cX10_findNearest 78 = .ok (.lconst 0, 1) := by decide +kernel
theorem dX10_findNearest_79 : decode cX10_findNearest 79 = .ok (.lcmp, 1) := by decide +kernel
theorem dX10_findNearest_80 : decode cX10_findNearest 80 = .ok (.ifCond .lt 19, 3) := by decide +kernel
theorem dX10_findNearest_83 : decode cX10_findNearest 83 = .ok (.lload 5, 2) := by decide +kernel
theorem dX10_findNearest_85 : decode cX10_findNearest 85 = .ok (.lload 5, 2) := by decide +kernel
theorem dX10_findNearest_87 : decode cX10_findNearest 87 = .ok (.lmul, 1) := by decide +kernel
theorem dX10_findNearest_88 : decode cX10_findNearest 88 = .ok (.lload 7, 2) := by decide +kernel
theorem dX10_findNearest_90 : decode cX10_findNearest 90 = .ok (.lload 7, 2) := by decide +kernel
theorem dX10_findNearest_92 : decode cX10_findNearest 92 = .ok (.lmul, 1) := by decide +kernel
theorem dX10_findNearest_93 : decode cX10_findNearest 93 = .ok (.ladd, 1) := by decide +kernel
theorem dX10_findNearest_94 : decode cX10_findNearest 94 = .ok (.lload_n 1, 1) := by decide +kernel
theorem dX10_findNearest_95 : decode cX10_findNearest 95 = .ok (.lcmp, 1) := by decide +kernel
theorem dX10_findNearest_96 : decode cX10_findNearest 96 = .ok (.ifCond .ge 26, 3) := by decide +kernel
theorem dX10_findNearest_99 : decode cX10_findNearest 99 = .ok (.lload 5, 2) := by decide +kernel
theorem dX10_findNearest_101 : decode cX10_findNearest 101 = .ok (.lload 5, 2) := by decide +kernel
theorem dX10_findNearest_103 : decode cX10_findNearest 103 = .ok (.lmul, 1) := by decide +kernel
theorem dX10_findNearest_104 : decode cX10_findNearest 104 = .ok (.lload 7, 2) := by decide +kernel
theorem dX10_findNearest_106 : decode cX10_findNearest 106 = .ok (.lload 7, 2) := by decide +kernel
theorem dX10_findNearest_108 : decode cX10_findNearest 108 = .ok (.lmul, 1) := by decide +kernel
theorem dX10_findNearest_109 : decode cX10_findNearest 109 = .ok (.ladd, 1) := by decide +kernel
theorem dX10_findNearest_110 : decode cX10_findNearest 110 = .ok (.lstore_n 1, 1) := by decide +kernel
theorem dX10_findNearest_111 : decode cX10_findNearest 111 = .ok (.aload_n 0, 1) := by decide +kernel
theorem dX10_findNearest_112 : decode cX10_findNearest 112 = .ok (.iload_n 3, 1) := by decide +kernel
theorem dX10_findNearest_113 : decode cX10_findNearest 113 = .ok (.putfield 203, 3) := by decide +kernel
theorem dX10_findNearest_116 : decode cX10_findNearest 116 = .ok (.aload_n 0, 1) := by decide +kernel
theorem dX10_findNearest_117 : decode cX10_findNearest 117 = .ok (.iload 4, 2) := by decide +kernel
theorem dX10_findNearest_119 : decode cX10_findNearest 119 = .ok (.putfield 206, 3) := by decide +kernel
theorem dX10_findNearest_122 : decode cX10_findNearest 122 = .ok (.iinc 4 1, 3) := by decide +kernel
theorem dX10_findNearest_125 : decode cX10_findNearest 125 = .ok (.goto (-106), 3) := by decide +kernel
theorem dX10_findNearest_128 : decode cX10_findNearest 128 = .ok (.iinc 3 1, 3) := by decide +kernel
theorem dX10_findNearest_131 : decode cX10_findNearest 131 = .ok (.goto (-125), 3) := by decide +kernel
theorem dX10_findNearest_134 : decode cX10_findNearest 134 = .ok (.lload_n 1, 1) := by decide +kernel
theorem dX10_findNearest_135 : decode cX10_findNearest 135 = .ok (.lreturn, 1) := by decide +kernel
set_option maxRecDepth 20000 in
theorem ggX10_nearest_X10_findNearest : GoodIn wsX10_nearest wsX10_findNearest := goodIn_r _ [5, 6, 7, 8, 9, 10, 11, 16, 17, 18, 19, 20, 21, 22, 23, 24, 25, 26, 27, 28, 29, 30, 31, 32, 33, 34, 35, 36, 37, 38, 39, 40, 41, 42, 43, 44, 45, 46, 47, 48, 49, 50, 51, 52, 53, 54, 55] (by decide +kernel) (by decide +kernel)
set_option maxRecDepth 20000 in
theorem gX10_nearest_X10_findNearest : GoodIn wsX10_nearest (wsV RX10 209 RX10 yX10_findNearest wsX10_findNearest) := goodIn_app (goodIn_of _ (by decide +kernel)) ggX10_nearest_X10_findNearest
set_option maxRecDepth 20000 in
theorem ggX10_nearest_X10_no : GoodIn wsX10_nearest wsX10_no := goodIn_r _ [14, 15] (by decide +kernel) (by decide +kernel)
set_option maxRecDepth 20000 in
theorem gX10_nearest_X10_no : GoodIn wsX10_nearest (va_wsS RX10 154 yX10_no wsX10_no) := goodIn_app (goodIn_of _ (by decide +kernel)) ggX10_nearest_X10_no
theorem dX10_nearest_0 : decode cX10_nearest 0 = .ok (.aload_n 0, 1) := by decide +kernel
theorem dX10_nearest_1 : decode cX10_nearest 1 = .ok (.invokevirtual 209, 3) := by decide +kernel
theorem dX10_nearest_4 : decode cX10_nearest 4 = .ok (.lstore_n 1, 1) := by decide +kernel
theorem dX10_nearest_5 : decode cX10_nearest 5 = .ok (.lload_n 1, 1) := by decide +kernel
theorem dX10_nearest_6 : decode cX10_nearest 6 = .ok (.lconst 0, 1) := by decide +kernel
theorem dX10_nearest_7 : decode cX10_nearest 7 = .ok (.lcmp, 1) := by decide +kernel
theorem dX10_nearest_8 : decode cX10_nearest 8 = .ok (.ifCond .ge 11, 3) := by decide +kernel
theorem dX10_nearest_11 : decode cX10_nearest 11 = .ok (.bipush (-3), 2) := by decide +kernel
theorem dX10_nearest_13 : decode cX10_nearest 13 = .ok (.invokestatic 154, 3) := by decide +kernel
theorem dX10_nearest_16 : decode cX10_nearest 16 = .ok (.goto 4, 3) := by decide +kernel
theorem dX10_nearest_19 : decode cX10_nearest 19 = .ok (.lload_n 1, 1) := by decide +kernel
theorem dX10_nearest_20 : decode cX10_nearest 20 = .ok (.lreturn, 1) := by decide +kernel
set_option maxRecDepth 20000 in
theorem ggX10_where_X10_isHole : GoodIn wsX10_where wsX10_isHole := goodIn_r _ [6, 7, 8, 5, 9] (by decide +kernel) (by decide +kernel)
set_option maxRecDepth 20000 in
theorem gX10_where_X10_isHole : GoodIn wsX10_where (va_wsS RX10 196 yX10_isHole wsX10_isHole) := goodIn_app (goodIn_of _ (by decide +kernel)) ggX10_where_X10_isHole
set_option maxRecDepth 20000 in
theorem ggX10_where_X10_findNearest : GoodIn wsX10_where wsX10_findNearest := goodIn_r _ [13, 14, 15, 16, 17, 1, 2, 18, 19, 20, 21, 22, 23, 24, 25, 26, 27, 28, 29, 30, 31, 32, 33, 34, 35, 36, 37, 38, 39, 40, 41, 42, 43, 44, 45, 46, 47, 48, 49, 50, 51, 52, 53, 54, 55, 56, 57] (by decide +kernel) (by decide +kernel)
set_option maxRecDepth 20000 in
theorem gX10_where_X10_findNearest : GoodIn wsX10_where (wsV RX10 209 RX10 yX10_findNearest wsX10_findNearest) := goodIn_app (goodIn_of _ (by decide +kernel)) ggX10_where_X10_findNearest
theorem dX10_where_0 : decode cX10_where 0 = .ok (.iload_n 1, 1) := by decide +kernel
theorem dX10_where_1 : decode cX10_where 1 = .ok (.invokestatic 196, 3) := by decide +kernel
theorem dX10_where_4 : decode cX10_where 4 = .ok (.ifCond .ne 6, 3) := by decide +kernel
theorem dX10_where_7 : decode cX10_where 7 = .ok (.bipush (-2), 2) := by decide +kernel
theorem dX10_where_9 : decode cX10_where 9 = .ok (.ireturn, 1) := by decide +kernel
theorem dX10_where_10 : decode cX10_where 10 = .ok (.aload_n 0, 1) := by decide +kernel
theorem dX10_where_11 : decode cX10_where 11 = .ok (.invokevirtual 209, 3) := by decide +kernel
theorem dX10_where_14 : decode cX10_where 14 = .ok (.lconst 0, 1) := by decide +kernel
theorem dX10_where_15 : decode cX10_where 15 = .ok (.lcmp, 1) := by decide +kernel
theorem dX10_where_16 : decode cX10_where 16 = .ok (.ifCond .ge 8, 3) := by decide +kernel
theorem dX10_where_19 : decode cX10_where 19 = .ok (.bipush (-3), 2) := by decide +kernel
theorem dX10_where_21 : decode cX10_where 21 = .ok (.goto 18, 3) := by decide +kernel
theorem dX10_where_24 : decode cX10_where 24 = .ok (.iload_n 1, 1) := by decide +kernel
theorem dX10_where_25 : decode cX10_where 25 = .ok (.ifCond .ne 10, 3) := by decide +kernel
theorem dX10_where_28 : decode cX10_where 28 = .ok (.aload_n 0, 1) := by decide +kernel
theorem dX10_where_29 : decode cX10_where 29 = .ok (.getfield 203, 3) := by decide +kernel
theorem dX10_where_32 : decode cX10_where 32 = .ok (.goto 7, 3) := by decide +kernel
theorem dX10_where_35 : decode cX10_where 35 = .ok (.aload_n 0, 1) := by decide +kernel
theorem dX10_where_36 : decode cX10_where 36 = .ok (.getfield 206, 3) := by decide +kernel
theorem dX10_where_39 : decode cX10_where 39 = .ok (.ireturn, 1) := by decide +kernel
theorem dX10_met_0 : decode cX10_met 0 = .ok (.aload_n 0, 1) := by decide +kernel
theorem dX10_met_1 : decode cX10_met 1 = .ok (.iload_n 1, 1) := by decide +kernel
theorem dX10_met_2 : decode cX10_met 2 = .ok (.putfield 213, 3) := by decide +kernel
theorem dX10_met_5 : decode cX10_met 5 = .ok (.bipush (-10), 2) := by decide +kernel
theorem dX10_met_7 : decode cX10_met 7 = .ok (.iload_n 1, 1) := by decide +kernel
theorem dX10_met_8 : decode cX10_met 8 = .ok (.isub, 1) := by decide +kernel
theorem dX10_met_9 : decode cX10_met 9 = .ok (.ireturn, 1) := by decide +kernel
set_option maxRecDepth 20000 in
theorem ggX10_isSheet_X10_in : GoodIn wsX10_isSheet wsX10_in := goodIn_r _ [5] (by decide +kernel) (by decide +kernel)
set_option maxRecDepth 20000 in
theorem gX10_isSheet_X10_in : GoodIn wsX10_isSheet (va_wsS RX10 69 yX10_in wsX10_in) := goodIn_app (goodIn_of _ (by decide +kernel)) ggX10_isSheet_X10_in
theorem dX10_isSheet_0 : decode cX10_isSheet 0 = .ok (.iload_n 0, 1) := by decide +kernel
theorem dX10_isSheet_1 : decode cX10_isSheet 1 = .ok (.i2l, 1) := by decide +kernel
theorem dX10_isSheet_2 : decode cX10_isSheet 2 = .ok (.lconst 0, 1) := by decide +kernel
theorem dX10_isSheet_3 : decode cX10_isSheet 3 = .ok (.ldc2_w 216, 3) := by decide +kernel
theorem dX10_isSheet_6 : decode cX10_isSheet 6 = .ok (.invokestatic 69, 3) := by decide +kernel
theorem dX10_isSheet_9 : decode cX10_isSheet 9 = .ok (.ireturn, 1) := by decide +kernel
set_option maxRecDepth 20000 in
theorem ggX10_sheet_X10_isSheet : GoodIn wsX10_sheet wsX10_isSheet := goodIn_r _ [8, 9, 10, 11, 7, 12] (by decide +kernel) (by decide +kernel)
set_option maxRecDepth 20000 in
theorem gX10_sheet_X10_isSheet : GoodIn wsX10_sheet (va_wsS RX10 218 yX10_isSheet wsX10_isSheet) := goodIn_app (goodIn_of _ (by decide +kernel)) ggX10_sheet_X10_isSheet
set_option maxRecDepth 20000 in
theorem ggX10_sheet_X10_in : GoodIn wsX10_sheet wsX10_in := goodIn_r _ [12] (by decide +kernel) (by decide +kernel)
set_option maxRecDepth 20000 in
theorem gX10_sheet_X10_in : GoodIn wsX10_sheet (va_wsS RX10 69 yX10_in wsX10_in) := goodIn_app (goodIn_of _ (by decide +kernel)) ggX10_sheet_X10_in
set_option maxRecDepth 20000 in
theorem ggX10_sheet_X10_met : GoodIn wsX10_sheet wsX10_met := goodIn_r _ [16, 17, 18, 19, 20, 21, 22, 23, 24, 25, 26, 27, 28, 29, 30, 31, 32, 33, 34, 35, 36, 37, 38, 39, 40, 41, 42, 43, 44, 45, 46, 47, 48, 49, 50, 51, 52, 53, 54, 55, 56, 57] (by decide +kernel) (by decide +kernel)
set_option maxRecDepth 20000 in
theorem gX10_sheet_X10_met : GoodIn wsX10_sheet (wsV RX10 223 RX10 yX10_met wsX10_met) := goodIn_app (goodIn_of _ (by decide +kernel)) ggX10_sheet_X10_met
theorem dX10_sheet_0 : decode cX10_sheet 0 = .ok (.iload_n 1, 1) := by decide +kernel
theorem dX10_sheet_1 : decode cX10_sheet 1 = .ok (.invokestatic 218, 3) := by decide +kernel
theorem dX10_sheet_4 : decode cX10_sheet 4 = .ok (.ifCond .eq 21, 3) := by decide +kernel
theorem dX10_sheet_7 : decode cX10_sheet 7 = .ok (.iload_n 2, 1) := by decide +kernel
theorem dX10_sheet_8 : decode cX10_sheet 8 = .ok (.i2l, 1) := by decide +kernel
theorem dX10_sheet_9 : decode cX10_sheet 9 = .ok (.lconst 0, 1) := by decide +kernel
theorem dX10_sheet_10 : decode cX10_sheet 10 = .ok (.ldc2_w 221, 3) := by decide +kernel
theorem dX10_sheet_13 : decode cX10_sheet 13 = .ok (.invokestatic 69, 3) := by decide +kernel
theorem dX10_sheet_16 : decode cX10_sheet 16 = .ok (.ifCond .eq 9, 3) := by decide +kernel
theorem dX10_sheet_19 : decode cX10_sheet 19 = .ok (.iload_n 3, 1) := by decide +kernel
theorem dX10_sheet_20 : decode cX10_sheet 20 = .ok (.bipush 60, 2) := by decide +kernel
theorem dX10_sheet_22 : decode cX10_sheet 22 = .ok (.if_icmp .le 6, 3) := by decide +kernel
theorem dX10_sheet_25 : decode cX10_sheet 25 = .ok (.bipush (-2), 2) := by decide +kernel
theorem dX10_sheet_27 : decode cX10_sheet 27 = .ok (.ireturn, 1) := by decide +kernel
theorem dX10_sheet_28 : decode cX10_sheet 28 = .ok (.iload_n 3, 1) := by decide +kernel
theorem dX10_sheet_29 : decode cX10_sheet 29 = .ok (.ifCond .ge 9, 3) := by decide +kernel
theorem dX10_sheet_32 : decode cX10_sheet 32 = .ok (.aload_n 0, 1) := by decide +kernel
theorem dX10_sheet_33 : decode cX10_sheet 33 = .ok (.iconst 5, 1) := by decide +kernel
theorem dX10_sheet_34 : decode cX10_sheet 34 = .ok (.invokevirtual 223, 3) := by decide +kernel
theorem dX10_sheet_37 : decode cX10_sheet 37 = .ok (.ireturn, 1) := by decide +kernel
theorem dX10_sheet_38 : decode cX10_sheet 38 = .ok (.aload_n 0, 1) := by decide +kernel
theorem dX10_sheet_39 : decode cX10_sheet 39 = .ok (.getfield 53, 3) := by decide +kernel
theorem dX10_sheet_42 : decode cX10_sheet 42 = .ok (.iload_n 1, 1) := by decide +kernel
theorem dX10_sheet_43 : decode cX10_sheet 43 = .ok (.iload_n 2, 1) := by decide +kernel
theorem dX10_sheet_44 : decode cX10_sheet 44 = .ok (.iastore, 1) := by decide +kernel
theorem dX10_sheet_45 : decode cX10_sheet 45 = .ok (.aload_n 0, 1) := by decide +kernel
theorem dX10_sheet_46 : decode cX10_sheet 46 = .ok (.getfield 56, 3) := by decide +kernel
theorem dX10_sheet_49 : decode cX10_sheet 49 = .ok (.iload_n 1, 1) := by decide +kernel
theorem dX10_sheet_50 : decode cX10_sheet 50 = .ok (.iload_n 3, 1) := by decide +kernel
theorem dX10_sheet_51 : decode cX10_sheet 51 = .ok (.iastore, 1) := by decide +kernel
theorem dX10_sheet_52 : decode cX10_sheet 52 = .ok (.iconst 0, 1) := by decide +kernel
theorem dX10_sheet_53 : decode cX10_sheet 53 = .ok (.istore 4, 2) := by decide +kernel
theorem dX10_sheet_55 : decode cX10_sheet 55 = .ok (.iload 4, 2) := by decide +kernel
theorem dX10_sheet_57 : decode cX10_sheet 57 = .ok (.iload_n 3, 1) := by decide +kernel
theorem dX10_sheet_58 : decode cX10_sheet 58 = .ok (.if_icmp .ge 22, 3) := by decide +kernel
theorem dX10_sheet_61 : decode cX10_sheet 61 = .ok (.aload_n 0, 1) := by decide +kernel
theorem dX10_sheet_62 : decode cX10_sheet 62 = .ok (.getfield 59, 3) := by decide +kernel
theorem dX10_sheet_65 : decode cX10_sheet 65 = .ok (.bipush 60, 2) := by decide +kernel
theorem dX10_sheet_67 : decode cX10_sheet 67 = .ok (.iload_n 1, 1) := by decide +kernel
theorem dX10_sheet_68 : decode cX10_sheet 68 = .ok (.imul, 1) := by decide +kernel
theorem dX10_sheet_69 : decode cX10_sheet 69 = .ok (.iload 4, 2) := by decide +kernel
theorem dX10_sheet_71 : decode cX10_sheet 71 = .ok (.iadd, 1) := by decide +kernel
theorem dX10_sheet_72 : decode cX10_sheet 72 = .ok (.iconst 0, 1) := by decide +kernel
theorem dX10_sheet_73 : decode cX10_sheet 73 = .ok (.iastore, 1) := by decide +kernel
theorem dX10_sheet_74 : decode cX10_sheet 74 = .ok (.iinc 4 1, 3) := by decide +kernel
theorem dX10_sheet_77 : decode cX10_sheet 77 = .ok (.goto (-22), 3) := by decide +kernel
theorem dX10_sheet_80 : decode cX10_sheet 80 = .ok (.iload_n 3, 1) := by decide +kernel
theorem dX10_sheet_81 : decode cX10_sheet 81 = .ok (.ireturn, 1) := by decide +kernel
set_option maxRecDepth 20000 in
theorem ggX10_lose_X10_isSheet : GoodIn wsX10_lose wsX10_isSheet := goodIn_r _ [6, 7, 8, 9, 5, 10] (by decide +kernel) (by decide +kernel)
set_option maxRecDepth 20000 in
theorem gX10_lose_X10_isSheet : GoodIn wsX10_lose (va_wsS RX10 218 yX10_isSheet wsX10_isSheet) := goodIn_app (goodIn_of _ (by decide +kernel)) ggX10_lose_X10_isSheet
set_option maxRecDepth 20000 in
theorem ggX10_lose_X10_met : GoodIn wsX10_lose wsX10_met := goodIn_r _ [14, 15, 16, 17, 18, 19, 20, 21, 22, 23, 24, 25, 26, 27, 28, 29, 30, 31, 32, 33, 34, 35, 36, 37, 38, 39, 40, 41, 42, 43, 44, 45, 46, 47, 48, 49, 50, 51, 52, 53, 54, 55] (by decide +kernel) (by decide +kernel)
set_option maxRecDepth 20000 in
theorem gX10_lose_X10_met : GoodIn wsX10_lose (wsV RX10 223 RX10 yX10_met wsX10_met) := goodIn_app (goodIn_of _ (by decide +kernel)) ggX10_lose_X10_met
theorem dX10_lose_0 : decode cX10_lose 0 = .ok (.iload_n 1, 1) := by decide +kernel
theorem dX10_lose_1 : decode cX10_lose 1 = .ok (.invokestatic 218, 3) := by decide +kernel
theorem dX10_lose_4 : decode cX10_lose 4 = .ok (.ifCond .ne 6, 3) := by decide +kernel
theorem dX10_lose_7 : decode cX10_lose 7 = .ok (.bipush (-2), 2) := by decide +kernel
theorem dX10_lose_9 : decode cX10_lose 9 = .ok (.ireturn, 1) := by decide +kernel
theorem dX10_lose_10 : decode cX10_lose 10 = .ok (.aload_n 0, 1) := by decide +kernel
theorem dX10_lose_11 : decode cX10_lose 11 = .ok (.getfield 53, 3) := by decide +kernel
theorem dX10_lose_14 : decode cX10_lose 14 = .ok (.iload_n 1, 1) := by decide +kernel
theorem dX10_lose_15 : decode cX10_lose 15 = .ok (.iaload, 1) := by decide +kernel
theorem dX10_lose_16 : decode cX10_lose 16 = .ok (.ifCond .ge 9, 3) := by decide +kernel
theorem dX10_lose_19 : decode cX10_lose 19 = .ok (.aload_n 0, 1) := by decide +kernel
theorem dX10_lose_20 : decode cX10_lose 20 = .ok (.iconst 1, 1) := by decide +kernel
theorem dX10_lose_21 : decode cX10_lose 21 = .ok (.invokevirtual 223, 3) := by decide +kernel
theorem dX10_lose_24 : decode cX10_lose 24 = .ok (.ireturn, 1) := by decide +kernel
theorem dX10_lose_25 : decode cX10_lose 25 = .ok (.aload_n 0, 1) := by decide +kernel
theorem dX10_lose_26 : decode cX10_lose 26 = .ok (.getfield 53, 3) := by decide +kernel
theorem dX10_lose_29 : decode cX10_lose 29 = .ok (.iload_n 1, 1) := by decide +kernel
theorem dX10_lose_30 : decode cX10_lose 30 = .ok (.iconst (-1), 1) := by decide +kernel
theorem dX10_lose_31 : decode cX10_lose 31 = .ok (.iastore, 1) := by decide +kernel
theorem dX10_lose_32 : decode cX10_lose 32 = .ok (.aload_n 0, 1) := by decide +kernel
theorem dX10_lose_33 : decode cX10_lose 33 = .ok (.getfield 56, 3) := by decide +kernel
theorem dX10_lose_36 : decode cX10_lose 36 = .ok (.iload_n 1, 1) := by decide +kernel
theorem dX10_lose_37 : decode cX10_lose 37 = .ok (.iaload, 1) := by decide +kernel
theorem dX10_lose_38 : decode cX10_lose 38 = .ok (.ireturn, 1) := by decide +kernel
set_option maxRecDepth 20000 in
theorem ggX10_lacks_X10_met : GoodIn wsX10_lacks wsX10_met := goodIn_r _ [7, 8, 12, 13, 14, 15, 16, 17, 18, 19, 20, 21, 22, 23, 24, 25, 26, 27, 28, 29, 30, 31, 32, 33, 34, 35, 36, 37, 38, 39, 40, 41, 42, 43, 44, 45, 46, 47, 48, 49, 50, 51] (by decide +kernel) (by decide +kernel)
set_option maxRecDepth 20000 in
theorem gX10_lacks_X10_met : GoodIn wsX10_lacks (wsV RX10 223 RX10 yX10_met wsX10_met) := goodIn_app (goodIn_of _ (by decide +kernel)) ggX10_lacks_X10_met
set_option maxRecDepth 20000 in
theorem ggX10_lacks_X10_in : GoodIn wsX10_lacks wsX10_in := goodIn_r _ [11] (by decide +kernel) (by decide +kernel)
set_option maxRecDepth 20000 in
theorem gX10_lacks_X10_in : GoodIn wsX10_lacks (va_wsS RX10 69 yX10_in wsX10_in) := goodIn_app (goodIn_of _ (by decide +kernel)) ggX10_lacks_X10_in
theorem dX10_lacks_0 : decode cX10_lacks 0 = .ok (.aload_n 0, 1) := by decide +kernel
theorem dX10_lacks_1 : decode cX10_lacks 1 = .ok (.getfield 53, 3) := by decide +kernel
theorem dX10_lacks_4 : decode cX10_lacks 4 = .ok (.iload_n 1, 1) := by decide +kernel
theorem dX10_lacks_5 : decode cX10_lacks 5 = .ok (.iaload, 1) := by decide +kernel
theorem dX10_lacks_6 : decode cX10_lacks 6 = .ok (.ifCond .ge 9, 3) := by decide +kernel
theorem dX10_lacks_9 : decode cX10_lacks 9 = .ok (.aload_n 0, 1) := by decide +kernel
theorem dX10_lacks_10 : decode cX10_lacks 10 = .ok (.iconst 1, 1) := by decide +kernel
theorem dX10_lacks_11 : decode cX10_lacks 11 = .ok (.invokevirtual 223, 3) := by decide +kernel
theorem dX10_lacks_14 : decode cX10_lacks 14 = .ok (.ireturn, 1) := by decide +kernel
theorem dX10_lacks_15 : decode cX10_lacks 15 = .ok (.aload_n 0, 1) := by decide +kernel
theorem dX10_lacks_16 : decode cX10_lacks 16 = .ok (.getfield 53, 3) := by decide +kernel
theorem dX10_lacks_19 : decode cX10_lacks 19 = .ok (.iload_n 1, 1) := by decide +kernel
theorem dX10_lacks_20 : decode cX10_lacks 20 = .ok (.iaload, 1) := by decide +kernel
theorem dX10_lacks_21 : decode cX10_lacks 21 = .ok (.iload_n 2, 1) := by decide +kernel
theorem dX10_lacks_22 : decode cX10_lacks 22 = .ok (.if_icmp .eq 9, 3) := by decide +kernel
theorem dX10_lacks_25 : decode cX10_lacks 25 = .ok (.aload_n 0, 1) := by decide +kernel
theorem dX10_lacks_26 : decode cX10_lacks 26 = .ok (.iconst 3, 1) := by decide +kernel
theorem dX10_lacks_27 : decode cX10_lacks 27 = .ok (.invokevirtual 223, 3) := by decide +kernel
theorem dX10_lacks_30 : decode cX10_lacks 30 = .ok (.ireturn, 1) := by decide +kernel
theorem dX10_lacks_31 : decode cX10_lacks 31 = .ok (.iload_n 3, 1) := by decide +kernel
theorem dX10_lacks_32 : decode cX10_lacks 32 = .ok (.i2l, 1) := by decide +kernel
theorem dX10_lacks_33 : decode cX10_lacks 33 = .ok (.lconst 0, 1) := by decide +kernel
theorem dX10_lacks_34 : decode cX10_lacks 34 = .ok (.aload_n 0, 1) := by decide +kernel
theorem dX10_lacks_35 : decode cX10_lacks 35 = .ok (.getfield 56, 3) := by decide +kernel
theorem dX10_lacks_38 : decode cX10_lacks 38 = .ok (.iload_n 1, 1) := by decide +kernel
theorem dX10_lacks_39 : decode cX10_lacks 39 = .ok (.iaload, 1) := by decide +kernel
theorem dX10_lacks_40 : decode cX10_lacks 40 = .ok (.iconst 1, 1) := by decide +kernel
theorem dX10_lacks_41 : decode cX10_lacks 41 = .ok (.isub, 1) := by decide +kernel
theorem dX10_lacks_42 : decode cX10_lacks 42 = .ok (.i2l, 1) := by decide +kernel
theorem dX10_lacks_43 : decode cX10_lacks 43 = .ok (.invokestatic 69, 3) := by decide +kernel
theorem dX10_lacks_46 : decode cX10_lacks 46 = .ok (.ifCond .eq 7, 3) := by decide +kernel
theorem dX10_lacks_49 : decode cX10_lacks 49 = .ok (.iconst 0, 1) := by decide +kernel
theorem dX10_lacks_50 : decode cX10_lacks 50 = .ok (.goto 8, 3) := by decide +kernel
theorem dX10_lacks_53 : decode cX10_lacks 53 = .ok (.aload_n 0, 1) := by decide +kernel
theorem dX10_lacks_54 : decode cX10_lacks 54 = .ok (.iconst 2, 1) := by decide +kernel
theorem dX10_lacks_55 : decode cX10_lacks 55 = .ok (.invokevirtual 223, 3) := by decide +kernel
theorem dX10_lacks_58 : decode cX10_lacks 58 = .ok (.ireturn, 1) := by decide +kernel
set_option maxRecDepth 20000 in
theorem ggX10_put_X10_isSheet : GoodIn wsX10_put wsX10_isSheet := goodIn_r _ [6, 7, 8, 9, 5, 10] (by decide +kernel) (by decide +kernel)
set_option maxRecDepth 20000 in
theorem gX10_put_X10_isSheet : GoodIn wsX10_put (va_wsS RX10 218 yX10_isSheet wsX10_isSheet) := goodIn_app (goodIn_of _ (by decide +kernel)) ggX10_put_X10_isSheet
set_option maxRecDepth 20000 in
theorem ggX10_put_X10_in : GoodIn wsX10_put wsX10_in := goodIn_r _ [10] (by decide +kernel) (by decide +kernel)
set_option maxRecDepth 20000 in
theorem gX10_put_X10_in : GoodIn wsX10_put (va_wsS RX10 69 yX10_in wsX10_in) := goodIn_app (goodIn_of _ (by decide +kernel)) ggX10_put_X10_in
set_option maxRecDepth 20000 in
theorem ggX10_put_X10_lacks : GoodIn wsX10_put wsX10_lacks := goodIn_r _ [14, 15, 16, 17, 18, 19, 5, 20, 21, 8, 9, 10, 22, 23, 24, 25, 26, 27, 28, 29, 30, 31, 32, 33, 34, 35, 36, 37, 38, 39, 40, 41, 42, 43, 44, 45, 46, 47, 48, 49, 50, 51, 52, 53, 54, 55, 56, 57, 58, 59, 60, 61] (by decide +kernel) (by decide +kernel)
set_option maxRecDepth 20000 in
theorem gX10_put_X10_lacks : GoodIn wsX10_put (wsV RX10 226 RX10 yX10_lacks wsX10_lacks) := goodIn_app (goodIn_of _ (by decide +kernel)) ggX10_put_X10_lacks
theorem dX10_put_0 : decode cX10_put 0 = .ok (.iload_n 1, 1) := by decide +kernel
theorem dX10_put_1 : decode cX10_put 1 = .ok (.invokestatic 218, 3) := by decide +kernel
theorem dX10_put_4 : decode cX10_put 4 = .ok (.ifCond .eq 15, 3) := by decide +kernel
theorem dX10_put_7 : decode cX10_put 7 = .ok (.iload_n 2, 1) := by decide +kernel
theorem dX10_put_8 : decode cX10_put 8 = .ok (.i2l, 1) := by decide +kernel
theorem dX10_put_9 : decode cX10_put 9 = .ok (.lconst 0, 1) := by decide +kernel
theorem dX10_put_10 : decode cX10_put 10 = .ok (.ldc2_w 221, 3) := by decide +kernel
theorem dX10_put_13 : decode cX10_put 13 = .ok (.invokestatic 69, 3) := by decide +kernel
theorem dX10_put_16 : decode cX10_put 16 = .ok (.ifCond .ne 6, 3) := by decide +kernel
theorem dX10_put_19 : decode cX10_put 19 = .ok (.bipush (-2), 2) := by decide +kernel
theorem dX10_put_21 : decode cX10_put 21 = .ok (.ireturn, 1) := by decide +kernel
theorem dX10_put_22 : decode cX10_put 22 = .ok (.aload_n 0, 1) := by decide +kernel
theorem dX10_put_23 : decode cX10_put 23 = .ok (.iload_n 1, 1) := by decide +kernel
theorem dX10_put_24 : decode cX10_put 24 = .ok (.iload_n 2, 1) := by decide +kernel
theorem dX10_put_25 : decode cX10_put 25 = .ok (.iload_n 3, 1) := by decide +kernel
theorem dX10_put_26 : decode cX10_put 26 = .ok (.invokevirtual 226, 3) := by decide +kernel
theorem dX10_put_29 : decode cX10_put 29 = .ok (.istore 5, 2) := by decide +kernel
theorem dX10_put_31 : decode cX10_put 31 = .ok (.iload 5, 2) := by decide +kernel
theorem dX10_put_33 : decode cX10_put 33 = .ok (.ifCond .eq 6, 3) := by decide +kernel
theorem dX10_put_36 : decode cX10_put 36 = .ok (.iload 5, 2) := by decide +kernel
theorem dX10_put_38 : decode cX10_put 38 = .ok (.ireturn, 1) := by decide +kernel
theorem dX10_put_39 : decode cX10_put 39 = .ok (.aload_n 0, 1) := by decide +kernel
theorem dX10_put_40 : decode cX10_put 40 = .ok (.getfield 59, 3) := by decide +kernel
theorem dX10_put_43 : decode cX10_put 43 = .ok (.bipush 60, 2) := by decide +kernel
theorem dX10_put_45 : decode cX10_put 45 = .ok (.iload_n 1, 1) := by decide +kernel
theorem dX10_put_46 : decode cX10_put 46 = .ok (.imul, 1) := by decide +kernel
theorem dX10_put_47 : decode cX10_put 47 = .ok (.iload_n 3, 1) := by decide +kernel
theorem dX10_put_48 : decode cX10_put 48 = .ok (.iadd, 1) := by decide +kernel
theorem dX10_put_49 : decode cX10_put 49 = .ok (.iload_n 2, 1) := by decide +kernel
theorem dX10_put_50 : decode cX10_put 50 = .ok (.ifCond .ne 9, 3) := by decide +kernel
theorem dX10_put_53 : decode cX10_put 53 = .ok (.iload 4, 2) := by decide +kernel
theorem dX10_put_55 : decode cX10_put 55 = .ok (.i2b, 1) := by decide +kernel
theorem dX10_put_56 : decode cX10_put 56 = .ok (.goto 16, 3) := by decide +kernel
theorem dX10_put_59 : decode cX10_put 59 = .ok (.iload_n 2, 1) := by decide +kernel
theorem dX10_put_60 : decode cX10_put 60 = .ok (.iconst 1, 1) := by decide +kernel
theorem dX10_put_61 : decode cX10_put 61 = .ok (.if_icmp .ne 9, 3) := by decide +kernel
theorem dX10_put_64 : decode cX10_put 64 = .ok (.iload 4, 2) := by decide +kernel
theorem dX10_put_66 : decode cX10_put 66 = .ok (.i2s, 1) := by decide +kernel
theorem dX10_put_67 : decode cX10_put 67 = .ok (.goto 5, 3) := by decide +kernel
theorem dX10_put_70 : decode cX10_put 70 = .ok (.iload 4, 2) := by decide +kernel
theorem dX10_put_72 : decode cX10_put 72 = .ok (.iastore, 1) := by decide +kernel
theorem dX10_put_73 : decode cX10_put 73 = .ok (.iconst 1, 1) := by decide +kernel
theorem dX10_put_74 : decode cX10_put 74 = .ok (.ireturn, 1) := by decide +kernel
set_option maxRecDepth 20000 in
theorem ggX10_get_X10_isSheet : GoodIn wsX10_get wsX10_isSheet := goodIn_r _ [7, 8, 9, 10, 6, 11] (by decide +kernel) (by decide +kernel)
set_option maxRecDepth 20000 in
theorem gX10_get_X10_isSheet : GoodIn wsX10_get (va_wsS RX10 218 yX10_isSheet wsX10_isSheet) := goodIn_app (goodIn_of _ (by decide +kernel)) ggX10_get_X10_isSheet
set_option maxRecDepth 20000 in
theorem ggX10_get_X10_in : GoodIn wsX10_get wsX10_in := goodIn_r _ [11] (by decide +kernel) (by decide +kernel)
set_option maxRecDepth 20000 in
theorem gX10_get_X10_in : GoodIn wsX10_get (va_wsS RX10 69 yX10_in wsX10_in) := goodIn_app (goodIn_of _ (by decide +kernel)) ggX10_get_X10_in
set_option maxRecDepth 20000 in
theorem ggX10_get_X10_lacks : GoodIn wsX10_get wsX10_lacks := goodIn_r _ [15, 16, 17, 18, 19, 20, 6, 21, 22, 9, 10, 11, 23, 24, 25, 26, 27, 28, 29, 30, 31, 32, 33, 34, 35, 36, 37, 38, 39, 40, 41, 42, 43, 44, 45, 46, 47, 48, 49, 50, 51, 52, 53, 54, 55, 56, 57, 58, 59, 60, 61, 62] (by decide +kernel) (by decide +kernel)
set_option maxRecDepth 20000 in
theorem gX10_get_X10_lacks : GoodIn wsX10_get (wsV RX10 226 RX10 yX10_lacks wsX10_lacks) := goodIn_app (goodIn_of _ (by decide +kernel)) ggX10_get_X10_lacks
theorem dX10_get_0 : decode cX10_get 0 = .ok (.iload_n 1, 1) := by decide +kernel
theorem dX10_get_1 : decode cX10_get 1 = .ok (.invokestatic 218, 3) := by decide +kernel
theorem dX10_get_4 : decode cX10_get 4 = .ok (.ifCond .eq 25, 3) := by decide +kernel
theorem dX10_get_7 : decode cX10_get 7 = .ok (.iload_n 2, 1) := by decide +kernel
theorem dX10_get_8 : decode cX10_get 8 = .ok (.i2l, 1) := by decide +kernel
theorem dX10_get_9 : decode cX10_get 9 = .ok (.lconst 0, 1) := by decide +kernel
theorem dX10_get_10 : decode cX10_get 10 = .ok (.ldc2_w 221, 3) := by decide +kernel
theorem dX10_get_13 : decode cX10_get 13 = .ok (.invokestatic 69, 3) := by decide +kernel
theorem dX10_get_16 : decode cX10_get 16 = .ok (.ifCond .eq 13, 3) := by decide +kernel
theorem dX10_get_19 : decode cX10_get 19 = .ok (.aload_n 0, 1) := by decide +kernel
theorem dX10_get_20 : decode cX10_get 20 = .ok (.iload_n 1, 1) := by decide +kernel
theorem dX10_get_21 : decode cX10_get 21 = .ok (.iload_n 2, 1) := by decide +kernel
theorem dX10_get_22 : decode cX10_get 22 = .ok (.iload_n 3, 1) := by decide +kernel
theorem dX10_get_23 : decode cX10_get 23 = .ok (.invokevirtual 226, 3) := by decide +kernel
theorem dX10_get_26 : decode cX10_get 26 = .ok (.ifCond .eq 6, 3) := by decide +kernel
theorem dX10_get_29 : decode cX10_get 29 = .ok (.ldc 202, 2) := by decide +kernel
theorem dX10_get_31 : decode cX10_get 31 = .ok (.ireturn, 1) := by decide +kernel
theorem dX10_get_32 : decode cX10_get 32 = .ok (.aload_n 0, 1) := by decide +kernel
theorem dX10_get_33 : decode cX10_get 33 = .ok (.getfield 59, 3) := by decide +kernel
theorem dX10_get_36 : decode cX10_get 36 = .ok (.bipush 60, 2) := by decide +kernel
theorem dX10_get_38 : decode cX10_get 38 = .ok (.iload_n 1, 1) := by decide +kernel
theorem dX10_get_39 : decode cX10_get 39 = .ok (.imul, 1) := by decide +kernel
theorem dX10_get_40 : decode cX10_get 40 = .ok (.iload_n 3, 1) := by decide +kernel
theorem dX10_get_41 : decode cX10_get 41 = .ok (.iadd, 1) := by decide +kernel
theorem dX10_get_42 : decode cX10_get 42 = .ok (.iaload, 1) := by decide +kernel
theorem dX10_get_43 : decode cX10_get 43 = .ok (.ireturn, 1) := by decide +kernel
set_option maxRecDepth 20000 in
theorem ggX10_copy_X10_isSheet : GoodIn wsX10_copy wsX10_isSheet := goodIn_r _ [8, 9, 10, 11, 7, 12] (by decide +kernel) (by decide +kernel)
set_option maxRecDepth 20000 in
theorem gX10_copy_X10_isSheet : GoodIn wsX10_copy (va_wsS RX10 218 yX10_isSheet wsX10_isSheet) := goodIn_app (goodIn_of _ (by decide +kernel)) ggX10_copy_X10_isSheet
set_option maxRecDepth 20000 in
theorem ggX10_copy_X10_met : GoodIn wsX10_copy wsX10_met := goodIn_r _ [16, 17, 18, 19, 20, 21, 22, 23, 24, 25, 26, 27, 28, 29, 30, 31, 32, 33, 34, 35, 36, 37, 38, 39, 40, 41, 42, 43, 44, 45, 46, 47, 48, 49, 50, 51, 52, 53, 54, 55, 56, 57] (by decide +kernel) (by decide +kernel)
set_option maxRecDepth 20000 in
theorem gX10_copy_X10_met : GoodIn wsX10_copy (wsV RX10 223 RX10 yX10_met wsX10_met) := goodIn_app (goodIn_of _ (by decide +kernel)) ggX10_copy_X10_met
theorem dX10_copy_0 : decode cX10_copy 0 = .ok (.iload_n 1, 1) := by decide +kernel
theorem dX10_copy_1 : decode cX10_copy 1 = .ok (.invokestatic 218, 3) := by decide +kernel
theorem dX10_copy_4 : decode cX10_copy 4 = .ok (.ifCond .eq 10, 3) := by decide +kernel
theorem dX10_copy_7 : decode cX10_copy 7 = .ok (.iload_n 3, 1) := by decide +kernel
theorem dX10_copy_8 : decode cX10_copy 8 = .ok (.invokestatic 218, 3) := by decide +kernel
theorem dX10_copy_11 : decode cX10_copy 11 = .ok (.ifCond .ne 6, 3) := by decide +kernel
theorem dX10_copy_14 : decode cX10_copy 14 = .ok (.bipush (-2), 2) := by decide +kernel
theorem dX10_copy_16 : decode cX10_copy 16 = .ok (.ireturn, 1) := by decide +kernel
theorem dX10_copy_17 : decode cX10_copy 17 = .ok (.aload_n 0, 1) := by decide +kernel
theorem dX10_copy_18 : decode cX10_copy 18 = .ok (.getfield 53, 3) := by decide +kernel
theorem dX10_copy_21 : decode cX10_copy 21 = .ok (.iload_n 1, 1) := by decide +kernel
theorem dX10_copy_22 : decode cX10_copy 22 = .ok (.iaload, 1) := by decide +kernel
theorem dX10_copy_23 : decode cX10_copy 23 = .ok (.ifCond .lt 12, 3) := by decide +kernel
theorem dX10_copy_26 : decode cX10_copy 26 = .ok (.aload_n 0, 1) := by decide +kernel
theorem dX10_copy_27 : decode cX10_copy 27 = .ok (.getfield 53, 3) := by decide +kernel
theorem dX10_copy_30 : decode cX10_copy 30 = .ok (.iload_n 3, 1) := by decide +kernel
theorem dX10_copy_31 : decode cX10_copy 31 = .ok (.iaload, 1) := by decide +kernel
theorem dX10_copy_32 : decode cX10_copy 32 = .ok (.ifCond .ge 9, 3) := by decide +kernel
theorem dX10_copy_35 : decode cX10_copy 35 = .ok (.aload_n 0, 1) := by decide +kernel
theorem dX10_copy_36 : decode cX10_copy 36 = .ok (.iconst 1, 1) := by decide +kernel
theorem dX10_copy_37 : decode cX10_copy 37 = .ok (.invokevirtual 223, 3) := by decide +kernel
theorem dX10_copy_40 : decode cX10_copy 40 = .ok (.ireturn, 1) := by decide +kernel
theorem dX10_copy_41 : decode cX10_copy 41 = .ok (.aload_n 0, 1) := by decide +kernel
theorem dX10_copy_42 : decode cX10_copy 42 = .ok (.getfield 53, 3) := by decide +kernel
theorem dX10_copy_45 : decode cX10_copy 45 = .ok (.iload_n 1, 1) := by decide +kernel
theorem dX10_copy_46 : decode cX10_copy 46 = .ok (.iaload, 1) := by decide +kernel
theorem dX10_copy_47 : decode cX10_copy 47 = .ok (.aload_n 0, 1) := by decide +kernel
theorem dX10_copy_48 : decode cX10_copy 48 = .ok (.getfield 53, 3) := by decide +kernel
theorem dX10_copy_51 : decode cX10_copy 51 = .ok (.iload_n 3, 1) := by decide +kernel
theorem dX10_copy_52 : decode cX10_copy 52 = .ok (.iaload, 1) := by decide +kernel
theorem dX10_copy_53 : decode cX10_copy 53 = .ok (.if_icmp .eq 9, 3) := by decide +kernel
theorem dX10_copy_56 : decode cX10_copy 56 = .ok (.aload_n 0, 1) := by decide +kernel
theorem dX10_copy_57 : decode cX10_copy 57 = .ok (.iconst 4, 1) := by decide +kernel
theorem dX10_copy_58 : decode cX10_copy 58 = .ok (.invokevirtual 223, 3) := by decide +kernel
theorem dX10_copy_61 : decode cX10_copy 61 = .ok (.ireturn, 1) := by decide +kernel
theorem dX10_copy_62 : decode cX10_copy 62 = .ok (.iload_n 2, 1) := by decide +kernel
theorem dX10_copy_63 : decode cX10_copy 63 = .ok (.ifCond .lt 48, 3) := by decide +kernel
theorem dX10_copy_66 : decode cX10_copy 66 = .ok (.iload 4, 2) := by decide +kernel
theorem dX10_copy_68 : decode cX10_copy 68 = .ok (.ifCond .lt 43, 3) := by decide +kernel
theorem dX10_copy_71 : decode cX10_copy 71 = .ok (.iload 5, 2) := by decide +kernel
theorem dX10_copy_73 : decode cX10_copy 73 = .ok (.ifCond .lt 38, 3) := by decide +kernel
theorem dX10_copy_76 : decode cX10_copy 76 = .ok (.iload_n 2, 1) := by decide +kernel
theorem dX10_copy_77 : decode cX10_copy 77 = .ok (.i2l, 1) := by decide +kernel
theorem dX10_copy_78 : decode cX10_copy 78 = .ok (.iload 5, 2) := by decide +kernel
theorem dX10_copy_80 : decode cX10_copy 80 = .ok (.i2l, 1) := by decide +kernel
theorem dX10_copy_81 : decode cX10_copy 81 = .ok (.ladd, 1) := by decide +kernel
theorem dX10_copy_82 : decode cX10_copy 82 = .ok (.aload_n 0, 1) := by decide +kernel
theorem dX10_copy_83 : decode cX10_copy 83 = .ok (.getfield 56, 3) := by decide +kernel
theorem dX10_copy_86 : decode cX10_copy 86 = .ok (.iload_n 1, 1) := by decide +kernel
theorem dX10_copy_87 : decode cX10_copy 87 = .ok (.iaload, 1) := by decide +kernel
theorem dX10_copy_88 : decode cX10_copy 88 = .ok (.i2l, 1) := by decide +kernel
theorem dX10_copy_89 : decode cX10_copy 89 = .ok (.lcmp, 1) := by decide +kernel
theorem dX10_copy_90 : decode cX10_copy 90 = .ok (.ifCond .gt 21, 3) := by decide +kernel
theorem dX10_copy_93 : decode cX10_copy 93 = .ok (.iload 4, 2) := by decide +kernel
theorem dX10_copy_95 : decode cX10_copy 95 = .ok (.i2l, 1) := by decide +kernel
theorem dX10_copy_96 : decode cX10_copy 96 = .ok (.iload 5, 2) := by decide +kernel
theorem dX10_copy_98 : decode cX10_copy 98 = .ok (.i2l, 1) := by decide +kernel
theorem dX10_copy_99 : decode cX10_copy 99 = .ok (.ladd, 1) := by decide +kernel
theorem dX10_copy_100 : decode cX10_copy 100 = .ok (.aload_n 0, 1) := by decide +kernel
theorem dX10_copy_101 : decode cX10_copy 101 = .ok (.getfield 56, 3) := by decide +kernel
theorem dX10_copy_104 : decode cX10_copy 104 = .ok (.iload_n 3, 1) := by decide +kernel
theorem dX10_copy_105 : decode cX10_copy 105 = .ok (.iaload, 1) := by decide +kernel
theorem dX10_copy_106 : decode cX10_copy 106 = .ok (.i2l, 1) := by decide +kernel
theorem dX10_copy_107 : decode cX10_copy 107 = .ok (.lcmp, 1) := by decide +kernel
theorem dX10_copy_108 : decode cX10_copy 108 = .ok (.ifCond .le 9, 3) := by decide +kernel
theorem dX10_copy_111 : decode cX10_copy 111 = .ok (.aload_n 0, 1) := by decide +kernel
theorem dX10_copy_112 : decode cX10_copy 112 = .ok (.iconst 2, 1) := by decide +kernel
theorem dX10_copy_113 : decode cX10_copy 113 = .ok (.invokevirtual 223, 3) := by decide +kernel
theorem dX10_copy_116 : decode cX10_copy 116 = .ok (.ireturn, 1) := by decide +kernel
theorem dX10_copy_117 : decode cX10_copy 117 = .ok (.iconst 0, 1) := by decide +kernel
theorem dX10_copy_118 : decode cX10_copy 118 = .ok (.istore 6, 2) := by decide +kernel
theorem dX10_copy_120 : decode cX10_copy 120 = .ok (.iload 6, 2) := by decide +kernel
theorem dX10_copy_122 : decode cX10_copy 122 = .ok (.iload 5, 2) := by decide +kernel
theorem dX10_copy_124 : decode cX10_copy 124 = .ok (.if_icmp .ge 30, 3) := by decide +kernel
theorem dX10_copy_127 : decode cX10_copy 127 = .ok (.aload_n 0, 1) := by decide +kernel
theorem dX10_copy_128 : decode cX10_copy 128 = .ok (.getfield 62, 3) := by decide +kernel
theorem dX10_copy_131 : decode cX10_copy 131 = .ok (.iload 6, 2) := by decide +kernel
theorem dX10_copy_133 : decode cX10_copy 133 = .ok (.aload_n 0, 1) := by decide +kernel
theorem dX10_copy_134 : decode cX10_copy 134 = .ok (.getfield 59, 3) := by decide +kernel
theorem dX10_copy_137 : decode cX10_copy 137 = .ok (.bipush 60, 2) := by decide +kernel
theorem dX10_copy_139 : decode cX10_copy 139 = .ok (.iload_n 1, 1) := by decide +kernel
theorem dX10_copy_140 : decode cX10_copy 140 = .ok (.imul, 1) := by decide +kernel
theorem dX10_copy_141 : decode cX10_copy 141 = .ok (.iload_n 2, 1) := by decide +kernel
theorem dX10_copy_142 : decode cX10_copy 142 = .ok (.iadd, 1) := by decide +kernel
theorem dX10_copy_143 : decode cX10_copy 143 = .ok (.iload 6, 2) := by decide +kernel
theorem dX10_copy_145 : decode cX10_copy 145 = .ok (.iadd, 1) := by decide +kernel
theorem dX10_copy_146 : decode cX10_copy 146 = .ok (.iaload, 1) := by decide +kernel
theorem dX10_copy_147 : decode cX10_copy 147 = .ok (.iastore, 1) := by decide +kernel
theorem dX10_copy_148 : decode cX10_copy 148 = .ok (.iinc 6 1, 3) := by decide +kernel
theorem dX10_copy_151 : decode cX10_copy 151 = .ok (.goto (-31), 3) := by decide +kernel
theorem dX10_copy_154 : decode cX10_copy 154 = .ok (.iconst 0, 1) := by decide +kernel
theorem dX10_copy_155 : decode cX10_copy 155 = .ok (.istore 6, 2) := by decide +kernel
theorem dX10_copy_157 : decode cX10_copy 157 = .ok (.iload 6, 2) := by decide +kernel
theorem dX10_copy_159 : decode cX10_copy 159 = .ok (.iload 5, 2) := by decide +kernel
theorem dX10_copy_161 : decode cX10_copy 161 = .ok (.if_icmp .ge 31, 3) := by decide +kernel
theorem dX10_copy_164 : decode cX10_copy 164 = .ok (.aload_n 0, 1) := by decide +kernel
theorem dX10_copy_165 : decode cX10_copy 165 = .ok (.getfield 59, 3) := by decide +kernel
theorem dX10_copy_168 : decode cX10_copy 168 = .ok (.bipush 60, 2) := by decide +kernel
theorem dX10_copy_170 : decode cX10_copy 170 = .ok (.iload_n 3, 1) := by decide +kernel
theorem dX10_copy_171 : decode cX10_copy 171 = .ok (.imul, 1) := by decide +kernel
theorem dX10_copy_172 : decode cX10_copy 172 = .ok (.iload 4, 2) := by decide +kernel
theorem dX10_copy_174 : decode cX10_copy 174 = .ok (.iadd, 1) := by decide +kernel
theorem dX10_copy_175 : decode cX10_copy 175 = .ok (.iload 6, 2) := by decide +kernel
theorem dX10_copy_177 : decode cX10_copy 177 = .ok (.iadd, 1) := by decide +kernel
theorem dX10_copy_178 : decode cX10_copy 178 = .ok (.aload_n 0, 1) := by decide +kernel
theorem dX10_copy_179 : decode cX10_copy 179 = .ok (.getfield 62, 3) := by decide +kernel
theorem dX10_copy_182 : decode cX10_copy 182 = .ok (.iload 6, 2) := by decide +kernel
theorem dX10_copy_184 : decode cX10_copy 184 = .ok (.iaload, 1) := by decide +kernel
theorem dX10_copy_185 : decode cX10_copy 185 = .ok (.iastore, 1) := by decide +kernel
theorem dX10_copy_186 : decode cX10_copy 186 = .ok (.iinc 6 1, 3) := by decide +kernel
theorem dX10_copy_189 : decode cX10_copy 189 = .ok (.goto (-32), 3) := by decide +kernel
theorem dX10_copy_192 : decode cX10_copy 192 = .ok (.iconst 1, 1) := by decide +kernel
theorem dX10_copy_193 : decode cX10_copy 193 = .ok (.ireturn, 1) := by decide +kernel
theorem dX10_count_0 : decode cX10_count 0 = .ok (.iload_n 1, 1) := by decide +kernel
theorem dX10_count_1 : decode cX10_count 1 = .ok (.tableswitch 96 0 7 #[47, 52, 57, 62, 67, 81, 86, 91], 47) := by decide +kernel
theorem dX10_count_48 : decode cX10_count 48 = .ok (.aload_n 0, 1) := by decide +kernel
theorem dX10_count_49 : decode cX10_count 49 = .ok (.getfield 73, 3) := by decide +kernel
theorem dX10_count_52 : decode cX10_count 52 = .ok (.ireturn, 1) := by decide +kernel
theorem dX10_count_53 : decode cX10_count 53 = .ok (.aload_n 0, 1) := by decide +kernel
theorem dX10_count_54 : decode cX10_count 54 = .ok (.getfield 76, 3) := by decide +kernel
theorem dX10_count_57 : decode cX10_count 57 = .ok (.ireturn, 1) := by decide +kernel
theorem dX10_count_58 : decode cX10_count 58 = .ok (.aload_n 0, 1) := by decide +kernel
theorem dX10_count_59 : decode cX10_count 59 = .ok (.getfield 110, 3) := by decide +kernel
theorem dX10_count_62 : decode cX10_count 62 = .ok (.ireturn, 1) := by decide +kernel
theorem dX10_count_63 : decode cX10_count 63 = .ok (.aload_n 0, 1) := by decide +kernel
theorem dX10_count_64 : decode cX10_count 64 = .ok (.getfield 183, 3) := by decide +kernel
theorem dX10_count_67 : decode cX10_count 67 = .ok (.ireturn, 1) := by decide +kernel
theorem dX10_count_68 : decode cX10_count 68 = .ok (.aload_n 0, 1) := by decide +kernel
theorem dX10_count_69 : decode cX10_count 69 = .ok (.getfield 44, 3) := by decide +kernel
theorem dX10_count_72 : decode cX10_count 72 = .ok (.iconst 0, 1) := by decide +kernel
theorem dX10_count_73 : decode cX10_count 73 = .ok (.iaload, 1) := by decide +kernel
theorem dX10_count_74 : decode cX10_count 74 = .ok (.aload_n 0, 1) := by decide +kernel
theorem dX10_count_75 : decode cX10_count 75 = .ok (.getfield 44, 3) := by decide +kernel
theorem dX10_count_78 : decode cX10_count 78 = .ok (.iconst 1, 1) := by decide +kernel
theorem dX10_count_79 : decode cX10_count 79 = .ok (.iaload, 1) := by decide +kernel
theorem dX10_count_80 : decode cX10_count 80 = .ok (.iadd, 1) := by decide +kernel
theorem dX10_count_81 : decode cX10_count 81 = .ok (.ireturn, 1) := by decide +kernel
theorem dX10_count_82 : decode cX10_count 82 = .ok (.aload_n 0, 1) := by decide +kernel
theorem dX10_count_83 : decode cX10_count 83 = .ok (.getfield 213, 3) := by decide +kernel
theorem dX10_count_86 : decode cX10_count 86 = .ok (.ireturn, 1) := by decide +kernel
theorem dX10_count_87 : decode cX10_count 87 = .ok (.aload_n 0, 1) := by decide +kernel
theorem dX10_count_88 : decode cX10_count 88 = .ok (.getfield 81, 3) := by decide +kernel
theorem dX10_count_91 : decode cX10_count 91 = .ok (.ireturn, 1) := by decide +kernel
theorem dX10_count_92 : decode cX10_count 92 = .ok (.aload_n 0, 1) := by decide +kernel
theorem dX10_count_93 : decode cX10_count 93 = .ok (.getfield 84, 3) := by decide +kernel
theorem dX10_count_96 : decode cX10_count 96 = .ok (.ireturn, 1) := by decide +kernel
theorem dX10_count_97 : decode cX10_count 97 = .ok (.bipush (-2), 2) := by decide +kernel
theorem dX10_count_99 : decode cX10_count 99 = .ok (.ireturn, 1) := by decide +kernel
set_option maxRecDepth 20000 in
theorem ggX10_digest_X10_count : GoodIn wsX10_digest wsX10_count := goodIn_r _ [10, 11, 12, 13, 14, 4, 15, 16, 17, 29, 30, 31, 32, 33, 34, 35, 36, 37, 38, 39, 40, 41, 42, 43, 44, 45, 46, 47, 48, 49, 50, 51, 52, 53, 54, 55, 56, 57, 58, 59, 60, 61, 62, 63, 64, 65, 66, 67, 68] (by decide +kernel) (by decide +kernel)
set_option maxRecDepth 20000 in
theorem gX10_digest_X10_count : GoodIn wsX10_digest (wsV RX10 233 RX10 yX10_count wsX10_count) := goodIn_app (goodIn_of _ (by decide +kernel)) ggX10_digest_X10_count
set_option maxRecDepth 20000 in
theorem ggX10_digest_X10_groundOf : GoodIn wsX10_digest wsX10_groundOf := goodIn_r _ [21, 22, 23, 24, 25, 26, 27, 9, 28, 29, 30, 31, 32, 33, 34, 35, 36, 37, 38, 39, 40, 41, 42, 43, 44, 45, 46, 47, 48, 49, 50, 51, 52, 53, 54, 55, 56, 57, 58, 59, 60, 61, 62, 63, 64, 65, 66, 67, 68] (by decide +kernel) (by decide +kernel)
set_option maxRecDepth 20000 in
theorem gX10_digest_X10_groundOf : GoodIn wsX10_digest (wsV RX10 91 RX10 yX10_groundOf wsX10_groundOf) := goodIn_app (goodIn_of _ (by decide +kernel)) ggX10_digest_X10_groundOf
theorem dX10_digest_0 : decode cX10_digest 0 = .ok (.ldc2_w 229, 3) := by decide +kernel
theorem dX10_digest_3 : decode cX10_digest 3 = .ok (.lstore_n 1, 1) := by decide +kernel
theorem dX10_digest_4 : decode cX10_digest 4 = .ok (.iconst 0, 1) := by decide +kernel
theorem dX10_digest_5 : decode cX10_digest 5 = .ok (.istore_n 3, 1) := by decide +kernel
theorem dX10_digest_6 : decode cX10_digest 6 = .ok (.iload_n 3, 1) := by decide +kernel
theorem dX10_digest_7 : decode cX10_digest 7 = .ok (.bipush 8, 2) := by decide +kernel
theorem dX10_digest_9 : decode cX10_digest 9 = .ok (.if_icmp .ge 31, 3) := by decide +kernel
theorem dX10_digest_12 : decode cX10_digest 12 = .ok (.iload_n 3, 1) := by decide +kernel
theorem dX10_digest_13 : decode cX10_digest 13 = .ok (.iconst 5, 1) := by decide +kernel
theorem dX10_digest_14 : decode cX10_digest 14 = .ok (.if_icmp .ne 7, 3) := by decide +kernel
theorem dX10_digest_17 : decode cX10_digest 17 = .ok (.lload_n 1, 1) := by decide +kernel
theorem dX10_digest_18 : decode cX10_digest 18 = .ok (.goto 15, 3) := by decide +kernel
theorem dX10_digest_21 : decode cX10_digest 21 = .ok (.ldc2_w 231, 3) := by decide +kernel
theorem dX10_digest_24 : decode cX10_digest 24 = .ok (.lload_n 1, 1) := by decide +kernel
theorem dX10_digest_25 : decode cX10_digest 25 = .ok (.lmul, 1) := by decide +kernel
theorem dX10_digest_26 : decode cX10_digest 26 = .ok (.aload_n 0, 1) := by decide +kernel
theorem dX10_digest_27 : decode cX10_digest 27 = .ok (.iload_n 3, 1) := by decide +kernel
theorem dX10_digest_28 : decode cX10_digest 28 = .ok (.invokevirtual 233, 3) := by decide +kernel
theorem dX10_digest_31 : decode cX10_digest 31 = .ok (.i2l, 1) := by decide +kernel
theorem dX10_digest_32 : decode cX10_digest 32 = .ok (.ladd, 1) := by decide +kernel
theorem dX10_digest_33 : decode cX10_digest 33 = .ok (.lstore_n 1, 1) := by decide +kernel
theorem dX10_digest_34 : decode cX10_digest 34 = .ok (.iinc 3 1, 3) := by decide +kernel
theorem dX10_digest_37 : decode cX10_digest 37 = .ok (.goto (-31), 3) := by decide +kernel
theorem dX10_digest_40 : decode cX10_digest 40 = .ok (.iconst 0, 1) := by decide +kernel
theorem dX10_digest_41 : decode cX10_digest 41 = .ok (.istore_n 3, 1) := by decide +kernel
theorem dX10_digest_42 : decode cX10_digest 42 = .ok (.iload_n 3, 1) := by decide +kernel
theorem dX10_digest_43 : decode cX10_digest 43 = .ok (.bipush 50, 2) := by decide +kernel
theorem dX10_digest_45 : decode cX10_digest 45 = .ok (.if_icmp .ge 37, 3) := by decide +kernel
theorem dX10_digest_48 : decode cX10_digest 48 = .ok (.ldc2_w 231, 3) := by decide +kernel
theorem dX10_digest_51 : decode cX10_digest 51 = .ok (.lload_n 1, 1) := by decide +kernel
theorem dX10_digest_52 : decode cX10_digest 52 = .ok (.lmul, 1) := by decide +kernel
theorem dX10_digest_53 : decode cX10_digest 53 = .ok (.aload_n 0, 1) := by decide +kernel
theorem dX10_digest_54 : decode cX10_digest 54 = .ok (.iconst 0, 1) := by decide +kernel
theorem dX10_digest_55 : decode cX10_digest 55 = .ok (.iload_n 3, 1) := by decide +kernel
theorem dX10_digest_56 : decode cX10_digest 56 = .ok (.invokevirtual 91, 3) := by decide +kernel
theorem dX10_digest_59 : decode cX10_digest 59 = .ok (.i2l, 1) := by decide +kernel
theorem dX10_digest_60 : decode cX10_digest 60 = .ok (.ladd, 1) := by decide +kernel
theorem dX10_digest_61 : decode cX10_digest 61 = .ok (.lstore_n 1, 1) := by decide +kernel
theorem dX10_digest_62 : decode cX10_digest 62 = .ok (.ldc2_w 231, 3) := by decide +kernel
theorem dX10_digest_65 : decode cX10_digest 65 = .ok (.lload_n 1, 1) := by decide +kernel
theorem dX10_digest_66 : decode cX10_digest 66 = .ok (.lmul, 1) := by decide +kernel
theorem dX10_digest_67 : decode cX10_digest 67 = .ok (.aload_n 0, 1) := by decide +kernel
theorem dX10_digest_68 : decode cX10_digest 68 = .ok (.iconst 1, 1) := by decide +kernel
theorem dX10_digest_69 : decode cX10_digest 69 = .ok (.iload_n 3, 1) := by decide +kernel
theorem dX10_digest_70 : decode cX10_digest 70 = .ok (.invokevirtual 91, 3) := by decide +kernel
theorem dX10_digest_73 : decode cX10_digest 73 = .ok (.i2l, 1) := by decide +kernel
theorem dX10_digest_74 : decode cX10_digest 74 = .ok (.ladd, 1) := by decide +kernel
theorem dX10_digest_75 : decode cX10_digest 75 = .ok (.lstore_n 1, 1) := by decide +kernel
theorem dX10_digest_76 : decode cX10_digest 76 = .ok (.iinc 3 1, 3) := by decide +kernel
theorem dX10_digest_79 : decode cX10_digest 79 = .ok (.goto (-37), 3) := by decide +kernel
theorem dX10_digest_82 : decode cX10_digest 82 = .ok (.iconst 0, 1) := by decide +kernel
theorem dX10_digest_83 : decode cX10_digest 83 = .ok (.istore_n 3, 1) := by decide +kernel
theorem dX10_digest_84 : decode cX10_digest 84 = .ok (.iload_n 3, 1) := by decide +kernel
theorem dX10_digest_85 : decode cX10_digest 85 = .ok (.iconst 2, 1) := by decide +kernel
theorem dX10_digest_86 : decode cX10_digest 86 = .ok (.if_icmp .ge 57, 3) := by decide +kernel
theorem dX10_digest_89 : decode cX10_digest 89 = .ok (.ldc2_w 231, 3) := by decide +kernel
theorem dX10_digest_92 : decode cX10_digest 92 = .ok (.lload_n 1, 1) := by decide +kernel
theorem dX10_digest_93 : decode cX10_digest 93 = .ok (.lmul, 1) := by decide +kernel
theorem dX10_digest_94 : decode cX10_digest 94 = .ok (.aload_n 0, 1) := by decide +kernel
theorem dX10_digest_95 : decode cX10_digest 95 = .ok (.getfield 47, 3) := by decide +kernel
theorem dX10_digest_98 : decode cX10_digest 98 = .ok (.bipush 41, 2) := by decide +kernel
theorem dX10_digest_100 : decode cX10_digest 100 = .ok (.iload_n 3, 1) := by decide +kernel
theorem dX10_digest_101 : decode cX10_digest 101 = .ok (.imul, 1) := by decide +kernel
theorem dX10_digest_102 : decode cX10_digest 102 = .ok (.aload_n 0, 1) := by decide +kernel
theorem dX10_digest_103 : decode cX10_digest 103 = .ok (.getfield 44, 3) := by decide +kernel
theorem dX10_digest_106 : decode cX10_digest 106 = .ok (.iload_n 3, 1) := by decide +kernel
theorem dX10_digest_107 : decode cX10_digest 107 = .ok (.iaload, 1) := by decide +kernel
theorem dX10_digest_108 : decode cX10_digest 108 = .ok (.iadd, 1) := by decide +kernel
theorem dX10_digest_109 : decode cX10_digest 109 = .ok (.iaload, 1) := by decide +kernel
theorem dX10_digest_110 : decode cX10_digest 110 = .ok (.i2l, 1) := by decide +kernel
theorem dX10_digest_111 : decode cX10_digest 111 = .ok (.ladd, 1) := by decide +kernel
theorem dX10_digest_112 : decode cX10_digest 112 = .ok (.lstore_n 1, 1) := by decide +kernel
theorem dX10_digest_113 : decode cX10_digest 113 = .ok (.ldc2_w 231, 3) := by decide +kernel
theorem dX10_digest_116 : decode cX10_digest 116 = .ok (.lload_n 1, 1) := by decide +kernel
theorem dX10_digest_117 : decode cX10_digest 117 = .ok (.lmul, 1) := by decide +kernel
theorem dX10_digest_118 : decode cX10_digest 118 = .ok (.aload_n 0, 1) := by decide +kernel
theorem dX10_digest_119 : decode cX10_digest 119 = .ok (.getfield 50, 3) := by decide +kernel
theorem dX10_digest_122 : decode cX10_digest 122 = .ok (.bipush 41, 2) := by decide +kernel
theorem dX10_digest_124 : decode cX10_digest 124 = .ok (.iload_n 3, 1) := by decide +kernel
theorem dX10_digest_125 : decode cX10_digest 125 = .ok (.imul, 1) := by decide +kernel
theorem dX10_digest_126 : decode cX10_digest 126 = .ok (.aload_n 0, 1) := by decide +kernel
theorem dX10_digest_127 : decode cX10_digest 127 = .ok (.getfield 44, 3) := by decide +kernel
theorem dX10_digest_130 : decode cX10_digest 130 = .ok (.iload_n 3, 1) := by decide +kernel
theorem dX10_digest_131 : decode cX10_digest 131 = .ok (.iaload, 1) := by decide +kernel
theorem dX10_digest_132 : decode cX10_digest 132 = .ok (.iadd, 1) := by decide +kernel
theorem dX10_digest_133 : decode cX10_digest 133 = .ok (.iaload, 1) := by decide +kernel
theorem dX10_digest_134 : decode cX10_digest 134 = .ok (.i2l, 1) := by decide +kernel
theorem dX10_digest_135 : decode cX10_digest 135 = .ok (.ladd, 1) := by decide +kernel
theorem dX10_digest_136 : decode cX10_digest 136 = .ok (.lstore_n 1, 1) := by decide +kernel
theorem dX10_digest_137 : decode cX10_digest 137 = .ok (.iinc 3 1, 3) := by decide +kernel
theorem dX10_digest_140 : decode cX10_digest 140 = .ok (.goto (-56), 3) := by decide +kernel
theorem dX10_digest_143 : decode cX10_digest 143 = .ok (.lload_n 1, 1) := by decide +kernel
theorem dX10_digest_144 : decode cX10_digest 144 = .ok (.lreturn, 1) := by decide +kernel
theorem dJ9_max_7cf53_0 : decode cJ9_max_7cf53 0 = .ok (.iload_n 0, 1) := by decide +kernel
theorem dJ9_max_7cf53_1 : decode cJ9_max_7cf53 1 = .ok (.iload_n 1, 1) := by decide +kernel
theorem dJ9_max_7cf53_2 : decode cJ9_max_7cf53 2 = .ok (.if_icmp .lt 7, 3) := by decide +kernel
theorem dJ9_max_7cf53_5 : decode cJ9_max_7cf53 5 = .ok (.iload_n 0, 1) := by decide +kernel
theorem dJ9_max_7cf53_6 : decode cJ9_max_7cf53 6 = .ok (.goto 4, 3) := by decide +kernel
theorem dJ9_max_7cf53_9 : decode cJ9_max_7cf53 9 = .ok (.iload_n 1, 1) := by decide +kernel
theorem dJ9_max_7cf53_10 : decode cJ9_max_7cf53 10 = .ok (.ireturn, 1) := by decide +kernel
theorem dJ9_max_f86c9_0 : decode cJ9_max_f86c9 0 = .ok (.lload_n 0, 1) := by decide +kernel
theorem dJ9_max_f86c9_1 : decode cJ9_max_f86c9 1 = .ok (.lload_n 2, 1) := by decide +kernel
theorem dJ9_max_f86c9_2 : decode cJ9_max_f86c9 2 = .ok (.lcmp, 1) := by decide +kernel
theorem dJ9_max_f86c9_3 : decode cJ9_max_f86c9 3 = .ok (.ifCond .lt 7, 3) := by decide +kernel
theorem dJ9_max_f86c9_6 : decode cJ9_max_f86c9 6 = .ok (.lload_n 0, 1) := by decide +kernel
theorem dJ9_max_f86c9_7 : decode cJ9_max_f86c9 7 = .ok (.goto 4, 3) := by decide +kernel
theorem dJ9_max_f86c9_10 : decode cJ9_max_f86c9 10 = .ok (.lload_n 2, 1) := by decide +kernel
theorem dJ9_max_f86c9_11 : decode cJ9_max_f86c9 11 = .ok (.lreturn, 1) := by decide +kernel
theorem dJ9_min_7cf53_0 : decode cJ9_min_7cf53 0 = .ok (.iload_n 0, 1) := by decide +kernel
theorem dJ9_min_7cf53_1 : decode cJ9_min_7cf53 1 = .ok (.iload_n 1, 1) := by decide +kernel
theorem dJ9_min_7cf53_2 : decode cJ9_min_7cf53 2 = .ok (.if_icmp .gt 7, 3) := by decide +kernel
theorem dJ9_min_7cf53_5 : decode cJ9_min_7cf53 5 = .ok (.iload_n 0, 1) := by decide +kernel
theorem dJ9_min_7cf53_6 : decode cJ9_min_7cf53 6 = .ok (.goto 4, 3) := by decide +kernel
theorem dJ9_min_7cf53_9 : decode cJ9_min_7cf53 9 = .ok (.iload_n 1, 1) := by decide +kernel
theorem dJ9_min_7cf53_10 : decode cJ9_min_7cf53 10 = .ok (.ireturn, 1) := by decide +kernel
theorem dJ9_min_f86c9_0 : decode cJ9_min_f86c9 0 = .ok (.lload_n 0, 1) := by decide +kernel
theorem dJ9_min_f86c9_1 : decode cJ9_min_f86c9 1 = .ok (.lload_n 2, 1) := by decide +kernel
theorem dJ9_min_f86c9_2 : decode cJ9_min_f86c9 2 = .ok (.lcmp, 1) := by decide +kernel
theorem dJ9_min_f86c9_3 : decode cJ9_min_f86c9 3 = .ok (.ifCond .gt 7, 3) := by decide +kernel
theorem dJ9_min_f86c9_6 : decode cJ9_min_f86c9 6 = .ok (.lload_n 0, 1) := by decide +kernel
theorem dJ9_min_f86c9_7 : decode cJ9_min_f86c9 7 = .ok (.goto 4, 3) := by decide +kernel
theorem dJ9_min_f86c9_10 : decode cJ9_min_f86c9 10 = .ok (.lload_n 2, 1) := by decide +kernel
theorem dJ9_min_f86c9_11 : decode cJ9_min_f86c9 11 = .ok (.lreturn, 1) := by decide +kernel
theorem dJ7_fill_53178_0 : decode cJ7_fill_53178 0 = .ok (.iconst 0, 1) := by decide +kernel
theorem dJ7_fill_53178_1 : decode cJ7_fill_53178 1 = .ok (.istore_n 2, 1) := by decide +kernel
theorem dJ7_fill_53178_2 : decode cJ7_fill_53178 2 = .ok (.aload_n 0, 1) := by decide +kernel
theorem dJ7_fill_53178_3 : decode cJ7_fill_53178 3 = .ok (.arraylength, 1) := by decide +kernel
theorem dJ7_fill_53178_4 : decode cJ7_fill_53178 4 = .ok (.istore_n 3, 1) := by decide +kernel
theorem dJ7_fill_53178_5 : decode cJ7_fill_53178 5 = .ok (.iload_n 2, 1) := by decide +kernel
theorem dJ7_fill_53178_6 : decode cJ7_fill_53178 6 = .ok (.iload_n 3, 1) := by decide +kernel
theorem dJ7_fill_53178_7 : decode cJ7_fill_53178 7 = .ok (.if_icmp .ge 13, 3) := by decide +kernel
theorem dJ7_fill_53178_10 : decode cJ7_fill_53178 10 = .ok (.aload_n 0, 1) := by decide +kernel
theorem dJ7_fill_53178_11 : decode cJ7_fill_53178 11 = .ok (.iload_n 2, 1) := by decide +kernel
theorem dJ7_fill_53178_12 : decode cJ7_fill_53178 12 = .ok (.iload_n 1, 1) := by decide +kernel
theorem dJ7_fill_53178_13 : decode cJ7_fill_53178 13 = .ok (.iastore, 1) := by decide +kernel
theorem dJ7_fill_53178_14 : decode cJ7_fill_53178 14 = .ok (.iinc 2 1, 3) := by decide +kernel
theorem dJ7_fill_53178_17 : decode cJ7_fill_53178 17 = .ok (.goto (-12), 3) := by decide +kernel
theorem dJ7_fill_53178_20 : decode cJ7_fill_53178 20 = .ok (.return_, 1) := by decide +kernel
abbrev vwCl : List vw_C := [(RX0, TX0, 3), (RX1, TX1, 8), (RX2, TX2, 9), (RX3, TX3, 4), (RX4, TX4, 3), (RX5, TX5, 6), (RX6, TX6, 4), (RX7, TX7, 2), (RX8, TX8, 5), (RX9, TX9, 11), (RX10, TX10, 40)]
