theorem dX11_takeNumber_133 : decode cX11_takeNumber 133 = .ok (.aload_n 0, 1) := by decide +kernel
theorem dX11_takeNumber_134 : decode cX11_takeNumber 134 = .ok (.getfield 111, 3) := by decide +kernel
theorem dX11_takeNumber_137 : decode cX11_takeNumber 137 = .ok (.isub, 1) := by decide +kernel
theorem dX11_takeNumber_138 : decode cX11_takeNumber 138 = .ok (.iconst 3, 1) := by decide +kernel
theorem dX11_takeNumber_139 : decode cX11_takeNumber 139 = .ok (.if_icmp .gt 18, 3) := by decide +kernel
theorem dX11_takeNumber_142 : decode cX11_takeNumber 142 = .ok (.aload_n 0, 1) := by decide +kernel
theorem dX11_takeNumber_143 : decode cX11_takeNumber 143 = .ok (.getfield 114, 3) := by decide +kernel
theorem dX11_takeNumber_146 : decode cX11_takeNumber 146 = .ok (.i2l, 1) := by decide +kernel
theorem dX11_takeNumber_147 : decode cX11_takeNumber 147 = .ok (.iload_n 1, 1) := by decide +kernel
theorem dX11_takeNumber_148 : decode cX11_takeNumber 148 = .ok (.i2l, 1) := by decide +kernel
theorem dX11_takeNumber_149 : decode cX11_takeNumber 149 = .ok (.iload_n 2, 1) := by decide +kernel
theorem dX11_takeNumber_150 : decode cX11_takeNumber 150 = .ok (.i2l, 1) := by decide +kernel
theorem dX11_takeNumber_151 : decode cX11_takeNumber 151 = .ok (.invokestatic 78, 3) := by decide +kernel
theorem dX11_takeNumber_154 : decode cX11_takeNumber 154 = .ok (.ifCond .ne 15, 3) := by decide +kernel
theorem dX11_takeNumber_157 : decode cX11_takeNumber 157 = .ok (.aload_n 0, 1) := by decide +kernel
theorem dX11_takeNumber_158 : decode cX11_takeNumber 158 = .ok (.iconst 2, 1) := by decide +kernel
theorem dX11_takeNumber_159 : decode cX11_takeNumber 159 = .ok (.aload_n 0, 1) := by decide +kernel
theorem dX11_takeNumber_160 : decode cX11_takeNumber 160 = .ok (.getfield 111, 3) := by decide +kernel
theorem dX11_takeNumber_163 : decode cX11_takeNumber 163 = .ok (.invokevirtual 107, 3) := by decide +kernel
theorem dX11_takeNumber_166 : decode cX11_takeNumber 166 = .ok (.goto 4, 3) := by decide +kernel
theorem dX11_takeNumber_169 : decode cX11_takeNumber 169 = .ok (.iconst 0, 1) := by decide +kernel
theorem dX11_takeNumber_170 : decode cX11_takeNumber 170 = .ok (.ireturn, 1) := by decide +kernel
set_option maxRecDepth 20000 in
theorem ggX11_takeRooms_X11_takeNumber : GoodIn wsX11_takeRooms wsX11_takeNumber := goodIn_r _ [8, 9, 10, 11, 12, 1, 13, 14, 15, 16, 17, 7, 18, 19, 20, 21, 22, 23, 24, 25, 26, 27, 28, 29, 30, 31, 32, 33, 34, 35, 36, 37, 38, 39, 40, 41, 42, 43, 44, 45, 46, 47, 48, 49, 50, 51, 52, 53, 54, 55, 56, 57, 58, 59, 60, 61, 62, 63, 64, 65, 66, 67] (by decide +kernel) (by decide +kernel)
set_option maxRecDepth 20000 in
theorem gX11_takeRooms_X11_takeNumber : GoodIn wsX11_takeRooms (wsV RX11 117 RX11 yX11_takeNumber wsX11_takeNumber) := goodIn_app (goodIn_of _ (by decide +kernel)) ggX11_takeRooms_X11_takeNumber
theorem dX11_takeRooms_0 : decode cX11_takeRooms 0 = .ok (.aload_n 0, 1) := by decide +kernel
theorem dX11_takeRooms_1 : decode cX11_takeRooms 1 = .ok (.iconst 2, 1) := by decide +kernel
theorem dX11_takeRooms_2 : decode cX11_takeRooms 2 = .ok (.bipush 6, 2) := by decide +kernel
theorem dX11_takeRooms_4 : decode cX11_takeRooms 4 = .ok (.invokevirtual 117, 3) := by decide +kernel
theorem dX11_takeRooms_7 : decode cX11_takeRooms 7 = .ok (.istore_n 1, 1) := by decide +kernel
theorem dX11_takeRooms_8 : decode cX11_takeRooms 8 = .ok (.iload_n 1, 1) := by decide +kernel
theorem dX11_takeRooms_9 : decode cX11_takeRooms 9 = .ok (.ifCond .le 5, 3) := by decide +kernel
theorem dX11_takeRooms_12 : decode cX11_takeRooms 12 = .ok (.iload_n 1, 1) := by decide +kernel
theorem dX11_takeRooms_13 : decode cX11_takeRooms 13 = .ok (.ireturn, 1) := by decide +kernel
theorem dX11_takeRooms_14 : decode cX11_takeRooms 14 = .ok (.aload_n 0, 1) := by decide +kernel
theorem dX11_takeRooms_15 : decode cX11_takeRooms 15 = .ok (.getfield 114, 3) := by decide +kernel
theorem dX11_takeRooms_18 : decode cX11_takeRooms 18 = .ok (.istore_n 2, 1) := by decide +kernel
theorem dX11_takeRooms_19 : decode cX11_takeRooms 19 = .ok (.aload_n 0, 1) := by decide +kernel
theorem dX11_takeRooms_20 : decode cX11_takeRooms 20 = .ok (.iconst 0, 1) := by decide +kernel
theorem dX11_takeRooms_21 : decode cX11_takeRooms 21 = .ok (.iconst 1, 1) := by decide +kernel
theorem dX11_takeRooms_22 : decode cX11_takeRooms 22 = .ok (.iload_n 2, 1) := by decide +kernel
theorem dX11_takeRooms_23 : decode cX11_takeRooms 23 = .ok (.ishl, 1) := by decide +kernel
theorem dX11_takeRooms_24 : decode cX11_takeRooms 24 = .ok (.iconst 1, 1) := by decide +kernel
theorem dX11_takeRooms_25 : decode cX11_takeRooms 25 = .ok (.isub, 1) := by decide +kernel
theorem dX11_takeRooms_26 : decode cX11_takeRooms 26 = .ok (.invokevirtual 117, 3) := by decide +kernel
theorem dX11_takeRooms_29 : decode cX11_takeRooms 29 = .ok (.istore_n 1, 1) := by decide +kernel
theorem dX11_takeRooms_30 : decode cX11_takeRooms 30 = .ok (.aload_n 0, 1) := by decide +kernel
theorem dX11_takeRooms_31 : decode cX11_takeRooms 31 = .ok (.iload_n 2, 1) := by decide +kernel
theorem dX11_takeRooms_32 : decode cX11_takeRooms 32 = .ok (.putfield 120, 3) := by decide +kernel
theorem dX11_takeRooms_35 : decode cX11_takeRooms 35 = .ok (.aload_n 0, 1) := by decide +kernel
theorem dX11_takeRooms_36 : decode cX11_takeRooms 36 = .ok (.aload_n 0, 1) := by decide +kernel
theorem dX11_takeRooms_37 : decode cX11_takeRooms 37 = .ok (.getfield 114, 3) := by decide +kernel
theorem dX11_takeRooms_40 : decode cX11_takeRooms 40 = .ok (.putfield 123, 3) := by decide +kernel
theorem dX11_takeRooms_43 : decode cX11_takeRooms 43 = .ok (.iload_n 1, 1) := by decide +kernel
theorem dX11_takeRooms_44 : decode cX11_takeRooms 44 = .ok (.ireturn, 1) := by decide +kernel
set_option maxRecDepth 20000 in
theorem ggX11_takePair_X11_takeNumber : GoodIn wsX11_takePair wsX11_takeNumber := goodIn_r _ [9, 10, 11, 12, 4, 2, 13, 14, 15, 16, 17, 8, 18, 19, 20, 21, 22, 23, 24, 25, 26, 30, 31, 32, 33, 34, 35, 36, 37, 38, 39, 40, 41, 42, 43, 44, 45, 46, 47, 48, 49, 50, 51, 52, 53, 54, 55, 56, 57, 58, 59, 60, 61, 62, 63, 64, 65, 66, 67, 68, 69, 70] (by decide +kernel) (by decide +kernel)
set_option maxRecDepth 20000 in
theorem gX11_takePair_X11_takeNumber : GoodIn wsX11_takePair (wsV RX11 117 RX11 yX11_takeNumber wsX11_takeNumber) := goodIn_app (goodIn_of _ (by decide +kernel)) ggX11_takePair_X11_takeNumber
set_option maxRecDepth 20000 in
theorem ggX11_takePair_X11_has : GoodIn wsX11_takePair wsX11_has := goodIn_r _ [29] (by decide +kernel) (by decide +kernel)
set_option maxRecDepth 20000 in
theorem gX11_takePair_X11_has : GoodIn wsX11_takePair (va_wsS RX11 129 yX11_has wsX11_has) := goodIn_app (goodIn_of _ (by decide +kernel)) ggX11_takePair_X11_has
set_option maxRecDepth 20000 in
theorem ggX11_takePair_X11_fails : GoodIn wsX11_takePair wsX11_fails := goodIn_r _ [25, 26, 30, 31, 32, 33, 34, 35, 36, 37, 38, 39, 40, 41, 42, 43, 44, 45, 46, 47, 48, 49, 50, 51, 52, 53, 54, 55, 56, 57, 58, 59, 60, 61, 62, 63, 64, 65, 66, 67, 68, 69, 70] (by decide +kernel) (by decide +kernel)
set_option maxRecDepth 20000 in
theorem gX11_takePair_X11_fails : GoodIn wsX11_takePair (wsV RX11 107 RX11 yX11_fails wsX11_fails) := goodIn_app (goodIn_of _ (by decide +kernel)) ggX11_takePair_X11_fails
theorem dX11_takePair_0 : decode cX11_takePair 0 = .ok (.aload_n 0, 1) := by decide +kernel
theorem dX11_takePair_1 : decode cX11_takePair 1 = .ok (.iconst 0, 1) := by decide +kernel
theorem dX11_takePair_2 : decode cX11_takePair 2 = .ok (.aload_n 0, 1) := by decide +kernel
theorem dX11_takePair_3 : decode cX11_takePair 3 = .ok (.getfield 120, 3) := by decide +kernel
theorem dX11_takePair_6 : decode cX11_takePair 6 = .ok (.iconst 1, 1) := by decide +kernel
theorem dX11_takePair_7 : decode cX11_takePair 7 = .ok (.isub, 1) := by decide +kernel
theorem dX11_takePair_8 : decode cX11_takePair 8 = .ok (.invokevirtual 117, 3) := by decide +kernel
theorem dX11_takePair_11 : decode cX11_takePair 11 = .ok (.istore_n 2, 1) := by decide +kernel
theorem dX11_takePair_12 : decode cX11_takePair 12 = .ok (.iload_n 2, 1) := by decide +kernel
theorem dX11_takePair_13 : decode cX11_takePair 13 = .ok (.ifCond .le 5, 3) := by decide +kernel
theorem dX11_takePair_16 : decode cX11_takePair 16 = .ok (.iload_n 2, 1) := by decide +kernel
theorem dX11_takePair_17 : decode cX11_takePair 17 = .ok (.ireturn, 1) := by decide +kernel
theorem dX11_takePair_18 : decode cX11_takePair 18 = .ok (.aload_n 0, 1) := by decide +kernel
theorem dX11_takePair_19 : decode cX11_takePair 19 = .ok (.aload_n 0, 1) := by decide +kernel
theorem dX11_takePair_20 : decode cX11_takePair 20 = .ok (.getfield 114, 3) := by decide +kernel
theorem dX11_takePair_23 : decode cX11_takePair 23 = .ok (.putfield 126, 3) := by decide +kernel
theorem dX11_takePair_26 : decode cX11_takePair 26 = .ok (.aload_n 0, 1) := by decide +kernel
theorem dX11_takePair_27 : decode cX11_takePair 27 = .ok (.iconst 0, 1) := by decide +kernel
theorem dX11_takePair_28 : decode cX11_takePair 28 = .ok (.aload_n 0, 1) := by decide +kernel
theorem dX11_takePair_29 : decode cX11_takePair 29 = .ok (.getfield 120, 3) := by decide +kernel
theorem dX11_takePair_32 : decode cX11_takePair 32 = .ok (.iconst 1, 1) := by decide +kernel
theorem dX11_takePair_33 : decode cX11_takePair 33 = .ok (.isub, 1) := by decide +kernel
theorem dX11_takePair_34 : decode cX11_takePair 34 = .ok (.invokevirtual 117, 3) := by decide +kernel
theorem dX11_takePair_37 : decode cX11_takePair 37 = .ok (.istore_n 2, 1) := by decide +kernel
theorem dX11_takePair_38 : decode cX11_takePair 38 = .ok (.iload_n 2, 1) := by decide +kernel
theorem dX11_takePair_39 : decode cX11_takePair 39 = .ok (.ifCond .le 5, 3) := by decide +kernel
theorem dX11_takePair_42 : decode cX11_takePair 42 = .ok (.iload_n 2, 1) := by decide +kernel
theorem dX11_takePair_43 : decode cX11_takePair 43 = .ok (.ireturn, 1) := by decide +kernel
theorem dX11_takePair_44 : decode cX11_takePair 44 = .ok (.aload_n 0, 1) := by decide +kernel
theorem dX11_takePair_45 : decode cX11_takePair 45 = .ok (.getfield 114, 3) := by decide +kernel
theorem dX11_takePair_48 : decode cX11_takePair 48 = .ok (.aload_n 0, 1) := by decide +kernel
theorem dX11_takePair_49 : decode cX11_takePair 49 = .ok (.getfield 126, 3) := by decide +kernel
theorem dX11_takePair_52 : decode cX11_takePair 52 = .ok (.if_icmp .eq 19, 3) := by decide +kernel
theorem dX11_takePair_55 : decode cX11_takePair 55 = .ok (.aload_n 1, 1) := by decide +kernel
theorem dX11_takePair_56 : decode cX11_takePair 56 = .ok (.aload_n 0, 1) := by decide +kernel
theorem dX11_takePair_57 : decode cX11_takePair 57 = .ok (.getfield 126, 3) := by decide +kernel
theorem dX11_takePair_60 : decode cX11_takePair 60 = .ok (.iaload, 1) := by decide +kernel
theorem dX11_takePair_61 : decode cX11_takePair 61 = .ok (.aload_n 0, 1) := by decide +kernel
theorem dX11_takePair_62 : decode cX11_takePair 62 = .ok (.getfield 114, 3) := by decide +kernel
theorem dX11_takePair_65 : decode cX11_takePair 65 = .ok (.invokestatic 129, 3) := by decide +kernel
theorem dX11_takePair_68 : decode cX11_takePair 68 = .ok (.ifCond .eq 15, 3) := by decide +kernel
theorem dX11_takePair_71 : decode cX11_takePair 71 = .ok (.aload_n 0, 1) := by decide +kernel
theorem dX11_takePair_72 : decode cX11_takePair 72 = .ok (.iconst 4, 1) := by decide +kernel
theorem dX11_takePair_73 : decode cX11_takePair 73 = .ok (.aload_n 0, 1) := by decide +kernel
theorem dX11_takePair_74 : decode cX11_takePair 74 = .ok (.getfield 111, 3) := by decide +kernel
theorem dX11_takePair_77 : decode cX11_takePair 77 = .ok (.invokevirtual 107, 3) := by decide +kernel
theorem dX11_takePair_80 : decode cX11_takePair 80 = .ok (.goto 4, 3) := by decide +kernel
theorem dX11_takePair_83 : decode cX11_takePair 83 = .ok (.iconst 0, 1) := by decide +kernel
theorem dX11_takePair_84 : decode cX11_takePair 84 = .ok (.ireturn, 1) := by decide +kernel
set_option maxRecDepth 20000 in
theorem ggX11_takeBench_X11_takePair : GoodIn wsX11_takeBench wsX11_takePair := goodIn_r _ [9, 10, 3, 2, 11, 12, 13, 14, 8, 15, 16, 17, 18, 19, 20, 21, 22, 23, 24, 25, 26, 27, 28, 29, 30, 31, 32, 33, 34, 35, 36, 37, 38, 39, 40, 41, 42, 43, 44, 45, 46, 47, 48, 49, 50, 51, 52, 53, 54, 55, 56, 57, 58, 59, 60, 61, 62, 63, 64, 65, 66, 67, 68, 69, 70, 71, 72, 73, 74, 75, 76] (by decide +kernel) (by decide +kernel)
set_option maxRecDepth 20000 in
theorem gX11_takeBench_X11_takePair : GoodIn wsX11_takeBench (wsV RX11 133 RX11 yX11_takePair wsX11_takePair) := goodIn_app (goodIn_of _ (by decide +kernel)) ggX11_takeBench_X11_takePair
theorem dX11_takeBench_0 : decode cX11_takeBench 0 = .ok (.aload_n 0, 1) := by decide +kernel
theorem dX11_takeBench_1 : decode cX11_takeBench 1 = .ok (.aload_n 0, 1) := by decide +kernel
theorem dX11_takeBench_2 : decode cX11_takeBench 2 = .ok (.getfield 47, 3) := by decide +kernel
theorem dX11_takeBench_5 : decode cX11_takeBench 5 = .ok (.invokevirtual 133, 3) := by decide +kernel
theorem dX11_takeBench_8 : decode cX11_takeBench 8 = .ok (.istore_n 1, 1) := by decide +kernel
theorem dX11_takeBench_9 : decode cX11_takeBench 9 = .ok (.iload_n 1, 1) := by decide +kernel
theorem dX11_takeBench_10 : decode cX11_takeBench 10 = .ok (.ifCond .ne 31, 3) := by decide +kernel
theorem dX11_takeBench_13 : decode cX11_takeBench 13 = .ok (.aload_n 0, 1) := by decide +kernel
theorem dX11_takeBench_14 : decode cX11_takeBench 14 = .ok (.getfield 47, 3) := by decide +kernel
theorem dX11_takeBench_17 : decode cX11_takeBench 17 = .ok (.aload_n 0, 1) := by decide +kernel
theorem dX11_takeBench_18 : decode cX11_takeBench 18 = .ok (.getfield 126, 3) := by decide +kernel
theorem dX11_takeBench_21 : decode cX11_takeBench 21 = .ok (.dup2, 1) := by decide +kernel
theorem dX11_takeBench_22 : decode cX11_takeBench 22 = .ok (.iaload, 1) := by decide +kernel
theorem dX11_takeBench_23 : decode cX11_takeBench 23 = .ok (.iconst 1, 1) := by decide +kernel
theorem dX11_takeBench_24 : decode cX11_takeBench 24 = .ok (.aload_n 0, 1) := by decide +kernel
theorem dX11_takeBench_25 : decode cX11_takeBench 25 = .ok (.getfield 114, 3) := by decide +kernel
theorem dX11_takeBench_28 : decode cX11_takeBench 28 = .ok (.ishl, 1) := by decide +kernel
theorem dX11_takeBench_29 : decode cX11_takeBench 29 = .ok (.ior, 1) := by decide +kernel
theorem dX11_takeBench_30 : decode cX11_takeBench 30 = .ok (.iastore, 1) := by decide +kernel
theorem dX11_takeBench_31 : decode cX11_takeBench 31 = .ok (.aload_n 0, 1) := by decide +kernel
theorem dX11_takeBench_32 : decode cX11_takeBench 32 = .ok (.dup, 1) := by decide +kernel
theorem dX11_takeBench_33 : decode cX11_takeBench 33 = .ok (.getfield 137, 3) := by decide +kernel
theorem dX11_takeBench_36 : decode cX11_takeBench 36 = .ok (.iconst 1, 1) := by decide +kernel
theorem dX11_takeBench_37 : decode cX11_takeBench 37 = .ok (.iadd, 1) := by decide +kernel
theorem dX11_takeBench_38 : decode cX11_takeBench 38 = .ok (.putfield 137, 3) := by decide +kernel
theorem dX11_takeBench_41 : decode cX11_takeBench 41 = .ok (.iload_n 1, 1) := by decide +kernel
theorem dX11_takeBench_42 : decode cX11_takeBench 42 = .ok (.ireturn, 1) := by decide +kernel
set_option maxRecDepth 20000 in
theorem ggX11_takeWay_X11_takePair : GoodIn wsX11_takeWay wsX11_takePair := goodIn_r _ [9, 10, 3, 2, 11, 12, 13, 14, 8, 15, 16, 17, 18, 19, 20, 21, 22, 23, 24, 25, 26, 27, 28, 29, 30, 31, 32, 33, 34, 35, 36, 37, 38, 39, 40, 41, 42, 43, 44, 45, 46, 47, 48, 49, 50, 51, 52, 53, 54, 55, 56, 57, 58, 59, 60, 61, 62, 63, 64, 65, 66, 67, 68, 69, 70, 71, 72, 73, 74, 75, 76] (by decide +kernel) (by decide +kernel)
set_option maxRecDepth 20000 in
theorem gX11_takeWay_X11_takePair : GoodIn wsX11_takeWay (wsV RX11 133 RX11 yX11_takePair wsX11_takePair) := goodIn_app (goodIn_of _ (by decide +kernel)) ggX11_takeWay_X11_takePair
theorem dX11_takeWay_0 : decode cX11_takeWay 0 = .ok (.aload_n 0, 1) := by decide +kernel
theorem dX11_takeWay_1 : decode cX11_takeWay 1 = .ok (.aload_n 0, 1) := by decide +kernel
theorem dX11_takeWay_2 : decode cX11_takeWay 2 = .ok (.getfield 50, 3) := by decide +kernel
theorem dX11_takeWay_5 : decode cX11_takeWay 5 = .ok (.invokevirtual 133, 3) := by decide +kernel
theorem dX11_takeWay_8 : decode cX11_takeWay 8 = .ok (.istore_n 1, 1) := by decide +kernel
theorem dX11_takeWay_9 : decode cX11_takeWay 9 = .ok (.iload_n 1, 1) := by decide +kernel
theorem dX11_takeWay_10 : decode cX11_takeWay 10 = .ok (.ifCond .ne 49, 3) := by decide +kernel
theorem dX11_takeWay_13 : decode cX11_takeWay 13 = .ok (.aload_n 0, 1) := by decide +kernel
theorem dX11_takeWay_14 : decode cX11_takeWay 14 = .ok (.getfield 50, 3) := by decide +kernel
theorem dX11_takeWay_17 : decode cX11_takeWay 17 = .ok (.aload_n 0, 1) := by decide +kernel
theorem dX11_takeWay_18 : decode cX11_takeWay 18 = .ok (.getfield 126, 3) := by decide +kernel
theorem dX11_takeWay_21 : decode cX11_takeWay 21 = .ok (.dup2, 1) := by decide +kernel
theorem dX11_takeWay_22 : decode cX11_takeWay 22 = .ok (.iaload, 1) := by decide +kernel
theorem dX11_takeWay_23 : decode cX11_takeWay 23 = .ok (.iconst 1, 1) := by decide +kernel
theorem dX11_takeWay_24 : decode cX11_takeWay 24 = .ok (.aload_n 0, 1) := by decide +kernel
theorem dX11_takeWay_25 : decode cX11_takeWay 25 = .ok (.getfield 114, 3) := by decide +kernel
theorem dX11_takeWay_28 : decode cX11_takeWay 28 = .ok (.ishl, 1) := by decide +kernel
theorem dX11_takeWay_29 : decode cX11_takeWay 29 = .ok (.ior, 1) := by decide +kernel
theorem dX11_takeWay_30 : decode cX11_takeWay 30 = .ok (.iastore, 1) := by decide +kernel
theorem dX11_takeWay_31 : decode cX11_takeWay 31 = .ok (.aload_n 0, 1) := by decide +kernel
theorem dX11_takeWay_32 : decode cX11_takeWay 32 = .ok (.getfield 50, 3) := by decide +kernel
theorem dX11_takeWay_35 : decode cX11_takeWay 35 = .ok (.aload_n 0, 1) := by decide +kernel
theorem dX11_takeWay_36 : decode cX11_takeWay 36 = .ok (.getfield 114, 3) := by decide +kernel
theorem dX11_takeWay_39 : decode cX11_takeWay 39 = .ok (.dup2, 1) := by decide +kernel
theorem dX11_takeWay_40 : decode cX11_takeWay 40 = .ok (.iaload, 1) := by decide +kernel
theorem dX11_takeWay_41 : decode cX11_takeWay 41 = .ok (.iconst 1, 1) := by decide +kernel
theorem dX11_takeWay_42 : decode cX11_takeWay 42 = .ok (.aload_n 0, 1) := by decide +kernel
theorem dX11_takeWay_43 : decode cX11_takeWay 43 = .ok (.getfield 126, 3) := by decide +kernel
theorem dX11_takeWay_46 : decode cX11_takeWay 46 = .ok (.ishl, 1) := by decide +kernel
theorem dX11_takeWay_47 : decode cX11_takeWay 47 = .ok (.ior, 1) := by decide +kernel
theorem dX11_takeWay_48 : decode cX11_takeWay 48 = .ok (.iastore, 1) := by decide +kernel
theorem dX11_takeWay_49 : decode cX11_takeWay 49 = .ok (.aload_n 0, 1) := by decide +kernel
theorem dX11_takeWay_50 : decode cX11_takeWay 50 = .ok (.dup, 1) := by decide +kernel
theorem dX11_takeWay_51 : decode cX11_takeWay 51 = .ok (.getfield 140, 3) := by decide +kernel
theorem dX11_takeWay_54 : decode cX11_takeWay 54 = .ok (.iconst 1, 1) := by decide +kernel
theorem dX11_takeWay_55 : decode cX11_takeWay 55 = .ok (.iadd, 1) := by decide +kernel
theorem dX11_takeWay_56 : decode cX11_takeWay 56 = .ok (.putfield 140, 3) := by decide +kernel
theorem dX11_takeWay_59 : decode cX11_takeWay 59 = .ok (.iload_n 1, 1) := by decide +kernel
theorem dX11_takeWay_60 : decode cX11_takeWay 60 = .ok (.ireturn, 1) := by decide +kernel
set_option maxRecDepth 20000 in
theorem ggX11_takePerson_X11_takeNumber : GoodIn wsX11_takePerson wsX11_takeNumber := goodIn_r _ [10, 11, 12, 13, 14, 3, 15, 16, 17, 18, 19, 9, 20, 21, 22, 23, 24, 25, 26, 27, 28, 29, 30, 31, 32, 33, 34, 35, 36, 37, 38, 39, 40, 41, 42, 43, 44, 45, 46, 47, 48, 49, 50, 51, 52, 53, 54, 55, 56, 57, 58, 59, 60, 61, 62, 63, 64, 65, 66, 67, 68, 69] (by decide +kernel) (by decide +kernel)
set_option maxRecDepth 20000 in
theorem gX11_takePerson_X11_takeNumber : GoodIn wsX11_takePerson (wsV RX11 117 RX11 yX11_takeNumber wsX11_takeNumber) := goodIn_app (goodIn_of _ (by decide +kernel)) ggX11_takePerson_X11_takeNumber
theorem dX11_takePerson_0 : decode cX11_takePerson 0 = .ok (.aload_n 0, 1) := by decide +kernel
theorem dX11_takePerson_1 : decode cX11_takePerson 1 = .ok (.iconst 0, 1) := by decide +kernel
theorem dX11_takePerson_2 : decode cX11_takePerson 2 = .ok (.iconst 3, 1) := by decide +kernel
theorem dX11_takePerson_3 : decode cX11_takePerson 3 = .ok (.invokevirtual 117, 3) := by decide +kernel
theorem dX11_takePerson_6 : decode cX11_takePerson 6 = .ok (.istore_n 1, 1) := by decide +kernel
theorem dX11_takePerson_7 : decode cX11_takePerson 7 = .ok (.iload_n 1, 1) := by decide +kernel
theorem dX11_takePerson_8 : decode cX11_takePerson 8 = .ok (.ifCond .le 5, 3) := by decide +kernel
theorem dX11_takePerson_11 : decode cX11_takePerson 11 = .ok (.iload_n 1, 1) := by decide +kernel
theorem dX11_takePerson_12 : decode cX11_takePerson 12 = .ok (.ireturn, 1) := by decide +kernel
theorem dX11_takePerson_13 : decode cX11_takePerson 13 = .ok (.aload_n 0, 1) := by decide +kernel
theorem dX11_takePerson_14 : decode cX11_takePerson 14 = .ok (.getfield 53, 3) := by decide +kernel
theorem dX11_takePerson_17 : decode cX11_takePerson 17 = .ok (.aload_n 0, 1) := by decide +kernel
theorem dX11_takePerson_18 : decode cX11_takePerson 18 = .ok (.getfield 143, 3) := by decide +kernel
theorem dX11_takePerson_21 : decode cX11_takePerson 21 = .ok (.aload_n 0, 1) := by decide +kernel
theorem dX11_takePerson_22 : decode cX11_takePerson 22 = .ok (.getfield 114, 3) := by decide +kernel
theorem dX11_takePerson_25 : decode cX11_takePerson 25 = .ok (.iastore, 1) := by decide +kernel
theorem dX11_takePerson_26 : decode cX11_takePerson 26 = .ok (.aload_n 0, 1) := by decide +kernel
theorem dX11_takePerson_27 : decode cX11_takePerson 27 = .ok (.iconst 0, 1) := by decide +kernel
theorem dX11_takePerson_28 : decode cX11_takePerson 28 = .ok (.aload_n 0, 1) := by decide +kernel
theorem dX11_takePerson_29 : decode cX11_takePerson 29 = .ok (.getfield 120, 3) := by decide +kernel
theorem dX11_takePerson_32 : decode cX11_takePerson 32 = .ok (.iconst 1, 1) := by decide +kernel
theorem dX11_takePerson_33 : decode cX11_takePerson 33 = .ok (.isub, 1) := by decide +kernel
theorem dX11_takePerson_34 : decode cX11_takePerson 34 = .ok (.invokevirtual 117, 3) := by decide +kernel
theorem dX11_takePerson_37 : decode cX11_takePerson 37 = .ok (.istore_n 1, 1) := by decide +kernel
theorem dX11_takePerson_38 : decode cX11_takePerson 38 = .ok (.aload_n 0, 1) := by decide +kernel
theorem dX11_takePerson_39 : decode cX11_takePerson 39 = .ok (.getfield 56, 3) := by decide +kernel
theorem dX11_takePerson_42 : decode cX11_takePerson 42 = .ok (.aload_n 0, 1) := by decide +kernel
theorem dX11_takePerson_43 : decode cX11_takePerson 43 = .ok (.getfield 143, 3) := by decide +kernel
theorem dX11_takePerson_46 : decode cX11_takePerson 46 = .ok (.aload_n 0, 1) := by decide +kernel
theorem dX11_takePerson_47 : decode cX11_takePerson 47 = .ok (.getfield 114, 3) := by decide +kernel
theorem dX11_takePerson_50 : decode cX11_takePerson 50 = .ok (.iastore, 1) := by decide +kernel
theorem dX11_takePerson_51 : decode cX11_takePerson 51 = .ok (.aload_n 0, 1) := by decide +kernel
theorem dX11_takePerson_52 : decode cX11_takePerson 52 = .ok (.dup, 1) := by decide +kernel
theorem dX11_takePerson_53 : decode cX11_takePerson 53 = .ok (.getfield 143, 3) := by decide +kernel
theorem dX11_takePerson_56 : decode cX11_takePerson 56 = .ok (.iconst 1, 1) := by decide +kernel
theorem dX11_takePerson_57 : decode cX11_takePerson 57 = .ok (.iadd, 1) := by decide +kernel
theorem dX11_takePerson_58 : decode cX11_takePerson 58 = .ok (.putfield 143, 3) := by decide +kernel
theorem dX11_takePerson_61 : decode cX11_takePerson 61 = .ok (.iload_n 1, 1) := by decide +kernel
theorem dX11_takePerson_62 : decode cX11_takePerson 62 = .ok (.ireturn, 1) := by decide +kernel
set_option maxRecDepth 20000 in
theorem ggX11_takeLiking_X11_takeNumber : GoodIn wsX11_takeLiking wsX11_takeNumber := goodIn_r _ [10, 11, 12, 13, 3, 2, 14, 15, 16, 17, 18, 9, 19, 20, 21, 22, 23, 24, 25, 26, 27, 28, 29, 30, 31, 32, 33, 34, 35, 36, 37, 38, 39, 40, 41, 42, 43, 44, 45, 46, 47, 48, 49, 50, 51, 52, 53, 54, 55, 56, 57, 58, 59, 60, 61, 62, 63, 64, 65, 66, 67, 68] (by decide +kernel) (by decide +kernel)
set_option maxRecDepth 20000 in
theorem gX11_takeLiking_X11_takeNumber : GoodIn wsX11_takeLiking (wsV RX11 117 RX11 yX11_takeNumber wsX11_takeNumber) := goodIn_app (goodIn_of _ (by decide +kernel)) ggX11_takeLiking_X11_takeNumber
set_option maxRecDepth 20000 in
theorem ggX11_takeLiking_X11_fails : GoodIn wsX11_takeLiking wsX11_fails := goodIn_r _ [26, 27, 28, 29, 30, 31, 32, 33, 34, 35, 36, 37, 38, 39, 40, 41, 42, 43, 44, 45, 46, 47, 48, 49, 50, 51, 52, 53, 54, 55, 56, 57, 58, 59, 60, 61, 62, 63, 64, 65, 66, 67, 68] (by decide +kernel) (by decide +kernel)
set_option maxRecDepth 20000 in
theorem gX11_takeLiking_X11_fails : GoodIn wsX11_takeLiking (wsV RX11 107 RX11 yX11_fails wsX11_fails) := goodIn_app (goodIn_of _ (by decide +kernel)) ggX11_takeLiking_X11_fails
theorem dX11_takeLiking_0 : decode cX11_takeLiking 0 = .ok (.aload_n 0, 1) := by decide +kernel
theorem dX11_takeLiking_1 : decode cX11_takeLiking 1 = .ok (.iconst 0, 1) := by decide +kernel
theorem dX11_takeLiking_2 : decode cX11_takeLiking 2 = .ok (.aload_n 0, 1) := by decide +kernel
theorem dX11_takeLiking_3 : decode cX11_takeLiking 3 = .ok (.getfield 143, 3) := by decide +kernel
theorem dX11_takeLiking_6 : decode cX11_takeLiking 6 = .ok (.iconst 1, 1) := by decide +kernel
theorem dX11_takeLiking_7 : decode cX11_takeLiking 7 = .ok (.isub, 1) := by decide +kernel
theorem dX11_takeLiking_8 : decode cX11_takeLiking 8 = .ok (.invokevirtual 117, 3) := by decide +kernel
theorem dX11_takeLiking_11 : decode cX11_takeLiking 11 = .ok (.istore_n 1, 1) := by decide +kernel
theorem dX11_takeLiking_12 : decode cX11_takeLiking 12 = .ok (.iload_n 1, 1) := by decide +kernel
theorem dX11_takeLiking_13 : decode cX11_takeLiking 13 = .ok (.ifCond .le 5, 3) := by decide +kernel
theorem dX11_takeLiking_16 : decode cX11_takeLiking 16 = .ok (.iload_n 1, 1) := by decide +kernel
theorem dX11_takeLiking_17 : decode cX11_takeLiking 17 = .ok (.ireturn, 1) := by decide +kernel
theorem dX11_takeLiking_18 : decode cX11_takeLiking 18 = .ok (.aload_n 0, 1) := by decide +kernel
theorem dX11_takeLiking_19 : decode cX11_takeLiking 19 = .ok (.getfield 114, 3) := by decide +kernel
theorem dX11_takeLiking_22 : decode cX11_takeLiking 22 = .ok (.istore_n 2, 1) := by decide +kernel
theorem dX11_takeLiking_23 : decode cX11_takeLiking 23 = .ok (.aload_n 0, 1) := by decide +kernel
theorem dX11_takeLiking_24 : decode cX11_takeLiking 24 = .ok (.iconst 0, 1) := by decide +kernel
theorem dX11_takeLiking_25 : decode cX11_takeLiking 25 = .ok (.aload_n 0, 1) := by decide +kernel
theorem dX11_takeLiking_26 : decode cX11_takeLiking 26 = .ok (.getfield 143, 3) := by decide +kernel
theorem dX11_takeLiking_29 : decode cX11_takeLiking 29 = .ok (.iconst 1, 1) := by decide +kernel
theorem dX11_takeLiking_30 : decode cX11_takeLiking 30 = .ok (.isub, 1) := by decide +kernel
theorem dX11_takeLiking_31 : decode cX11_takeLiking 31 = .ok (.invokevirtual 117, 3) := by decide +kernel
theorem dX11_takeLiking_34 : decode cX11_takeLiking 34 = .ok (.istore_n 1, 1) := by decide +kernel
theorem dX11_takeLiking_35 : decode cX11_takeLiking 35 = .ok (.iload_n 1, 1) := by decide +kernel
theorem dX11_takeLiking_36 : decode cX11_takeLiking 36 = .ok (.ifCond .le 5, 3) := by decide +kernel
theorem dX11_takeLiking_39 : decode cX11_takeLiking 39 = .ok (.iload_n 1, 1) := by decide +kernel
theorem dX11_takeLiking_40 : decode cX11_takeLiking 40 = .ok (.ireturn, 1) := by decide +kernel
theorem dX11_takeLiking_41 : decode cX11_takeLiking 41 = .ok (.aload_n 0, 1) := by decide +kernel
theorem dX11_takeLiking_42 : decode cX11_takeLiking 42 = .ok (.getfield 114, 3) := by decide +kernel
theorem dX11_takeLiking_45 : decode cX11_takeLiking 45 = .ok (.istore_n 3, 1) := by decide +kernel
theorem dX11_takeLiking_46 : decode cX11_takeLiking 46 = .ok (.iload_n 2, 1) := by decide +kernel
theorem dX11_takeLiking_47 : decode cX11_takeLiking 47 = .ok (.iload_n 3, 1) := by decide +kernel
theorem dX11_takeLiking_48 : decode cX11_takeLiking 48 = .ok (.if_icmp .ne 13, 3) := by decide +kernel
theorem dX11_takeLiking_51 : decode cX11_takeLiking 51 = .ok (.aload_n 0, 1) := by decide +kernel
theorem dX11_takeLiking_52 : decode cX11_takeLiking 52 = .ok (.iconst 4, 1) := by decide +kernel
theorem dX11_takeLiking_53 : decode cX11_takeLiking 53 = .ok (.aload_n 0, 1) := by decide +kernel
theorem dX11_takeLiking_54 : decode cX11_takeLiking 54 = .ok (.getfield 111, 3) := by decide +kernel
theorem dX11_takeLiking_57 : decode cX11_takeLiking 57 = .ok (.invokevirtual 107, 3) := by decide +kernel
theorem dX11_takeLiking_60 : decode cX11_takeLiking 60 = .ok (.ireturn, 1) := by decide +kernel
theorem dX11_takeLiking_61 : decode cX11_takeLiking 61 = .ok (.aload_n 0, 1) := by decide +kernel
theorem dX11_takeLiking_62 : decode cX11_takeLiking 62 = .ok (.iconst 0, 1) := by decide +kernel
theorem dX11_takeLiking_63 : decode cX11_takeLiking 63 = .ok (.bipush 9, 2) := by decide +kernel
theorem dX11_takeLiking_65 : decode cX11_takeLiking 65 = .ok (.invokevirtual 117, 3) := by decide +kernel
theorem dX11_takeLiking_68 : decode cX11_takeLiking 68 = .ok (.istore_n 1, 1) := by decide +kernel
theorem dX11_takeLiking_69 : decode cX11_takeLiking 69 = .ok (.aload_n 0, 1) := by decide +kernel
theorem dX11_takeLiking_70 : decode cX11_takeLiking 70 = .ok (.getfield 59, 3) := by decide +kernel
theorem dX11_takeLiking_73 : decode cX11_takeLiking 73 = .ok (.bipush 7, 2) := by decide +kernel
theorem dX11_takeLiking_75 : decode cX11_takeLiking 75 = .ok (.iload_n 2, 1) := by decide +kernel
theorem dX11_takeLiking_76 : decode cX11_takeLiking 76 = .ok (.imul, 1) := by decide +kernel
theorem dX11_takeLiking_77 : decode cX11_takeLiking 77 = .ok (.iload_n 3, 1) := by decide +kernel
theorem dX11_takeLiking_78 : decode cX11_takeLiking 78 = .ok (.iadd, 1) := by decide +kernel
theorem dX11_takeLiking_79 : decode cX11_takeLiking 79 = .ok (.aload_n 0, 1) := by decide +kernel
theorem dX11_takeLiking_80 : decode cX11_takeLiking 80 = .ok (.getfield 114, 3) := by decide +kernel
theorem dX11_takeLiking_83 : decode cX11_takeLiking 83 = .ok (.iastore, 1) := by decide +kernel
theorem dX11_takeLiking_84 : decode cX11_takeLiking 84 = .ok (.aload_n 0, 1) := by decide +kernel
theorem dX11_takeLiking_85 : decode cX11_takeLiking 85 = .ok (.dup, 1) := by decide +kernel
theorem dX11_takeLiking_86 : decode cX11_takeLiking 86 = .ok (.getfield 146, 3) := by decide +kernel
theorem dX11_takeLiking_89 : decode cX11_takeLiking 89 = .ok (.iconst 1, 1) := by decide +kernel
theorem dX11_takeLiking_90 : decode cX11_takeLiking 90 = .ok (.iadd, 1) := by decide +kernel
theorem dX11_takeLiking_91 : decode cX11_takeLiking 91 = .ok (.putfield 146, 3) := by decide +kernel
theorem dX11_takeLiking_94 : decode cX11_takeLiking 94 = .ok (.iload_n 1, 1) := by decide +kernel
theorem dX11_takeLiking_95 : decode cX11_takeLiking 95 = .ok (.ireturn, 1) := by decide +kernel
theorem dX11_isFull_0 : decode cX11_isFull 0 = .ok (.iload_n 1, 1) := by decide +kernel
theorem dX11_isFull_1 : decode cX11_isFull 1 = .ok (.ifCond .ne 18, 3) := by decide +kernel
theorem dX11_isFull_4 : decode cX11_isFull 4 = .ok (.aload_n 0, 1) := by decide +kernel
theorem dX11_isFull_5 : decode cX11_isFull 5 = .ok (.getfield 120, 3) := by decide +kernel
theorem dX11_isFull_8 : decode cX11_isFull 8 = .ok (.ifCond .le 7, 3) := by decide +kernel
theorem dX11_isFull_11 : decode cX11_isFull 11 = .ok (.iconst 1, 1) := by decide +kernel
theorem dX11_isFull_12 : decode cX11_isFull 12 = .ok (.goto 87, 3) := by decide +kernel
theorem dX11_isFull_15 : decode cX11_isFull 15 = .ok (.iconst 0, 1) := by decide +kernel
theorem dX11_isFull_16 : decode cX11_isFull 16 = .ok (.goto 83, 3) := by decide +kernel
theorem dX11_isFull_19 : decode cX11_isFull 19 = .ok (.iload_n 1, 1) := by decide +kernel
theorem dX11_isFull_20 : decode cX11_isFull 20 = .ok (.iconst 1, 1) := by decide +kernel
theorem dX11_isFull_21 : decode cX11_isFull 21 = .ok (.if_icmp .ne 20, 3) := by decide +kernel
theorem dX11_isFull_24 : decode cX11_isFull 24 = .ok (.aload_n 0, 1) := by decide +kernel
theorem dX11_isFull_25 : decode cX11_isFull 25 = .ok (.getfield 137, 3) := by decide +kernel
theorem dX11_isFull_28 : decode cX11_isFull 28 = .ok (.bipush 9, 2) := by decide +kernel
theorem dX11_isFull_30 : decode cX11_isFull 30 = .ok (.if_icmp .ne 7, 3) := by decide +kernel
theorem dX11_isFull_33 : decode cX11_isFull 33 = .ok (.iconst 1, 1) := by decide +kernel
theorem dX11_isFull_34 : decode cX11_isFull 34 = .ok (.goto 65, 3) := by decide +kernel
theorem dX11_isFull_37 : decode cX11_isFull 37 = .ok (.iconst 0, 1) := by decide +kernel
theorem dX11_isFull_38 : decode cX11_isFull 38 = .ok (.goto 61, 3) := by decide +kernel
theorem dX11_isFull_41 : decode cX11_isFull 41 = .ok (.iload_n 1, 1) := by decide +kernel
theorem dX11_isFull_42 : decode cX11_isFull 42 = .ok (.iconst 2, 1) := by decide +kernel
theorem dX11_isFull_43 : decode cX11_isFull 43 = .ok (.if_icmp .ne 20, 3) := by decide +kernel
theorem dX11_isFull_46 : decode cX11_isFull 46 = .ok (.aload_n 0, 1) := by decide +kernel
theorem dX11_isFull_47 : decode cX11_isFull 47 = .ok (.getfield 140, 3) := by decide +kernel
theorem dX11_isFull_50 : decode cX11_isFull 50 = .ok (.bipush 9, 2) := by decide +kernel
theorem dX11_isFull_52 : decode cX11_isFull 52 = .ok (.if_icmp .ne 7, 3) := by decide +kernel
theorem dX11_isFull_55 : decode cX11_isFull 55 = .ok (.iconst 1, 1) := by decide +kernel
theorem dX11_isFull_56 : decode cX11_isFull 56 = .ok (.goto 43, 3) := by decide +kernel
theorem dX11_isFull_59 : decode cX11_isFull 59 = .ok (.iconst 0, 1) := by decide +kernel
theorem dX11_isFull_60 : decode cX11_isFull 60 = .ok (.goto 39, 3) := by decide +kernel
theorem dX11_isFull_63 : decode cX11_isFull 63 = .ok (.iload_n 1, 1) := by decide +kernel
theorem dX11_isFull_64 : decode cX11_isFull 64 = .ok (.iconst 3, 1) := by decide +kernel
theorem dX11_isFull_65 : decode cX11_isFull 65 = .ok (.if_icmp .ne 20, 3) := by decide +kernel
theorem dX11_isFull_68 : decode cX11_isFull 68 = .ok (.aload_n 0, 1) := by decide +kernel
theorem dX11_isFull_69 : decode cX11_isFull 69 = .ok (.getfield 143, 3) := by decide +kernel
theorem dX11_isFull_72 : decode cX11_isFull 72 = .ok (.bipush 7, 2) := by decide +kernel
theorem dX11_isFull_74 : decode cX11_isFull 74 = .ok (.if_icmp .ne 7, 3) := by decide +kernel
theorem dX11_isFull_77 : decode cX11_isFull 77 = .ok (.iconst 1, 1) := by decide +kernel
theorem dX11_isFull_78 : decode cX11_isFull 78 = .ok (.goto 21, 3) := by decide +kernel
theorem dX11_isFull_81 : decode cX11_isFull 81 = .ok (.iconst 0, 1) := by decide +kernel
theorem dX11_isFull_82 : decode cX11_isFull 82 = .ok (.goto 17, 3) := by decide +kernel
theorem dX11_isFull_85 : decode cX11_isFull 85 = .ok (.aload_n 0, 1) := by decide +kernel
theorem dX11_isFull_86 : decode cX11_isFull 86 = .ok (.getfield 146, 3) := by decide +kernel
theorem dX11_isFull_89 : decode cX11_isFull 89 = .ok (.bipush 20, 2) := by decide +kernel
theorem dX11_isFull_91 : decode cX11_isFull 91 = .ok (.if_icmp .ne 7, 3) := by decide +kernel
theorem dX11_isFull_94 : decode cX11_isFull 94 = .ok (.iconst 1, 1) := by decide +kernel
theorem dX11_isFull_95 : decode cX11_isFull 95 = .ok (.goto 4, 3) := by decide +kernel
theorem dX11_isFull_98 : decode cX11_isFull 98 = .ok (.iconst 0, 1) := by decide +kernel
theorem dX11_isFull_99 : decode cX11_isFull 99 = .ok (.ireturn, 1) := by decide +kernel
set_option maxRecDepth 20000 in
theorem ggX11_takeBody_X11_takeRooms : GoodIn wsX11_takeBody wsX11_takeRooms := goodIn_r _ [5, 6, 7, 8, 9, 10, 11, 4, 12, 13, 14, 15, 16, 17, 18, 19, 20, 21, 22, 23, 24, 25, 26, 27, 28, 29, 30, 64, 65, 66, 67, 68, 69, 70, 71, 72, 73, 74, 75, 76, 77, 78, 79, 80, 81, 82, 83, 84, 85, 86, 87, 88, 89, 90, 91, 92, 93, 94, 95, 96, 97, 98, 99, 100, 101, 102, 103, 104] (by decide +kernel) (by decide +kernel)
set_option maxRecDepth 20000 in
theorem gX11_takeBody_X11_takeRooms : GoodIn wsX11_takeBody (wsV RX11 149 RX11 yX11_takeRooms wsX11_takeRooms) := goodIn_app (goodIn_of _ (by decide +kernel)) ggX11_takeBody_X11_takeRooms
set_option maxRecDepth 20000 in
theorem ggX11_takeBody_X11_takeBench : GoodIn wsX11_takeBody wsX11_takeBench := goodIn_r _ [34, 35, 36, 6, 37, 38, 39, 40, 4, 41, 7, 16, 9, 10, 11, 12, 13, 14, 15, 17, 18, 19, 20, 21, 22, 23, 24, 25, 26, 27, 28, 29, 30, 42, 43, 44, 64, 65, 66, 67, 68, 69, 70, 71, 72, 73, 74, 75, 76, 77, 78, 79, 80, 81, 82, 83, 84, 85, 86, 87, 88, 89, 90, 91, 92, 93, 94, 95, 96, 97, 98, 99, 100, 101, 102, 103, 104] (by decide +kernel) (by decide +kernel)
set_option maxRecDepth 20000 in
theorem gX11_takeBody_X11_takeBench : GoodIn wsX11_takeBody (wsV RX11 152 RX11 yX11_takeBench wsX11_takeBench) := goodIn_app (goodIn_of _ (by decide +kernel)) ggX11_takeBody_X11_takeBench
set_option maxRecDepth 20000 in
theorem ggX11_takeBody_X11_takeWay : GoodIn wsX11_takeBody wsX11_takeWay := goodIn_r _ [48, 49, 36, 6, 50, 38, 39, 40, 4, 41, 7, 16, 9, 10, 11, 12, 13, 14, 15, 17, 18, 19, 20, 21, 22, 23, 24, 25, 26, 27, 28, 29, 30, 42, 43, 44, 64, 65, 66, 67, 68, 69, 70, 71, 72, 73, 74, 75, 76, 77, 78, 79, 80, 81, 82, 83, 84, 85, 86, 87, 88, 89, 90, 91, 92, 93, 94, 95, 96, 97, 98, 99, 100, 101, 102, 103, 104] (by decide +kernel) (by decide +kernel)
set_option maxRecDepth 20000 in
theorem gX11_takeBody_X11_takeWay : GoodIn wsX11_takeBody (wsV RX11 155 RX11 yX11_takeWay wsX11_takeWay) := goodIn_app (goodIn_of _ (by decide +kernel)) ggX11_takeBody_X11_takeWay
set_option maxRecDepth 20000 in
theorem ggX11_takeBody_X11_takePerson : GoodIn wsX11_takeBody wsX11_takePerson := goodIn_r _ [54, 55, 56, 6, 7, 57, 9, 10, 11, 4, 12, 13, 14, 15, 16, 17, 18, 19, 20, 21, 22, 23, 24, 25, 26, 27, 28, 29, 30, 64, 65, 66, 67, 68, 69, 70, 71, 72, 73, 74, 75, 76, 77, 78, 79, 80, 81, 82, 83, 84, 85, 86, 87, 88, 89, 90, 91, 92, 93, 94, 95, 96, 97, 98, 99, 100, 101, 102, 103, 104] (by decide +kernel) (by decide +kernel)
set_option maxRecDepth 20000 in
theorem gX11_takeBody_X11_takePerson : GoodIn wsX11_takeBody (wsV RX11 158 RX11 yX11_takePerson wsX11_takePerson) := goodIn_app (goodIn_of _ (by decide +kernel)) ggX11_takeBody_X11_takePerson
set_option maxRecDepth 20000 in
theorem ggX11_takeBody_X11_takeLiking : GoodIn wsX11_takeBody wsX11_takeLiking := goodIn_r _ [61, 56, 6, 16, 62, 63, 9, 10, 11, 4, 12, 13, 14, 15, 17, 18, 19, 20, 21, 22, 23, 24, 25, 26, 27, 28, 29, 30, 64, 65, 66, 67, 68, 69, 70, 71, 72, 73, 74, 75, 76, 77, 78, 79, 80, 81, 82, 83, 84, 85, 86, 87, 88, 89, 90, 91, 92, 93, 94, 95, 96, 97, 98, 99, 100, 101, 102, 103, 104] (by decide +kernel) (by decide +kernel)
set_option maxRecDepth 20000 in
theorem gX11_takeBody_X11_takeLiking : GoodIn wsX11_takeBody (wsV RX11 161 RX11 yX11_takeLiking wsX11_takeLiking) := goodIn_app (goodIn_of _ (by decide +kernel)) ggX11_takeBody_X11_takeLiking
theorem dX11_takeBody_0 : decode cX11_takeBody 0 = .ok (.iload_n 1, 1) := by decide +kernel
theorem dX11_takeBody_1 : decode cX11_takeBody 1 = .ok (.ifCond .ne 10, 3) := by decide +kernel
theorem dX11_takeBody_4 : decode cX11_takeBody 4 = .ok (.aload_n 0, 1) := by decide +kernel
theorem dX11_takeBody_5 : decode cX11_takeBody 5 = .ok (.invokevirtual 149, 3) := by decide +kernel
theorem dX11_takeBody_8 : decode cX11_takeBody 8 = .ok (.goto 43, 3) := by decide +kernel
theorem dX11_takeBody_11 : decode cX11_takeBody 11 = .ok (.iload_n 1, 1) := by decide +kernel
theorem dX11_takeBody_12 : decode cX11_takeBody 12 = .ok (.iconst 1, 1) := by decide +kernel
theorem dX11_takeBody_13 : decode cX11_takeBody 13 = .ok (.if_icmp .ne 10, 3) := by decide +kernel
theorem dX11_takeBody_16 : decode cX11_takeBody 16 = .ok (.aload_n 0, 1) := by decide +kernel
theorem dX11_takeBody_17 : decode cX11_takeBody 17 = .ok (.invokevirtual 152, 3) := by decide +kernel
theorem dX11_takeBody_20 : decode cX11_takeBody 20 = .ok (.goto 31, 3) := by decide +kernel
theorem dX11_takeBody_23 : decode cX11_takeBody 23 = .ok (.iload_n 1, 1) := by decide +kernel
theorem dX11_takeBody_24 : decode cX11_takeBody 24 = .ok (.iconst 2, 1) := by decide +kernel
theorem dX11_takeBody_25 : decode cX11_takeBody 25 = .ok (.if_icmp .ne 10, 3) := by decide +kernel
theorem dX11_takeBody_28 : decode cX11_takeBody 28 = .ok (.aload_n 0, 1) := by decide +kernel
theorem dX11_takeBody_29 : decode cX11_takeBody 29 = .ok (.invokevirtual 155, 3) := by decide +kernel
theorem dX11_takeBody_32 : decode cX11_takeBody 32 = .ok (.goto 19, 3) := by decide +kernel
theorem dX11_takeBody_35 : decode cX11_takeBody 35 = .ok (.iload_n 1, 1) := by decide +kernel
theorem dX11_takeBody_36 : decode cX11_takeBody 36 = .ok (.iconst 3, 1) := by decide +kernel
theorem dX11_takeBody_37 : decode cX11_takeBody 37 = .ok (.if_icmp .ne 10, 3) := by decide +kernel
theorem dX11_takeBody_40 : decode cX11_takeBody 40 = .ok (.aload_n 0, 1) := by decide +kernel
theorem dX11_takeBody_41 : decode cX11_takeBody 41 = .ok (.invokevirtual 158, 3) := by decide +kernel
theorem dX11_takeBody_44 : decode cX11_takeBody 44 = .ok (.goto 7, 3) := by decide +kernel
theorem dX11_takeBody_47 : decode cX11_takeBody 47 = .ok (.aload_n 0, 1) := by decide +kernel
theorem dX11_takeBody_48 : decode cX11_takeBody 48 = .ok (.invokevirtual 161, 3) := by decide +kernel
theorem dX11_takeBody_51 : decode cX11_takeBody 51 = .ok (.ireturn, 1) := by decide +kernel
set_option maxRecDepth 20000 in
theorem ggX11_takeClause_X11_here : GoodIn wsX11_takeClause wsX11_here := goodIn_r _ [7, 2, 8, 9, 72, 73, 74, 75, 76, 77, 78, 79, 80, 81, 82, 83, 84, 85, 86, 87, 88, 89, 90, 91, 92, 93, 94, 95, 96, 97, 98, 99, 100, 101, 102, 103, 104, 105, 106, 107, 108, 109, 110, 111, 112] (by decide +kernel) (by decide +kernel)
set_option maxRecDepth 20000 in
theorem gX11_takeClause_X11_here : GoodIn wsX11_takeClause (wsV RX11 99 RX11 yX11_here wsX11_here) := goodIn_app (goodIn_of _ (by decide +kernel)) ggX11_takeClause_X11_here
set_option maxRecDepth 20000 in
theorem ggX11_takeClause_X11_fails : GoodIn wsX11_takeClause wsX11_fails := goodIn_r _ [13, 14, 72, 73, 74, 75, 76, 77, 78, 79, 80, 81, 82, 83, 84, 85, 86, 87, 88, 89, 90, 91, 92, 93, 94, 95, 96, 97, 98, 99, 100, 101, 102, 103, 104, 105, 106, 107, 108, 109, 110, 111, 112] (by decide +kernel) (by decide +kernel)
set_option maxRecDepth 20000 in
theorem gX11_takeClause_X11_fails : GoodIn wsX11_takeClause (wsV RX11 107 RX11 yX11_fails wsX11_fails) := goodIn_app (goodIn_of _ (by decide +kernel)) ggX11_takeClause_X11_fails
set_option maxRecDepth 20000 in
theorem ggX11_takeClause_X11_isFull : GoodIn wsX11_takeClause wsX11_isFull := goodIn_r _ [18, 1, 19, 20, 21, 22, 72, 73, 74, 75, 76, 77, 78, 79, 80, 81, 82, 83, 84, 85, 86, 87, 88, 89, 90, 91, 92, 93, 94, 95, 96, 97, 98, 99, 100, 101, 102, 103, 104, 105, 106, 107, 108, 109, 110, 111, 112] (by decide +kernel) (by decide +kernel)
set_option maxRecDepth 20000 in
theorem gX11_takeClause_X11_isFull : GoodIn wsX11_takeClause (wsV RX11 164 RX11 yX11_isFull wsX11_isFull) := goodIn_app (goodIn_of _ (by decide +kernel)) ggX11_takeClause_X11_isFull
set_option maxRecDepth 20000 in
theorem ggX11_takeClause_X11_takeBody : GoodIn wsX11_takeClause wsX11_takeBody := goodIn_r _ [26, 27, 28, 29, 6, 30, 31, 1, 32, 33, 34, 35, 36, 37, 38, 2, 39, 8, 9, 3, 4, 5, 7, 40, 41, 42, 10, 11, 12, 13, 14, 43, 44, 45, 46, 47, 48, 19, 49, 50, 51, 52, 53, 54, 55, 56, 57, 58, 59, 60, 20, 61, 62, 63, 64, 65, 21, 66, 67, 68, 69, 70, 71, 22, 72, 73, 74, 75, 76, 77, 78, 79, 80, 81, 82, 83, 84, 85, 86, 87, 88, 89, 90, 91, 92, 93, 94, 95, 96, 97, 98, 99, 100, 101, 102, 103, 104, 105, 106, 107, 108, 109, 110, 111, 112] (by decide +kernel) (by decide +kernel)
set_option maxRecDepth 20000 in
theorem gX11_takeClause_X11_takeBody : GoodIn wsX11_takeClause (wsV RX11 167 RX11 yX11_takeBody wsX11_takeBody) := goodIn_app (goodIn_of _ (by decide +kernel)) ggX11_takeClause_X11_takeBody
theorem dX11_takeClause_0 : decode cX11_takeClause 0 = .ok (.aload_n 0, 1) := by decide +kernel
theorem dX11_takeClause_1 : decode cX11_takeClause 1 = .ok (.invokevirtual 99, 3) := by decide +kernel
theorem dX11_takeClause_4 : decode cX11_takeClause 4 = .ok (.istore_n 1, 1) := by decide +kernel
theorem dX11_takeClause_5 : decode cX11_takeClause 5 = .ok (.iload_n 1, 1) := by decide +kernel
theorem dX11_takeClause_6 : decode cX11_takeClause 6 = .ok (.bipush 114, 2) := by decide +kernel
theorem dX11_takeClause_8 : decode cX11_takeClause 8 = .ok (.if_icmp .ne 7, 3) := by decide +kernel
theorem dX11_takeClause_11 : decode cX11_takeClause 11 = .ok (.iconst 0, 1) := by decide +kernel
theorem dX11_takeClause_12 : decode cX11_takeClause 12 = .ok (.goto 44, 3) := by decide +kernel
theorem dX11_takeClause_15 : decode cX11_takeClause 15 = .ok (.iload_n 1, 1) := by decide +kernel
theorem dX11_takeClause_16 : decode cX11_takeClause 16 = .ok (.bipush 98, 2) := by decide +kernel
theorem dX11_takeClause_18 : decode cX11_takeClause 18 = .ok (.if_icmp .ne 7, 3) := by decide +kernel
theorem dX11_takeClause_21 : decode cX11_takeClause 21 = .ok (.iconst 1, 1) := by decide +kernel
theorem dX11_takeClause_22 : decode cX11_takeClause 22 = .ok (.goto 34, 3) := by decide +kernel
theorem dX11_takeClause_25 : decode cX11_takeClause 25 = .ok (.iload_n 1, 1) := by decide +kernel
theorem dX11_takeClause_26 : decode cX11_takeClause 26 = .ok (.bipush 103, 2) := by decide +kernel
theorem dX11_takeClause_28 : decode cX11_takeClause 28 = .ok (.if_icmp .ne 7, 3) := by decide +kernel
theorem dX11_takeClause_31 : decode cX11_takeClause 31 = .ok (.iconst 2, 1) := by decide +kernel
theorem dX11_takeClause_32 : decode cX11_takeClause 32 = .ok (.goto 24, 3) := by decide +kernel
theorem dX11_takeClause_35 : decode cX11_takeClause 35 = .ok (.iload_n 1, 1) := by decide +kernel
theorem dX11_takeClause_36 : decode cX11_takeClause 36 = .ok (.bipush 112, 2) := by decide +kernel
theorem dX11_takeClause_38 : decode cX11_takeClause 38 = .ok (.if_icmp .ne 7, 3) := by decide +kernel
theorem dX11_takeClause_41 : decode cX11_takeClause 41 = .ok (.iconst 3, 1) := by decide +kernel
theorem dX11_takeClause_42 : decode cX11_takeClause 42 = .ok (.goto 14, 3) := by decide +kernel
theorem dX11_takeClause_45 : decode cX11_takeClause 45 = .ok (.iload_n 1, 1) := by decide +kernel
theorem dX11_takeClause_46 : decode cX11_takeClause 46 = .ok (.bipush 108, 2) := by decide +kernel
theorem dX11_takeClause_48 : decode cX11_takeClause 48 = .ok (.if_icmp .ne 7, 3) := by decide +kernel
theorem dX11_takeClause_51 : decode cX11_takeClause 51 = .ok (.iconst 4, 1) := by decide +kernel
theorem dX11_takeClause_52 : decode cX11_takeClause 52 = .ok (.goto 4, 3) := by decide +kernel
theorem dX11_takeClause_55 : decode cX11_takeClause 55 = .ok (.iconst (-1), 1) := by decide +kernel
theorem dX11_takeClause_56 : decode cX11_takeClause 56 = .ok (.istore_n 2, 1) := by decide +kernel
theorem dX11_takeClause_57 : decode cX11_takeClause 57 = .ok (.iload_n 2, 1) := by decide +kernel
theorem dX11_takeClause_58 : decode cX11_takeClause 58 = .ok (.ifCond .lt 14, 3) := by decide +kernel
theorem dX11_takeClause_61 : decode cX11_takeClause 61 = .ok (.iload_n 2, 1) := by decide +kernel
theorem dX11_takeClause_62 : decode cX11_takeClause 62 = .ok (.ifCond .le 20, 3) := by decide +kernel
theorem dX11_takeClause_65 : decode cX11_takeClause 65 = .ok (.aload_n 0, 1) := by decide +kernel
theorem dX11_takeClause_66 : decode cX11_takeClause 66 = .ok (.getfield 120, 3) := by decide +kernel
theorem dX11_takeClause_69 : decode cX11_takeClause 69 = .ok (.ifCond .ne 13, 3) := by decide +kernel
theorem dX11_takeClause_72 : decode cX11_takeClause 72 = .ok (.aload_n 0, 1) := by decide +kernel
theorem dX11_takeClause_73 : decode cX11_takeClause 73 = .ok (.iconst 1, 1) := by decide +kernel
theorem dX11_takeClause_74 : decode cX11_takeClause 74 = .ok (.aload_n 0, 1) := by decide +kernel
theorem dX11_takeClause_75 : decode cX11_takeClause 75 = .ok (.getfield 96, 3) := by decide +kernel
theorem dX11_takeClause_78 : decode cX11_takeClause 78 = .ok (.invokevirtual 107, 3) := by decide +kernel
theorem dX11_takeClause_81 : decode cX11_takeClause 81 = .ok (.ireturn, 1) := by decide +kernel
theorem dX11_takeClause_82 : decode cX11_takeClause 82 = .ok (.aload_n 0, 1) := by decide +kernel
theorem dX11_takeClause_83 : decode cX11_takeClause 83 = .ok (.iload_n 2, 1) := by decide +kernel
theorem dX11_takeClause_84 : decode cX11_takeClause 84 = .ok (.invokevirtual 164, 3) := by decide +kernel
theorem dX11_takeClause_87 : decode cX11_takeClause 87 = .ok (.ifCond .eq 13, 3) := by decide +kernel
theorem dX11_takeClause_90 : decode cX11_takeClause 90 = .ok (.aload_n 0, 1) := by decide +kernel
theorem dX11_takeClause_91 : decode cX11_takeClause 91 = .ok (.iconst 3, 1) := by decide +kernel
theorem dX11_takeClause_92 : decode cX11_takeClause 92 = .ok (.aload_n 0, 1) := by decide +kernel
theorem dX11_takeClause_93 : decode cX11_takeClause 93 = .ok (.getfield 96, 3) := by decide +kernel
theorem dX11_takeClause_96 : decode cX11_takeClause 96 = .ok (.invokevirtual 107, 3) := by decide +kernel
theorem dX11_takeClause_99 : decode cX11_takeClause 99 = .ok (.ireturn, 1) := by decide +kernel
theorem dX11_takeClause_100 : decode cX11_takeClause 100 = .ok (.aload_n 0, 1) := by decide +kernel
theorem dX11_takeClause_101 : decode cX11_takeClause 101 = .ok (.dup, 1) := by decide +kernel
theorem dX11_takeClause_102 : decode cX11_takeClause 102 = .ok (.getfield 96, 3) := by decide +kernel
theorem dX11_takeClause_105 : decode cX11_takeClause 105 = .ok (.iconst 1, 1) := by decide +kernel
theorem dX11_takeClause_106 : decode cX11_takeClause 106 = .ok (.iadd, 1) := by decide +kernel
theorem dX11_takeClause_107 : decode cX11_takeClause 107 = .ok (.putfield 96, 3) := by decide +kernel
theorem dX11_takeClause_110 : decode cX11_takeClause 110 = .ok (.aload_n 0, 1) := by decide +kernel
theorem dX11_takeClause_111 : decode cX11_takeClause 111 = .ok (.iload_n 2, 1) := by decide +kernel
theorem dX11_takeClause_112 : decode cX11_takeClause 112 = .ok (.invokevirtual 167, 3) := by decide +kernel
theorem dX11_takeClause_115 : decode cX11_takeClause 115 = .ok (.istore_n 3, 1) := by decide +kernel
theorem dX11_takeClause_116 : decode cX11_takeClause 116 = .ok (.iload_n 3, 1) := by decide +kernel
theorem dX11_takeClause_117 : decode cX11_takeClause 117 = .ok (.ifCond .le 5, 3) := by decide +kernel
theorem dX11_takeClause_120 : decode cX11_takeClause 120 = .ok (.iload_n 3, 1) := by decide +kernel
theorem dX11_takeClause_121 : decode cX11_takeClause 121 = .ok (.ireturn, 1) := by decide +kernel
theorem dX11_takeClause_122 : decode cX11_takeClause 122 = .ok (.aload_n 0, 1) := by decide +kernel
theorem dX11_takeClause_123 : decode cX11_takeClause 123 = .ok (.invokevirtual 99, 3) := by decide +kernel
theorem dX11_takeClause_126 : decode cX11_takeClause 126 = .ok (.bipush 59, 2) := by decide +kernel
theorem dX11_takeClause_128 : decode cX11_takeClause 128 = .ok (.if_icmp .eq 13, 3) := by decide +kernel
theorem dX11_takeClause_131 : decode cX11_takeClause 131 = .ok (.aload_n 0, 1) := by decide +kernel
theorem dX11_takeClause_132 : decode cX11_takeClause 132 = .ok (.iconst 1, 1) := by decide +kernel
theorem dX11_takeClause_133 : decode cX11_takeClause 133 = .ok (.aload_n 0, 1) := by decide +kernel
theorem dX11_takeClause_134 : decode cX11_takeClause 134 = .ok (.getfield 96, 3) := by decide +kernel
theorem dX11_takeClause_137 : decode cX11_takeClause 137 = .ok (.invokevirtual 107, 3) := by decide +kernel
theorem dX11_takeClause_140 : decode cX11_takeClause 140 = .ok (.ireturn, 1) := by decide +kernel
theorem dX11_takeClause_141 : decode cX11_takeClause 141 = .ok (.aload_n 0, 1) := by decide +kernel
theorem dX11_takeClause_142 : decode cX11_takeClause 142 = .ok (.dup, 1) := by decide +kernel
theorem dX11_takeClause_143 : decode cX11_takeClause 143 = .ok (.getfield 96, 3) := by decide +kernel
theorem dX11_takeClause_146 : decode cX11_takeClause 146 = .ok (.iconst 1, 1) := by decide +kernel
theorem dX11_takeClause_147 : decode cX11_takeClause 147 = .ok (.iadd, 1) := by decide +kernel
theorem dX11_takeClause_148 : decode cX11_takeClause 148 = .ok (.putfield 96, 3) := by decide +kernel
theorem dX11_takeClause_151 : decode cX11_takeClause 151 = .ok (.iconst 0, 1) := by decide +kernel
theorem dX11_takeClause_152 : decode cX11_takeClause 152 = .ok (.ireturn, 1) := by decide +kernel
theorem dX11_takeRead_0 : decode cX11_takeRead 0 = .ok (.aload_n 0, 1) := by decide +kernel
theorem dX11_takeRead_1 : decode cX11_takeRead 1 = .ok (.aload_n 0, 1) := by decide +kernel
theorem dX11_takeRead_2 : decode cX11_takeRead 2 = .ok (.getfield 120, 3) := by decide +kernel
theorem dX11_takeRead_5 : decode cX11_takeRead 5 = .ok (.putfield 75, 3) := by decide +kernel
theorem dX11_takeRead_8 : decode cX11_takeRead 8 = .ok (.aload_n 0, 1) := by decide +kernel
theorem dX11_takeRead_9 : decode cX11_takeRead 9 = .ok (.aload_n 0, 1) := by decide +kernel
theorem dX11_takeRead_10 : decode cX11_takeRead 10 = .ok (.getfield 123, 3) := by decide +kernel
theorem dX11_takeRead_13 : decode cX11_takeRead 13 = .ok (.putfield 171, 3) := by decide +kernel
theorem dX11_takeRead_16 : decode cX11_takeRead 16 = .ok (.aload_n 0, 1) := by decide +kernel
theorem dX11_takeRead_17 : decode cX11_takeRead 17 = .ok (.aload_n 0, 1) := by decide +kernel
theorem dX11_takeRead_18 : decode cX11_takeRead 18 = .ok (.getfield 137, 3) := by decide +kernel
theorem dX11_takeRead_21 : decode cX11_takeRead 21 = .ok (.putfield 174, 3) := by decide +kernel
theorem dX11_takeRead_24 : decode cX11_takeRead 24 = .ok (.aload_n 0, 1) := by decide +kernel
theorem dX11_takeRead_25 : decode cX11_takeRead 25 = .ok (.aload_n 0, 1) := by decide +kernel
theorem dX11_takeRead_26 : decode cX11_takeRead 26 = .ok (.getfield 140, 3) := by decide +kernel
theorem dX11_takeRead_29 : decode cX11_takeRead 29 = .ok (.putfield 177, 3) := by decide +kernel
theorem dX11_takeRead_32 : decode cX11_takeRead 32 = .ok (.aload_n 0, 1) := by decide +kernel
theorem dX11_takeRead_33 : decode cX11_takeRead 33 = .ok (.aload_n 0, 1) := by decide +kernel
theorem dX11_takeRead_34 : decode cX11_takeRead 34 = .ok (.getfield 143, 3) := by decide +kernel
theorem dX11_takeRead_37 : decode cX11_takeRead 37 = .ok (.putfield 82, 3) := by decide +kernel
theorem dX11_takeRead_40 : decode cX11_takeRead 40 = .ok (.iconst 0, 1) := by decide +kernel
theorem dX11_takeRead_41 : decode cX11_takeRead 41 = .ok (.istore_n 1, 1) := by decide +kernel
theorem dX11_takeRead_42 : decode cX11_takeRead 42 = .ok (.iload_n 1, 1) := by decide +kernel
theorem dX11_takeRead_43 : decode cX11_takeRead 43 = .ok (.bipush 6, 2) := by decide +kernel
theorem dX11_takeRead_45 : decode cX11_takeRead 45 = .ok (.if_icmp .ge 33, 3) := by decide +kernel
theorem dX11_takeRead_48 : decode cX11_takeRead 48 = .ok (.aload_n 0, 1) := by decide +kernel
theorem dX11_takeRead_49 : decode cX11_takeRead 49 = .ok (.getfield 7, 3) := by decide +kernel
theorem dX11_takeRead_52 : decode cX11_takeRead 52 = .ok (.iload_n 1, 1) := by decide +kernel
theorem dX11_takeRead_53 : decode cX11_takeRead 53 = .ok (.aload_n 0, 1) := by decide +kernel
theorem dX11_takeRead_54 : decode cX11_takeRead 54 = .ok (.getfield 47, 3) := by decide +kernel
theorem dX11_takeRead_57 : decode cX11_takeRead 57 = .ok (.iload_n 1, 1) := by decide +kernel
theorem dX11_takeRead_58 : decode cX11_takeRead 58 = .ok (.iaload, 1) := by decide +kernel
theorem dX11_takeRead_59 : decode cX11_takeRead 59 = .ok (.iastore, 1) := by decide +kernel
theorem dX11_takeRead_60 : decode cX11_takeRead 60 = .ok (.aload_n 0, 1) := by decide +kernel
theorem dX11_takeRead_61 : decode cX11_takeRead 61 = .ok (.getfield 13, 3) := by decide +kernel
theorem dX11_takeRead_64 : decode cX11_takeRead 64 = .ok (.iload_n 1, 1) := by decide +kernel
theorem dX11_takeRead_65 : decode cX11_takeRead 65 = .ok (.aload_n 0, 1) := by decide +kernel
theorem dX11_takeRead_66 : decode cX11_takeRead 66 = .ok (.getfield 50, 3) := by decide +kernel
theorem dX11_takeRead_69 : decode cX11_takeRead 69 = .ok (.iload_n 1, 1) := by decide +kernel
theorem dX11_takeRead_70 : decode cX11_takeRead 70 = .ok (.iaload, 1) := by decide +kernel
theorem dX11_takeRead_71 : decode cX11_takeRead 71 = .ok (.iastore, 1) := by decide +kernel
theorem dX11_takeRead_72 : decode cX11_takeRead 72 = .ok (.iinc 1 1, 3) := by decide +kernel
theorem dX11_takeRead_75 : decode cX11_takeRead 75 = .ok (.goto (-33), 3) := by decide +kernel
theorem dX11_takeRead_78 : decode cX11_takeRead 78 = .ok (.iconst 0, 1) := by decide +kernel
theorem dX11_takeRead_79 : decode cX11_takeRead 79 = .ok (.istore_n 1, 1) := by decide +kernel
theorem dX11_takeRead_80 : decode cX11_takeRead 80 = .ok (.iload_n 1, 1) := by decide +kernel
theorem dX11_takeRead_81 : decode cX11_takeRead 81 = .ok (.bipush 72, 2) := by decide +kernel
theorem dX11_takeRead_83 : decode cX11_takeRead 83 = .ok (.if_icmp .ge 16, 3) := by decide +kernel
theorem dX11_takeRead_86 : decode cX11_takeRead 86 = .ok (.aload_n 0, 1) := by decide +kernel
theorem dX11_takeRead_87 : decode cX11_takeRead 87 = .ok (.getfield 19, 3) := by decide +kernel
theorem dX11_takeRead_90 : decode cX11_takeRead 90 = .ok (.iload_n 1, 1) := by decide +kernel
theorem dX11_takeRead_91 : decode cX11_takeRead 91 = .ok (.iconst 0, 1) := by decide +kernel
theorem dX11_takeRead_92 : decode cX11_takeRead 92 = .ok (.iastore, 1) := by decide +kernel
theorem dX11_takeRead_93 : decode cX11_takeRead 93 = .ok (.iinc 1 1, 3) := by decide +kernel
theorem dX11_takeRead_96 : decode cX11_takeRead 96 = .ok (.goto (-16), 3) := by decide +kernel
theorem dX11_takeRead_99 : decode cX11_takeRead 99 = .ok (.iconst 0, 1) := by decide +kernel
theorem dX11_takeRead_100 : decode cX11_takeRead 100 = .ok (.istore_n 1, 1) := by decide +kernel
theorem dX11_takeRead_101 : decode cX11_takeRead 101 = .ok (.iload_n 1, 1) := by decide +kernel
theorem dX11_takeRead_102 : decode cX11_takeRead 102 = .ok (.bipush 7, 2) := by decide +kernel
theorem dX11_takeRead_104 : decode cX11_takeRead 104 = .ok (.if_icmp .ge 47, 3) := by decide +kernel
theorem dX11_takeRead_107 : decode cX11_takeRead 107 = .ok (.aload_n 0, 1) := by decide +kernel
theorem dX11_takeRead_108 : decode cX11_takeRead 108 = .ok (.getfield 16, 3) := by decide +kernel
theorem dX11_takeRead_111 : decode cX11_takeRead 111 = .ok (.iload_n 1, 1) := by decide +kernel
theorem dX11_takeRead_112 : decode cX11_takeRead 112 = .ok (.aload_n 0, 1) := by decide +kernel
theorem dX11_takeRead_113 : decode cX11_takeRead 113 = .ok (.getfield 53, 3) := by decide +kernel
theorem dX11_takeRead_116 : decode cX11_takeRead 116 = .ok (.iload_n 1, 1) := by decide +kernel
theorem dX11_takeRead_117 : decode cX11_takeRead 117 = .ok (.iaload, 1) := by decide +kernel
theorem dX11_takeRead_118 : decode cX11_takeRead 118 = .ok (.iastore, 1) := by decide +kernel
theorem dX11_takeRead_119 : decode cX11_takeRead 119 = .ok (.aload_n 0, 1) := by decide +kernel
theorem dX11_takeRead_120 : decode cX11_takeRead 120 = .ok (.getfield 19, 3) := by decide +kernel
theorem dX11_takeRead_123 : decode cX11_takeRead 123 = .ok (.iconst 2, 1) := by decide +kernel
theorem dX11_takeRead_124 : decode cX11_takeRead 124 = .ok (.iload_n 1, 1) := by decide +kernel
theorem dX11_takeRead_125 : decode cX11_takeRead 125 = .ok (.iadd, 1) := by decide +kernel
theorem dX11_takeRead_126 : decode cX11_takeRead 126 = .ok (.iload_n 1, 1) := by decide +kernel
theorem dX11_takeRead_127 : decode cX11_takeRead 127 = .ok (.aload_n 0, 1) := by decide +kernel
theorem dX11_takeRead_128 : decode cX11_takeRead 128 = .ok (.getfield 82, 3) := by decide +kernel
theorem dX11_takeRead_131 : decode cX11_takeRead 131 = .ok (.if_icmp .ge 12, 3) := by decide +kernel
theorem dX11_takeRead_134 : decode cX11_takeRead 134 = .ok (.aload_n 0, 1) := by decide +kernel
theorem dX11_takeRead_135 : decode cX11_takeRead 135 = .ok (.getfield 56, 3) := by decide +kernel
theorem dX11_takeRead_138 : decode cX11_takeRead 138 = .ok (.iload_n 1, 1) := by decide +kernel
theorem dX11_takeRead_139 : decode cX11_takeRead 139 = .ok (.iaload, 1) := by decide +kernel
theorem dX11_takeRead_140 : decode cX11_takeRead 140 = .ok (.goto 4, 3) := by decide +kernel
theorem dX11_takeRead_143 : decode cX11_takeRead 143 = .ok (.iconst 0, 1) := by decide +kernel
theorem dX11_takeRead_144 : decode cX11_takeRead 144 = .ok (.iastore, 1) := by decide +kernel
theorem dX11_takeRead_145 : decode cX11_takeRead 145 = .ok (.iinc 1 1, 3) := by decide +kernel
theorem dX11_takeRead_148 : decode cX11_takeRead 148 = .ok (.goto (-47), 3) := by decide +kernel
theorem dX11_takeRead_151 : decode cX11_takeRead 151 = .ok (.iconst 0, 1) := by decide +kernel
theorem dX11_takeRead_152 : decode cX11_takeRead 152 = .ok (.istore_n 1, 1) := by decide +kernel
theorem dX11_takeRead_153 : decode cX11_takeRead 153 = .ok (.iload_n 1, 1) := by decide +kernel
theorem dX11_takeRead_154 : decode cX11_takeRead 154 = .ok (.bipush 49, 2) := by decide +kernel
theorem dX11_takeRead_156 : decode cX11_takeRead 156 = .ok (.if_icmp .ge 24, 3) := by decide +kernel
theorem dX11_takeRead_159 : decode cX11_takeRead 159 = .ok (.aload_n 0, 1) := by decide +kernel
theorem dX11_takeRead_160 : decode cX11_takeRead 160 = .ok (.getfield 19, 3) := by decide +kernel
theorem dX11_takeRead_163 : decode cX11_takeRead 163 = .ok (.bipush 23, 2) := by decide +kernel
theorem dX11_takeRead_165 : decode cX11_takeRead 165 = .ok (.iload_n 1, 1) := by decide +kernel
theorem dX11_takeRead_166 : decode cX11_takeRead 166 = .ok (.iadd, 1) := by decide +kernel
theorem dX11_takeRead_167 : decode cX11_takeRead 167 = .ok (.aload_n 0, 1) := by decide +kernel
theorem dX11_takeRead_168 : decode cX11_takeRead 168 = .ok (.getfield 59, 3) := by decide +kernel
theorem dX11_takeRead_171 : decode cX11_takeRead 171 = .ok (.iload_n 1, 1) := by decide +kernel
theorem dX11_takeRead_172 : decode cX11_takeRead 172 = .ok (.iaload, 1) := by decide +kernel
theorem dX11_takeRead_173 : decode cX11_takeRead 173 = .ok (.iastore, 1) := by decide +kernel
theorem dX11_takeRead_174 : decode cX11_takeRead 174 = .ok (.iinc 1 1, 3) := by decide +kernel
theorem dX11_takeRead_177 : decode cX11_takeRead 177 = .ok (.goto (-24), 3) := by decide +kernel
theorem dX11_takeRead_180 : decode cX11_takeRead 180 = .ok (.return_, 1) := by decide +kernel
set_option maxRecDepth 20000 in
theorem ggX11_hill_X11_here : GoodIn wsX11_hill wsX11_here := goodIn_r _ [22, 2, 12, 23, 93, 94, 95, 96, 97, 98, 99, 100, 101, 102, 103, 104, 105, 106, 107, 108, 109, 110, 111, 112, 113, 114, 115, 116, 117, 118, 119, 120, 121, 122, 123, 124, 125, 126, 127, 128, 129, 130, 131, 132, 133] (by decide +kernel) (by decide +kernel)
set_option maxRecDepth 20000 in
theorem gX11_hill_X11_here : GoodIn wsX11_hill (wsV RX11 99 RX11 yX11_here wsX11_here) := goodIn_app (goodIn_of _ (by decide +kernel)) ggX11_hill_X11_here
set_option maxRecDepth 20000 in
theorem ggX11_hill_X11_takeClause : GoodIn wsX11_hill wsX11_takeClause := goodIn_r _ [27, 3, 2, 18, 19, 20, 21, 22, 12, 23, 28, 29, 30, 31, 1, 32, 33, 34, 35, 5, 6, 7, 8, 36, 37, 38, 39, 40, 41, 42, 43, 44, 4, 45, 46, 47, 48, 49, 50, 51, 52, 53, 54, 55, 56, 57, 58, 9, 59, 60, 61, 62, 63, 64, 65, 66, 67, 68, 69, 70, 10, 71, 72, 73, 74, 75, 76, 77, 78, 79, 80, 11, 93, 94, 95, 96, 97, 98, 99, 100, 101, 102, 103, 104, 105, 106, 107, 108, 109, 110, 111, 112, 113, 114, 115, 116, 117, 118, 119, 120, 121, 122, 123, 124, 125, 126, 127, 128, 129, 130, 131, 132, 133] (by decide +kernel) (by decide +kernel)
set_option maxRecDepth 20000 in
theorem gX11_hill_X11_takeClause : GoodIn wsX11_hill (wsV RX11 180 RX11 yX11_takeClause wsX11_takeClause) := goodIn_app (goodIn_of _ (by decide +kernel)) ggX11_hill_X11_takeClause
set_option maxRecDepth 20000 in
theorem ggX11_hill_X11_takeRead : GoodIn wsX11_hill wsX11_takeRead := goodIn_r _ [84, 3, 85, 4, 86, 5, 87, 6, 88, 7, 17, 89, 9, 90, 10, 91, 92, 75, 76, 11, 93, 94, 95, 96, 97, 98, 99, 100, 101, 102, 103, 104, 105, 106, 107, 108, 109, 110, 111, 112, 113, 114, 115, 116, 117, 118, 119, 120, 121, 122, 123, 124, 125, 126, 127, 128, 129, 130, 131, 132, 133] (by decide +kernel) (by decide +kernel)
set_option maxRecDepth 20000 in
theorem gX11_hill_X11_takeRead : GoodIn wsX11_hill (wsV RX11 183 RX11 yX11_takeRead wsX11_takeRead) := goodIn_app (goodIn_of _ (by decide +kernel)) ggX11_hill_X11_takeRead
theorem dX11_hill_0 : decode cX11_hill 0 = .ok (.aload_n 0, 1) := by decide +kernel
theorem dX11_hill_1 : decode cX11_hill 1 = .ok (.iconst (-1), 1) := by decide +kernel
theorem dX11_hill_2 : decode cX11_hill 2 = .ok (.putfield 43, 3) := by decide +kernel
theorem dX11_hill_5 : decode cX11_hill 5 = .ok (.aload_n 0, 1) := by decide +kernel
theorem dX11_hill_6 : decode cX11_hill 6 = .ok (.iconst 0, 1) := by decide +kernel
theorem dX11_hill_7 : decode cX11_hill 7 = .ok (.putfield 96, 3) := by decide +kernel
theorem dX11_hill_10 : decode cX11_hill 10 = .ok (.aload_n 0, 1) := by decide +kernel
theorem dX11_hill_11 : decode cX11_hill 11 = .ok (.iconst 0, 1) := by decide +kernel
theorem dX11_hill_12 : decode cX11_hill 12 = .ok (.putfield 120, 3) := by decide +kernel
theorem dX11_hill_15 : decode cX11_hill 15 = .ok (.aload_n 0, 1) := by decide +kernel
theorem dX11_hill_16 : decode cX11_hill 16 = .ok (.iconst 0, 1) := by decide +kernel
theorem dX11_hill_17 : decode cX11_hill 17 = .ok (.putfield 123, 3) := by decide +kernel
theorem dX11_hill_20 : decode cX11_hill 20 = .ok (.aload_n 0, 1) := by decide +kernel
theorem dX11_hill_21 : decode cX11_hill 21 = .ok (.iconst 0, 1) := by decide +kernel
theorem dX11_hill_22 : decode cX11_hill 22 = .ok (.putfield 137, 3) := by decide +kernel
theorem dX11_hill_25 : decode cX11_hill 25 = .ok (.aload_n 0, 1) := by decide +kernel
theorem dX11_hill_26 : decode cX11_hill 26 = .ok (.iconst 0, 1) := by decide +kernel
theorem dX11_hill_27 : decode cX11_hill 27 = .ok (.putfield 140, 3) := by decide +kernel
theorem dX11_hill_30 : decode cX11_hill 30 = .ok (.aload_n 0, 1) := by decide +kernel
theorem dX11_hill_31 : decode cX11_hill 31 = .ok (.iconst 0, 1) := by decide +kernel
theorem dX11_hill_32 : decode cX11_hill 32 = .ok (.putfield 143, 3) := by decide +kernel
theorem dX11_hill_35 : decode cX11_hill 35 = .ok (.aload_n 0, 1) := by decide +kernel
theorem dX11_hill_36 : decode cX11_hill 36 = .ok (.iconst 0, 1) := by decide +kernel
theorem dX11_hill_37 : decode cX11_hill 37 = .ok (.putfield 146, 3) := by decide +kernel
theorem dX11_hill_40 : decode cX11_hill 40 = .ok (.iconst 0, 1) := by decide +kernel
theorem dX11_hill_41 : decode cX11_hill 41 = .ok (.istore_n 1, 1) := by decide +kernel
theorem dX11_hill_42 : decode cX11_hill 42 = .ok (.iload_n 1, 1) := by decide +kernel
theorem dX11_hill_43 : decode cX11_hill 43 = .ok (.bipush 6, 2) := by decide +kernel
theorem dX11_hill_45 : decode cX11_hill 45 = .ok (.if_icmp .ge 23, 3) := by decide +kernel
theorem dX11_hill_48 : decode cX11_hill 48 = .ok (.aload_n 0, 1) := by decide +kernel
theorem dX11_hill_49 : decode cX11_hill 49 = .ok (.getfield 47, 3) := by decide +kernel
theorem dX11_hill_52 : decode cX11_hill 52 = .ok (.iload_n 1, 1) := by decide +kernel
theorem dX11_hill_53 : decode cX11_hill 53 = .ok (.iconst 0, 1) := by decide +kernel
theorem dX11_hill_54 : decode cX11_hill 54 = .ok (.iastore, 1) := by decide +kernel
theorem dX11_hill_55 : decode cX11_hill 55 = .ok (.aload_n 0, 1) := by decide +kernel
theorem dX11_hill_56 : decode cX11_hill 56 = .ok (.getfield 50, 3) := by decide +kernel
theorem dX11_hill_59 : decode cX11_hill 59 = .ok (.iload_n 1, 1) := by decide +kernel
theorem dX11_hill_60 : decode cX11_hill 60 = .ok (.iconst 0, 1) := by decide +kernel
theorem dX11_hill_61 : decode cX11_hill 61 = .ok (.iastore, 1) := by decide +kernel
theorem dX11_hill_62 : decode cX11_hill 62 = .ok (.iinc 1 1, 3) := by decide +kernel
theorem dX11_hill_65 : decode cX11_hill 65 = .ok (.goto (-23), 3) := by decide +kernel
theorem dX11_hill_68 : decode cX11_hill 68 = .ok (.iconst 0, 1) := by decide +kernel
theorem dX11_hill_69 : decode cX11_hill 69 = .ok (.istore_n 1, 1) := by decide +kernel
theorem dX11_hill_70 : decode cX11_hill 70 = .ok (.iload_n 1, 1) := by decide +kernel
theorem dX11_hill_71 : decode cX11_hill 71 = .ok (.bipush 49, 2) := by decide +kernel
theorem dX11_hill_73 : decode cX11_hill 73 = .ok (.if_icmp .ge 16, 3) := by decide +kernel
theorem dX11_hill_76 : decode cX11_hill 76 = .ok (.aload_n 0, 1) := by decide +kernel
theorem dX11_hill_77 : decode cX11_hill 77 = .ok (.getfield 59, 3) := by decide +kernel
theorem dX11_hill_80 : decode cX11_hill 80 = .ok (.iload_n 1, 1) := by decide +kernel
theorem dX11_hill_81 : decode cX11_hill 81 = .ok (.iconst 5, 1) := by decide +kernel
theorem dX11_hill_82 : decode cX11_hill 82 = .ok (.iastore, 1) := by decide +kernel
theorem dX11_hill_83 : decode cX11_hill 83 = .ok (.iinc 1 1, 3) := by decide +kernel
theorem dX11_hill_86 : decode cX11_hill 86 = .ok (.goto (-16), 3) := by decide +kernel
theorem dX11_hill_89 : decode cX11_hill 89 = .ok (.iconst 0, 1) := by decide +kernel
theorem dX11_hill_90 : decode cX11_hill 90 = .ok (.istore_n 1, 1) := by decide +kernel
theorem dX11_hill_91 : decode cX11_hill 91 = .ok (.iload_n 1, 1) := by decide +kernel
theorem dX11_hill_92 : decode cX11_hill 92 = .ok (.ifCond .ne 18, 3) := by decide +kernel
theorem dX11_hill_95 : decode cX11_hill 95 = .ok (.aload_n 0, 1) := by decide +kernel
theorem dX11_hill_96 : decode cX11_hill 96 = .ok (.invokevirtual 99, 3) := by decide +kernel
theorem dX11_hill_99 : decode cX11_hill 99 = .ok (.ifCond .lt 11, 3) := by decide +kernel
theorem dX11_hill_102 : decode cX11_hill 102 = .ok (.aload_n 0, 1) := by decide +kernel
theorem dX11_hill_103 : decode cX11_hill 103 = .ok (.invokevirtual 180, 3) := by decide +kernel
theorem dX11_hill_106 : decode cX11_hill 106 = .ok (.istore_n 1, 1) := by decide +kernel
theorem dX11_hill_107 : decode cX11_hill 107 = .ok (.goto (-16), 3) := by decide +kernel
theorem dX11_hill_110 : decode cX11_hill 110 = .ok (.aload_n 0, 1) := by decide +kernel
theorem dX11_hill_111 : decode cX11_hill 111 = .ok (.iconst 0, 1) := by decide +kernel
theorem dX11_hill_112 : decode cX11_hill 112 = .ok (.putfield 92, 3) := by decide +kernel
theorem dX11_hill_115 : decode cX11_hill 115 = .ok (.iload_n 1, 1) := by decide +kernel
theorem dX11_hill_116 : decode cX11_hill 116 = .ok (.ifCond .le 8, 3) := by decide +kernel
theorem dX11_hill_119 : decode cX11_hill 119 = .ok (.bipush (-10), 2) := by decide +kernel
theorem dX11_hill_121 : decode cX11_hill 121 = .ok (.iload_n 1, 1) := by decide +kernel
theorem dX11_hill_122 : decode cX11_hill 122 = .ok (.isub, 1) := by decide +kernel
theorem dX11_hill_123 : decode cX11_hill 123 = .ok (.ireturn, 1) := by decide +kernel
theorem dX11_hill_124 : decode cX11_hill 124 = .ok (.aload_n 0, 1) := by decide +kernel
theorem dX11_hill_125 : decode cX11_hill 125 = .ok (.invokevirtual 183, 3) := by decide +kernel
theorem dX11_hill_128 : decode cX11_hill 128 = .ok (.aload_n 0, 1) := by decide +kernel
theorem dX11_hill_129 : decode cX11_hill 129 = .ok (.iconst 0, 1) := by decide +kernel
theorem dX11_hill_130 : decode cX11_hill 130 = .ok (.putfield 186, 3) := by decide +kernel
theorem dX11_hill_133 : decode cX11_hill 133 = .ok (.aload_n 0, 1) := by decide +kernel
theorem dX11_hill_134 : decode cX11_hill 134 = .ok (.iconst 0, 1) := by decide +kernel
theorem dX11_hill_135 : decode cX11_hill 135 = .ok (.putfield 189, 3) := by decide +kernel
theorem dX11_hill_138 : decode cX11_hill 138 = .ok (.aload_n 0, 1) := by decide +kernel
theorem dX11_hill_139 : decode cX11_hill 139 = .ok (.iconst 0, 1) := by decide +kernel
theorem dX11_hill_140 : decode cX11_hill 140 = .ok (.putfield 192, 3) := by decide +kernel
theorem dX11_hill_143 : decode cX11_hill 143 = .ok (.aload_n 0, 1) := by decide +kernel
theorem dX11_hill_144 : decode cX11_hill 144 = .ok (.getfield 71, 3) := by decide +kernel
theorem dX11_hill_147 : decode cX11_hill 147 = .ok (.iconst 0, 1) := by decide +kernel
theorem dX11_hill_148 : decode cX11_hill 148 = .ok (.iconst 0, 1) := by decide +kernel
theorem dX11_hill_149 : decode cX11_hill 149 = .ok (.bastore, 1) := by decide +kernel
theorem dX11_hill_150 : decode cX11_hill 150 = .ok (.aload_n 0, 1) := by decide +kernel
theorem dX11_hill_151 : decode cX11_hill 151 = .ok (.getfield 71, 3) := by decide +kernel
theorem dX11_hill_154 : decode cX11_hill 154 = .ok (.iconst 1, 1) := by decide +kernel
theorem dX11_hill_155 : decode cX11_hill 155 = .ok (.iconst 0, 1) := by decide +kernel
theorem dX11_hill_156 : decode cX11_hill 156 = .ok (.bastore, 1) := by decide +kernel
theorem dX11_hill_157 : decode cX11_hill 157 = .ok (.aload_n 0, 1) := by decide +kernel
theorem dX11_hill_158 : decode cX11_hill 158 = .ok (.getfield 82, 3) := by decide +kernel
theorem dX11_hill_161 : decode cX11_hill 161 = .ok (.ireturn, 1) := by decide +kernel
theorem dX11_fault_0 : decode cX11_fault 0 = .ok (.aload_n 0, 1) := by decide +kernel
theorem dX11_fault_1 : decode cX11_fault 1 = .ok (.getfield 43, 3) := by decide +kernel
theorem dX11_fault_4 : decode cX11_fault 4 = .ok (.ireturn, 1) := by decide +kernel
theorem dX11_sayBy_0 : decode cX11_sayBy 0 = .ok (.iload_n 2, 1) := by decide +kernel
theorem dX11_sayBy_1 : decode cX11_sayBy 1 = .ok (.ifCond .eq 10, 3) := by decide +kernel
theorem dX11_sayBy_4 : decode cX11_sayBy 4 = .ok (.iload_n 1, 1) := by decide +kernel
theorem dX11_sayBy_5 : decode cX11_sayBy 5 = .ok (.bipush 9, 2) := by decide +kernel
theorem dX11_sayBy_7 : decode cX11_sayBy 7 = .ok (.isub, 1) := by decide +kernel
theorem dX11_sayBy_8 : decode cX11_sayBy 8 = .ok (.goto 13, 3) := by decide +kernel
theorem dX11_sayBy_11 : decode cX11_sayBy 11 = .ok (.iload_n 1, 1) := by decide +kernel
theorem dX11_sayBy_12 : decode cX11_sayBy 12 = .ok (.iconst 5, 1) := by decide +kernel
theorem dX11_sayBy_13 : decode cX11_sayBy 13 = .ok (.if_icmp .lt 7, 3) := by decide +kernel
theorem dX11_sayBy_16 : decode cX11_sayBy 16 = .ok (.iload_n 1, 1) := by decide +kernel
theorem dX11_sayBy_17 : decode cX11_sayBy 17 = .ok (.goto 4, 3) := by decide +kernel
theorem dX11_sayBy_20 : decode cX11_sayBy 20 = .ok (.iconst 0, 1) := by decide +kernel
theorem dX11_sayBy_21 : decode cX11_sayBy 21 = .ok (.istore_n 3, 1) := by decide +kernel
theorem dX11_sayBy_22 : decode cX11_sayBy 22 = .ok (.iload_n 0, 1) := by decide +kernel
theorem dX11_sayBy_23 : decode cX11_sayBy 23 = .ok (.iconst 1, 1) := by decide +kernel
theorem dX11_sayBy_24 : decode cX11_sayBy 24 = .ok (.if_icmp .ne 11, 3) := by decide +kernel
theorem dX11_sayBy_27 : decode cX11_sayBy 27 = .ok (.iload_n 3, 1) := by decide +kernel
theorem dX11_sayBy_28 : decode cX11_sayBy 28 = .ok (.ifCond .ge 7, 3) := by decide +kernel
theorem dX11_sayBy_31 : decode cX11_sayBy 31 = .ok (.iconst 0, 1) := by decide +kernel
theorem dX11_sayBy_32 : decode cX11_sayBy 32 = .ok (.goto 19, 3) := by decide +kernel
theorem dX11_sayBy_35 : decode cX11_sayBy 35 = .ok (.iload_n 0, 1) := by decide +kernel
theorem dX11_sayBy_36 : decode cX11_sayBy 36 = .ok (.iconst 2, 1) := by decide +kernel
theorem dX11_sayBy_37 : decode cX11_sayBy 37 = .ok (.if_icmp .ne 13, 3) := by decide +kernel
theorem dX11_sayBy_40 : decode cX11_sayBy 40 = .ok (.iload_n 3, 1) := by decide +kernel
theorem dX11_sayBy_41 : decode cX11_sayBy 41 = .ok (.ifCond .le 9, 3) := by decide +kernel
theorem dX11_sayBy_44 : decode cX11_sayBy 44 = .ok (.iload_n 3, 1) := by decide +kernel
theorem dX11_sayBy_45 : decode cX11_sayBy 45 = .ok (.iconst 2, 1) := by decide +kernel
theorem dX11_sayBy_46 : decode cX11_sayBy 46 = .ok (.idiv, 1) := by decide +kernel
theorem dX11_sayBy_47 : decode cX11_sayBy 47 = .ok (.goto 4, 3) := by decide +kernel
theorem dX11_sayBy_50 : decode cX11_sayBy 50 = .ok (.iload_n 3, 1) := by decide +kernel
theorem dX11_sayBy_51 : decode cX11_sayBy 51 = .ok (.ireturn, 1) := by decide +kernel
set_option maxRecDepth 20000 in
theorem ggX11_isThere_X11_has : GoodIn wsX11_isThere wsX11_has := goodIn_r _ [5] (by decide +kernel) (by decide +kernel)
set_option maxRecDepth 20000 in
theorem gX11_isThere_X11_has : GoodIn wsX11_isThere (va_wsS RX11 129 yX11_has wsX11_has) := goodIn_app (goodIn_of _ (by decide +kernel)) ggX11_isThere_X11_has
theorem dX11_isThere_0 : decode cX11_isThere 0 = .ok (.iload_n 1, 1) := by decide +kernel
theorem dX11_isThere_1 : decode cX11_isThere 1 = .ok (.iload_n 2, 1) := by decide +kernel
theorem dX11_isThere_2 : decode cX11_isThere 2 = .ok (.if_icmp .eq 20, 3) := by decide +kernel
theorem dX11_isThere_5 : decode cX11_isThere 5 = .ok (.iload_n 3, 1) := by decide +kernel
theorem dX11_isThere_6 : decode cX11_isThere 6 = .ok (.ifCond .eq 20, 3) := by decide +kernel
theorem dX11_isThere_9 : decode cX11_isThere 9 = .ok (.aload_n 0, 1) := by decide +kernel
theorem dX11_isThere_10 : decode cX11_isThere 10 = .ok (.getfield 7, 3) := by decide +kernel
theorem dX11_isThere_13 : decode cX11_isThere 13 = .ok (.iload_n 1, 1) := by decide +kernel
theorem dX11_isThere_14 : decode cX11_isThere 14 = .ok (.iaload, 1) := by decide +kernel
theorem dX11_isThere_15 : decode cX11_isThere 15 = .ok (.iload_n 2, 1) := by decide +kernel
theorem dX11_isThere_16 : decode cX11_isThere 16 = .ok (.invokestatic 129, 3) := by decide +kernel
theorem dX11_isThere_19 : decode cX11_isThere 19 = .ok (.ifCond .eq 7, 3) := by decide +kernel
theorem dX11_isThere_22 : decode cX11_isThere 22 = .ok (.iconst 1, 1) := by decide +kernel
theorem dX11_isThere_23 : decode cX11_isThere 23 = .ok (.goto 4, 3) := by decide +kernel
theorem dX11_isThere_26 : decode cX11_isThere 26 = .ok (.iconst 0, 1) := by decide +kernel
theorem dX11_isThere_27 : decode cX11_isThere 27 = .ok (.ireturn, 1) := by decide +kernel
set_option maxRecDepth 20000 in
theorem ggX11_says_X11_has : GoodIn wsX11_says wsX11_has := goodIn_r _ [5] (by decide +kernel) (by decide +kernel)
set_option maxRecDepth 20000 in
theorem gX11_says_X11_has : GoodIn wsX11_says (va_wsS RX11 129 yX11_has wsX11_has) := goodIn_app (goodIn_of _ (by decide +kernel)) ggX11_says_X11_has
set_option maxRecDepth 20000 in
theorem ggX11_says_X11_isThere : GoodIn wsX11_says wsX11_isThere := goodIn_r _ [9, 10, 2, 3, 4, 5, 14, 15, 16, 17, 18, 19, 20, 21, 22, 23, 24, 25, 26, 27, 28, 29, 30, 31, 32, 33, 34, 35, 36, 37, 38, 39, 40, 41, 42, 43, 44, 45, 46, 47, 48, 49, 50, 51, 52, 53, 54] (by decide +kernel) (by decide +kernel)
set_option maxRecDepth 20000 in
theorem gX11_says_X11_isThere : GoodIn wsX11_says (wsV RX11 195 RX11 yX11_isThere wsX11_isThere) := goodIn_app (goodIn_of _ (by decide +kernel)) ggX11_says_X11_isThere
set_option maxRecDepth 20000 in
theorem ggX11_says_X11_sayBy : GoodIn wsX11_says wsX11_sayBy := goodIn_r _ [13] (by decide +kernel) (by decide +kernel)
set_option maxRecDepth 20000 in
theorem gX11_says_X11_sayBy : GoodIn wsX11_says (va_wsS RX11 199 yX11_sayBy wsX11_sayBy) := goodIn_app (goodIn_of _ (by decide +kernel)) ggX11_says_X11_sayBy
theorem dX11_says_0 : decode cX11_says 0 = .ok (.aload_n 0, 1) := by decide +kernel
theorem dX11_says_1 : decode cX11_says 1 = .ok (.aload_n 1, 1) := by decide +kernel
theorem dX11_says_2 : decode cX11_says 2 = .ok (.iconst 2, 1) := by decide +kernel
theorem dX11_says_3 : decode cX11_says 3 = .ok (.iload_n 2, 1) := by decide +kernel
theorem dX11_says_4 : decode cX11_says 4 = .ok (.iadd, 1) := by decide +kernel
theorem dX11_says_5 : decode cX11_says 5 = .ok (.iaload, 1) := by decide +kernel
theorem dX11_says_6 : decode cX11_says 6 = .ok (.aload_n 1, 1) := by decide +kernel
theorem dX11_says_7 : decode cX11_says 7 = .ok (.iconst 2, 1) := by decide +kernel
theorem dX11_says_8 : decode cX11_says 8 = .ok (.iload_n 3, 1) := by decide +kernel
theorem dX11_says_9 : decode cX11_says 9 = .ok (.iadd, 1) := by decide +kernel
theorem dX11_says_10 : decode cX11_says 10 = .ok (.iaload, 1) := by decide +kernel
theorem dX11_says_11 : decode cX11_says 11 = .ok (.aload_n 0, 1) := by decide +kernel
theorem dX11_says_12 : decode cX11_says 12 = .ok (.getfield 16, 3) := by decide +kernel
theorem dX11_says_15 : decode cX11_says 15 = .ok (.iload_n 2, 1) := by decide +kernel
theorem dX11_says_16 : decode cX11_says 16 = .ok (.iaload, 1) := by decide +kernel
theorem dX11_says_17 : decode cX11_says 17 = .ok (.iconst 3, 1) := by decide +kernel
theorem dX11_says_18 : decode cX11_says 18 = .ok (.if_icmp .eq 17, 3) := by decide +kernel
theorem dX11_says_21 : decode cX11_says 21 = .ok (.aload_n 1, 1) := by decide +kernel
theorem dX11_says_22 : decode cX11_says 22 = .ok (.iconst 1, 1) := by decide +kernel
theorem dX11_says_23 : decode cX11_says 23 = .ok (.iaload, 1) := by decide +kernel
theorem dX11_says_24 : decode cX11_says 24 = .ok (.iload_n 3, 1) := by decide +kernel
theorem dX11_says_25 : decode cX11_says 25 = .ok (.invokestatic 129, 3) := by decide +kernel
theorem dX11_says_28 : decode cX11_says 28 = .ok (.ifCond .eq 7, 3) := by decide +kernel
theorem dX11_says_31 : decode cX11_says 31 = .ok (.iconst 1, 1) := by decide +kernel
theorem dX11_says_32 : decode cX11_says 32 = .ok (.goto 4, 3) := by decide +kernel
theorem dX11_says_35 : decode cX11_says 35 = .ok (.iconst 0, 1) := by decide +kernel
theorem dX11_says_36 : decode cX11_says 36 = .ok (.invokevirtual 195, 3) := by decide +kernel
theorem dX11_says_39 : decode cX11_says 39 = .ok (.istore 4, 2) := by decide +kernel
theorem dX11_says_41 : decode cX11_says 41 = .ok (.aload_n 0, 1) := by decide +kernel
theorem dX11_says_42 : decode cX11_says 42 = .ok (.getfield 16, 3) := by decide +kernel
theorem dX11_says_45 : decode cX11_says 45 = .ok (.iload_n 2, 1) := by decide +kernel
theorem dX11_says_46 : decode cX11_says 46 = .ok (.iaload, 1) := by decide +kernel
theorem dX11_says_47 : decode cX11_says 47 = .ok (.aload_n 1, 1) := by decide +kernel
theorem dX11_says_48 : decode cX11_says 48 = .ok (.bipush 23, 2) := by decide +kernel
theorem dX11_says_50 : decode cX11_says 50 = .ok (.bipush 7, 2) := by decide +kernel
theorem dX11_says_52 : decode cX11_says 52 = .ok (.iload_n 2, 1) := by decide +kernel
theorem dX11_says_53 : decode cX11_says 53 = .ok (.imul, 1) := by decide +kernel
theorem dX11_says_54 : decode cX11_says 54 = .ok (.iadd, 1) := by decide +kernel
theorem dX11_says_55 : decode cX11_says 55 = .ok (.iload_n 3, 1) := by decide +kernel
theorem dX11_says_56 : decode cX11_says 56 = .ok (.iadd, 1) := by decide +kernel
theorem dX11_says_57 : decode cX11_says 57 = .ok (.iaload, 1) := by decide +kernel
theorem dX11_says_58 : decode cX11_says 58 = .ok (.iload 4, 2) := by decide +kernel
theorem dX11_says_60 : decode cX11_says 60 = .ok (.invokestatic 199, 3) := by decide +kernel
theorem dX11_says_63 : decode cX11_says 63 = .ok (.ireturn, 1) := by decide +kernel
set_option maxRecDepth 20000 in
theorem ggX11_hears_X11_has : GoodIn wsX11_hears wsX11_has := goodIn_r _ [5] (by decide +kernel) (by decide +kernel)
set_option maxRecDepth 20000 in
theorem gX11_hears_X11_has : GoodIn wsX11_hears (va_wsS RX11 129 yX11_has wsX11_has) := goodIn_app (goodIn_of _ (by decide +kernel)) ggX11_hears_X11_has
theorem dX11_hears_0 : decode cX11_hears 0 = .ok (.aload_n 1, 1) := by decide +kernel
theorem dX11_hears_1 : decode cX11_hears 1 = .ok (.iconst 2, 1) := by decide +kernel
theorem dX11_hears_2 : decode cX11_hears 2 = .ok (.iload_n 2, 1) := by decide +kernel
theorem dX11_hears_3 : decode cX11_hears 3 = .ok (.iadd, 1) := by decide +kernel
theorem dX11_hears_4 : decode cX11_hears 4 = .ok (.iaload, 1) := by decide +kernel
theorem dX11_hears_5 : decode cX11_hears 5 = .ok (.aload_n 1, 1) := by decide +kernel
theorem dX11_hears_6 : decode cX11_hears 6 = .ok (.iconst 2, 1) := by decide +kernel
theorem dX11_hears_7 : decode cX11_hears 7 = .ok (.iload_n 3, 1) := by decide +kernel
theorem dX11_hears_8 : decode cX11_hears 8 = .ok (.iadd, 1) := by decide +kernel
theorem dX11_hears_9 : decode cX11_hears 9 = .ok (.iaload, 1) := by decide +kernel
theorem dX11_hears_10 : decode cX11_hears 10 = .ok (.if_icmp .eq 24, 3) := by decide +kernel
theorem dX11_hears_13 : decode cX11_hears 13 = .ok (.aload_n 0, 1) := by decide +kernel
theorem dX11_hears_14 : decode cX11_hears 14 = .ok (.getfield 7, 3) := by decide +kernel
theorem dX11_hears_17 : decode cX11_hears 17 = .ok (.aload_n 1, 1) := by decide +kernel
theorem dX11_hears_18 : decode cX11_hears 18 = .ok (.iconst 2, 1) := by decide +kernel
theorem dX11_hears_19 : decode cX11_hears 19 = .ok (.iload_n 2, 1) := by decide +kernel
theorem dX11_hears_20 : decode cX11_hears 20 = .ok (.iadd, 1) := by decide +kernel
theorem dX11_hears_21 : decode cX11_hears 21 = .ok (.iaload, 1) := by decide +kernel
theorem dX11_hears_22 : decode cX11_hears 22 = .ok (.iaload, 1) := by decide +kernel
theorem dX11_hears_23 : decode cX11_hears 23 = .ok (.aload_n 1, 1) := by decide +kernel
theorem dX11_hears_24 : decode cX11_hears 24 = .ok (.iconst 2, 1) := by decide +kernel
theorem dX11_hears_25 : decode cX11_hears 25 = .ok (.iload_n 3, 1) := by decide +kernel
theorem dX11_hears_26 : decode cX11_hears 26 = .ok (.iadd, 1) := by decide +kernel
theorem dX11_hears_27 : decode cX11_hears 27 = .ok (.iaload, 1) := by decide +kernel
theorem dX11_hears_28 : decode cX11_hears 28 = .ok (.invokestatic 129, 3) := by decide +kernel
theorem dX11_hears_31 : decode cX11_hears 31 = .ok (.ifCond .eq 7, 3) := by decide +kernel
theorem dX11_hears_34 : decode cX11_hears 34 = .ok (.iconst 1, 1) := by decide +kernel
theorem dX11_hears_35 : decode cX11_hears 35 = .ok (.goto 4, 3) := by decide +kernel
theorem dX11_hears_38 : decode cX11_hears 38 = .ok (.iconst 0, 1) := by decide +kernel
theorem dX11_hears_39 : decode cX11_hears 39 = .ok (.ireturn, 1) := by decide +kernel
theorem dX11_spokenOf_0 : decode cX11_spokenOf 0 = .ok (.iload_n 1, 1) := by decide +kernel
theorem dX11_spokenOf_1 : decode cX11_spokenOf 1 = .ok (.iload_n 2, 1) := by decide +kernel
theorem dX11_spokenOf_2 : decode cX11_spokenOf 2 = .ok (.iadd, 1) := by decide +kernel
theorem dX11_spokenOf_3 : decode cX11_spokenOf 3 = .ok (.iconst 1, 1) := by decide +kernel
theorem dX11_spokenOf_4 : decode cX11_spokenOf 4 = .ok (.iadd, 1) := by decide +kernel
theorem dX11_spokenOf_5 : decode cX11_spokenOf 5 = .ok (.aload_n 0, 1) := by decide +kernel
theorem dX11_spokenOf_6 : decode cX11_spokenOf 6 = .ok (.getfield 82, 3) := by decide +kernel
theorem dX11_spokenOf_9 : decode cX11_spokenOf 9 = .ok (.irem, 1) := by decide +kernel
theorem dX11_spokenOf_10 : decode cX11_spokenOf 10 = .ok (.ireturn, 1) := by decide +kernel
set_option maxRecDepth 20000 in
theorem ggX11_saidAll_X11_spokenOf : GoodIn wsX11_saidAll wsX11_spokenOf := goodIn_r _ [6, 1, 23, 24, 25, 26, 27, 28, 29, 30, 31, 32, 33, 34, 35, 36, 37, 38, 39, 40, 41, 42, 43, 44, 45, 46, 47, 48, 49, 50, 51, 52, 53, 54, 55, 56, 57, 58, 59, 60, 61, 62, 63] (by decide +kernel) (by decide +kernel)
set_option maxRecDepth 20000 in
theorem gX11_saidAll_X11_spokenOf : GoodIn wsX11_saidAll (wsV RX11 203 RX11 yX11_spokenOf wsX11_spokenOf) := goodIn_app (goodIn_of _ (by decide +kernel)) ggX11_saidAll_X11_spokenOf
set_option maxRecDepth 20000 in
theorem ggX11_saidAll_X11_says : GoodIn wsX11_saidAll wsX11_says := goodIn_r _ [10, 11, 12, 13, 5, 14, 15, 16, 17, 18, 19, 20, 21, 22, 23, 24, 25, 26, 27, 28, 29, 30, 31, 32, 33, 34, 35, 36, 37, 38, 39, 40, 41, 42, 43, 44, 45, 46, 47, 48, 49, 50, 51, 52, 53, 54, 55, 56, 57, 58, 59, 60, 61, 62, 63] (by decide +kernel) (by decide +kernel)
set_option maxRecDepth 20000 in
theorem gX11_saidAll_X11_says : GoodIn wsX11_saidAll (wsV RX11 206 RX11 yX11_says wsX11_says) := goodIn_app (goodIn_of _ (by decide +kernel)) ggX11_saidAll_X11_says
theorem dX11_saidAll_0 : decode cX11_saidAll 0 = .ok (.iconst 0, 1) := by decide +kernel
theorem dX11_saidAll_1 : decode cX11_saidAll 1 = .ok (.istore_n 2, 1) := by decide +kernel
theorem dX11_saidAll_2 : decode cX11_saidAll 2 = .ok (.iconst 0, 1) := by decide +kernel
theorem dX11_saidAll_3 : decode cX11_saidAll 3 = .ok (.istore_n 3, 1) := by decide +kernel
theorem dX11_saidAll_4 : decode cX11_saidAll 4 = .ok (.iload_n 3, 1) := by decide +kernel
theorem dX11_saidAll_5 : decode cX11_saidAll 5 = .ok (.aload_n 0, 1) := by decide +kernel
theorem dX11_saidAll_6 : decode cX11_saidAll 6 = .ok (.getfield 82, 3) := by decide +kernel
theorem dX11_saidAll_9 : decode cX11_saidAll 9 = .ok (.if_icmp .ge 40, 3) := by decide +kernel
theorem dX11_saidAll_12 : decode cX11_saidAll 12 = .ok (.aload_n 0, 1) := by decide +kernel
theorem dX11_saidAll_13 : decode cX11_saidAll 13 = .ok (.iload_n 3, 1) := by decide +kernel
theorem dX11_saidAll_14 : decode cX11_saidAll 14 = .ok (.aload_n 1, 1) := by decide +kernel
theorem dX11_saidAll_15 : decode cX11_saidAll 15 = .ok (.iconst 0, 1) := by decide +kernel
theorem dX11_saidAll_16 : decode cX11_saidAll 16 = .ok (.iaload, 1) := by decide +kernel
theorem dX11_saidAll_17 : decode cX11_saidAll 17 = .ok (.invokevirtual 203, 3) := by decide +kernel
theorem dX11_saidAll_20 : decode cX11_saidAll 20 = .ok (.istore 4, 2) := by decide +kernel
theorem dX11_saidAll_22 : decode cX11_saidAll 22 = .ok (.iload_n 2, 1) := by decide +kernel
theorem dX11_saidAll_23 : decode cX11_saidAll 23 = .ok (.iload 4, 2) := by decide +kernel
theorem dX11_saidAll_25 : decode cX11_saidAll 25 = .ok (.iload_n 3, 1) := by decide +kernel
theorem dX11_saidAll_26 : decode cX11_saidAll 26 = .ok (.if_icmp .ne 7, 3) := by decide +kernel
theorem dX11_saidAll_29 : decode cX11_saidAll 29 = .ok (.iconst 0, 1) := by decide +kernel
theorem dX11_saidAll_30 : decode cX11_saidAll 30 = .ok (.goto 11, 3) := by decide +kernel
theorem dX11_saidAll_33 : decode cX11_saidAll 33 = .ok (.aload_n 0, 1) := by decide +kernel
theorem dX11_saidAll_34 : decode cX11_saidAll 34 = .ok (.aload_n 1, 1) := by decide +kernel
theorem dX11_saidAll_35 : decode cX11_saidAll 35 = .ok (.iload_n 3, 1) := by decide +kernel
theorem dX11_saidAll_36 : decode cX11_saidAll 36 = .ok (.iload 4, 2) := by decide +kernel
theorem dX11_saidAll_38 : decode cX11_saidAll 38 = .ok (.invokevirtual 206, 3) := by decide +kernel
theorem dX11_saidAll_41 : decode cX11_saidAll 41 = .ok (.iadd, 1) := by decide +kernel
theorem dX11_saidAll_42 : decode cX11_saidAll 42 = .ok (.istore_n 2, 1) := by decide +kernel
theorem dX11_saidAll_43 : decode cX11_saidAll 43 = .ok (.iinc 3 1, 3) := by decide +kernel
theorem dX11_saidAll_46 : decode cX11_saidAll 46 = .ok (.goto (-42), 3) := by decide +kernel
theorem dX11_saidAll_49 : decode cX11_saidAll 49 = .ok (.iload_n 2, 1) := by decide +kernel
theorem dX11_saidAll_50 : decode cX11_saidAll 50 = .ok (.ireturn, 1) := by decide +kernel
set_option maxRecDepth 20000 in
theorem ggX11_passes_X11_spokenOf : GoodIn wsX11_passes wsX11_spokenOf := goodIn_r _ [7, 1, 28, 29, 30, 31, 32, 33, 34, 35, 36, 37, 38, 39, 40, 41, 42, 43, 44, 45, 46, 47, 48, 49, 50, 51, 52, 53, 54, 55, 56, 57, 58, 59, 60, 61, 62, 63, 64, 65, 66, 67, 68] (by decide +kernel) (by decide +kernel)
set_option maxRecDepth 20000 in
theorem gX11_passes_X11_spokenOf : GoodIn wsX11_passes (wsV RX11 203 RX11 yX11_spokenOf wsX11_spokenOf) := goodIn_app (goodIn_of _ (by decide +kernel)) ggX11_passes_X11_spokenOf
set_option maxRecDepth 20000 in
theorem ggX11_passes_X11_hears : GoodIn wsX11_passes wsX11_hears := goodIn_r _ [11, 12, 13, 14, 6, 15, 28, 29, 30, 31, 32, 33, 34, 35, 36, 37, 38, 39, 40, 41, 42, 43, 44, 45, 46, 47, 48, 49, 50, 51, 52, 53, 54, 55, 56, 57, 58, 59, 60, 61, 62, 63, 64, 65, 66, 67, 68] (by decide +kernel) (by decide +kernel)
set_option maxRecDepth 20000 in
theorem gX11_passes_X11_hears : GoodIn wsX11_passes (wsV RX11 210 RX11 yX11_hears wsX11_hears) := goodIn_app (goodIn_of _ (by decide +kernel)) ggX11_passes_X11_hears
set_option maxRecDepth 20000 in
theorem ggX11_passes_X11_says : GoodIn wsX11_passes wsX11_says := goodIn_r _ [19, 20, 13, 14, 6, 15, 21, 22, 23, 24, 12, 25, 26, 27, 28, 29, 30, 31, 32, 33, 34, 35, 36, 37, 38, 39, 40, 41, 42, 43, 44, 45, 46, 47, 48, 49, 50, 51, 52, 53, 54, 55, 56, 57, 58, 59, 60, 61, 62, 63, 64, 65, 66, 67, 68] (by decide +kernel) (by decide +kernel)
set_option maxRecDepth 20000 in
theorem gX11_passes_X11_says : GoodIn wsX11_passes (wsV RX11 206 RX11 yX11_says wsX11_says) := goodIn_app (goodIn_of _ (by decide +kernel)) ggX11_passes_X11_says
set_option maxRecDepth 20000 in
theorem ggX11_passes_X11_has : GoodIn wsX11_passes wsX11_has := goodIn_r _ [15] (by decide +kernel) (by decide +kernel)
set_option maxRecDepth 20000 in
theorem gX11_passes_X11_has : GoodIn wsX11_passes (va_wsS RX11 129 yX11_has wsX11_has) := goodIn_app (goodIn_of _ (by decide +kernel)) ggX11_passes_X11_has
theorem dX11_passes_0 : decode cX11_passes 0 = .ok (.iconst 0, 1) := by decide +kernel
theorem dX11_passes_1 : decode cX11_passes 1 = .ok (.istore_n 2, 1) := by decide +kernel
theorem dX11_passes_2 : decode cX11_passes 2 = .ok (.iload_n 2, 1) := by decide +kernel
theorem dX11_passes_3 : decode cX11_passes 3 = .ok (.aload_n 0, 1) := by decide +kernel
theorem dX11_passes_4 : decode cX11_passes 4 = .ok (.getfield 82, 3) := by decide +kernel
theorem dX11_passes_7 : decode cX11_passes 7 = .ok (.if_icmp .ge 85, 3) := by decide +kernel
theorem dX11_passes_10 : decode cX11_passes 10 = .ok (.aload_n 0, 1) := by decide +kernel
theorem dX11_passes_11 : decode cX11_passes 11 = .ok (.iload_n 2, 1) := by decide +kernel
theorem dX11_passes_12 : decode cX11_passes 12 = .ok (.aload_n 1, 1) := by decide +kernel
theorem dX11_passes_13 : decode cX11_passes 13 = .ok (.iconst 0, 1) := by decide +kernel
theorem dX11_passes_14 : decode cX11_passes 14 = .ok (.iaload, 1) := by decide +kernel
theorem dX11_passes_15 : decode cX11_passes 15 = .ok (.invokevirtual 203, 3) := by decide +kernel
theorem dX11_passes_18 : decode cX11_passes 18 = .ok (.istore_n 3, 1) := by decide +kernel
theorem dX11_passes_19 : decode cX11_passes 19 = .ok (.iload_n 3, 1) := by decide +kernel
theorem dX11_passes_20 : decode cX11_passes 20 = .ok (.iload_n 2, 1) := by decide +kernel
theorem dX11_passes_21 : decode cX11_passes 21 = .ok (.if_icmp .eq 65, 3) := by decide +kernel
theorem dX11_passes_24 : decode cX11_passes 24 = .ok (.aload_n 0, 1) := by decide +kernel
theorem dX11_passes_25 : decode cX11_passes 25 = .ok (.aload_n 1, 1) := by decide +kernel
theorem dX11_passes_26 : decode cX11_passes 26 = .ok (.iload_n 2, 1) := by decide +kernel
theorem dX11_passes_27 : decode cX11_passes 27 = .ok (.iload_n 3, 1) := by decide +kernel
theorem dX11_passes_28 : decode cX11_passes 28 = .ok (.invokevirtual 210, 3) := by decide +kernel
theorem dX11_passes_31 : decode cX11_passes 31 = .ok (.ifCond .eq 55, 3) := by decide +kernel
theorem dX11_passes_34 : decode cX11_passes 34 = .ok (.aload_n 1, 1) := by decide +kernel
theorem dX11_passes_35 : decode cX11_passes 35 = .ok (.bipush 9, 2) := by decide +kernel
theorem dX11_passes_37 : decode cX11_passes 37 = .ok (.iload_n 3, 1) := by decide +kernel
theorem dX11_passes_38 : decode cX11_passes 38 = .ok (.iadd, 1) := by decide +kernel
theorem dX11_passes_39 : decode cX11_passes 39 = .ok (.iaload, 1) := by decide +kernel
theorem dX11_passes_40 : decode cX11_passes 40 = .ok (.aload_n 0, 1) := by decide +kernel
theorem dX11_passes_41 : decode cX11_passes 41 = .ok (.aload_n 1, 1) := by decide +kernel
theorem dX11_passes_42 : decode cX11_passes 42 = .ok (.iload_n 2, 1) := by decide +kernel
theorem dX11_passes_43 : decode cX11_passes 43 = .ok (.iload_n 3, 1) := by decide +kernel
theorem dX11_passes_44 : decode cX11_passes 44 = .ok (.invokevirtual 206, 3) := by decide +kernel
theorem dX11_passes_47 : decode cX11_passes 47 = .ok (.iadd, 1) := by decide +kernel
theorem dX11_passes_48 : decode cX11_passes 48 = .ok (.istore 4, 2) := by decide +kernel
theorem dX11_passes_50 : decode cX11_passes 50 = .ok (.aload_n 1, 1) := by decide +kernel
theorem dX11_passes_51 : decode cX11_passes 51 = .ok (.bipush 9, 2) := by decide +kernel
theorem dX11_passes_53 : decode cX11_passes 53 = .ok (.iload_n 3, 1) := by decide +kernel
theorem dX11_passes_54 : decode cX11_passes 54 = .ok (.iadd, 1) := by decide +kernel
theorem dX11_passes_55 : decode cX11_passes 55 = .ok (.iload 4, 2) := by decide +kernel
theorem dX11_passes_57 : decode cX11_passes 57 = .ok (.sipush 9999, 3) := by decide +kernel
theorem dX11_passes_60 : decode cX11_passes 60 = .ok (.if_icmp .le 9, 3) := by decide +kernel
theorem dX11_passes_63 : decode cX11_passes 63 = .ok (.sipush 9999, 3) := by decide +kernel
theorem dX11_passes_66 : decode cX11_passes 66 = .ok (.goto 19, 3) := by decide +kernel
theorem dX11_passes_69 : decode cX11_passes 69 = .ok (.iload 4, 2) := by decide +kernel
theorem dX11_passes_71 : decode cX11_passes 71 = .ok (.sipush (-9999), 3) := by decide +kernel
theorem dX11_passes_74 : decode cX11_passes 74 = .ok (.if_icmp .ge 9, 3) := by decide +kernel
theorem dX11_passes_77 : decode cX11_passes 77 = .ok (.sipush (-9999), 3) := by decide +kernel
theorem dX11_passes_80 : decode cX11_passes 80 = .ok (.goto 5, 3) := by decide +kernel
theorem dX11_passes_83 : decode cX11_passes 83 = .ok (.iload 4, 2) := by decide +kernel
theorem dX11_passes_85 : decode cX11_passes 85 = .ok (.iastore, 1) := by decide +kernel
theorem dX11_passes_86 : decode cX11_passes 86 = .ok (.iinc 2 1, 3) := by decide +kernel
theorem dX11_passes_89 : decode cX11_passes 89 = .ok (.goto (-87), 3) := by decide +kernel
theorem dX11_passes_92 : decode cX11_passes 92 = .ok (.iconst 0, 1) := by decide +kernel
theorem dX11_passes_93 : decode cX11_passes 93 = .ok (.istore_n 2, 1) := by decide +kernel
theorem dX11_passes_94 : decode cX11_passes 94 = .ok (.iload_n 2, 1) := by decide +kernel
theorem dX11_passes_95 : decode cX11_passes 95 = .ok (.aload_n 0, 1) := by decide +kernel
theorem dX11_passes_96 : decode cX11_passes 96 = .ok (.getfield 82, 3) := by decide +kernel
theorem dX11_passes_99 : decode cX11_passes 99 = .ok (.if_icmp .ge 63, 3) := by decide +kernel
theorem dX11_passes_102 : decode cX11_passes 102 = .ok (.aload_n 1, 1) := by decide +kernel
theorem dX11_passes_103 : decode cX11_passes 103 = .ok (.bipush 16, 2) := by decide +kernel
theorem dX11_passes_105 : decode cX11_passes 105 = .ok (.iload_n 2, 1) := by decide +kernel
theorem dX11_passes_106 : decode cX11_passes 106 = .ok (.iadd, 1) := by decide +kernel
theorem dX11_passes_107 : decode cX11_passes 107 = .ok (.iaload, 1) := by decide +kernel
theorem dX11_passes_108 : decode cX11_passes 108 = .ok (.aload_n 0, 1) := by decide +kernel
theorem dX11_passes_109 : decode cX11_passes 109 = .ok (.getfield 171, 3) := by decide +kernel
theorem dX11_passes_112 : decode cX11_passes 112 = .ok (.aload_n 1, 1) := by decide +kernel
theorem dX11_passes_113 : decode cX11_passes 113 = .ok (.iconst 2, 1) := by decide +kernel
theorem dX11_passes_114 : decode cX11_passes 114 = .ok (.iload_n 2, 1) := by decide +kernel
theorem dX11_passes_115 : decode cX11_passes 115 = .ok (.iadd, 1) := by decide +kernel
theorem dX11_passes_116 : decode cX11_passes 116 = .ok (.iaload, 1) := by decide +kernel
theorem dX11_passes_117 : decode cX11_passes 117 = .ok (.invokestatic 129, 3) := by decide +kernel
theorem dX11_passes_120 : decode cX11_passes 120 = .ok (.ifCond .eq 7, 3) := by decide +kernel
theorem dX11_passes_123 : decode cX11_passes 123 = .ok (.iconst 1, 1) := by decide +kernel
theorem dX11_passes_124 : decode cX11_passes 124 = .ok (.goto 4, 3) := by decide +kernel
theorem dX11_passes_127 : decode cX11_passes 127 = .ok (.iconst (-1), 1) := by decide +kernel
theorem dX11_passes_128 : decode cX11_passes 128 = .ok (.iadd, 1) := by decide +kernel
theorem dX11_passes_129 : decode cX11_passes 129 = .ok (.istore_n 3, 1) := by decide +kernel
theorem dX11_passes_130 : decode cX11_passes 130 = .ok (.aload_n 1, 1) := by decide +kernel
theorem dX11_passes_131 : decode cX11_passes 131 = .ok (.bipush 16, 2) := by decide +kernel
theorem dX11_passes_133 : decode cX11_passes 133 = .ok (.iload_n 2, 1) := by decide +kernel
theorem dX11_passes_134 : decode cX11_passes 134 = .ok (.iadd, 1) := by decide +kernel
theorem dX11_passes_135 : decode cX11_passes 135 = .ok (.iload_n 3, 1) := by decide +kernel
theorem dX11_passes_136 : decode cX11_passes 136 = .ok (.bipush 99, 2) := by decide +kernel
theorem dX11_passes_138 : decode cX11_passes 138 = .ok (.if_icmp .le 8, 3) := by decide +kernel
theorem dX11_passes_141 : decode cX11_passes 141 = .ok (.bipush 99, 2) := by decide +kernel
theorem dX11_passes_143 : decode cX11_passes 143 = .ok (.goto 12, 3) := by decide +kernel
theorem dX11_passes_146 : decode cX11_passes 146 = .ok (.iload_n 3, 1) := by decide +kernel
theorem dX11_passes_147 : decode cX11_passes 147 = .ok (.ifCond .ge 7, 3) := by decide +kernel
theorem dX11_passes_150 : decode cX11_passes 150 = .ok (.iconst 0, 1) := by decide +kernel
theorem dX11_passes_151 : decode cX11_passes 151 = .ok (.goto 4, 3) := by decide +kernel
theorem dX11_passes_154 : decode cX11_passes 154 = .ok (.iload_n 3, 1) := by decide +kernel
theorem dX11_passes_155 : decode cX11_passes 155 = .ok (.iastore, 1) := by decide +kernel
theorem dX11_passes_156 : decode cX11_passes 156 = .ok (.iinc 2 1, 3) := by decide +kernel
theorem dX11_passes_159 : decode cX11_passes 159 = .ok (.goto (-65), 3) := by decide +kernel
theorem dX11_passes_162 : decode cX11_passes 162 = .ok (.aload_n 1, 1) := by decide +kernel
theorem dX11_passes_163 : decode cX11_passes 163 = .ok (.iconst 1, 1) := by decide +kernel
theorem dX11_passes_164 : decode cX11_passes 164 = .ok (.iconst 0, 1) := by decide +kernel
theorem dX11_passes_165 : decode cX11_passes 165 = .ok (.iastore, 1) := by decide +kernel
theorem dX11_passes_166 : decode cX11_passes 166 = .ok (.aload_n 1, 1) := by decide +kernel
theorem dX11_passes_167 : decode cX11_passes 167 = .ok (.iconst 0, 1) := by decide +kernel
theorem dX11_passes_168 : decode cX11_passes 168 = .ok (.dup2, 1) := by decide +kernel
theorem dX11_passes_169 : decode cX11_passes 169 = .ok (.iaload, 1) := by decide +kernel
theorem dX11_passes_170 : decode cX11_passes 170 = .ok (.iconst 1, 1) := by decide +kernel
theorem dX11_passes_171 : decode cX11_passes 171 = .ok (.iadd, 1) := by decide +kernel
theorem dX11_passes_172 : decode cX11_passes 172 = .ok (.iastore, 1) := by decide +kernel
theorem dX11_passes_173 : decode cX11_passes 173 = .ok (.return_, 1) := by decide +kernel
set_option maxRecDepth 20000 in
theorem ggX11_praised_X11_says : GoodIn wsX11_praised wsX11_says := goodIn_r _ [8, 9, 10, 11, 7, 12, 13, 14, 15, 16, 17, 18, 19, 20, 21, 22, 23, 24, 25, 26, 27, 28, 29, 30, 31, 32, 33, 34, 35, 36, 37, 38, 39, 40, 41, 42, 43, 44, 45, 46, 47, 48, 49, 50, 51, 52, 53, 54, 55, 56, 57, 58, 59, 60, 61] (by decide +kernel) (by decide +kernel)
set_option maxRecDepth 20000 in
theorem gX11_praised_X11_says : GoodIn wsX11_praised (wsV RX11 206 RX11 yX11_says wsX11_says) := goodIn_app (goodIn_of _ (by decide +kernel)) ggX11_praised_X11_says
theorem dX11_praised_0 : decode cX11_praised 0 = .ok (.iconst (-1), 1) := by decide +kernel
theorem dX11_praised_1 : decode cX11_praised 1 = .ok (.istore_n 1, 1) := by decide +kernel
theorem dX11_praised_2 : decode cX11_praised 2 = .ok (.ldc 214, 2) := by decide +kernel
theorem dX11_praised_4 : decode cX11_praised 4 = .ok (.istore_n 2, 1) := by decide +kernel
theorem dX11_praised_5 : decode cX11_praised 5 = .ok (.iconst 0, 1) := by decide +kernel
theorem dX11_praised_6 : decode cX11_praised 6 = .ok (.istore_n 3, 1) := by decide +kernel
theorem dX11_praised_7 : decode cX11_praised 7 = .ok (.iload_n 3, 1) := by decide +kernel
theorem dX11_praised_8 : decode cX11_praised 8 = .ok (.aload_n 0, 1) := by decide +kernel
theorem dX11_praised_9 : decode cX11_praised 9 = .ok (.getfield 82, 3) := by decide +kernel
theorem dX11_praised_12 : decode cX11_praised 12 = .ok (.if_icmp .ge 81, 3) := by decide +kernel
theorem dX11_praised_15 : decode cX11_praised 15 = .ok (.iconst 0, 1) := by decide +kernel
theorem dX11_praised_16 : decode cX11_praised 16 = .ok (.istore 4, 2) := by decide +kernel
theorem dX11_praised_18 : decode cX11_praised 18 = .ok (.iconst 0, 1) := by decide +kernel
theorem dX11_praised_19 : decode cX11_praised 19 = .ok (.istore 5, 2) := by decide +kernel
theorem dX11_praised_21 : decode cX11_praised 21 = .ok (.iload 5, 2) := by decide +kernel
theorem dX11_praised_23 : decode cX11_praised 23 = .ok (.aload_n 0, 1) := by decide +kernel
theorem dX11_praised_24 : decode cX11_praised 24 = .ok (.getfield 82, 3) := by decide +kernel
theorem dX11_praised_27 : decode cX11_praised 27 = .ok (.if_icmp .ge 35, 3) := by decide +kernel
theorem dX11_praised_30 : decode cX11_praised 30 = .ok (.iload 4, 2) := by decide +kernel
theorem dX11_praised_32 : decode cX11_praised 32 = .ok (.iload 5, 2) := by decide +kernel
theorem dX11_praised_34 : decode cX11_praised 34 = .ok (.iload_n 3, 1) := by decide +kernel
theorem dX11_praised_35 : decode cX11_praised 35 = .ok (.if_icmp .ne 7, 3) := by decide +kernel
theorem dX11_praised_38 : decode cX11_praised 38 = .ok (.iconst 0, 1) := by decide +kernel
theorem dX11_praised_39 : decode cX11_praised 39 = .ok (.goto 14, 3) := by decide +kernel
theorem dX11_praised_42 : decode cX11_praised 42 = .ok (.aload_n 0, 1) := by decide +kernel
theorem dX11_praised_43 : decode cX11_praised 43 = .ok (.aload_n 0, 1) := by decide +kernel
theorem dX11_praised_44 : decode cX11_praised 44 = .ok (.getfield 19, 3) := by decide +kernel
theorem dX11_praised_47 : decode cX11_praised 47 = .ok (.iload 5, 2) := by decide +kernel
theorem dX11_praised_49 : decode cX11_praised 49 = .ok (.iload_n 3, 1) := by decide +kernel
theorem dX11_praised_50 : decode cX11_praised 50 = .ok (.invokevirtual 206, 3) := by decide +kernel
theorem dX11_praised_53 : decode cX11_praised 53 = .ok (.iadd, 1) := by decide +kernel
theorem dX11_praised_54 : decode cX11_praised 54 = .ok (.istore 4, 2) := by decide +kernel
theorem dX11_praised_56 : decode cX11_praised 56 = .ok (.iinc 5 1, 3) := by decide +kernel
theorem dX11_praised_59 : decode cX11_praised 59 = .ok (.goto (-38), 3) := by decide +kernel
theorem dX11_praised_62 : decode cX11_praised 62 = .ok (.iload 4, 2) := by decide +kernel
theorem dX11_praised_64 : decode cX11_praised 64 = .ok (.iload_n 2, 1) := by decide +kernel
theorem dX11_praised_65 : decode cX11_praised 65 = .ok (.if_icmp .le 7, 3) := by decide +kernel
theorem dX11_praised_68 : decode cX11_praised 68 = .ok (.iload_n 3, 1) := by decide +kernel
theorem dX11_praised_69 : decode cX11_praised 69 = .ok (.goto 4, 3) := by decide +kernel
theorem dX11_praised_72 : decode cX11_praised 72 = .ok (.iload_n 1, 1) := by decide +kernel
theorem dX11_praised_73 : decode cX11_praised 73 = .ok (.istore_n 1, 1) := by decide +kernel
theorem dX11_praised_74 : decode cX11_praised 74 = .ok (.iload 4, 2) := by decide +kernel
theorem dX11_praised_76 : decode cX11_praised 76 = .ok (.iload_n 2, 1) := by decide +kernel
theorem dX11_praised_77 : decode cX11_praised 77 = .ok (.if_icmp .le 8, 3) := by decide +kernel
theorem dX11_praised_80 : decode cX11_praised 80 = .ok (.iload 4, 2) := by decide +kernel
theorem dX11_praised_82 : decode cX11_praised 82 = .ok (.goto 4, 3) := by decide +kernel
theorem dX11_praised_85 : decode cX11_praised 85 = .ok (.iload_n 2, 1) := by decide +kernel
theorem dX11_praised_86 : decode cX11_praised 86 = .ok (.istore_n 2, 1) := by decide +kernel
theorem dX11_praised_87 : decode cX11_praised 87 = .ok (.iinc 3 1, 3) := by decide +kernel
theorem dX11_praised_90 : decode cX11_praised 90 = .ok (.goto (-83), 3) := by decide +kernel
theorem dX11_praised_93 : decode cX11_praised 93 = .ok (.iload_n 1, 1) := by decide +kernel
theorem dX11_praised_94 : decode cX11_praised 94 = .ok (.ireturn, 1) := by decide +kernel
set_option maxRecDepth 20000 in
theorem ggX11_silentBy_X11_says : GoodIn wsX11_silentBy wsX11_says := goodIn_r _ [7, 8, 9, 10, 6, 11, 12, 13, 14, 15, 16, 17, 18, 19, 20, 21, 22, 23, 24, 25, 26, 27, 28, 29, 30, 31, 32, 33, 34, 35, 36, 37, 38, 39, 40, 41, 42, 43, 44, 45, 46, 47, 48, 49, 50, 51, 52, 53, 54, 55, 56, 57, 58, 59, 60] (by decide +kernel) (by decide +kernel)
set_option maxRecDepth 20000 in
theorem gX11_silentBy_X11_says : GoodIn wsX11_silentBy (wsV RX11 206 RX11 yX11_says wsX11_says) := goodIn_app (goodIn_of _ (by decide +kernel)) ggX11_silentBy_X11_says
theorem dX11_silentBy_0 : decode cX11_silentBy 0 = .ok (.iconst 0, 1) := by decide +kernel
theorem dX11_silentBy_1 : decode cX11_silentBy 1 = .ok (.istore_n 2, 1) := by decide +kernel
theorem dX11_silentBy_2 : decode cX11_silentBy 2 = .ok (.iconst 0, 1) := by decide +kernel
theorem dX11_silentBy_3 : decode cX11_silentBy 3 = .ok (.istore_n 3, 1) := by decide +kernel
theorem dX11_silentBy_4 : decode cX11_silentBy 4 = .ok (.iload_n 3, 1) := by decide +kernel
theorem dX11_silentBy_5 : decode cX11_silentBy 5 = .ok (.aload_n 0, 1) := by decide +kernel
theorem dX11_silentBy_6 : decode cX11_silentBy 6 = .ok (.getfield 82, 3) := by decide +kernel
theorem dX11_silentBy_9 : decode cX11_silentBy 9 = .ok (.if_icmp .ge 73, 3) := by decide +kernel
theorem dX11_silentBy_12 : decode cX11_silentBy 12 = .ok (.iload_n 3, 1) := by decide +kernel
theorem dX11_silentBy_13 : decode cX11_silentBy 13 = .ok (.iconst 1, 1) := by decide +kernel
theorem dX11_silentBy_14 : decode cX11_silentBy 14 = .ok (.iadd, 1) := by decide +kernel
theorem dX11_silentBy_15 : decode cX11_silentBy 15 = .ok (.istore 4, 2) := by decide +kernel
theorem dX11_silentBy_17 : decode cX11_silentBy 17 = .ok (.iload 4, 2) := by decide +kernel
theorem dX11_silentBy_19 : decode cX11_silentBy 19 = .ok (.aload_n 0, 1) := by decide +kernel
theorem dX11_silentBy_20 : decode cX11_silentBy 20 = .ok (.getfield 82, 3) := by decide +kernel
theorem dX11_silentBy_23 : decode cX11_silentBy 23 = .ok (.if_icmp .ge 53, 3) := by decide +kernel
theorem dX11_silentBy_26 : decode cX11_silentBy 26 = .ok (.aload_n 0, 1) := by decide +kernel
theorem dX11_silentBy_27 : decode cX11_silentBy 27 = .ok (.aload_n 0, 1) := by decide +kernel
theorem dX11_silentBy_28 : decode cX11_silentBy 28 = .ok (.getfield 19, 3) := by decide +kernel
theorem dX11_silentBy_31 : decode cX11_silentBy 31 = .ok (.iload_n 3, 1) := by decide +kernel
theorem dX11_silentBy_32 : decode cX11_silentBy 32 = .ok (.iload 4, 2) := by decide +kernel
theorem dX11_silentBy_34 : decode cX11_silentBy 34 = .ok (.invokevirtual 206, 3) := by decide +kernel
theorem dX11_silentBy_37 : decode cX11_silentBy 37 = .ok (.ifCond .gt 33, 3) := by decide +kernel
theorem dX11_silentBy_40 : decode cX11_silentBy 40 = .ok (.aload_n 0, 1) := by decide +kernel
theorem dX11_silentBy_41 : decode cX11_silentBy 41 = .ok (.aload_n 0, 1) := by decide +kernel
theorem dX11_silentBy_42 : decode cX11_silentBy 42 = .ok (.getfield 19, 3) := by decide +kernel
theorem dX11_silentBy_45 : decode cX11_silentBy 45 = .ok (.iload 4, 2) := by decide +kernel
theorem dX11_silentBy_47 : decode cX11_silentBy 47 = .ok (.iload_n 3, 1) := by decide +kernel
theorem dX11_silentBy_48 : decode cX11_silentBy 48 = .ok (.invokevirtual 206, 3) := by decide +kernel
theorem dX11_silentBy_51 : decode cX11_silentBy 51 = .ok (.ifCond .gt 19, 3) := by decide +kernel
theorem dX11_silentBy_54 : decode cX11_silentBy 54 = .ok (.iload_n 2, 1) := by decide +kernel
theorem dX11_silentBy_55 : decode cX11_silentBy 55 = .ok (.iload_n 1, 1) := by decide +kernel
theorem dX11_silentBy_56 : decode cX11_silentBy 56 = .ok (.if_icmp .ne 11, 3) := by decide +kernel
theorem dX11_silentBy_59 : decode cX11_silentBy 59 = .ok (.bipush 100, 2) := by decide +kernel
theorem dX11_silentBy_61 : decode cX11_silentBy 61 = .ok (.iload_n 3, 1) := by decide +kernel
theorem dX11_silentBy_62 : decode cX11_silentBy 62 = .ok (.imul, 1) := by decide +kernel
theorem dX11_silentBy_63 : decode cX11_silentBy 63 = .ok (.iload 4, 2) := by decide +kernel
theorem dX11_silentBy_65 : decode cX11_silentBy 65 = .ok (.iadd, 1) := by decide +kernel
theorem dX11_silentBy_66 : decode cX11_silentBy 66 = .ok (.ireturn, 1) := by decide +kernel
theorem dX11_silentBy_67 : decode cX11_silentBy 67 = .ok (.iinc 2 1, 3) := by decide +kernel
theorem dX11_silentBy_70 : decode cX11_silentBy 70 = .ok (.iinc 4 1, 3) := by decide +kernel
theorem dX11_silentBy_73 : decode cX11_silentBy 73 = .ok (.goto (-56), 3) := by decide +kernel
theorem dX11_silentBy_76 : decode cX11_silentBy 76 = .ok (.iinc 3 1, 3) := by decide +kernel
theorem dX11_silentBy_79 : decode cX11_silentBy 79 = .ok (.goto (-75), 3) := by decide +kernel
theorem dX11_silentBy_82 : decode cX11_silentBy 82 = .ok (.iload_n 1, 1) := by decide +kernel
theorem dX11_silentBy_83 : decode cX11_silentBy 83 = .ok (.iconst (-1), 1) := by decide +kernel
theorem dX11_silentBy_84 : decode cX11_silentBy 84 = .ok (.if_icmp .ne 7, 3) := by decide +kernel
theorem dX11_silentBy_87 : decode cX11_silentBy 87 = .ok (.iload_n 2, 1) := by decide +kernel
theorem dX11_silentBy_88 : decode cX11_silentBy 88 = .ok (.goto 4, 3) := by decide +kernel
theorem dX11_silentBy_91 : decode cX11_silentBy 91 = .ok (.iconst (-1), 1) := by decide +kernel
theorem dX11_silentBy_92 : decode cX11_silentBy 92 = .ok (.ireturn, 1) := by decide +kernel
set_option maxRecDepth 20000 in
theorem ggX11_cover_X11_ones : GoodIn wsX11_cover wsX11_ones := goodIn_r _ [6] (by decide +kernel) (by decide +kernel)
set_option maxRecDepth 20000 in
theorem gX11_cover_X11_ones : GoodIn wsX11_cover (va_wsS RX11 215 yX11_ones wsX11_ones) := goodIn_app (goodIn_of _ (by decide +kernel)) ggX11_cover_X11_ones
theorem dX11_cover_0 : decode cX11_cover 0 = .ok (.iconst 1, 1) := by decide +kernel
theorem dX11_cover_1 : decode cX11_cover 1 = .ok (.aload_n 0, 1) := by decide +kernel
theorem dX11_cover_2 : decode cX11_cover 2 = .ok (.getfield 75, 3) := by decide +kernel
theorem dX11_cover_5 : decode cX11_cover 5 = .ok (.ishl, 1) := by decide +kernel
theorem dX11_cover_6 : decode cX11_cover 6 = .ok (.iconst 1, 1) := by decide +kernel
theorem dX11_cover_7 : decode cX11_cover 7 = .ok (.isub, 1) := by decide +kernel
