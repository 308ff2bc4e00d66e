theorem dX7_begin_32 : decode cX7_begin 32 = .ok (.getfield 21, 3) := by decide +kernel
theorem dX7_begin_35 : decode cX7_begin 35 = .ok (.invokestatic 29, 3) := by decide +kernel
theorem dX7_begin_38 : decode cX7_begin 38 = .ok (.aload_n 0, 1) := by decide +kernel
theorem dX7_begin_39 : decode cX7_begin 39 = .ok (.iconst 0, 1) := by decide +kernel
theorem dX7_begin_40 : decode cX7_begin 40 = .ok (.putfield 40, 3) := by decide +kernel
theorem dX7_begin_43 : decode cX7_begin 43 = .ok (.aload_n 0, 1) := by decide +kernel
theorem dX7_begin_44 : decode cX7_begin 44 = .ok (.iconst 0, 1) := by decide +kernel
theorem dX7_begin_45 : decode cX7_begin 45 = .ok (.putfield 44, 3) := by decide +kernel
theorem dX7_begin_48 : decode cX7_begin 48 = .ok (.return_, 1) := by decide +kernel
set_option maxRecDepth 20000 in
theorem ggX7_copyFrom_X10_copy : GoodIn wsX7_copyFrom wsX10_copy := goodIn_r _ [9, 10, 11, 12, 13, 14, 15, 16, 17] (by decide +kernel) (by decide +kernel)
set_option maxRecDepth 20000 in
theorem gX7_copyFrom_X10_copy_n29 : GoodIn wsX7_copyFrom (wsX10_copy) := ggX7_copyFrom_X10_copy
theorem dX7_copyFrom_0 : decode cX7_copyFrom 0 = .ok (.aload_n 1, 1) := by decide +kernel
theorem dX7_copyFrom_1 : decode cX7_copyFrom 1 = .ok (.getfield 9, 3) := by decide +kernel
theorem dX7_copyFrom_4 : decode cX7_copyFrom 4 = .ok (.aload_n 0, 1) := by decide +kernel
theorem dX7_copyFrom_5 : decode cX7_copyFrom 5 = .ok (.getfield 9, 3) := by decide +kernel
theorem dX7_copyFrom_8 : decode cX7_copyFrom 8 = .ok (.invokestatic 29, 3) := by decide +kernel
theorem dX7_copyFrom_11 : decode cX7_copyFrom 11 = .ok (.aload_n 1, 1) := by decide +kernel
theorem dX7_copyFrom_12 : decode cX7_copyFrom 12 = .ok (.getfield 15, 3) := by decide +kernel
theorem dX7_copyFrom_15 : decode cX7_copyFrom 15 = .ok (.aload_n 0, 1) := by decide +kernel
theorem dX7_copyFrom_16 : decode cX7_copyFrom 16 = .ok (.getfield 15, 3) := by decide +kernel
theorem dX7_copyFrom_19 : decode cX7_copyFrom 19 = .ok (.invokestatic 29, 3) := by decide +kernel
theorem dX7_copyFrom_22 : decode cX7_copyFrom 22 = .ok (.aload_n 1, 1) := by decide +kernel
theorem dX7_copyFrom_23 : decode cX7_copyFrom 23 = .ok (.getfield 18, 3) := by decide +kernel
theorem dX7_copyFrom_26 : decode cX7_copyFrom 26 = .ok (.aload_n 0, 1) := by decide +kernel
theorem dX7_copyFrom_27 : decode cX7_copyFrom 27 = .ok (.getfield 18, 3) := by decide +kernel
theorem dX7_copyFrom_30 : decode cX7_copyFrom 30 = .ok (.invokestatic 29, 3) := by decide +kernel
theorem dX7_copyFrom_33 : decode cX7_copyFrom 33 = .ok (.aload_n 1, 1) := by decide +kernel
theorem dX7_copyFrom_34 : decode cX7_copyFrom 34 = .ok (.getfield 21, 3) := by decide +kernel
theorem dX7_copyFrom_37 : decode cX7_copyFrom 37 = .ok (.aload_n 0, 1) := by decide +kernel
theorem dX7_copyFrom_38 : decode cX7_copyFrom 38 = .ok (.getfield 21, 3) := by decide +kernel
theorem dX7_copyFrom_41 : decode cX7_copyFrom 41 = .ok (.invokestatic 29, 3) := by decide +kernel
theorem dX7_copyFrom_44 : decode cX7_copyFrom 44 = .ok (.aload_n 0, 1) := by decide +kernel
theorem dX7_copyFrom_45 : decode cX7_copyFrom 45 = .ok (.aload_n 1, 1) := by decide +kernel
theorem dX7_copyFrom_46 : decode cX7_copyFrom 46 = .ok (.getfield 40, 3) := by decide +kernel
theorem dX7_copyFrom_49 : decode cX7_copyFrom 49 = .ok (.putfield 40, 3) := by decide +kernel
theorem dX7_copyFrom_52 : decode cX7_copyFrom 52 = .ok (.aload_n 0, 1) := by decide +kernel
theorem dX7_copyFrom_53 : decode cX7_copyFrom 53 = .ok (.aload_n 1, 1) := by decide +kernel
theorem dX7_copyFrom_54 : decode cX7_copyFrom 54 = .ok (.getfield 44, 3) := by decide +kernel
theorem dX7_copyFrom_57 : decode cX7_copyFrom 57 = .ok (.putfield 44, 3) := by decide +kernel
theorem dX7_copyFrom_60 : decode cX7_copyFrom 60 = .ok (.return_, 1) := by decide +kernel
set_option maxRecDepth 20000 in
theorem ggX8_init_X2_init : GoodIn wsX8_init wsX2_init := goodIn_r _ [12, 13, 2, 3, 4, 14, 15, 16, 17, 18, 27, 28, 29, 30, 31, 32, 33, 34, 35, 36] (by decide +kernel) (by decide +kernel)
set_option maxRecDepth 20000 in
theorem gX8_init_X2_init_n17 : GoodIn wsX8_init (wsX2_init) := ggX8_init_X2_init
theorem dX8_init_0 : decode cX8_init 0 = .ok (.aload_n 0, 1) := by decide +kernel
theorem dX8_init_1 : decode cX8_init 1 = .ok (.invokespecial 3, 3) := by decide +kernel
theorem dX8_init_4 : decode cX8_init 4 = .ok (.aload_n 0, 1) := by decide +kernel
theorem dX8_init_5 : decode cX8_init 5 = .ok (.sipush 240, 3) := by decide +kernel
theorem dX8_init_8 : decode cX8_init 8 = .ok (.newarray .int, 2) := by decide +kernel
theorem dX8_init_10 : decode cX8_init 10 = .ok (.putfield 9, 3) := by decide +kernel
theorem dX8_init_13 : decode cX8_init 13 = .ok (.aload_n 0, 1) := by decide +kernel
theorem dX8_init_14 : decode cX8_init 14 = .ok (.new 15, 3) := by decide +kernel
theorem dX8_init_17 : decode cX8_init 17 = .ok (.dup, 1) := by decide +kernel
theorem dX8_init_18 : decode cX8_init 18 = .ok (.invokespecial 17, 3) := by decide +kernel
theorem dX8_init_21 : decode cX8_init 21 = .ok (.putfield 18, 3) := by decide +kernel
theorem dX8_init_24 : decode cX8_init 24 = .ok (.aload_n 0, 1) := by decide +kernel
theorem dX8_init_25 : decode cX8_init 25 = .ok (.iconst (-1), 1) := by decide +kernel
theorem dX8_init_26 : decode cX8_init 26 = .ok (.putfield 22, 3) := by decide +kernel
theorem dX8_init_29 : decode cX8_init 29 = .ok (.return_, 1) := by decide +kernel
set_option maxRecDepth 20000 in
theorem ggX8_add_X10_put : GoodIn wsX8_add wsX10_put := goodIn_r _ [5] (by decide +kernel) (by decide +kernel)
set_option maxRecDepth 20000 in
theorem gX8_add_X10_put_n29 : GoodIn wsX8_add (wsX10_put) := ggX8_add_X10_put
theorem dX8_add_0 : decode cX8_add 0 = .ok (.aload_n 0, 1) := by decide +kernel
theorem dX8_add_1 : decode cX8_add 1 = .ok (.getfield 9, 3) := by decide +kernel
theorem dX8_add_4 : decode cX8_add 4 = .ok (.aload_n 0, 1) := by decide +kernel
theorem dX8_add_5 : decode cX8_add 5 = .ok (.getfield 26, 3) := by decide +kernel
theorem dX8_add_8 : decode cX8_add 8 = .ok (.iload_n 1, 1) := by decide +kernel
theorem dX8_add_9 : decode cX8_add 9 = .ok (.invokestatic 29, 3) := by decide +kernel
theorem dX8_add_12 : decode cX8_add 12 = .ok (.aload_n 0, 1) := by decide +kernel
theorem dX8_add_13 : decode cX8_add 13 = .ok (.dup, 1) := by decide +kernel
theorem dX8_add_14 : decode cX8_add 14 = .ok (.getfield 26, 3) := by decide +kernel
theorem dX8_add_17 : decode cX8_add 17 = .ok (.iconst 1, 1) := by decide +kernel
theorem dX8_add_18 : decode cX8_add 18 = .ok (.iadd, 1) := by decide +kernel
theorem dX8_add_19 : decode cX8_add 19 = .ok (.putfield 26, 3) := by decide +kernel
theorem dX8_add_22 : decode cX8_add 22 = .ok (.aload_n 0, 1) := by decide +kernel
theorem dX8_add_23 : decode cX8_add 23 = .ok (.getfield 26, 3) := by decide +kernel
theorem dX8_add_26 : decode cX8_add 26 = .ok (.ireturn, 1) := by decide +kernel
set_option maxRecDepth 20000 in
theorem ggX8_read_X2_clear : GoodIn wsX8_read wsX2_clear := goodIn_r _ [11, 12, 13, 14, 15, 16, 17, 18, 19, 20, 21, 22, 23, 24, 25, 131, 132, 133, 134, 135, 136, 137, 138, 139, 140] (by decide +kernel) (by decide +kernel)
set_option maxRecDepth 20000 in
theorem gX8_read_X2_clear : GoodIn wsX8_read (wsV RX8 33 RX2 yX2_clear wsX2_clear) := goodIn_app (goodIn_of _ (by decide +kernel)) ggX8_read_X2_clear
set_option maxRecDepth 20000 in
theorem ggX8_read_X8_skipBlanks : GoodIn wsX8_read wsX8_skipBlanks := goodIn_r _ [30, 5, 6, 31, 32, 33, 29, 34, 35, 123, 124, 125, 126, 127, 128, 129, 130] (by decide +kernel) (by decide +kernel)
set_option maxRecDepth 20000 in
theorem gX8_read_X8_skipBlanks : GoodIn wsX8_read (wsV RX8 45 RX8 yX8_skipBlanks wsX8_skipBlanks) := goodIn_app (goodIn_of _ (by decide +kernel)) ggX8_read_X8_skipBlanks
set_option maxRecDepth 20000 in
theorem ggX8_read_X8_readClause : GoodIn wsX8_read wsX8_readClause := goodIn_r _ [39, 5, 3, 31, 32, 33, 29, 34, 6, 35, 40, 41, 42, 43, 1, 44, 45, 46, 2, 47, 48, 49, 10, 50, 17, 51, 52, 53, 54, 4, 55, 56, 57, 58, 59, 60, 61, 62, 63, 64, 65, 26, 27, 28, 30, 66, 67, 68, 69, 70, 71, 72, 73, 74, 75, 76, 77, 78, 12, 79, 80, 81, 82, 83, 84, 85, 86, 19, 87, 88, 89, 90, 91, 92, 93, 94, 95, 96, 13, 97, 98, 99, 100, 20, 101, 102, 103, 104, 105, 106, 107, 108, 14, 21, 15, 109, 110, 111, 112, 113, 114, 115, 116, 16, 117, 118, 119, 120, 121, 122, 123, 124, 125, 126, 127, 128, 129, 130, 131, 132, 133, 134, 135, 136, 137, 138, 139, 140] (by decide +kernel) (by decide +kernel)
set_option maxRecDepth 20000 in
theorem gX8_read_X8_readClause : GoodIn wsX8_read (wsV RX8 48 RX8 yX8_readClause wsX8_readClause) := goodIn_app (goodIn_of _ (by decide +kernel)) ggX8_read_X8_readClause
theorem dX8_read_0 : decode cX8_read 0 = .ok (.aload_n 0, 1) := by decide +kernel
theorem dX8_read_1 : decode cX8_read 1 = .ok (.getfield 18, 3) := by decide +kernel
theorem dX8_read_4 : decode cX8_read 4 = .ok (.invokevirtual 33, 3) := by decide +kernel
theorem dX8_read_7 : decode cX8_read 7 = .ok (.aload_n 0, 1) := by decide +kernel
theorem dX8_read_8 : decode cX8_read 8 = .ok (.iconst 0, 1) := by decide +kernel
theorem dX8_read_9 : decode cX8_read 9 = .ok (.putfield 36, 3) := by decide +kernel
theorem dX8_read_12 : decode cX8_read 12 = .ok (.aload_n 0, 1) := by decide +kernel
theorem dX8_read_13 : decode cX8_read 13 = .ok (.iconst 0, 1) := by decide +kernel
theorem dX8_read_14 : decode cX8_read 14 = .ok (.putfield 39, 3) := by decide +kernel
theorem dX8_read_17 : decode cX8_read 17 = .ok (.aload_n 0, 1) := by decide +kernel
theorem dX8_read_18 : decode cX8_read 18 = .ok (.iconst (-1), 1) := by decide +kernel
theorem dX8_read_19 : decode cX8_read 19 = .ok (.putfield 22, 3) := by decide +kernel
theorem dX8_read_22 : decode cX8_read 22 = .ok (.aload_n 0, 1) := by decide +kernel
theorem dX8_read_23 : decode cX8_read 23 = .ok (.iconst 0, 1) := by decide +kernel
theorem dX8_read_24 : decode cX8_read 24 = .ok (.putfield 42, 3) := by decide +kernel
theorem dX8_read_27 : decode cX8_read 27 = .ok (.aload_n 0, 1) := by decide +kernel
theorem dX8_read_28 : decode cX8_read 28 = .ok (.invokevirtual 45, 3) := by decide +kernel
theorem dX8_read_31 : decode cX8_read 31 = .ok (.iconst 0, 1) := by decide +kernel
theorem dX8_read_32 : decode cX8_read 32 = .ok (.istore_n 1, 1) := by decide +kernel
theorem dX8_read_33 : decode cX8_read 33 = .ok (.iload_n 1, 1) := by decide +kernel
theorem dX8_read_34 : decode cX8_read 34 = .ok (.sipush 240, 3) := by decide +kernel
theorem dX8_read_37 : decode cX8_read 37 = .ok (.if_icmp .ge 35, 3) := by decide +kernel
theorem dX8_read_40 : decode cX8_read 40 = .ok (.aload_n 0, 1) := by decide +kernel
theorem dX8_read_41 : decode cX8_read 41 = .ok (.getfield 42, 3) := by decide +kernel
theorem dX8_read_44 : decode cX8_read 44 = .ok (.aload_n 0, 1) := by decide +kernel
theorem dX8_read_45 : decode cX8_read 45 = .ok (.getfield 26, 3) := by decide +kernel
theorem dX8_read_48 : decode cX8_read 48 = .ok (.if_icmp .ge 24, 3) := by decide +kernel
theorem dX8_read_51 : decode cX8_read 51 = .ok (.aload_n 0, 1) := by decide +kernel
theorem dX8_read_52 : decode cX8_read 52 = .ok (.getfield 39, 3) := by decide +kernel
theorem dX8_read_55 : decode cX8_read 55 = .ok (.ifCond .ne 17, 3) := by decide +kernel
theorem dX8_read_58 : decode cX8_read 58 = .ok (.aload_n 0, 1) := by decide +kernel
theorem dX8_read_59 : decode cX8_read 59 = .ok (.invokevirtual 48, 3) := by decide +kernel
theorem dX8_read_62 : decode cX8_read 62 = .ok (.aload_n 0, 1) := by decide +kernel
theorem dX8_read_63 : decode cX8_read 63 = .ok (.invokevirtual 45, 3) := by decide +kernel
theorem dX8_read_66 : decode cX8_read 66 = .ok (.iinc 1 1, 3) := by decide +kernel
theorem dX8_read_69 : decode cX8_read 69 = .ok (.goto (-36), 3) := by decide +kernel
theorem dX8_read_72 : decode cX8_read 72 = .ok (.aload_n 0, 1) := by decide +kernel
theorem dX8_read_73 : decode cX8_read 73 = .ok (.getfield 39, 3) := by decide +kernel
theorem dX8_read_76 : decode cX8_read 76 = .ok (.ifCond .ne 7, 3) := by decide +kernel
theorem dX8_read_79 : decode cX8_read 79 = .ok (.iconst 1, 1) := by decide +kernel
theorem dX8_read_80 : decode cX8_read 80 = .ok (.goto 4, 3) := by decide +kernel
theorem dX8_read_83 : decode cX8_read 83 = .ok (.iconst 0, 1) := by decide +kernel
theorem dX8_read_84 : decode cX8_read 84 = .ok (.ireturn, 1) := by decide +kernel
set_option maxRecDepth 20000 in
theorem ggX8_readClause_X8_letter : GoodIn wsX8_readClause wsX8_letter := goodIn_r _ [7, 1, 8, 9, 110, 111, 112, 113, 114, 115, 116, 117] (by decide +kernel) (by decide +kernel)
set_option maxRecDepth 20000 in
theorem gX8_readClause_X8_letter : GoodIn wsX8_readClause (wsV RX8 51 RX8 yX8_letter wsX8_letter) := goodIn_app (goodIn_of _ (by decide +kernel)) ggX8_readClause_X8_letter
set_option maxRecDepth 20000 in
theorem ggX8_readClause_X8_faultOfWord : GoodIn wsX8_readClause wsX8_faultOfWord := goodIn_r _ [13, 14, 15, 16, 17, 18, 19, 20, 21, 22, 23, 24, 110, 111, 112, 113, 114, 115, 116, 117, 118, 119, 120, 121, 122, 123, 124, 125, 126, 127] (by decide +kernel) (by decide +kernel)
set_option maxRecDepth 20000 in
theorem gX8_readClause_X8_faultOfWord : GoodIn wsX8_readClause (wsV RX8 55 RX8 yX8_faultOfWord wsX8_faultOfWord) := goodIn_app (goodIn_of _ (by decide +kernel)) ggX8_readClause_X8_faultOfWord
set_option maxRecDepth 20000 in
theorem ggX8_readClause_X8_blame : GoodIn wsX8_readClause wsX8_blame := goodIn_r _ [28, 2, 29, 110, 111, 112, 113, 114, 115, 116, 117] (by decide +kernel) (by decide +kernel)
set_option maxRecDepth 20000 in
theorem gX8_readClause_X8_blame : GoodIn wsX8_readClause (wsV RX8 59 RX8 yX8_blame wsX8_blame) := goodIn_app (goodIn_of _ (by decide +kernel)) ggX8_readClause_X8_blame
set_option maxRecDepth 20000 in
theorem ggX8_readClause_X8_readRooms : GoodIn wsX8_readClause wsX8_readRooms := goodIn_r _ [33, 2, 14, 34, 35, 36, 37, 38, 6, 39, 1, 40, 8, 41, 42, 43, 44, 3, 4, 5, 7, 9, 45, 46, 47, 25, 26, 27, 28, 29, 48, 49, 110, 111, 112, 113, 114, 115, 116, 117, 118, 119, 120, 121, 122, 123, 124, 125, 126, 127] (by decide +kernel) (by decide +kernel)
set_option maxRecDepth 20000 in
theorem gX8_readClause_X8_readRooms : GoodIn wsX8_readClause (wsV RX8 63 RX8 yX8_readRooms wsX8_readRooms) := goodIn_app (goodIn_of _ (by decide +kernel)) ggX8_readClause_X8_readRooms
set_option maxRecDepth 20000 in
theorem ggX8_readClause_X8_readBench : GoodIn wsX8_readClause wsX8_readBench := goodIn_r _ [53, 14, 34, 40, 2, 36, 37, 38, 6, 39, 1, 8, 41, 42, 43, 44, 3, 4, 5, 7, 9, 45, 46, 47, 25, 26, 27, 28, 29, 54, 55, 56, 22, 57, 58, 59, 60, 61, 62, 63, 64, 65, 66, 67, 48, 49, 68, 69, 110, 111, 112, 113, 114, 115, 116, 117, 118, 119, 120, 121, 122, 123, 124, 125, 126, 127] (by decide +kernel) (by decide +kernel)
set_option maxRecDepth 20000 in
theorem gX8_readClause_X8_readBench : GoodIn wsX8_readClause (wsV RX8 66 RX8 yX8_readBench wsX8_readBench) := goodIn_app (goodIn_of _ (by decide +kernel)) ggX8_readClause_X8_readBench
set_option maxRecDepth 20000 in
theorem ggX8_readClause_X8_readWay : GoodIn wsX8_readClause wsX8_readWay := goodIn_r _ [73, 14, 34, 40, 2, 36, 37, 38, 6, 39, 1, 8, 41, 42, 43, 44, 3, 4, 5, 7, 9, 45, 46, 47, 25, 26, 27, 28, 29, 74, 75, 76, 22, 77, 78, 59, 60, 61, 62, 79, 80, 81, 82, 83, 48, 49, 68, 69, 110, 111, 112, 113, 114, 115, 116, 117, 118, 119, 120, 121, 122, 123, 124, 125, 126, 127] (by decide +kernel) (by decide +kernel)
set_option maxRecDepth 20000 in
theorem gX8_readClause_X8_readWay : GoodIn wsX8_readClause (wsV RX8 69 RX8 yX8_readWay wsX8_readWay) := goodIn_app (goodIn_of _ (by decide +kernel)) ggX8_readClause_X8_readWay
set_option maxRecDepth 20000 in
theorem ggX8_readClause_X8_readPerson : GoodIn wsX8_readClause wsX8_readPerson := goodIn_r _ [87, 14, 34, 2, 36, 37, 38, 6, 39, 1, 40, 8, 41, 42, 43, 44, 3, 4, 5, 7, 9, 45, 46, 47, 25, 26, 27, 28, 29, 88, 89, 90, 22, 91, 92, 93, 94, 68, 69, 110, 111, 112, 113, 114, 115, 116, 117, 118, 119, 120, 121, 122, 123, 124, 125, 126, 127] (by decide +kernel) (by decide +kernel)
set_option maxRecDepth 20000 in
theorem gX8_readClause_X8_readPerson : GoodIn wsX8_readClause (wsV RX8 72 RX8 yX8_readPerson wsX8_readPerson) := goodIn_app (goodIn_of _ (by decide +kernel)) ggX8_readClause_X8_readPerson
set_option maxRecDepth 20000 in
theorem ggX8_readClause_X8_readLiking : GoodIn wsX8_readClause wsX8_readLiking := goodIn_r _ [98, 14, 17, 40, 2, 18, 36, 37, 38, 6, 39, 1, 8, 41, 42, 43, 44, 3, 4, 5, 7, 9, 45, 46, 47, 25, 26, 27, 28, 29, 99, 100, 101, 22, 102, 103, 104, 105, 68, 69, 110, 111, 112, 113, 114, 115, 116, 117, 118, 119, 120, 121, 122, 123, 124, 125, 126, 127] (by decide +kernel) (by decide +kernel)
set_option maxRecDepth 20000 in
theorem gX8_readClause_X8_readLiking : GoodIn wsX8_readClause (wsV RX8 75 RX8 yX8_readLiking wsX8_readLiking) := goodIn_app (goodIn_of _ (by decide +kernel)) ggX8_readClause_X8_readLiking
set_option maxRecDepth 20000 in
theorem ggX8_readClause_X8_readEnd : GoodIn wsX8_readClause wsX8_readEnd := goodIn_r _ [109, 1, 41, 42, 43, 6, 44, 8, 3, 4, 5, 7, 9, 25, 26, 27, 28, 2, 29, 110, 111, 112, 113, 114, 115, 116, 117] (by decide +kernel) (by decide +kernel)
set_option maxRecDepth 20000 in
theorem gX8_readClause_X8_readEnd : GoodIn wsX8_readClause (wsV RX8 78 RX8 yX8_readEnd wsX8_readEnd) := goodIn_app (goodIn_of _ (by decide +kernel)) ggX8_readClause_X8_readEnd
theorem dX8_readClause_0 : decode cX8_readClause 0 = .ok (.aload_n 0, 1) := by decide +kernel
theorem dX8_readClause_1 : decode cX8_readClause 1 = .ok (.invokevirtual 51, 3) := by decide +kernel
theorem dX8_readClause_4 : decode cX8_readClause 4 = .ok (.istore_n 1, 1) := by decide +kernel
theorem dX8_readClause_5 : decode cX8_readClause 5 = .ok (.aload_n 0, 1) := by decide +kernel
theorem dX8_readClause_6 : decode cX8_readClause 6 = .ok (.aload_n 0, 1) := by decide +kernel
theorem dX8_readClause_7 : decode cX8_readClause 7 = .ok (.iload_n 1, 1) := by decide +kernel
theorem dX8_readClause_8 : decode cX8_readClause 8 = .ok (.invokevirtual 55, 3) := by decide +kernel
theorem dX8_readClause_11 : decode cX8_readClause 11 = .ok (.aload_n 0, 1) := by decide +kernel
theorem dX8_readClause_12 : decode cX8_readClause 12 = .ok (.getfield 42, 3) := by decide +kernel
theorem dX8_readClause_15 : decode cX8_readClause 15 = .ok (.invokevirtual 59, 3) := by decide +kernel
theorem dX8_readClause_18 : decode cX8_readClause 18 = .ok (.aload_n 0, 1) := by decide +kernel
theorem dX8_readClause_19 : decode cX8_readClause 19 = .ok (.getfield 39, 3) := by decide +kernel
theorem dX8_readClause_22 : decode cX8_readClause 22 = .ok (.ifCond .eq 4, 3) := by decide +kernel
theorem dX8_readClause_25 : decode cX8_readClause 25 = .ok (.return_, 1) := by decide +kernel
theorem dX8_readClause_26 : decode cX8_readClause 26 = .ok (.aload_n 0, 1) := by decide +kernel
theorem dX8_readClause_27 : decode cX8_readClause 27 = .ok (.dup, 1) := by decide +kernel
theorem dX8_readClause_28 : decode cX8_readClause 28 = .ok (.getfield 42, 3) := by decide +kernel
theorem dX8_readClause_31 : decode cX8_readClause 31 = .ok (.iconst 1, 1) := by decide +kernel
theorem dX8_readClause_32 : decode cX8_readClause 32 = .ok (.iadd, 1) := by decide +kernel
theorem dX8_readClause_33 : decode cX8_readClause 33 = .ok (.putfield 42, 3) := by decide +kernel
theorem dX8_readClause_36 : decode cX8_readClause 36 = .ok (.iload_n 1, 1) := by decide +kernel
theorem dX8_readClause_37 : decode cX8_readClause 37 = .ok (.lookupswitch 71 #[(98, 50), (103, 57), (112, 64), (114, 43)], 43) := by decide +kernel
theorem dX8_readClause_80 : decode cX8_readClause 80 = .ok (.aload_n 0, 1) := by decide +kernel
theorem dX8_readClause_81 : decode cX8_readClause 81 = .ok (.invokevirtual 63, 3) := by decide +kernel
theorem dX8_readClause_84 : decode cX8_readClause 84 = .ok (.goto 28, 3) := by decide +kernel
theorem dX8_readClause_87 : decode cX8_readClause 87 = .ok (.aload_n 0, 1) := by decide +kernel
theorem dX8_readClause_88 : decode cX8_readClause 88 = .ok (.invokevirtual 66, 3) := by decide +kernel
theorem dX8_readClause_91 : decode cX8_readClause 91 = .ok (.goto 21, 3) := by decide +kernel
theorem dX8_readClause_94 : decode cX8_readClause 94 = .ok (.aload_n 0, 1) := by decide +kernel
theorem dX8_readClause_95 : decode cX8_readClause 95 = .ok (.invokevirtual 69, 3) := by decide +kernel
theorem dX8_readClause_98 : decode cX8_readClause 98 = .ok (.goto 14, 3) := by decide +kernel
theorem dX8_readClause_101 : decode cX8_readClause 101 = .ok (.aload_n 0, 1) := by decide +kernel
theorem dX8_readClause_102 : decode cX8_readClause 102 = .ok (.invokevirtual 72, 3) := by decide +kernel
theorem dX8_readClause_105 : decode cX8_readClause 105 = .ok (.goto 7, 3) := by decide +kernel
theorem dX8_readClause_108 : decode cX8_readClause 108 = .ok (.aload_n 0, 1) := by decide +kernel
theorem dX8_readClause_109 : decode cX8_readClause 109 = .ok (.invokevirtual 75, 3) := by decide +kernel
theorem dX8_readClause_112 : decode cX8_readClause 112 = .ok (.aload_n 0, 1) := by decide +kernel
theorem dX8_readClause_113 : decode cX8_readClause 113 = .ok (.invokevirtual 78, 3) := by decide +kernel
theorem dX8_readClause_116 : decode cX8_readClause 116 = .ok (.return_, 1) := by decide +kernel
set_option maxRecDepth 20000 in
theorem ggX8_faultOfWord_X2_isTold : GoodIn wsX8_faultOfWord wsX2_isTold := goodIn_r _ [10, 11, 20, 21, 22, 23, 24, 25, 26, 27, 28, 29] (by decide +kernel) (by decide +kernel)
set_option maxRecDepth 20000 in
theorem gX8_faultOfWord_X2_isTold : GoodIn wsX8_faultOfWord (wsV RX8 81 RX2 yX2_isTold wsX2_isTold) := goodIn_app (goodIn_of _ (by decide +kernel)) ggX8_faultOfWord_X2_isTold
theorem dX8_faultOfWord_0 : decode cX8_faultOfWord 0 = .ok (.iload_n 1, 1) := by decide +kernel
theorem dX8_faultOfWord_1 : decode cX8_faultOfWord 1 = .ok (.bipush 114, 2) := by decide +kernel
theorem dX8_faultOfWord_3 : decode cX8_faultOfWord 3 = .ok (.if_icmp .ne 19, 3) := by decide +kernel
theorem dX8_faultOfWord_6 : decode cX8_faultOfWord 6 = .ok (.aload_n 0, 1) := by decide +kernel
theorem dX8_faultOfWord_7 : decode cX8_faultOfWord 7 = .ok (.getfield 18, 3) := by decide +kernel
theorem dX8_faultOfWord_10 : decode cX8_faultOfWord 10 = .ok (.invokevirtual 81, 3) := by decide +kernel
theorem dX8_faultOfWord_13 : decode cX8_faultOfWord 13 = .ok (.ifCond .eq 7, 3) := by decide +kernel
theorem dX8_faultOfWord_16 : decode cX8_faultOfWord 16 = .ok (.iconst 3, 1) := by decide +kernel
theorem dX8_faultOfWord_17 : decode cX8_faultOfWord 17 = .ok (.goto 4, 3) := by decide +kernel
theorem dX8_faultOfWord_20 : decode cX8_faultOfWord 20 = .ok (.iconst 0, 1) := by decide +kernel
theorem dX8_faultOfWord_21 : decode cX8_faultOfWord 21 = .ok (.ireturn, 1) := by decide +kernel
theorem dX8_faultOfWord_22 : decode cX8_faultOfWord 22 = .ok (.aload_n 0, 1) := by decide +kernel
theorem dX8_faultOfWord_23 : decode cX8_faultOfWord 23 = .ok (.getfield 18, 3) := by decide +kernel
theorem dX8_faultOfWord_26 : decode cX8_faultOfWord 26 = .ok (.invokevirtual 81, 3) := by decide +kernel
theorem dX8_faultOfWord_29 : decode cX8_faultOfWord 29 = .ok (.ifCond .ne 5, 3) := by decide +kernel
theorem dX8_faultOfWord_32 : decode cX8_faultOfWord 32 = .ok (.iconst 1, 1) := by decide +kernel
theorem dX8_faultOfWord_33 : decode cX8_faultOfWord 33 = .ok (.ireturn, 1) := by decide +kernel
theorem dX8_faultOfWord_34 : decode cX8_faultOfWord 34 = .ok (.iload_n 1, 1) := by decide +kernel
theorem dX8_faultOfWord_35 : decode cX8_faultOfWord 35 = .ok (.lookupswitch 110 #[(98, 41), (103, 59), (108, 95), (112, 77)], 41) := by decide +kernel
theorem dX8_faultOfWord_76 : decode cX8_faultOfWord 76 = .ok (.aload_n 0, 1) := by decide +kernel
theorem dX8_faultOfWord_77 : decode cX8_faultOfWord 77 = .ok (.getfield 18, 3) := by decide +kernel
theorem dX8_faultOfWord_80 : decode cX8_faultOfWord 80 = .ok (.getfield 85, 3) := by decide +kernel
theorem dX8_faultOfWord_83 : decode cX8_faultOfWord 83 = .ok (.bipush 9, 2) := by decide +kernel
theorem dX8_faultOfWord_85 : decode cX8_faultOfWord 85 = .ok (.if_icmp .lt 7, 3) := by decide +kernel
theorem dX8_faultOfWord_88 : decode cX8_faultOfWord 88 = .ok (.iconst 3, 1) := by decide +kernel
theorem dX8_faultOfWord_89 : decode cX8_faultOfWord 89 = .ok (.goto 4, 3) := by decide +kernel
theorem dX8_faultOfWord_92 : decode cX8_faultOfWord 92 = .ok (.iconst 0, 1) := by decide +kernel
theorem dX8_faultOfWord_93 : decode cX8_faultOfWord 93 = .ok (.ireturn, 1) := by decide +kernel
theorem dX8_faultOfWord_94 : decode cX8_faultOfWord 94 = .ok (.aload_n 0, 1) := by decide +kernel
theorem dX8_faultOfWord_95 : decode cX8_faultOfWord 95 = .ok (.getfield 18, 3) := by decide +kernel
theorem dX8_faultOfWord_98 : decode cX8_faultOfWord 98 = .ok (.getfield 88, 3) := by decide +kernel
theorem dX8_faultOfWord_101 : decode cX8_faultOfWord 101 = .ok (.bipush 9, 2) := by decide +kernel
theorem dX8_faultOfWord_103 : decode cX8_faultOfWord 103 = .ok (.if_icmp .lt 7, 3) := by decide +kernel
theorem dX8_faultOfWord_106 : decode cX8_faultOfWord 106 = .ok (.iconst 3, 1) := by decide +kernel
theorem dX8_faultOfWord_107 : decode cX8_faultOfWord 107 = .ok (.goto 4, 3) := by decide +kernel
theorem dX8_faultOfWord_110 : decode cX8_faultOfWord 110 = .ok (.iconst 0, 1) := by decide +kernel
theorem dX8_faultOfWord_111 : decode cX8_faultOfWord 111 = .ok (.ireturn, 1) := by decide +kernel
theorem dX8_faultOfWord_112 : decode cX8_faultOfWord 112 = .ok (.aload_n 0, 1) := by decide +kernel
theorem dX8_faultOfWord_113 : decode cX8_faultOfWord 113 = .ok (.getfield 18, 3) := by decide +kernel
theorem dX8_faultOfWord_116 : decode cX8_faultOfWord 116 = .ok (.getfield 91, 3) := by decide +kernel
theorem dX8_faultOfWord_119 : decode cX8_faultOfWord 119 = .ok (.bipush 7, 2) := by decide +kernel
theorem dX8_faultOfWord_121 : decode cX8_faultOfWord 121 = .ok (.if_icmp .lt 7, 3) := by decide +kernel
theorem dX8_faultOfWord_124 : decode cX8_faultOfWord 124 = .ok (.iconst 3, 1) := by decide +kernel
theorem dX8_faultOfWord_125 : decode cX8_faultOfWord 125 = .ok (.goto 4, 3) := by decide +kernel
theorem dX8_faultOfWord_128 : decode cX8_faultOfWord 128 = .ok (.iconst 0, 1) := by decide +kernel
theorem dX8_faultOfWord_129 : decode cX8_faultOfWord 129 = .ok (.ireturn, 1) := by decide +kernel
theorem dX8_faultOfWord_130 : decode cX8_faultOfWord 130 = .ok (.aload_n 0, 1) := by decide +kernel
theorem dX8_faultOfWord_131 : decode cX8_faultOfWord 131 = .ok (.getfield 36, 3) := by decide +kernel
theorem dX8_faultOfWord_134 : decode cX8_faultOfWord 134 = .ok (.bipush 20, 2) := by decide +kernel
theorem dX8_faultOfWord_136 : decode cX8_faultOfWord 136 = .ok (.if_icmp .lt 7, 3) := by decide +kernel
theorem dX8_faultOfWord_139 : decode cX8_faultOfWord 139 = .ok (.iconst 3, 1) := by decide +kernel
theorem dX8_faultOfWord_140 : decode cX8_faultOfWord 140 = .ok (.goto 4, 3) := by decide +kernel
theorem dX8_faultOfWord_143 : decode cX8_faultOfWord 143 = .ok (.iconst 0, 1) := by decide +kernel
theorem dX8_faultOfWord_144 : decode cX8_faultOfWord 144 = .ok (.ireturn, 1) := by decide +kernel
theorem dX8_faultOfWord_145 : decode cX8_faultOfWord 145 = .ok (.iconst 1, 1) := by decide +kernel
theorem dX8_faultOfWord_146 : decode cX8_faultOfWord 146 = .ok (.ireturn, 1) := by decide +kernel
set_option maxRecDepth 20000 in
theorem ggX8_readRooms_X8_readNumber : GoodIn wsX8_readRooms wsX8_readNumber := goodIn_r _ [9, 1, 10, 11, 12, 13, 14, 15, 8, 16, 17, 18, 19, 20, 21, 22, 23, 24, 25, 26, 27, 28, 29, 32, 33, 34, 35, 36, 37, 38, 39] (by decide +kernel) (by decide +kernel)
set_option maxRecDepth 20000 in
theorem gX8_readRooms_X8_readNumber : GoodIn wsX8_readRooms (wsV RX8 94 RX8 yX8_readNumber wsX8_readNumber) := goodIn_app (goodIn_of _ (by decide +kernel)) ggX8_readRooms_X8_readNumber
set_option maxRecDepth 20000 in
theorem ggX8_readRooms_X10_bit : GoodIn wsX8_readRooms wsX10_bit := goodIn_r _ [31] (by decide +kernel) (by decide +kernel)
set_option maxRecDepth 20000 in
theorem gX8_readRooms_X10_bit_n98 : GoodIn wsX8_readRooms (wsX10_bit) := ggX8_readRooms_X10_bit
theorem dX8_readRooms_0 : decode cX8_readRooms 0 = .ok (.aload_n 0, 1) := by decide +kernel
theorem dX8_readRooms_1 : decode cX8_readRooms 1 = .ok (.iconst 2, 1) := by decide +kernel
theorem dX8_readRooms_2 : decode cX8_readRooms 2 = .ok (.bipush 6, 2) := by decide +kernel
theorem dX8_readRooms_4 : decode cX8_readRooms 4 = .ok (.invokevirtual 94, 3) := by decide +kernel
theorem dX8_readRooms_7 : decode cX8_readRooms 7 = .ok (.istore_n 1, 1) := by decide +kernel
theorem dX8_readRooms_8 : decode cX8_readRooms 8 = .ok (.aload_n 0, 1) := by decide +kernel
theorem dX8_readRooms_9 : decode cX8_readRooms 9 = .ok (.iconst 0, 1) := by decide +kernel
theorem dX8_readRooms_10 : decode cX8_readRooms 10 = .ok (.iload_n 1, 1) := by decide +kernel
theorem dX8_readRooms_11 : decode cX8_readRooms 11 = .ok (.invokestatic 98, 3) := by decide +kernel
theorem dX8_readRooms_14 : decode cX8_readRooms 14 = .ok (.iconst 1, 1) := by decide +kernel
theorem dX8_readRooms_15 : decode cX8_readRooms 15 = .ok (.isub, 1) := by decide +kernel
theorem dX8_readRooms_16 : decode cX8_readRooms 16 = .ok (.invokevirtual 94, 3) := by decide +kernel
theorem dX8_readRooms_19 : decode cX8_readRooms 19 = .ok (.istore_n 2, 1) := by decide +kernel
theorem dX8_readRooms_20 : decode cX8_readRooms 20 = .ok (.aload_n 0, 1) := by decide +kernel
theorem dX8_readRooms_21 : decode cX8_readRooms 21 = .ok (.getfield 39, 3) := by decide +kernel
theorem dX8_readRooms_24 : decode cX8_readRooms 24 = .ok (.ifCond .ne 19, 3) := by decide +kernel
theorem dX8_readRooms_27 : decode cX8_readRooms 27 = .ok (.aload_n 0, 1) := by decide +kernel
theorem dX8_readRooms_28 : decode cX8_readRooms 28 = .ok (.getfield 18, 3) := by decide +kernel
theorem dX8_readRooms_31 : decode cX8_readRooms 31 = .ok (.iload_n 1, 1) := by decide +kernel
theorem dX8_readRooms_32 : decode cX8_readRooms 32 = .ok (.putfield 101, 3) := by decide +kernel
theorem dX8_readRooms_35 : decode cX8_readRooms 35 = .ok (.aload_n 0, 1) := by decide +kernel
theorem dX8_readRooms_36 : decode cX8_readRooms 36 = .ok (.getfield 18, 3) := by decide +kernel
theorem dX8_readRooms_39 : decode cX8_readRooms 39 = .ok (.iload_n 2, 1) := by decide +kernel
theorem dX8_readRooms_40 : decode cX8_readRooms 40 = .ok (.putfield 104, 3) := by decide +kernel
theorem dX8_readRooms_43 : decode cX8_readRooms 43 = .ok (.return_, 1) := by decide +kernel
set_option maxRecDepth 20000 in
theorem ggX8_readBench_X8_readNumber : GoodIn wsX8_readBench wsX8_readNumber := goodIn_r _ [9, 4, 10, 3, 11, 12, 13, 14, 8, 15, 16, 17, 18, 19, 20, 21, 22, 23, 24, 25, 26, 27, 28, 48, 49, 50, 51, 52, 53, 54, 55] (by decide +kernel) (by decide +kernel)
set_option maxRecDepth 20000 in
theorem gX8_readBench_X8_readNumber : GoodIn wsX8_readBench (wsV RX8 94 RX8 yX8_readNumber wsX8_readNumber) := goodIn_app (goodIn_of _ (by decide +kernel)) ggX8_readBench_X8_readNumber
set_option maxRecDepth 20000 in
theorem ggX8_readBench_X2_isBench : GoodIn wsX8_readBench wsX2_isBench := goodIn_r _ [33, 34, 35, 22, 36, 37, 38, 56, 57, 58, 59, 60, 61, 62, 63, 64, 65] (by decide +kernel) (by decide +kernel)
set_option maxRecDepth 20000 in
theorem gX8_readBench_X2_isBench : GoodIn wsX8_readBench (wsV RX8 107 RX2 yX2_isBench wsX2_isBench) := goodIn_app (goodIn_of _ (by decide +kernel)) ggX8_readBench_X2_isBench
set_option maxRecDepth 20000 in
theorem ggX8_readBench_X8_blame : GoodIn wsX8_readBench wsX8_blame := goodIn_r _ [27, 4, 28, 48, 49, 50, 51, 52, 53, 54, 55] (by decide +kernel) (by decide +kernel)
set_option maxRecDepth 20000 in
theorem gX8_readBench_X8_blame : GoodIn wsX8_readBench (wsV RX8 59 RX8 yX8_blame wsX8_blame) := goodIn_app (goodIn_of _ (by decide +kernel)) ggX8_readBench_X8_blame
set_option maxRecDepth 20000 in
theorem ggX8_readBench_X2_addBench : GoodIn wsX8_readBench wsX2_addBench := goodIn_r _ [42, 34, 43, 35, 22, 36, 44, 45, 46, 47, 56, 57, 58, 59, 60, 61, 62, 63, 64, 65] (by decide +kernel) (by decide +kernel)
set_option maxRecDepth 20000 in
theorem gX8_readBench_X2_addBench : GoodIn wsX8_readBench (wsV RX8 114 RX2 yX2_addBench wsX2_addBench) := goodIn_app (goodIn_of _ (by decide +kernel)) ggX8_readBench_X2_addBench
theorem dX8_readBench_0 : decode cX8_readBench 0 = .ok (.aload_n 0, 1) := by decide +kernel
theorem dX8_readBench_1 : decode cX8_readBench 1 = .ok (.iconst 0, 1) := by decide +kernel
theorem dX8_readBench_2 : decode cX8_readBench 2 = .ok (.aload_n 0, 1) := by decide +kernel
theorem dX8_readBench_3 : decode cX8_readBench 3 = .ok (.getfield 18, 3) := by decide +kernel
theorem dX8_readBench_6 : decode cX8_readBench 6 = .ok (.getfield 101, 3) := by decide +kernel
theorem dX8_readBench_9 : decode cX8_readBench 9 = .ok (.iconst 1, 1) := by decide +kernel
theorem dX8_readBench_10 : decode cX8_readBench 10 = .ok (.isub, 1) := by decide +kernel
theorem dX8_readBench_11 : decode cX8_readBench 11 = .ok (.invokevirtual 94, 3) := by decide +kernel
theorem dX8_readBench_14 : decode cX8_readBench 14 = .ok (.istore_n 1, 1) := by decide +kernel
theorem dX8_readBench_15 : decode cX8_readBench 15 = .ok (.aload_n 0, 1) := by decide +kernel
theorem dX8_readBench_16 : decode cX8_readBench 16 = .ok (.iconst 0, 1) := by decide +kernel
theorem dX8_readBench_17 : decode cX8_readBench 17 = .ok (.aload_n 0, 1) := by decide +kernel
theorem dX8_readBench_18 : decode cX8_readBench 18 = .ok (.getfield 18, 3) := by decide +kernel
theorem dX8_readBench_21 : decode cX8_readBench 21 = .ok (.getfield 101, 3) := by decide +kernel
theorem dX8_readBench_24 : decode cX8_readBench 24 = .ok (.iconst 1, 1) := by decide +kernel
theorem dX8_readBench_25 : decode cX8_readBench 25 = .ok (.isub, 1) := by decide +kernel
theorem dX8_readBench_26 : decode cX8_readBench 26 = .ok (.invokevirtual 94, 3) := by decide +kernel
theorem dX8_readBench_29 : decode cX8_readBench 29 = .ok (.istore_n 2, 1) := by decide +kernel
theorem dX8_readBench_30 : decode cX8_readBench 30 = .ok (.aload_n 0, 1) := by decide +kernel
theorem dX8_readBench_31 : decode cX8_readBench 31 = .ok (.iload_n 1, 1) := by decide +kernel
theorem dX8_readBench_32 : decode cX8_readBench 32 = .ok (.iload_n 2, 1) := by decide +kernel
theorem dX8_readBench_33 : decode cX8_readBench 33 = .ok (.if_icmp .eq 15, 3) := by decide +kernel
theorem dX8_readBench_36 : decode cX8_readBench 36 = .ok (.aload_n 0, 1) := by decide +kernel
theorem dX8_readBench_37 : decode cX8_readBench 37 = .ok (.getfield 18, 3) := by decide +kernel
theorem dX8_readBench_40 : decode cX8_readBench 40 = .ok (.iload_n 1, 1) := by decide +kernel
theorem dX8_readBench_41 : decode cX8_readBench 41 = .ok (.iload_n 2, 1) := by decide +kernel
theorem dX8_readBench_42 : decode cX8_readBench 42 = .ok (.invokevirtual 107, 3) := by decide +kernel
theorem dX8_readBench_45 : decode cX8_readBench 45 = .ok (.ifCond .eq 7, 3) := by decide +kernel
theorem dX8_readBench_48 : decode cX8_readBench 48 = .ok (.iconst 4, 1) := by decide +kernel
theorem dX8_readBench_49 : decode cX8_readBench 49 = .ok (.goto 4, 3) := by decide +kernel
theorem dX8_readBench_52 : decode cX8_readBench 52 = .ok (.iconst 0, 1) := by decide +kernel
theorem dX8_readBench_53 : decode cX8_readBench 53 = .ok (.aload_n 0, 1) := by decide +kernel
theorem dX8_readBench_54 : decode cX8_readBench 54 = .ok (.getfield 111, 3) := by decide +kernel
theorem dX8_readBench_57 : decode cX8_readBench 57 = .ok (.invokevirtual 59, 3) := by decide +kernel
theorem dX8_readBench_60 : decode cX8_readBench 60 = .ok (.aload_n 0, 1) := by decide +kernel
theorem dX8_readBench_61 : decode cX8_readBench 61 = .ok (.getfield 39, 3) := by decide +kernel
theorem dX8_readBench_64 : decode cX8_readBench 64 = .ok (.ifCond .ne 12, 3) := by decide +kernel
theorem dX8_readBench_67 : decode cX8_readBench 67 = .ok (.aload_n 0, 1) := by decide +kernel
theorem dX8_readBench_68 : decode cX8_readBench 68 = .ok (.getfield 18, 3) := by decide +kernel
theorem dX8_readBench_71 : decode cX8_readBench 71 = .ok (.iload_n 1, 1) := by decide +kernel
theorem dX8_readBench_72 : decode cX8_readBench 72 = .ok (.iload_n 2, 1) := by decide +kernel
theorem dX8_readBench_73 : decode cX8_readBench 73 = .ok (.invokevirtual 114, 3) := by decide +kernel
theorem dX8_readBench_76 : decode cX8_readBench 76 = .ok (.return_, 1) := by decide +kernel
set_option maxRecDepth 20000 in
theorem ggX8_readWay_X8_readNumber : GoodIn wsX8_readWay wsX8_readNumber := goodIn_r _ [9, 4, 10, 3, 11, 12, 13, 14, 8, 15, 16, 17, 18, 19, 20, 21, 22, 23, 24, 25, 26, 27, 28, 48, 49, 50, 51, 52, 53, 54, 55] (by decide +kernel) (by decide +kernel)
set_option maxRecDepth 20000 in
theorem gX8_readWay_X8_readNumber : GoodIn wsX8_readWay (wsV RX8 94 RX8 yX8_readNumber wsX8_readNumber) := goodIn_app (goodIn_of _ (by decide +kernel)) ggX8_readWay_X8_readNumber
set_option maxRecDepth 20000 in
theorem ggX8_readWay_X2_isWay : GoodIn wsX8_readWay wsX2_isWay := goodIn_r _ [33, 34, 35, 22, 36, 37, 38, 56, 57, 58, 59, 60, 61, 62, 63, 64, 65] (by decide +kernel) (by decide +kernel)
set_option maxRecDepth 20000 in
theorem gX8_readWay_X2_isWay : GoodIn wsX8_readWay (wsV RX8 117 RX2 yX2_isWay wsX2_isWay) := goodIn_app (goodIn_of _ (by decide +kernel)) ggX8_readWay_X2_isWay
set_option maxRecDepth 20000 in
theorem ggX8_readWay_X8_blame : GoodIn wsX8_readWay wsX8_blame := goodIn_r _ [27, 4, 28, 48, 49, 50, 51, 52, 53, 54, 55] (by decide +kernel) (by decide +kernel)
set_option maxRecDepth 20000 in
theorem gX8_readWay_X8_blame : GoodIn wsX8_readWay (wsV RX8 59 RX8 yX8_blame wsX8_blame) := goodIn_app (goodIn_of _ (by decide +kernel)) ggX8_readWay_X8_blame
set_option maxRecDepth 20000 in
theorem ggX8_readWay_X2_addWay : GoodIn wsX8_readWay wsX2_addWay := goodIn_r _ [42, 34, 43, 35, 22, 36, 44, 45, 46, 47, 56, 57, 58, 59, 60, 61, 62, 63, 64, 65] (by decide +kernel) (by decide +kernel)
set_option maxRecDepth 20000 in
theorem gX8_readWay_X2_addWay : GoodIn wsX8_readWay (wsV RX8 120 RX2 yX2_addWay wsX2_addWay) := goodIn_app (goodIn_of _ (by decide +kernel)) ggX8_readWay_X2_addWay
theorem dX8_readWay_0 : decode cX8_readWay 0 = .ok (.aload_n 0, 1) := by decide +kernel
theorem dX8_readWay_1 : decode cX8_readWay 1 = .ok (.iconst 0, 1) := by decide +kernel
theorem dX8_readWay_2 : decode cX8_readWay 2 = .ok (.aload_n 0, 1) := by decide +kernel
theorem dX8_readWay_3 : decode cX8_readWay 3 = .ok (.getfield 18, 3) := by decide +kernel
theorem dX8_readWay_6 : decode cX8_readWay 6 = .ok (.getfield 101, 3) := by decide +kernel
theorem dX8_readWay_9 : decode cX8_readWay 9 = .ok (.iconst 1, 1) := by decide +kernel
theorem dX8_readWay_10 : decode cX8_readWay 10 = .ok (.isub, 1) := by decide +kernel
theorem dX8_readWay_11 : decode cX8_readWay 11 = .ok (.invokevirtual 94, 3) := by decide +kernel
theorem dX8_readWay_14 : decode cX8_readWay 14 = .ok (.istore_n 1, 1) := by decide +kernel
theorem dX8_readWay_15 : decode cX8_readWay 15 = .ok (.aload_n 0, 1) := by decide +kernel
theorem dX8_readWay_16 : decode cX8_readWay 16 = .ok (.iconst 0, 1) := by decide +kernel
theorem dX8_readWay_17 : decode cX8_readWay 17 = .ok (.aload_n 0, 1) := by decide +kernel
theorem dX8_readWay_18 : decode cX8_readWay 18 = .ok (.getfield 18, 3) := by decide +kernel
theorem dX8_readWay_21 : decode cX8_readWay 21 = .ok (.getfield 101, 3) := by decide +kernel
theorem dX8_readWay_24 : decode cX8_readWay 24 = .ok (.iconst 1, 1) := by decide +kernel
theorem dX8_readWay_25 : decode cX8_readWay 25 = .ok (.isub, 1) := by decide +kernel
theorem dX8_readWay_26 : decode cX8_readWay 26 = .ok (.invokevirtual 94, 3) := by decide +kernel
theorem dX8_readWay_29 : decode cX8_readWay 29 = .ok (.istore_n 2, 1) := by decide +kernel
theorem dX8_readWay_30 : decode cX8_readWay 30 = .ok (.aload_n 0, 1) := by decide +kernel
theorem dX8_readWay_31 : decode cX8_readWay 31 = .ok (.iload_n 1, 1) := by decide +kernel
theorem dX8_readWay_32 : decode cX8_readWay 32 = .ok (.iload_n 2, 1) := by decide +kernel
theorem dX8_readWay_33 : decode cX8_readWay 33 = .ok (.if_icmp .eq 15, 3) := by decide +kernel
theorem dX8_readWay_36 : decode cX8_readWay 36 = .ok (.aload_n 0, 1) := by decide +kernel
theorem dX8_readWay_37 : decode cX8_readWay 37 = .ok (.getfield 18, 3) := by decide +kernel
theorem dX8_readWay_40 : decode cX8_readWay 40 = .ok (.iload_n 1, 1) := by decide +kernel
theorem dX8_readWay_41 : decode cX8_readWay 41 = .ok (.iload_n 2, 1) := by decide +kernel
theorem dX8_readWay_42 : decode cX8_readWay 42 = .ok (.invokevirtual 117, 3) := by decide +kernel
theorem dX8_readWay_45 : decode cX8_readWay 45 = .ok (.ifCond .eq 7, 3) := by decide +kernel
theorem dX8_readWay_48 : decode cX8_readWay 48 = .ok (.iconst 4, 1) := by decide +kernel
theorem dX8_readWay_49 : decode cX8_readWay 49 = .ok (.goto 4, 3) := by decide +kernel
theorem dX8_readWay_52 : decode cX8_readWay 52 = .ok (.iconst 0, 1) := by decide +kernel
theorem dX8_readWay_53 : decode cX8_readWay 53 = .ok (.aload_n 0, 1) := by decide +kernel
theorem dX8_readWay_54 : decode cX8_readWay 54 = .ok (.getfield 111, 3) := by decide +kernel
theorem dX8_readWay_57 : decode cX8_readWay 57 = .ok (.invokevirtual 59, 3) := by decide +kernel
theorem dX8_readWay_60 : decode cX8_readWay 60 = .ok (.aload_n 0, 1) := by decide +kernel
theorem dX8_readWay_61 : decode cX8_readWay 61 = .ok (.getfield 39, 3) := by decide +kernel
theorem dX8_readWay_64 : decode cX8_readWay 64 = .ok (.ifCond .ne 12, 3) := by decide +kernel
theorem dX8_readWay_67 : decode cX8_readWay 67 = .ok (.aload_n 0, 1) := by decide +kernel
theorem dX8_readWay_68 : decode cX8_readWay 68 = .ok (.getfield 18, 3) := by decide +kernel
theorem dX8_readWay_71 : decode cX8_readWay 71 = .ok (.iload_n 1, 1) := by decide +kernel
theorem dX8_readWay_72 : decode cX8_readWay 72 = .ok (.iload_n 2, 1) := by decide +kernel
theorem dX8_readWay_73 : decode cX8_readWay 73 = .ok (.invokevirtual 120, 3) := by decide +kernel
theorem dX8_readWay_76 : decode cX8_readWay 76 = .ok (.return_, 1) := by decide +kernel
set_option maxRecDepth 20000 in
theorem ggX8_readPerson_X8_readNumber : GoodIn wsX8_readPerson wsX8_readNumber := goodIn_r _ [8, 3, 9, 10, 11, 12, 13, 14, 7, 15, 16, 17, 18, 19, 20, 21, 22, 23, 24, 25, 26, 27, 28, 39, 40, 41, 42, 43, 44, 45, 46] (by decide +kernel) (by decide +kernel)
set_option maxRecDepth 20000 in
theorem gX8_readPerson_X8_readNumber : GoodIn wsX8_readPerson (wsV RX8 94 RX8 yX8_readNumber wsX8_readNumber) := goodIn_app (goodIn_of _ (by decide +kernel)) ggX8_readPerson_X8_readNumber
set_option maxRecDepth 20000 in
theorem ggX8_readPerson_X2_addPerson : GoodIn wsX8_readPerson wsX2_addPerson := goodIn_r _ [33, 34, 35, 36, 37, 22, 38, 47, 48, 49, 50, 51, 52, 53, 54, 55, 56] (by decide +kernel) (by decide +kernel)
set_option maxRecDepth 20000 in
theorem gX8_readPerson_X2_addPerson : GoodIn wsX8_readPerson (wsV RX8 123 RX2 yX2_addPerson wsX2_addPerson) := goodIn_app (goodIn_of _ (by decide +kernel)) ggX8_readPerson_X2_addPerson
theorem dX8_readPerson_0 : decode cX8_readPerson 0 = .ok (.aload_n 0, 1) := by decide +kernel
theorem dX8_readPerson_1 : decode cX8_readPerson 1 = .ok (.iconst 0, 1) := by decide +kernel
theorem dX8_readPerson_2 : decode cX8_readPerson 2 = .ok (.iconst 3, 1) := by decide +kernel
theorem dX8_readPerson_3 : decode cX8_readPerson 3 = .ok (.invokevirtual 94, 3) := by decide +kernel
theorem dX8_readPerson_6 : decode cX8_readPerson 6 = .ok (.istore_n 1, 1) := by decide +kernel
theorem dX8_readPerson_7 : decode cX8_readPerson 7 = .ok (.aload_n 0, 1) := by decide +kernel
theorem dX8_readPerson_8 : decode cX8_readPerson 8 = .ok (.iconst 0, 1) := by decide +kernel
theorem dX8_readPerson_9 : decode cX8_readPerson 9 = .ok (.aload_n 0, 1) := by decide +kernel
theorem dX8_readPerson_10 : decode cX8_readPerson 10 = .ok (.getfield 18, 3) := by decide +kernel
theorem dX8_readPerson_13 : decode cX8_readPerson 13 = .ok (.getfield 101, 3) := by decide +kernel
theorem dX8_readPerson_16 : decode cX8_readPerson 16 = .ok (.iconst 1, 1) := by decide +kernel
theorem dX8_readPerson_17 : decode cX8_readPerson 17 = .ok (.isub, 1) := by decide +kernel
theorem dX8_readPerson_18 : decode cX8_readPerson 18 = .ok (.invokevirtual 94, 3) := by decide +kernel
theorem dX8_readPerson_21 : decode cX8_readPerson 21 = .ok (.istore_n 2, 1) := by decide +kernel
theorem dX8_readPerson_22 : decode cX8_readPerson 22 = .ok (.aload_n 0, 1) := by decide +kernel
theorem dX8_readPerson_23 : decode cX8_readPerson 23 = .ok (.getfield 39, 3) := by decide +kernel
theorem dX8_readPerson_26 : decode cX8_readPerson 26 = .ok (.ifCond .ne 12, 3) := by decide +kernel
theorem dX8_readPerson_29 : decode cX8_readPerson 29 = .ok (.aload_n 0, 1) := by decide +kernel
theorem dX8_readPerson_30 : decode cX8_readPerson 30 = .ok (.getfield 18, 3) := by decide +kernel
theorem dX8_readPerson_33 : decode cX8_readPerson 33 = .ok (.iload_n 1, 1) := by decide +kernel
theorem dX8_readPerson_34 : decode cX8_readPerson 34 = .ok (.iload_n 2, 1) := by decide +kernel
theorem dX8_readPerson_35 : decode cX8_readPerson 35 = .ok (.invokevirtual 123, 3) := by decide +kernel
theorem dX8_readPerson_38 : decode cX8_readPerson 38 = .ok (.return_, 1) := by decide +kernel
set_option maxRecDepth 20000 in
theorem ggX8_readLiking_X8_readNumber : GoodIn wsX8_readLiking wsX8_readNumber := goodIn_r _ [10, 4, 11, 3, 12, 13, 14, 15, 9, 16, 17, 18, 19, 20, 21, 22, 23, 24, 25, 26, 27, 28, 29, 40, 41, 42, 43, 44, 45, 46, 47] (by decide +kernel) (by decide +kernel)
set_option maxRecDepth 20000 in
theorem gX8_readLiking_X8_readNumber : GoodIn wsX8_readLiking (wsV RX8 94 RX8 yX8_readNumber wsX8_readNumber) := goodIn_app (goodIn_of _ (by decide +kernel)) ggX8_readLiking_X8_readNumber
set_option maxRecDepth 20000 in
theorem ggX8_readLiking_X8_blame : GoodIn wsX8_readLiking wsX8_blame := goodIn_r _ [28, 4, 29, 40, 41, 42, 43, 44, 45, 46, 47] (by decide +kernel) (by decide +kernel)
set_option maxRecDepth 20000 in
theorem gX8_readLiking_X8_blame : GoodIn wsX8_readLiking (wsV RX8 59 RX8 yX8_blame wsX8_blame) := goodIn_app (goodIn_of _ (by decide +kernel)) ggX8_readLiking_X8_blame
set_option maxRecDepth 20000 in
theorem ggX8_readLiking_X2_addLiking : GoodIn wsX8_readLiking wsX2_addLiking := goodIn_r _ [34, 35, 36, 23, 37, 38, 39, 48, 49, 50, 51, 52, 53, 54, 55, 56, 57] (by decide +kernel) (by decide +kernel)
set_option maxRecDepth 20000 in
theorem gX8_readLiking_X2_addLiking : GoodIn wsX8_readLiking (wsV RX8 126 RX2 yX2_addLiking wsX2_addLiking) := goodIn_app (goodIn_of _ (by decide +kernel)) ggX8_readLiking_X2_addLiking
theorem dX8_readLiking_0 : decode cX8_readLiking 0 = .ok (.aload_n 0, 1) := by decide +kernel
theorem dX8_readLiking_1 : decode cX8_readLiking 1 = .ok (.iconst 0, 1) := by decide +kernel
theorem dX8_readLiking_2 : decode cX8_readLiking 2 = .ok (.aload_n 0, 1) := by decide +kernel
theorem dX8_readLiking_3 : decode cX8_readLiking 3 = .ok (.getfield 18, 3) := by decide +kernel
theorem dX8_readLiking_6 : decode cX8_readLiking 6 = .ok (.getfield 91, 3) := by decide +kernel
theorem dX8_readLiking_9 : decode cX8_readLiking 9 = .ok (.iconst 1, 1) := by decide +kernel
theorem dX8_readLiking_10 : decode cX8_readLiking 10 = .ok (.isub, 1) := by decide +kernel
theorem dX8_readLiking_11 : decode cX8_readLiking 11 = .ok (.invokevirtual 94, 3) := by decide +kernel
theorem dX8_readLiking_14 : decode cX8_readLiking 14 = .ok (.istore_n 1, 1) := by decide +kernel
theorem dX8_readLiking_15 : decode cX8_readLiking 15 = .ok (.aload_n 0, 1) := by decide +kernel
theorem dX8_readLiking_16 : decode cX8_readLiking 16 = .ok (.iconst 0, 1) := by decide +kernel
theorem dX8_readLiking_17 : decode cX8_readLiking 17 = .ok (.aload_n 0, 1) := by decide +kernel
theorem dX8_readLiking_18 : decode cX8_readLiking 18 = .ok (.getfield 18, 3) := by decide +kernel
theorem dX8_readLiking_21 : decode cX8_readLiking 21 = .ok (.getfield 91, 3) := by decide +kernel
theorem dX8_readLiking_24 : decode cX8_readLiking 24 = .ok (.iconst 1, 1) := by decide +kernel
theorem dX8_readLiking_25 : decode cX8_readLiking 25 = .ok (.isub, 1) := by decide +kernel
theorem dX8_readLiking_26 : decode cX8_readLiking 26 = .ok (.invokevirtual 94, 3) := by decide +kernel
theorem dX8_readLiking_29 : decode cX8_readLiking 29 = .ok (.istore_n 2, 1) := by decide +kernel
theorem dX8_readLiking_30 : decode cX8_readLiking 30 = .ok (.aload_n 0, 1) := by decide +kernel
theorem dX8_readLiking_31 : decode cX8_readLiking 31 = .ok (.iload_n 1, 1) := by decide +kernel
theorem dX8_readLiking_32 : decode cX8_readLiking 32 = .ok (.iload_n 2, 1) := by decide +kernel
theorem dX8_readLiking_33 : decode cX8_readLiking 33 = .ok (.if_icmp .ne 7, 3) := by decide +kernel
theorem dX8_readLiking_36 : decode cX8_readLiking 36 = .ok (.iconst 4, 1) := by decide +kernel
theorem dX8_readLiking_37 : decode cX8_readLiking 37 = .ok (.goto 4, 3) := by decide +kernel
theorem dX8_readLiking_40 : decode cX8_readLiking 40 = .ok (.iconst 0, 1) := by decide +kernel
theorem dX8_readLiking_41 : decode cX8_readLiking 41 = .ok (.aload_n 0, 1) := by decide +kernel
theorem dX8_readLiking_42 : decode cX8_readLiking 42 = .ok (.getfield 111, 3) := by decide +kernel
theorem dX8_readLiking_45 : decode cX8_readLiking 45 = .ok (.invokevirtual 59, 3) := by decide +kernel
theorem dX8_readLiking_48 : decode cX8_readLiking 48 = .ok (.aload_n 0, 1) := by decide +kernel
theorem dX8_readLiking_49 : decode cX8_readLiking 49 = .ok (.iconst 0, 1) := by decide +kernel
theorem dX8_readLiking_50 : decode cX8_readLiking 50 = .ok (.bipush 9, 2) := by decide +kernel
theorem dX8_readLiking_52 : decode cX8_readLiking 52 = .ok (.invokevirtual 94, 3) := by decide +kernel
theorem dX8_readLiking_55 : decode cX8_readLiking 55 = .ok (.istore_n 3, 1) := by decide +kernel
theorem dX8_readLiking_56 : decode cX8_readLiking 56 = .ok (.aload_n 0, 1) := by decide +kernel
theorem dX8_readLiking_57 : decode cX8_readLiking 57 = .ok (.getfield 39, 3) := by decide +kernel
theorem dX8_readLiking_60 : decode cX8_readLiking 60 = .ok (.ifCond .ne 23, 3) := by decide +kernel
theorem dX8_readLiking_63 : decode cX8_readLiking 63 = .ok (.aload_n 0, 1) := by decide +kernel
theorem dX8_readLiking_64 : decode cX8_readLiking 64 = .ok (.getfield 18, 3) := by decide +kernel
theorem dX8_readLiking_67 : decode cX8_readLiking 67 = .ok (.iload_n 1, 1) := by decide +kernel
theorem dX8_readLiking_68 : decode cX8_readLiking 68 = .ok (.iload_n 2, 1) := by decide +kernel
theorem dX8_readLiking_69 : decode cX8_readLiking 69 = .ok (.iload_n 3, 1) := by decide +kernel
theorem dX8_readLiking_70 : decode cX8_readLiking 70 = .ok (.invokevirtual 126, 3) := by decide +kernel
theorem dX8_readLiking_73 : decode cX8_readLiking 73 = .ok (.aload_n 0, 1) := by decide +kernel
theorem dX8_readLiking_74 : decode cX8_readLiking 74 = .ok (.dup, 1) := by decide +kernel
theorem dX8_readLiking_75 : decode cX8_readLiking 75 = .ok (.getfield 36, 3) := by decide +kernel
theorem dX8_readLiking_78 : decode cX8_readLiking 78 = .ok (.iconst 1, 1) := by decide +kernel
theorem dX8_readLiking_79 : decode cX8_readLiking 79 = .ok (.iadd, 1) := by decide +kernel
theorem dX8_readLiking_80 : decode cX8_readLiking 80 = .ok (.putfield 36, 3) := by decide +kernel
theorem dX8_readLiking_83 : decode cX8_readLiking 83 = .ok (.return_, 1) := by decide +kernel
set_option maxRecDepth 20000 in
theorem ggX8_readEnd_X8_skipBlanks : GoodIn wsX8_readEnd wsX8_skipBlanks := goodIn_r _ [6, 1, 7, 8, 9, 10, 5, 11, 12, 19, 20, 21, 22, 23, 24, 25, 26] (by decide +kernel) (by decide +kernel)
set_option maxRecDepth 20000 in
theorem gX8_readEnd_X8_skipBlanks : GoodIn wsX8_readEnd (wsV RX8 45 RX8 yX8_skipBlanks wsX8_skipBlanks) := goodIn_app (goodIn_of _ (by decide +kernel)) ggX8_readEnd_X8_skipBlanks
set_option maxRecDepth 20000 in
theorem ggX8_readEnd_X8_letter : GoodIn wsX8_readEnd wsX8_letter := goodIn_r _ [11, 1, 7, 12, 19, 20, 21, 22, 23, 24, 25, 26] (by decide +kernel) (by decide +kernel)
set_option maxRecDepth 20000 in
theorem gX8_readEnd_X8_letter : GoodIn wsX8_readEnd (wsV RX8 51 RX8 yX8_letter wsX8_letter) := goodIn_app (goodIn_of _ (by decide +kernel)) ggX8_readEnd_X8_letter
set_option maxRecDepth 20000 in
theorem ggX8_readEnd_X8_blame : GoodIn wsX8_readEnd wsX8_blame := goodIn_r _ [16, 17, 18, 19, 20, 21, 22, 23, 24, 25, 26] (by decide +kernel) (by decide +kernel)
set_option maxRecDepth 20000 in
theorem gX8_readEnd_X8_blame : GoodIn wsX8_readEnd (wsV RX8 59 RX8 yX8_blame wsX8_blame) := goodIn_app (goodIn_of _ (by decide +kernel)) ggX8_readEnd_X8_blame
theorem dX8_readEnd_0 : decode cX8_readEnd 0 = .ok (.aload_n 0, 1) := by decide +kernel
theorem dX8_readEnd_1 : decode cX8_readEnd 1 = .ok (.invokevirtual 45, 3) := by decide +kernel
theorem dX8_readEnd_4 : decode cX8_readEnd 4 = .ok (.aload_n 0, 1) := by decide +kernel
theorem dX8_readEnd_5 : decode cX8_readEnd 5 = .ok (.aload_n 0, 1) := by decide +kernel
theorem dX8_readEnd_6 : decode cX8_readEnd 6 = .ok (.invokevirtual 51, 3) := by decide +kernel
theorem dX8_readEnd_9 : decode cX8_readEnd 9 = .ok (.bipush 59, 2) := by decide +kernel
theorem dX8_readEnd_11 : decode cX8_readEnd 11 = .ok (.if_icmp .ne 7, 3) := by decide +kernel
theorem dX8_readEnd_14 : decode cX8_readEnd 14 = .ok (.iconst 0, 1) := by decide +kernel
theorem dX8_readEnd_15 : decode cX8_readEnd 15 = .ok (.goto 4, 3) := by decide +kernel
theorem dX8_readEnd_18 : decode cX8_readEnd 18 = .ok (.iconst 1, 1) := by decide +kernel
theorem dX8_readEnd_19 : decode cX8_readEnd 19 = .ok (.aload_n 0, 1) := by decide +kernel
theorem dX8_readEnd_20 : decode cX8_readEnd 20 = .ok (.getfield 42, 3) := by decide +kernel
theorem dX8_readEnd_23 : decode cX8_readEnd 23 = .ok (.invokevirtual 59, 3) := by decide +kernel
theorem dX8_readEnd_26 : decode cX8_readEnd 26 = .ok (.aload_n 0, 1) := by decide +kernel
theorem dX8_readEnd_27 : decode cX8_readEnd 27 = .ok (.dup, 1) := by decide +kernel
theorem dX8_readEnd_28 : decode cX8_readEnd 28 = .ok (.getfield 42, 3) := by decide +kernel
theorem dX8_readEnd_31 : decode cX8_readEnd 31 = .ok (.iconst 1, 1) := by decide +kernel
theorem dX8_readEnd_32 : decode cX8_readEnd 32 = .ok (.iadd, 1) := by decide +kernel
theorem dX8_readEnd_33 : decode cX8_readEnd 33 = .ok (.putfield 42, 3) := by decide +kernel
theorem dX8_readEnd_36 : decode cX8_readEnd 36 = .ok (.return_, 1) := by decide +kernel
set_option maxRecDepth 20000 in
theorem ggX8_readNumber_X8_skipBlanks : GoodIn wsX8_readNumber wsX8_skipBlanks := goodIn_r _ [9, 2, 4, 10, 11, 12, 8, 13, 14, 23, 24, 25, 26, 27, 28, 29, 30] (by decide +kernel) (by decide +kernel)
set_option maxRecDepth 20000 in
theorem gX8_readNumber_X8_skipBlanks : GoodIn wsX8_readNumber (wsV RX8 45 RX8 yX8_skipBlanks wsX8_skipBlanks) := goodIn_app (goodIn_of _ (by decide +kernel)) ggX8_readNumber_X8_skipBlanks
set_option maxRecDepth 20000 in
theorem ggX8_readNumber_X8_letter : GoodIn wsX8_readNumber wsX8_letter := goodIn_r _ [13, 2, 4, 14, 23, 24, 25, 26, 27, 28, 29, 30] (by decide +kernel) (by decide +kernel)
set_option maxRecDepth 20000 in
theorem gX8_readNumber_X8_letter : GoodIn wsX8_readNumber (wsV RX8 51 RX8 yX8_letter wsX8_letter) := goodIn_app (goodIn_of _ (by decide +kernel)) ggX8_readNumber_X8_letter
set_option maxRecDepth 20000 in
theorem ggX8_readNumber_X10_within : GoodIn wsX8_readNumber wsX10_within := goodIn_r _ [17] (by decide +kernel) (by decide +kernel)
set_option maxRecDepth 20000 in
theorem gX8_readNumber_X10_within_n130 : GoodIn wsX8_readNumber (wsX10_within) := ggX8_readNumber_X10_within
set_option maxRecDepth 20000 in
theorem ggX8_readNumber_X8_blame : GoodIn wsX8_readNumber wsX8_blame := goodIn_r _ [21, 1, 22, 23, 24, 25, 26, 27, 28, 29, 30] (by decide +kernel) (by decide +kernel)
set_option maxRecDepth 20000 in
theorem gX8_readNumber_X8_blame : GoodIn wsX8_readNumber (wsV RX8 59 RX8 yX8_blame wsX8_blame) := goodIn_app (goodIn_of _ (by decide +kernel)) ggX8_readNumber_X8_blame
theorem dX8_readNumber_0 : decode cX8_readNumber 0 = .ok (.aload_n 0, 1) := by decide +kernel
theorem dX8_readNumber_1 : decode cX8_readNumber 1 = .ok (.getfield 39, 3) := by decide +kernel
theorem dX8_readNumber_4 : decode cX8_readNumber 4 = .ok (.ifCond .eq 5, 3) := by decide +kernel
theorem dX8_readNumber_7 : decode cX8_readNumber 7 = .ok (.iconst 0, 1) := by decide +kernel
theorem dX8_readNumber_8 : decode cX8_readNumber 8 = .ok (.ireturn, 1) := by decide +kernel
theorem dX8_readNumber_9 : decode cX8_readNumber 9 = .ok (.aload_n 0, 1) := by decide +kernel
theorem dX8_readNumber_10 : decode cX8_readNumber 10 = .ok (.invokevirtual 45, 3) := by decide +kernel
theorem dX8_readNumber_13 : decode cX8_readNumber 13 = .ok (.aload_n 0, 1) := by decide +kernel
theorem dX8_readNumber_14 : decode cX8_readNumber 14 = .ok (.aload_n 0, 1) := by decide +kernel
theorem dX8_readNumber_15 : decode cX8_readNumber 15 = .ok (.getfield 42, 3) := by decide +kernel
theorem dX8_readNumber_18 : decode cX8_readNumber 18 = .ok (.putfield 111, 3) := by decide +kernel
theorem dX8_readNumber_21 : decode cX8_readNumber 21 = .ok (.iconst 0, 1) := by decide +kernel
theorem dX8_readNumber_22 : decode cX8_readNumber 22 = .ok (.istore_n 3, 1) := by decide +kernel
theorem dX8_readNumber_23 : decode cX8_readNumber 23 = .ok (.iconst 0, 1) := by decide +kernel
theorem dX8_readNumber_24 : decode cX8_readNumber 24 = .ok (.istore 4, 2) := by decide +kernel
theorem dX8_readNumber_26 : decode cX8_readNumber 26 = .ok (.aload_n 0, 1) := by decide +kernel
theorem dX8_readNumber_27 : decode cX8_readNumber 27 = .ok (.getfield 42, 3) := by decide +kernel
theorem dX8_readNumber_30 : decode cX8_readNumber 30 = .ok (.aload_n 0, 1) := by decide +kernel
theorem dX8_readNumber_31 : decode cX8_readNumber 31 = .ok (.getfield 26, 3) := by decide +kernel
theorem dX8_readNumber_34 : decode cX8_readNumber 34 = .ok (.if_icmp .ge 58, 3) := by decide +kernel
theorem dX8_readNumber_37 : decode cX8_readNumber 37 = .ok (.aload_n 0, 1) := by decide +kernel
theorem dX8_readNumber_38 : decode cX8_readNumber 38 = .ok (.invokevirtual 51, 3) := by decide +kernel
theorem dX8_readNumber_41 : decode cX8_readNumber 41 = .ok (.bipush 48, 2) := by decide +kernel
theorem dX8_readNumber_43 : decode cX8_readNumber 43 = .ok (.bipush 57, 2) := by decide +kernel
theorem dX8_readNumber_45 : decode cX8_readNumber 45 = .ok (.invokestatic 130, 3) := by decide +kernel
theorem dX8_readNumber_48 : decode cX8_readNumber 48 = .ok (.ifCond .eq 44, 3) := by decide +kernel
theorem dX8_readNumber_51 : decode cX8_readNumber 51 = .ok (.iload_n 3, 1) := by decide +kernel
theorem dX8_readNumber_52 : decode cX8_readNumber 52 = .ok (.iconst 3, 1) := by decide +kernel
theorem dX8_readNumber_53 : decode cX8_readNumber 53 = .ok (.if_icmp .ge 19, 3) := by decide +kernel
theorem dX8_readNumber_56 : decode cX8_readNumber 56 = .ok (.iload 4, 2) := by decide +kernel
theorem dX8_readNumber_58 : decode cX8_readNumber 58 = .ok (.bipush 10, 2) := by decide +kernel
theorem dX8_readNumber_60 : decode cX8_readNumber 60 = .ok (.imul, 1) := by decide +kernel
theorem dX8_readNumber_61 : decode cX8_readNumber 61 = .ok (.aload_n 0, 1) := by decide +kernel
theorem dX8_readNumber_62 : decode cX8_readNumber 62 = .ok (.invokevirtual 51, 3) := by decide +kernel
theorem dX8_readNumber_65 : decode cX8_readNumber 65 = .ok (.iadd, 1) := by decide +kernel
theorem dX8_readNumber_66 : decode cX8_readNumber 66 = .ok (.bipush 48, 2) := by decide +kernel
theorem dX8_readNumber_68 : decode cX8_readNumber 68 = .ok (.isub, 1) := by decide +kernel
theorem dX8_readNumber_69 : decode cX8_readNumber 69 = .ok (.goto 5, 3) := by decide +kernel
theorem dX8_readNumber_72 : decode cX8_readNumber 72 = .ok (.iload 4, 2) := by decide +kernel
theorem dX8_readNumber_74 : decode cX8_readNumber 74 = .ok (.istore 4, 2) := by decide +kernel
theorem dX8_readNumber_76 : decode cX8_readNumber 76 = .ok (.iinc 3 1, 3) := by decide +kernel
theorem dX8_readNumber_79 : decode cX8_readNumber 79 = .ok (.aload_n 0, 1) := by decide +kernel
theorem dX8_readNumber_80 : decode cX8_readNumber 80 = .ok (.dup, 1) := by decide +kernel
theorem dX8_readNumber_81 : decode cX8_readNumber 81 = .ok (.getfield 42, 3) := by decide +kernel
theorem dX8_readNumber_84 : decode cX8_readNumber 84 = .ok (.iconst 1, 1) := by decide +kernel
theorem dX8_readNumber_85 : decode cX8_readNumber 85 = .ok (.iadd, 1) := by decide +kernel
theorem dX8_readNumber_86 : decode cX8_readNumber 86 = .ok (.putfield 42, 3) := by decide +kernel
theorem dX8_readNumber_89 : decode cX8_readNumber 89 = .ok (.goto (-63), 3) := by decide +kernel
theorem dX8_readNumber_92 : decode cX8_readNumber 92 = .ok (.iload_n 3, 1) := by decide +kernel
theorem dX8_readNumber_93 : decode cX8_readNumber 93 = .ok (.ifCond .ne 15, 3) := by decide +kernel
theorem dX8_readNumber_96 : decode cX8_readNumber 96 = .ok (.aload_n 0, 1) := by decide +kernel
theorem dX8_readNumber_97 : decode cX8_readNumber 97 = .ok (.iconst 1, 1) := by decide +kernel
theorem dX8_readNumber_98 : decode cX8_readNumber 98 = .ok (.aload_n 0, 1) := by decide +kernel
theorem dX8_readNumber_99 : decode cX8_readNumber 99 = .ok (.getfield 111, 3) := by decide +kernel
theorem dX8_readNumber_102 : decode cX8_readNumber 102 = .ok (.invokevirtual 59, 3) := by decide +kernel
theorem dX8_readNumber_105 : decode cX8_readNumber 105 = .ok (.goto 27, 3) := by decide +kernel
theorem dX8_readNumber_108 : decode cX8_readNumber 108 = .ok (.iload_n 3, 1) := by decide +kernel
theorem dX8_readNumber_109 : decode cX8_readNumber 109 = .ok (.iconst 3, 1) := by decide +kernel
theorem dX8_readNumber_110 : decode cX8_readNumber 110 = .ok (.if_icmp .gt 13, 3) := by decide +kernel
theorem dX8_readNumber_113 : decode cX8_readNumber 113 = .ok (.iload 4, 2) := by decide +kernel
theorem dX8_readNumber_115 : decode cX8_readNumber 115 = .ok (.iload_n 1, 1) := by decide +kernel
theorem dX8_readNumber_116 : decode cX8_readNumber 116 = .ok (.iload_n 2, 1) := by decide +kernel
theorem dX8_readNumber_117 : decode cX8_readNumber 117 = .ok (.invokestatic 130, 3) := by decide +kernel
theorem dX8_readNumber_120 : decode cX8_readNumber 120 = .ok (.ifCond .ne 12, 3) := by decide +kernel
theorem dX8_readNumber_123 : decode cX8_readNumber 123 = .ok (.aload_n 0, 1) := by decide +kernel
theorem dX8_readNumber_124 : decode cX8_readNumber 124 = .ok (.iconst 2, 1) := by decide +kernel
theorem dX8_readNumber_125 : decode cX8_readNumber 125 = .ok (.aload_n 0, 1) := by decide +kernel
theorem dX8_readNumber_126 : decode cX8_readNumber 126 = .ok (.getfield 111, 3) := by decide +kernel
theorem dX8_readNumber_129 : decode cX8_readNumber 129 = .ok (.invokevirtual 59, 3) := by decide +kernel
theorem dX8_readNumber_132 : decode cX8_readNumber 132 = .ok (.iload 4, 2) := by decide +kernel
theorem dX8_readNumber_134 : decode cX8_readNumber 134 = .ok (.ireturn, 1) := by decide +kernel
set_option maxRecDepth 20000 in
theorem ggX8_skipBlanks_X8_letter : GoodIn wsX8_skipBlanks wsX8_letter := goodIn_r _ [7, 1, 2, 8, 9, 10, 11, 12, 13, 14, 15, 16] (by decide +kernel) (by decide +kernel)
set_option maxRecDepth 20000 in
theorem gX8_skipBlanks_X8_letter : GoodIn wsX8_skipBlanks (wsV RX8 51 RX8 yX8_letter wsX8_letter) := goodIn_app (goodIn_of _ (by decide +kernel)) ggX8_skipBlanks_X8_letter
theorem dX8_skipBlanks_0 : decode cX8_skipBlanks 0 = .ok (.aload_n 0, 1) := by decide +kernel
theorem dX8_skipBlanks_1 : decode cX8_skipBlanks 1 = .ok (.getfield 42, 3) := by decide +kernel
theorem dX8_skipBlanks_4 : decode cX8_skipBlanks 4 = .ok (.aload_n 0, 1) := by decide +kernel
theorem dX8_skipBlanks_5 : decode cX8_skipBlanks 5 = .ok (.getfield 26, 3) := by decide +kernel
theorem dX8_skipBlanks_8 : decode cX8_skipBlanks 8 = .ok (.if_icmp .ge 25, 3) := by decide +kernel
theorem dX8_skipBlanks_11 : decode cX8_skipBlanks 11 = .ok (.aload_n 0, 1) := by decide +kernel
theorem dX8_skipBlanks_12 : decode cX8_skipBlanks 12 = .ok (.invokevirtual 51, 3) := by decide +kernel
theorem dX8_skipBlanks_15 : decode cX8_skipBlanks 15 = .ok (.bipush 32, 2) := by decide +kernel
theorem dX8_skipBlanks_17 : decode cX8_skipBlanks 17 = .ok (.if_icmp .ne 16, 3) := by decide +kernel
theorem dX8_skipBlanks_20 : decode cX8_skipBlanks 20 = .ok (.aload_n 0, 1) := by decide +kernel
theorem dX8_skipBlanks_21 : decode cX8_skipBlanks 21 = .ok (.dup, 1) := by decide +kernel
theorem dX8_skipBlanks_22 : decode cX8_skipBlanks 22 = .ok (.getfield 42, 3) := by decide +kernel
theorem dX8_skipBlanks_25 : decode cX8_skipBlanks 25 = .ok (.iconst 1, 1) := by decide +kernel
theorem dX8_skipBlanks_26 : decode cX8_skipBlanks 26 = .ok (.iadd, 1) := by decide +kernel
theorem dX8_skipBlanks_27 : decode cX8_skipBlanks 27 = .ok (.putfield 42, 3) := by decide +kernel
theorem dX8_skipBlanks_30 : decode cX8_skipBlanks 30 = .ok (.goto (-30), 3) := by decide +kernel
theorem dX8_skipBlanks_33 : decode cX8_skipBlanks 33 = .ok (.return_, 1) := by decide +kernel
theorem dX8_letter_0 : decode cX8_letter 0 = .ok (.aload_n 0, 1) := by decide +kernel
theorem dX8_letter_1 : decode cX8_letter 1 = .ok (.getfield 42, 3) := by decide +kernel
theorem dX8_letter_4 : decode cX8_letter 4 = .ok (.ifCond .lt 38, 3) := by decide +kernel
theorem dX8_letter_7 : decode cX8_letter 7 = .ok (.aload_n 0, 1) := by decide +kernel
theorem dX8_letter_8 : decode cX8_letter 8 = .ok (.getfield 42, 3) := by decide +kernel
theorem dX8_letter_11 : decode cX8_letter 11 = .ok (.aload_n 0, 1) := by decide +kernel
theorem dX8_letter_12 : decode cX8_letter 12 = .ok (.getfield 26, 3) := by decide +kernel
theorem dX8_letter_15 : decode cX8_letter 15 = .ok (.if_icmp .ge 27, 3) := by decide +kernel
theorem dX8_letter_18 : decode cX8_letter 18 = .ok (.aload_n 0, 1) := by decide +kernel
theorem dX8_letter_19 : decode cX8_letter 19 = .ok (.getfield 42, 3) := by decide +kernel
theorem dX8_letter_22 : decode cX8_letter 22 = .ok (.aload_n 0, 1) := by decide +kernel
theorem dX8_letter_23 : decode cX8_letter 23 = .ok (.getfield 9, 3) := by decide +kernel
theorem dX8_letter_26 : decode cX8_letter 26 = .ok (.arraylength, 1) := by decide +kernel
theorem dX8_letter_27 : decode cX8_letter 27 = .ok (.if_icmp .ge 15, 3) := by decide +kernel
theorem dX8_letter_30 : decode cX8_letter 30 = .ok (.aload_n 0, 1) := by decide +kernel
theorem dX8_letter_31 : decode cX8_letter 31 = .ok (.getfield 9, 3) := by decide +kernel
theorem dX8_letter_34 : decode cX8_letter 34 = .ok (.aload_n 0, 1) := by decide +kernel
theorem dX8_letter_35 : decode cX8_letter 35 = .ok (.getfield 42, 3) := by decide +kernel
theorem dX8_letter_38 : decode cX8_letter 38 = .ok (.iaload, 1) := by decide +kernel
theorem dX8_letter_39 : decode cX8_letter 39 = .ok (.goto 4, 3) := by decide +kernel
theorem dX8_letter_42 : decode cX8_letter 42 = .ok (.iconst (-1), 1) := by decide +kernel
theorem dX8_letter_43 : decode cX8_letter 43 = .ok (.ireturn, 1) := by decide +kernel
theorem dX8_blame_0 : decode cX8_blame 0 = .ok (.aload_n 0, 1) := by decide +kernel
theorem dX8_blame_1 : decode cX8_blame 1 = .ok (.getfield 39, 3) := by decide +kernel
theorem dX8_blame_4 : decode cX8_blame 4 = .ok (.ifCond .ne 17, 3) := by decide +kernel
theorem dX8_blame_7 : decode cX8_blame 7 = .ok (.iload_n 1, 1) := by decide +kernel
theorem dX8_blame_8 : decode cX8_blame 8 = .ok (.ifCond .eq 13, 3) := by decide +kernel
theorem dX8_blame_11 : decode cX8_blame 11 = .ok (.aload_n 0, 1) := by decide +kernel
theorem dX8_blame_12 : decode cX8_blame 12 = .ok (.iload_n 1, 1) := by decide +kernel
theorem dX8_blame_13 : decode cX8_blame 13 = .ok (.putfield 39, 3) := by decide +kernel
theorem dX8_blame_16 : decode cX8_blame 16 = .ok (.aload_n 0, 1) := by decide +kernel
theorem dX8_blame_17 : decode cX8_blame 17 = .ok (.iload_n 2, 1) := by decide +kernel
theorem dX8_blame_18 : decode cX8_blame 18 = .ok (.putfield 22, 3) := by decide +kernel
theorem dX8_blame_21 : decode cX8_blame 21 = .ok (.return_, 1) := by decide +kernel
theorem dX9_init_0 : decode cX9_init 0 = .ok (.aload_n 0, 1) := by decide +kernel
theorem dX9_init_1 : decode cX9_init 1 = .ok (.invokespecial 3, 3) := by decide +kernel
theorem dX9_init_4 : decode cX9_init 4 = .ok (.aload_n 0, 1) := by decide +kernel
theorem dX9_init_5 : decode cX9_init 5 = .ok (.bipush 6, 2) := by decide +kernel
theorem dX9_init_7 : decode cX9_init 7 = .ok (.newarray .int, 2) := by decide +kernel
theorem dX9_init_9 : decode cX9_init 9 = .ok (.putfield 9, 3) := by decide +kernel
theorem dX9_init_12 : decode cX9_init 12 = .ok (.aload_n 0, 1) := by decide +kernel
theorem dX9_init_13 : decode cX9_init 13 = .ok (.bipush 6, 2) := by decide +kernel
theorem dX9_init_15 : decode cX9_init 15 = .ok (.newarray .int, 2) := by decide +kernel
theorem dX9_init_17 : decode cX9_init 17 = .ok (.putfield 15, 3) := by decide +kernel
theorem dX9_init_20 : decode cX9_init 20 = .ok (.aload_n 0, 1) := by decide +kernel
theorem dX9_init_21 : decode cX9_init 21 = .ok (.aload_n 1, 1) := by decide +kernel
theorem dX9_init_22 : decode cX9_init 22 = .ok (.putfield 18, 3) := by decide +kernel
theorem dX9_init_25 : decode cX9_init 25 = .ok (.aload_n 0, 1) := by decide +kernel
theorem dX9_init_26 : decode cX9_init 26 = .ok (.aload_n 2, 1) := by decide +kernel
theorem dX9_init_27 : decode cX9_init 27 = .ok (.putfield 22, 3) := by decide +kernel
theorem dX9_init_30 : decode cX9_init 30 = .ok (.aload_n 0, 1) := by decide +kernel
theorem dX9_init_31 : decode cX9_init 31 = .ok (.aload_n 3, 1) := by decide +kernel
theorem dX9_init_32 : decode cX9_init 32 = .ok (.putfield 26, 3) := by decide +kernel
theorem dX9_init_35 : decode cX9_init 35 = .ok (.return_, 1) := by decide +kernel
set_option maxRecDepth 20000 in
theorem ggX9_heardIn_X4_speakerOf : GoodIn wsX9_heardIn wsX4_speakerOf := goodIn_r _ [10, 11, 12, 13, 14, 15, 16, 50, 51, 52, 53, 54, 55, 56, 57, 58, 59, 60, 61] (by decide +kernel) (by decide +kernel)
set_option maxRecDepth 20000 in
theorem gX9_heardIn_X4_speakerOf : GoodIn wsX9_heardIn (wsV RX9 36 RX4 yX4_speakerOf wsX4_speakerOf) := goodIn_app (goodIn_of _ (by decide +kernel)) ggX9_heardIn_X4_speakerOf
set_option maxRecDepth 20000 in
theorem ggX9_heardIn_X10_at : GoodIn wsX9_heardIn wsX10_at := goodIn_r _ [19] (by decide +kernel) (by decide +kernel)
set_option maxRecDepth 20000 in
theorem gX9_heardIn_X10_at_n45 : GoodIn wsX9_heardIn (wsX10_at) := ggX9_heardIn_X10_at
set_option maxRecDepth 20000 in
theorem ggX9_heardIn_X4_reaches : GoodIn wsX9_heardIn wsX4_reaches := goodIn_r _ [23, 11, 24, 17, 18, 19, 25, 26, 50, 51, 52, 53, 54, 55, 56, 57, 58, 59, 60, 61] (by decide +kernel) (by decide +kernel)
set_option maxRecDepth 20000 in
theorem gX9_heardIn_X4_reaches : GoodIn wsX9_heardIn (wsV RX9 49 RX4 yX4_reaches wsX4_reaches) := goodIn_app (goodIn_of _ (by decide +kernel)) ggX9_heardIn_X4_reaches
set_option maxRecDepth 20000 in
theorem ggX9_heardIn_X10_has : GoodIn wsX9_heardIn wsX10_has := goodIn_r _ [26] (by decide +kernel) (by decide +kernel)
set_option maxRecDepth 20000 in
theorem gX9_heardIn_X10_has_n56 : GoodIn wsX9_heardIn (wsX10_has) := ggX9_heardIn_X10_has
set_option maxRecDepth 20000 in
theorem ggX9_heardIn_X4_says : GoodIn wsX9_heardIn wsX4_says := goodIn_r _ [30, 11, 31, 32, 33, 17, 18, 19, 34, 21, 22, 9, 23, 24, 25, 26, 35, 36, 37, 38, 50, 51, 52, 53, 54, 55, 56, 57, 58, 59, 60, 61, 44, 45, 46, 47, 48, 49] (by decide +kernel) (by decide +kernel)
set_option maxRecDepth 20000 in
theorem gX9_heardIn_X4_says : GoodIn wsX9_heardIn (wsV RX9 59 RX4 yX4_says wsX4_says) := goodIn_app (goodIn_of _ (by decide +kernel)) ggX9_heardIn_X4_says
theorem dX9_heardIn_0 : decode cX9_heardIn 0 = .ok (.aload_n 0, 1) := by decide +kernel
theorem dX9_heardIn_1 : decode cX9_heardIn 1 = .ok (.getfield 26, 3) := by decide +kernel
theorem dX9_heardIn_4 : decode cX9_heardIn 4 = .ok (.iload_n 1, 1) := by decide +kernel
theorem dX9_heardIn_5 : decode cX9_heardIn 5 = .ok (.aload_n 0, 1) := by decide +kernel
theorem dX9_heardIn_6 : decode cX9_heardIn 6 = .ok (.getfield 22, 3) := by decide +kernel
theorem dX9_heardIn_9 : decode cX9_heardIn 9 = .ok (.getfield 30, 3) := by decide +kernel
theorem dX9_heardIn_12 : decode cX9_heardIn 12 = .ok (.iload_n 3, 1) := by decide +kernel
theorem dX9_heardIn_13 : decode cX9_heardIn 13 = .ok (.iadd, 1) := by decide +kernel
theorem dX9_heardIn_14 : decode cX9_heardIn 14 = .ok (.invokevirtual 36, 3) := by decide +kernel
theorem dX9_heardIn_17 : decode cX9_heardIn 17 = .ok (.istore 4, 2) := by decide +kernel
theorem dX9_heardIn_19 : decode cX9_heardIn 19 = .ok (.aload_n 0, 1) := by decide +kernel
theorem dX9_heardIn_20 : decode cX9_heardIn 20 = .ok (.getfield 22, 3) := by decide +kernel
theorem dX9_heardIn_23 : decode cX9_heardIn 23 = .ok (.getfield 42, 3) := by decide +kernel
theorem dX9_heardIn_26 : decode cX9_heardIn 26 = .ok (.iload 4, 2) := by decide +kernel
theorem dX9_heardIn_28 : decode cX9_heardIn 28 = .ok (.invokestatic 45, 3) := by decide +kernel
theorem dX9_heardIn_31 : decode cX9_heardIn 31 = .ok (.istore 5, 2) := by decide +kernel
theorem dX9_heardIn_33 : decode cX9_heardIn 33 = .ok (.iload 4, 2) := by decide +kernel
theorem dX9_heardIn_35 : decode cX9_heardIn 35 = .ok (.iload_n 1, 1) := by decide +kernel
theorem dX9_heardIn_36 : decode cX9_heardIn 36 = .ok (.if_icmp .eq 16, 3) := by decide +kernel
theorem dX9_heardIn_39 : decode cX9_heardIn 39 = .ok (.aload_n 0, 1) := by decide +kernel
theorem dX9_heardIn_40 : decode cX9_heardIn 40 = .ok (.getfield 26, 3) := by decide +kernel
theorem dX9_heardIn_43 : decode cX9_heardIn 43 = .ok (.iload 5, 2) := by decide +kernel
theorem dX9_heardIn_45 : decode cX9_heardIn 45 = .ok (.iload_n 2, 1) := by decide +kernel
theorem dX9_heardIn_46 : decode cX9_heardIn 46 = .ok (.invokevirtual 49, 3) := by decide +kernel
theorem dX9_heardIn_49 : decode cX9_heardIn 49 = .ok (.ifCond .ne 5, 3) := by decide +kernel
theorem dX9_heardIn_52 : decode cX9_heardIn 52 = .ok (.iconst 0, 1) := by decide +kernel
theorem dX9_heardIn_53 : decode cX9_heardIn 53 = .ok (.ireturn, 1) := by decide +kernel
theorem dX9_heardIn_54 : decode cX9_heardIn 54 = .ok (.aload_n 0, 1) := by decide +kernel
theorem dX9_heardIn_55 : decode cX9_heardIn 55 = .ok (.getfield 26, 3) := by decide +kernel
theorem dX9_heardIn_58 : decode cX9_heardIn 58 = .ok (.iload 4, 2) := by decide +kernel
theorem dX9_heardIn_60 : decode cX9_heardIn 60 = .ok (.iload 5, 2) := by decide +kernel
theorem dX9_heardIn_62 : decode cX9_heardIn 62 = .ok (.iload_n 1, 1) := by decide +kernel
theorem dX9_heardIn_63 : decode cX9_heardIn 63 = .ok (.iload_n 2, 1) := by decide +kernel
theorem dX9_heardIn_64 : decode cX9_heardIn 64 = .ok (.iload_n 3, 1) := by decide +kernel
theorem dX9_heardIn_65 : decode cX9_heardIn 65 = .ok (.ifCond .ne 21, 3) := by decide +kernel
theorem dX9_heardIn_68 : decode cX9_heardIn 68 = .ok (.aload_n 0, 1) := by decide +kernel
theorem dX9_heardIn_69 : decode cX9_heardIn 69 = .ok (.getfield 22, 3) := by decide +kernel
theorem dX9_heardIn_72 : decode cX9_heardIn 72 = .ok (.getfield 53, 3) := by decide +kernel
theorem dX9_heardIn_75 : decode cX9_heardIn 75 = .ok (.iload_n 1, 1) := by decide +kernel
theorem dX9_heardIn_76 : decode cX9_heardIn 76 = .ok (.invokestatic 56, 3) := by decide +kernel
theorem dX9_heardIn_79 : decode cX9_heardIn 79 = .ok (.ifCond .eq 7, 3) := by decide +kernel
theorem dX9_heardIn_82 : decode cX9_heardIn 82 = .ok (.iconst 1, 1) := by decide +kernel
theorem dX9_heardIn_83 : decode cX9_heardIn 83 = .ok (.goto 4, 3) := by decide +kernel
theorem dX9_heardIn_86 : decode cX9_heardIn 86 = .ok (.iconst 0, 1) := by decide +kernel
theorem dX9_heardIn_87 : decode cX9_heardIn 87 = .ok (.invokevirtual 59, 3) := by decide +kernel
theorem dX9_heardIn_90 : decode cX9_heardIn 90 = .ok (.ireturn, 1) := by decide +kernel
set_option maxRecDepth 20000 in
theorem ggX9_warmBehind_X10_at : GoodIn wsX9_warmBehind wsX10_at := goodIn_r _ [6] (by decide +kernel) (by decide +kernel)
set_option maxRecDepth 20000 in
theorem gX9_warmBehind_X10_at_n45 : GoodIn wsX9_warmBehind (wsX10_at) := ggX9_warmBehind_X10_at
set_option maxRecDepth 20000 in
theorem ggX9_warmBehind_X9_heardIn : GoodIn wsX9_warmBehind wsX9_heardIn := goodIn_r _ [11, 3, 1, 12, 13, 14, 15, 16, 17, 18, 19, 20, 21, 22, 23, 24, 25, 4, 5, 6, 26, 27, 28, 29, 30, 31, 32, 33, 34, 35, 36, 37, 38, 39, 40, 41, 42, 43, 44, 58, 59, 60, 61, 62, 63, 64, 65, 66, 67, 68, 69, 70, 71, 72, 73, 74, 75, 76, 77, 78, 79, 80] (by decide +kernel) (by decide +kernel)
set_option maxRecDepth 20000 in
theorem gX9_warmBehind_X9_heardIn : GoodIn wsX9_warmBehind (wsV RX9 66 RX9 yX9_heardIn wsX9_heardIn) := goodIn_app (goodIn_of _ (by decide +kernel)) ggX9_warmBehind_X9_heardIn
set_option maxRecDepth 20000 in
theorem ggX9_warmBehind_X4_warmer : GoodIn wsX9_warmBehind wsX4_warmer := goodIn_r _ [48, 49, 5, 50, 51, 52, 53, 54, 55, 56, 57] (by decide +kernel) (by decide +kernel)
set_option maxRecDepth 20000 in
theorem gX9_warmBehind_X4_warmer : GoodIn wsX9_warmBehind (wsV RX9 70 RX4 yX4_warmer wsX4_warmer) := goodIn_app (goodIn_of _ (by decide +kernel)) ggX9_warmBehind_X4_warmer
theorem dX9_warmBehind_0 : decode cX9_warmBehind 0 = .ok (.aload_n 0, 1) := by decide +kernel
theorem dX9_warmBehind_1 : decode cX9_warmBehind 1 = .ok (.getfield 22, 3) := by decide +kernel
theorem dX9_warmBehind_4 : decode cX9_warmBehind 4 = .ok (.getfield 63, 3) := by decide +kernel
theorem dX9_warmBehind_7 : decode cX9_warmBehind 7 = .ok (.iload_n 1, 1) := by decide +kernel
theorem dX9_warmBehind_8 : decode cX9_warmBehind 8 = .ok (.invokestatic 45, 3) := by decide +kernel
theorem dX9_warmBehind_11 : decode cX9_warmBehind 11 = .ok (.istore 4, 2) := by decide +kernel
theorem dX9_warmBehind_13 : decode cX9_warmBehind 13 = .ok (.iconst 0, 1) := by decide +kernel
theorem dX9_warmBehind_14 : decode cX9_warmBehind 14 = .ok (.istore 5, 2) := by decide +kernel
theorem dX9_warmBehind_16 : decode cX9_warmBehind 16 = .ok (.iload 5, 2) := by decide +kernel
theorem dX9_warmBehind_18 : decode cX9_warmBehind 18 = .ok (.iload_n 3, 1) := by decide +kernel
theorem dX9_warmBehind_19 : decode cX9_warmBehind 19 = .ok (.if_icmp .ge 28, 3) := by decide +kernel
theorem dX9_warmBehind_22 : decode cX9_warmBehind 22 = .ok (.aload_n 0, 1) := by decide +kernel
theorem dX9_warmBehind_23 : decode cX9_warmBehind 23 = .ok (.getfield 26, 3) := by decide +kernel
theorem dX9_warmBehind_26 : decode cX9_warmBehind 26 = .ok (.iload 4, 2) := by decide +kernel
theorem dX9_warmBehind_28 : decode cX9_warmBehind 28 = .ok (.aload_n 0, 1) := by decide +kernel
theorem dX9_warmBehind_29 : decode cX9_warmBehind 29 = .ok (.iload_n 1, 1) := by decide +kernel
theorem dX9_warmBehind_30 : decode cX9_warmBehind 30 = .ok (.iload_n 2, 1) := by decide +kernel
theorem dX9_warmBehind_31 : decode cX9_warmBehind 31 = .ok (.iload 5, 2) := by decide +kernel
theorem dX9_warmBehind_33 : decode cX9_warmBehind 33 = .ok (.invokevirtual 66, 3) := by decide +kernel
theorem dX9_warmBehind_36 : decode cX9_warmBehind 36 = .ok (.invokevirtual 70, 3) := by decide +kernel
theorem dX9_warmBehind_39 : decode cX9_warmBehind 39 = .ok (.istore 4, 2) := by decide +kernel
theorem dX9_warmBehind_41 : decode cX9_warmBehind 41 = .ok (.iinc 5 1, 3) := by decide +kernel
theorem dX9_warmBehind_44 : decode cX9_warmBehind 44 = .ok (.goto (-28), 3) := by decide +kernel
theorem dX9_warmBehind_47 : decode cX9_warmBehind 47 = .ok (.iload 4, 2) := by decide +kernel
theorem dX9_warmBehind_49 : decode cX9_warmBehind 49 = .ok (.ireturn, 1) := by decide +kernel
set_option maxRecDepth 20000 in
theorem ggX9_warmestRoom_X9_warmBehind : GoodIn wsX9_warmestRoom wsX9_warmBehind := goodIn_r _ [7, 8, 9, 10, 11, 12, 13, 14, 15, 16, 6, 17, 18, 19, 20, 21, 22, 23, 24, 25, 26, 27, 28, 29, 30, 31, 32, 33, 34, 35, 36, 37, 38, 39, 40, 41, 42, 43, 44, 45, 46, 47, 48, 49, 50, 51, 52, 53, 54, 55, 56, 57, 58, 59, 60, 61, 62, 63, 64, 65, 66, 67, 68, 79, 80, 81, 82, 83, 84, 85, 86, 69, 70, 71, 72, 73, 74, 75, 76, 77, 78] (by decide +kernel) (by decide +kernel)
set_option maxRecDepth 20000 in
theorem gX9_warmestRoom_X9_warmBehind : GoodIn wsX9_warmestRoom (wsV RX9 73 RX9 yX9_warmBehind wsX9_warmBehind) := goodIn_app (goodIn_of _ (by decide +kernel)) ggX9_warmestRoom_X9_warmBehind
theorem dX9_warmestRoom_0 : decode cX9_warmestRoom 0 = .ok (.iconst 0, 1) := by decide +kernel
theorem dX9_warmestRoom_1 : decode cX9_warmestRoom 1 = .ok (.istore_n 3, 1) := by decide +kernel
theorem dX9_warmestRoom_2 : decode cX9_warmestRoom 2 = .ok (.aload_n 0, 1) := by decide +kernel
theorem dX9_warmestRoom_3 : decode cX9_warmestRoom 3 = .ok (.iload_n 1, 1) := by decide +kernel
theorem dX9_warmestRoom_4 : decode cX9_warmestRoom 4 = .ok (.iconst 0, 1) := by decide +kernel
theorem dX9_warmestRoom_5 : decode cX9_warmestRoom 5 = .ok (.iload_n 2, 1) := by decide +kernel
theorem dX9_warmestRoom_6 : decode cX9_warmestRoom 6 = .ok (.invokevirtual 73, 3) := by decide +kernel
theorem dX9_warmestRoom_9 : decode cX9_warmestRoom 9 = .ok (.istore 4, 2) := by decide +kernel
theorem dX9_warmestRoom_11 : decode cX9_warmestRoom 11 = .ok (.iconst 1, 1) := by decide +kernel
theorem dX9_warmestRoom_12 : decode cX9_warmestRoom 12 = .ok (.istore 5, 2) := by decide +kernel
theorem dX9_warmestRoom_14 : decode cX9_warmestRoom 14 = .ok (.iload 5, 2) := by decide +kernel
theorem dX9_warmestRoom_16 : decode cX9_warmestRoom 16 = .ok (.aload_n 0, 1) := by decide +kernel
theorem dX9_warmestRoom_17 : decode cX9_warmestRoom 17 = .ok (.getfield 18, 3) := by decide +kernel
theorem dX9_warmestRoom_20 : decode cX9_warmestRoom 20 = .ok (.getfield 76, 3) := by decide +kernel
theorem dX9_warmestRoom_23 : decode cX9_warmestRoom 23 = .ok (.if_icmp .ge 33, 3) := by decide +kernel
theorem dX9_warmestRoom_26 : decode cX9_warmestRoom 26 = .ok (.aload_n 0, 1) := by decide +kernel
theorem dX9_warmestRoom_27 : decode cX9_warmestRoom 27 = .ok (.iload_n 1, 1) := by decide +kernel
theorem dX9_warmestRoom_28 : decode cX9_warmestRoom 28 = .ok (.iload 5, 2) := by decide +kernel
theorem dX9_warmestRoom_30 : decode cX9_warmestRoom 30 = .ok (.iload_n 2, 1) := by decide +kernel
theorem dX9_warmestRoom_31 : decode cX9_warmestRoom 31 = .ok (.invokevirtual 73, 3) := by decide +kernel
theorem dX9_warmestRoom_34 : decode cX9_warmestRoom 34 = .ok (.istore 6, 2) := by decide +kernel
theorem dX9_warmestRoom_36 : decode cX9_warmestRoom 36 = .ok (.iload 6, 2) := by decide +kernel
theorem dX9_warmestRoom_38 : decode cX9_warmestRoom 38 = .ok (.iload 4, 2) := by decide +kernel
theorem dX9_warmestRoom_40 : decode cX9_warmestRoom 40 = .ok (.if_icmp .le 10, 3) := by decide +kernel
theorem dX9_warmestRoom_43 : decode cX9_warmestRoom 43 = .ok (.iload 6, 2) := by decide +kernel
theorem dX9_warmestRoom_45 : decode cX9_warmestRoom 45 = .ok (.istore 4, 2) := by decide +kernel
theorem dX9_warmestRoom_47 : decode cX9_warmestRoom 47 = .ok (.iload 5, 2) := by decide +kernel
theorem dX9_warmestRoom_49 : decode cX9_warmestRoom 49 = .ok (.istore_n 3, 1) := by decide +kernel
theorem dX9_warmestRoom_50 : decode cX9_warmestRoom 50 = .ok (.iinc 5 1, 3) := by decide +kernel
theorem dX9_warmestRoom_53 : decode cX9_warmestRoom 53 = .ok (.goto (-39), 3) := by decide +kernel
theorem dX9_warmestRoom_56 : decode cX9_warmestRoom 56 = .ok (.iload_n 3, 1) := by decide +kernel
theorem dX9_warmestRoom_57 : decode cX9_warmestRoom 57 = .ok (.ireturn, 1) := by decide +kernel
set_option maxRecDepth 20000 in
theorem ggX9_firstOfRoute_J7_fill_53178 : GoodIn wsX9_firstOfRoute wsJ7_fill_53178 := goodIn_r _ [10] (by decide +kernel) (by decide +kernel)
set_option maxRecDepth 20000 in
theorem gX9_firstOfRoute_J7_fill_53178 : GoodIn wsX9_firstOfRoute (va_wsS RX9 80 yJ7_fill_53178 wsJ7_fill_53178) := goodIn_app (goodIn_of _ (by decide +kernel)) ggX9_firstOfRoute_J7_fill_53178
set_option maxRecDepth 20000 in
theorem ggX9_firstOfRoute_X9_heardIn : GoodIn wsX9_firstOfRoute wsX9_heardIn := goodIn_r _ [15, 16, 5, 17, 6, 18, 19, 20, 21, 22, 23, 24, 25, 26, 27, 28, 29, 30, 31, 32, 33, 34, 35, 36, 37, 38, 39, 40, 41, 42, 43, 44, 45, 46, 47, 48, 49, 50, 51, 68, 69, 70, 71, 72, 83, 84, 85, 86, 87, 88, 89, 90, 73, 74, 75, 76, 77, 78, 79, 80, 81, 82] (by decide +kernel) (by decide +kernel)
set_option maxRecDepth 20000 in
theorem gX9_firstOfRoute_X9_heardIn : GoodIn wsX9_firstOfRoute (wsV RX9 66 RX9 yX9_heardIn wsX9_heardIn) := goodIn_app (goodIn_of _ (by decide +kernel)) ggX9_firstOfRoute_X9_heardIn
set_option maxRecDepth 20000 in
theorem ggX9_firstOfRoute_X10_at : GoodIn wsX9_firstOfRoute wsX10_at := goodIn_r _ [32] (by decide +kernel) (by decide +kernel)
set_option maxRecDepth 20000 in
theorem gX9_firstOfRoute_X10_at_n45 : GoodIn wsX9_firstOfRoute (wsX10_at) := ggX9_firstOfRoute_X10_at
set_option maxRecDepth 20000 in
theorem ggX9_firstOfRoute_X10_put : GoodIn wsX9_firstOfRoute wsX10_put := goodIn_r _ [53] (by decide +kernel) (by decide +kernel)
set_option maxRecDepth 20000 in
theorem gX9_firstOfRoute_X10_put_n86 : GoodIn wsX9_firstOfRoute (wsX10_put) := ggX9_firstOfRoute_X10_put
set_option maxRecDepth 20000 in
theorem ggX9_firstOfRoute_X9_bestStep : GoodIn wsX9_firstOfRoute wsX9_bestStep := goodIn_r _ [57, 2, 3, 58, 59, 60, 61, 62, 63, 30, 31, 32, 38, 39, 64, 65, 66, 14, 67, 4, 68, 69, 70, 71, 72, 73, 74, 75, 76, 77, 78, 79, 80, 81, 82] (by decide +kernel) (by decide +kernel)
set_option maxRecDepth 20000 in
theorem gX9_firstOfRoute_X9_bestStep : GoodIn wsX9_firstOfRoute (wsV RX9 90 RX9 yX9_bestStep wsX9_bestStep) := goodIn_app (goodIn_of _ (by decide +kernel)) ggX9_firstOfRoute_X9_bestStep
set_option maxRecDepth 20000 in
theorem ggX9_firstOfRoute_X9_worthOf : GoodIn wsX9_firstOfRoute wsX9_worthOf := goodIn_r _ [67, 4, 30, 31, 32, 68, 69, 70, 71, 72] (by decide +kernel) (by decide +kernel)
set_option maxRecDepth 20000 in
theorem gX9_firstOfRoute_X9_worthOf : GoodIn wsX9_firstOfRoute (wsV RX9 94 RX9 yX9_worthOf wsX9_worthOf) := goodIn_app (goodIn_of _ (by decide +kernel)) ggX9_firstOfRoute_X9_worthOf
theorem dX9_firstOfRoute_0 : decode cX9_firstOfRoute 0 = .ok (.aload_n 0, 1) := by decide +kernel
theorem dX9_firstOfRoute_1 : decode cX9_firstOfRoute 1 = .ok (.getfield 15, 3) := by decide +kernel
theorem dX9_firstOfRoute_4 : decode cX9_firstOfRoute 4 = .ok (.iconst 0, 1) := by decide +kernel
theorem dX9_firstOfRoute_5 : decode cX9_firstOfRoute 5 = .ok (.invokestatic 80, 3) := by decide +kernel
theorem dX9_firstOfRoute_8 : decode cX9_firstOfRoute 8 = .ok (.iload_n 2, 1) := by decide +kernel
theorem dX9_firstOfRoute_9 : decode cX9_firstOfRoute 9 = .ok (.iconst 1, 1) := by decide +kernel
theorem dX9_firstOfRoute_10 : decode cX9_firstOfRoute 10 = .ok (.isub, 1) := by decide +kernel
theorem dX9_firstOfRoute_11 : decode cX9_firstOfRoute 11 = .ok (.istore_n 3, 1) := by decide +kernel
theorem dX9_firstOfRoute_12 : decode cX9_firstOfRoute 12 = .ok (.iload_n 3, 1) := by decide +kernel
theorem dX9_firstOfRoute_13 : decode cX9_firstOfRoute 13 = .ok (.ifCond .lt 97, 3) := by decide +kernel
theorem dX9_firstOfRoute_16 : decode cX9_firstOfRoute 16 = .ok (.iconst 0, 1) := by decide +kernel
theorem dX9_firstOfRoute_17 : decode cX9_firstOfRoute 17 = .ok (.istore 4, 2) := by decide +kernel
theorem dX9_firstOfRoute_19 : decode cX9_firstOfRoute 19 = .ok (.iload 4, 2) := by decide +kernel
theorem dX9_firstOfRoute_21 : decode cX9_firstOfRoute 21 = .ok (.aload_n 0, 1) := by decide +kernel
theorem dX9_firstOfRoute_22 : decode cX9_firstOfRoute 22 = .ok (.getfield 18, 3) := by decide +kernel
theorem dX9_firstOfRoute_25 : decode cX9_firstOfRoute 25 = .ok (.getfield 76, 3) := by decide +kernel
theorem dX9_firstOfRoute_28 : decode cX9_firstOfRoute 28 = .ok (.if_icmp .ge 36, 3) := by decide +kernel
theorem dX9_firstOfRoute_31 : decode cX9_firstOfRoute 31 = .ok (.aload_n 0, 1) := by decide +kernel
theorem dX9_firstOfRoute_32 : decode cX9_firstOfRoute 32 = .ok (.getfield 9, 3) := by decide +kernel
theorem dX9_firstOfRoute_35 : decode cX9_firstOfRoute 35 = .ok (.iload 4, 2) := by decide +kernel
theorem dX9_firstOfRoute_37 : decode cX9_firstOfRoute 37 = .ok (.aload_n 0, 1) := by decide +kernel
theorem dX9_firstOfRoute_38 : decode cX9_firstOfRoute 38 = .ok (.iload_n 1, 1) := by decide +kernel
theorem dX9_firstOfRoute_39 : decode cX9_firstOfRoute 39 = .ok (.iload 4, 2) := by decide +kernel
theorem dX9_firstOfRoute_41 : decode cX9_firstOfRoute 41 = .ok (.iload_n 3, 1) := by decide +kernel
theorem dX9_firstOfRoute_42 : decode cX9_firstOfRoute 42 = .ok (.invokevirtual 66, 3) := by decide +kernel
theorem dX9_firstOfRoute_45 : decode cX9_firstOfRoute 45 = .ok (.aload_n 0, 1) := by decide +kernel
theorem dX9_firstOfRoute_46 : decode cX9_firstOfRoute 46 = .ok (.getfield 15, 3) := by decide +kernel
theorem dX9_firstOfRoute_49 : decode cX9_firstOfRoute 49 = .ok (.iload 4, 2) := by decide +kernel
theorem dX9_firstOfRoute_51 : decode cX9_firstOfRoute 51 = .ok (.invokestatic 45, 3) := by decide +kernel
theorem dX9_firstOfRoute_54 : decode cX9_firstOfRoute 54 = .ok (.iadd, 1) := by decide +kernel
theorem dX9_firstOfRoute_55 : decode cX9_firstOfRoute 55 = .ok (.invokestatic 86, 3) := by decide +kernel
theorem dX9_firstOfRoute_58 : decode cX9_firstOfRoute 58 = .ok (.iinc 4 1, 3) := by decide +kernel
theorem dX9_firstOfRoute_61 : decode cX9_firstOfRoute 61 = .ok (.goto (-42), 3) := by decide +kernel
theorem dX9_firstOfRoute_64 : decode cX9_firstOfRoute 64 = .ok (.iconst 0, 1) := by decide +kernel
theorem dX9_firstOfRoute_65 : decode cX9_firstOfRoute 65 = .ok (.istore 4, 2) := by decide +kernel
theorem dX9_firstOfRoute_67 : decode cX9_firstOfRoute 67 = .ok (.iload 4, 2) := by decide +kernel
theorem dX9_firstOfRoute_69 : decode cX9_firstOfRoute 69 = .ok (.aload_n 0, 1) := by decide +kernel
theorem dX9_firstOfRoute_70 : decode cX9_firstOfRoute 70 = .ok (.getfield 18, 3) := by decide +kernel
theorem dX9_firstOfRoute_73 : decode cX9_firstOfRoute 73 = .ok (.getfield 76, 3) := by decide +kernel
theorem dX9_firstOfRoute_76 : decode cX9_firstOfRoute 76 = .ok (.if_icmp .ge 28, 3) := by decide +kernel
theorem dX9_firstOfRoute_79 : decode cX9_firstOfRoute 79 = .ok (.aload_n 0, 1) := by decide +kernel
theorem dX9_firstOfRoute_80 : decode cX9_firstOfRoute 80 = .ok (.getfield 15, 3) := by decide +kernel
theorem dX9_firstOfRoute_83 : decode cX9_firstOfRoute 83 = .ok (.iload 4, 2) := by decide +kernel
theorem dX9_firstOfRoute_85 : decode cX9_firstOfRoute 85 = .ok (.aload_n 0, 1) := by decide +kernel
theorem dX9_firstOfRoute_86 : decode cX9_firstOfRoute 86 = .ok (.aload_n 0, 1) := by decide +kernel
theorem dX9_firstOfRoute_87 : decode cX9_firstOfRoute 87 = .ok (.iload 4, 2) := by decide +kernel
theorem dX9_firstOfRoute_89 : decode cX9_firstOfRoute 89 = .ok (.invokevirtual 90, 3) := by decide +kernel
theorem dX9_firstOfRoute_92 : decode cX9_firstOfRoute 92 = .ok (.invokevirtual 94, 3) := by decide +kernel
theorem dX9_firstOfRoute_95 : decode cX9_firstOfRoute 95 = .ok (.invokestatic 86, 3) := by decide +kernel
theorem dX9_firstOfRoute_98 : decode cX9_firstOfRoute 98 = .ok (.iinc 4 1, 3) := by decide +kernel
theorem dX9_firstOfRoute_101 : decode cX9_firstOfRoute 101 = .ok (.goto (-34), 3) := by decide +kernel
theorem dX9_firstOfRoute_104 : decode cX9_firstOfRoute 104 = .ok (.iinc 3 (-1), 3) := by decide +kernel
theorem dX9_firstOfRoute_107 : decode cX9_firstOfRoute 107 = .ok (.goto (-95), 3) := by decide +kernel
theorem dX9_firstOfRoute_110 : decode cX9_firstOfRoute 110 = .ok (.aload_n 0, 1) := by decide +kernel
theorem dX9_firstOfRoute_111 : decode cX9_firstOfRoute 111 = .ok (.aload_n 0, 1) := by decide +kernel
theorem dX9_firstOfRoute_112 : decode cX9_firstOfRoute 112 = .ok (.getfield 22, 3) := by decide +kernel
theorem dX9_firstOfRoute_115 : decode cX9_firstOfRoute 115 = .ok (.getfield 42, 3) := by decide +kernel
theorem dX9_firstOfRoute_118 : decode cX9_firstOfRoute 118 = .ok (.iload_n 1, 1) := by decide +kernel
theorem dX9_firstOfRoute_119 : decode cX9_firstOfRoute 119 = .ok (.invokestatic 45, 3) := by decide +kernel
theorem dX9_firstOfRoute_122 : decode cX9_firstOfRoute 122 = .ok (.invokevirtual 90, 3) := by decide +kernel
theorem dX9_firstOfRoute_125 : decode cX9_firstOfRoute 125 = .ok (.ireturn, 1) := by decide +kernel
set_option maxRecDepth 20000 in
theorem ggX9_worthOf_X10_at : GoodIn wsX9_worthOf wsX10_at := goodIn_r _ [4] (by decide +kernel) (by decide +kernel)
set_option maxRecDepth 20000 in
theorem gX9_worthOf_X10_at_n45 : GoodIn wsX9_worthOf (wsX10_at) := ggX9_worthOf_X10_at
theorem dX9_worthOf_0 : decode cX9_worthOf 0 = .ok (.aload_n 0, 1) := by decide +kernel
theorem dX9_worthOf_1 : decode cX9_worthOf 1 = .ok (.getfield 9, 3) := by decide +kernel
theorem dX9_worthOf_4 : decode cX9_worthOf 4 = .ok (.iload_n 1, 1) := by decide +kernel
theorem dX9_worthOf_5 : decode cX9_worthOf 5 = .ok (.invokestatic 45, 3) := by decide +kernel
theorem dX9_worthOf_8 : decode cX9_worthOf 8 = .ok (.ireturn, 1) := by decide +kernel
set_option maxRecDepth 20000 in
theorem ggX9_bestStep_X2_isWay : GoodIn wsX9_bestStep wsX2_isWay := goodIn_r _ [7, 8, 9, 10, 11, 12, 13, 25, 26, 27, 28, 29, 30, 31, 32, 33, 34] (by decide +kernel) (by decide +kernel)
set_option maxRecDepth 20000 in
theorem gX9_bestStep_X2_isWay : GoodIn wsX9_bestStep (wsV RX9 97 RX2 yX2_isWay wsX2_isWay) := goodIn_app (goodIn_of _ (by decide +kernel)) ggX9_bestStep_X2_isWay
set_option maxRecDepth 20000 in
theorem ggX9_bestStep_X9_worthOf : GoodIn wsX9_bestStep wsX9_worthOf := goodIn_r _ [18, 19, 9, 10, 11, 20, 21, 22, 23, 24] (by decide +kernel) (by decide +kernel)
set_option maxRecDepth 20000 in
theorem gX9_bestStep_X9_worthOf : GoodIn wsX9_bestStep (wsV RX9 94 RX9 yX9_worthOf wsX9_worthOf) := goodIn_app (goodIn_of _ (by decide +kernel)) ggX9_bestStep_X9_worthOf
theorem dX9_bestStep_0 : decode cX9_bestStep 0 = .ok (.iconst (-1), 1) := by decide +kernel
theorem dX9_bestStep_1 : decode cX9_bestStep 1 = .ok (.istore_n 2, 1) := by decide +kernel
theorem dX9_bestStep_2 : decode cX9_bestStep 2 = .ok (.iconst 0, 1) := by decide +kernel
theorem dX9_bestStep_3 : decode cX9_bestStep 3 = .ok (.istore_n 3, 1) := by decide +kernel
theorem dX9_bestStep_4 : decode cX9_bestStep 4 = .ok (.iload_n 3, 1) := by decide +kernel
theorem dX9_bestStep_5 : decode cX9_bestStep 5 = .ok (.aload_n 0, 1) := by decide +kernel
theorem dX9_bestStep_6 : decode cX9_bestStep 6 = .ok (.getfield 18, 3) := by decide +kernel
theorem dX9_bestStep_9 : decode cX9_bestStep 9 = .ok (.getfield 76, 3) := by decide +kernel
theorem dX9_bestStep_12 : decode cX9_bestStep 12 = .ok (.if_icmp .ge 58, 3) := by decide +kernel
theorem dX9_bestStep_15 : decode cX9_bestStep 15 = .ok (.iload_n 3, 1) := by decide +kernel
theorem dX9_bestStep_16 : decode cX9_bestStep 16 = .ok (.iload_n 1, 1) := by decide +kernel
theorem dX9_bestStep_17 : decode cX9_bestStep 17 = .ok (.if_icmp .eq 15, 3) := by decide +kernel
theorem dX9_bestStep_20 : decode cX9_bestStep 20 = .ok (.aload_n 0, 1) := by decide +kernel
theorem dX9_bestStep_21 : decode cX9_bestStep 21 = .ok (.getfield 18, 3) := by decide +kernel
theorem dX9_bestStep_24 : decode cX9_bestStep 24 = .ok (.iload_n 1, 1) := by decide +kernel
theorem dX9_bestStep_25 : decode cX9_bestStep 25 = .ok (.iload_n 3, 1) := by decide +kernel
theorem dX9_bestStep_26 : decode cX9_bestStep 26 = .ok (.invokevirtual 97, 3) := by decide +kernel
theorem dX9_bestStep_29 : decode cX9_bestStep 29 = .ok (.ifCond .eq 7, 3) := by decide +kernel
theorem dX9_bestStep_32 : decode cX9_bestStep 32 = .ok (.iconst 1, 1) := by decide +kernel
theorem dX9_bestStep_33 : decode cX9_bestStep 33 = .ok (.goto 4, 3) := by decide +kernel
theorem dX9_bestStep_36 : decode cX9_bestStep 36 = .ok (.iconst 0, 1) := by decide +kernel
theorem dX9_bestStep_37 : decode cX9_bestStep 37 = .ok (.istore 4, 2) := by decide +kernel
theorem dX9_bestStep_39 : decode cX9_bestStep 39 = .ok (.iload 4, 2) := by decide +kernel
theorem dX9_bestStep_41 : decode cX9_bestStep 41 = .ok (.ifCond .eq 23, 3) := by decide +kernel
theorem dX9_bestStep_44 : decode cX9_bestStep 44 = .ok (.iload_n 2, 1) := by decide +kernel
theorem dX9_bestStep_45 : decode cX9_bestStep 45 = .ok (.iconst (-1), 1) := by decide +kernel
theorem dX9_bestStep_46 : decode cX9_bestStep 46 = .ok (.if_icmp .eq 16, 3) := by decide +kernel
theorem dX9_bestStep_49 : decode cX9_bestStep 49 = .ok (.aload_n 0, 1) := by decide +kernel
theorem dX9_bestStep_50 : decode cX9_bestStep 50 = .ok (.iload_n 3, 1) := by decide +kernel
theorem dX9_bestStep_51 : decode cX9_bestStep 51 = .ok (.invokevirtual 94, 3) := by decide +kernel
theorem dX9_bestStep_54 : decode cX9_bestStep 54 = .ok (.aload_n 0, 1) := by decide +kernel
theorem dX9_bestStep_55 : decode cX9_bestStep 55 = .ok (.iload_n 2, 1) := by decide +kernel
theorem dX9_bestStep_56 : decode cX9_bestStep 56 = .ok (.invokevirtual 94, 3) := by decide +kernel
theorem dX9_bestStep_59 : decode cX9_bestStep 59 = .ok (.if_icmp .le 5, 3) := by decide +kernel
theorem dX9_bestStep_62 : decode cX9_bestStep 62 = .ok (.iload_n 3, 1) := by decide +kernel
theorem dX9_bestStep_63 : decode cX9_bestStep 63 = .ok (.istore_n 2, 1) := by decide +kernel
theorem dX9_bestStep_64 : decode cX9_bestStep 64 = .ok (.iinc 3 1, 3) := by decide +kernel
theorem dX9_bestStep_67 : decode cX9_bestStep 67 = .ok (.goto (-63), 3) := by decide +kernel
theorem dX9_bestStep_70 : decode cX9_bestStep 70 = .ok (.iload_n 2, 1) := by decide +kernel
theorem dX9_bestStep_71 : decode cX9_bestStep 71 = .ok (.ireturn, 1) := by decide +kernel
set_option maxRecDepth 20000 in
theorem ggX9_bestLeavers_X9_saidTogether : GoodIn wsX9_bestLeavers wsX9_saidTogether := goodIn_r _ [7, 1, 2, 8, 9, 10, 11, 12, 13, 14, 15, 16, 17, 18, 19, 20, 21, 22, 23, 24, 25, 26, 27, 28, 29, 30, 31, 32, 33, 34, 35, 36, 37, 38, 39, 40, 41, 42, 43, 44, 56, 57, 58, 59, 60, 61, 62, 63, 64, 65, 66, 67, 68, 69, 70, 71, 72, 73, 74, 75, 76, 77, 78] (by decide +kernel) (by decide +kernel)
set_option maxRecDepth 20000 in
theorem gX9_bestLeavers_X9_saidTogether : GoodIn wsX9_bestLeavers (wsV RX9 100 RX9 yX9_saidTogether wsX9_saidTogether) := goodIn_app (goodIn_of _ (by decide +kernel)) ggX9_bestLeavers_X9_saidTogether
set_option maxRecDepth 20000 in
theorem ggX9_bestLeavers_X10_bit : GoodIn wsX9_bestLeavers wsX10_bit := goodIn_r _ [46] (by decide +kernel) (by decide +kernel)
set_option maxRecDepth 20000 in
theorem gX9_bestLeavers_X10_bit_n106 : GoodIn wsX9_bestLeavers (wsX10_bit) := ggX9_bestLeavers_X10_bit
set_option maxRecDepth 20000 in
theorem ggX9_bestLeavers_X10_isSmaller : GoodIn wsX9_bestLeavers wsX10_isSmaller := goodIn_r _ [48, 49, 50, 51, 52, 53, 54, 55] (by decide +kernel) (by decide +kernel)
set_option maxRecDepth 20000 in
theorem gX9_bestLeavers_X10_isSmaller_n109 : GoodIn wsX9_bestLeavers (wsX10_isSmaller) := ggX9_bestLeavers_X10_isSmaller
theorem dX9_bestLeavers_0 : decode cX9_bestLeavers 0 = .ok (.iconst 0, 1) := by decide +kernel
theorem dX9_bestLeavers_1 : decode cX9_bestLeavers 1 = .ok (.istore_n 2, 1) := by decide +kernel
theorem dX9_bestLeavers_2 : decode cX9_bestLeavers 2 = .ok (.aload_n 0, 1) := by decide +kernel
theorem dX9_bestLeavers_3 : decode cX9_bestLeavers 3 = .ok (.iconst 0, 1) := by decide +kernel
theorem dX9_bestLeavers_4 : decode cX9_bestLeavers 4 = .ok (.iload_n 1, 1) := by decide +kernel
theorem dX9_bestLeavers_5 : decode cX9_bestLeavers 5 = .ok (.invokevirtual 100, 3) := by decide +kernel
theorem dX9_bestLeavers_8 : decode cX9_bestLeavers 8 = .ok (.istore_n 3, 1) := by decide +kernel
theorem dX9_bestLeavers_9 : decode cX9_bestLeavers 9 = .ok (.iconst 1, 1) := by decide +kernel
theorem dX9_bestLeavers_10 : decode cX9_bestLeavers 10 = .ok (.istore 4, 2) := by decide +kernel
theorem dX9_bestLeavers_12 : decode cX9_bestLeavers 12 = .ok (.iload 4, 2) := by decide +kernel
theorem dX9_bestLeavers_14 : decode cX9_bestLeavers 14 = .ok (.aload_n 0, 1) := by decide +kernel
theorem dX9_bestLeavers_15 : decode cX9_bestLeavers 15 = .ok (.getfield 18, 3) := by decide +kernel
theorem dX9_bestLeavers_18 : decode cX9_bestLeavers 18 = .ok (.getfield 103, 3) := by decide +kernel
theorem dX9_bestLeavers_21 : decode cX9_bestLeavers 21 = .ok (.invokestatic 106, 3) := by decide +kernel
theorem dX9_bestLeavers_24 : decode cX9_bestLeavers 24 = .ok (.if_icmp .ge 45, 3) := by decide +kernel
theorem dX9_bestLeavers_27 : decode cX9_bestLeavers 27 = .ok (.aload_n 0, 1) := by decide +kernel
theorem dX9_bestLeavers_28 : decode cX9_bestLeavers 28 = .ok (.iload 4, 2) := by decide +kernel
theorem dX9_bestLeavers_30 : decode cX9_bestLeavers 30 = .ok (.iload_n 1, 1) := by decide +kernel
theorem dX9_bestLeavers_31 : decode cX9_bestLeavers 31 = .ok (.invokevirtual 100, 3) := by decide +kernel
theorem dX9_bestLeavers_34 : decode cX9_bestLeavers 34 = .ok (.istore 5, 2) := by decide +kernel
theorem dX9_bestLeavers_36 : decode cX9_bestLeavers 36 = .ok (.iload 5, 2) := by decide +kernel
theorem dX9_bestLeavers_38 : decode cX9_bestLeavers 38 = .ok (.iload_n 3, 1) := by decide +kernel
theorem dX9_bestLeavers_39 : decode cX9_bestLeavers 39 = .ok (.if_icmp .gt 18, 3) := by decide +kernel
theorem dX9_bestLeavers_42 : decode cX9_bestLeavers 42 = .ok (.iload 5, 2) := by decide +kernel
theorem dX9_bestLeavers_44 : decode cX9_bestLeavers 44 = .ok (.iload_n 3, 1) := by decide +kernel
theorem dX9_bestLeavers_45 : decode cX9_bestLeavers 45 = .ok (.if_icmp .ne 18, 3) := by decide +kernel
theorem dX9_bestLeavers_48 : decode cX9_bestLeavers 48 = .ok (.iload 4, 2) := by decide +kernel
theorem dX9_bestLeavers_50 : decode cX9_bestLeavers 50 = .ok (.iload_n 2, 1) := by decide +kernel
theorem dX9_bestLeavers_51 : decode cX9_bestLeavers 51 = .ok (.invokestatic 109, 3) := by decide +kernel
theorem dX9_bestLeavers_54 : decode cX9_bestLeavers 54 = .ok (.ifCond .eq 9, 3) := by decide +kernel
theorem dX9_bestLeavers_57 : decode cX9_bestLeavers 57 = .ok (.iload 5, 2) := by decide +kernel
theorem dX9_bestLeavers_59 : decode cX9_bestLeavers 59 = .ok (.istore_n 3, 1) := by decide +kernel
theorem dX9_bestLeavers_60 : decode cX9_bestLeavers 60 = .ok (.iload 4, 2) := by decide +kernel
theorem dX9_bestLeavers_62 : decode cX9_bestLeavers 62 = .ok (.istore_n 2, 1) := by decide +kernel
theorem dX9_bestLeavers_63 : decode cX9_bestLeavers 63 = .ok (.iinc 4 1, 3) := by decide +kernel
theorem dX9_bestLeavers_66 : decode cX9_bestLeavers 66 = .ok (.goto (-54), 3) := by decide +kernel
theorem dX9_bestLeavers_69 : decode cX9_bestLeavers 69 = .ok (.iload_n 2, 1) := by decide +kernel
theorem dX9_bestLeavers_70 : decode cX9_bestLeavers 70 = .ok (.ireturn, 1) := by decide +kernel
set_option maxRecDepth 20000 in
theorem ggX9_saidTogether_X4_spokenOfBy : GoodIn wsX9_saidTogether wsX4_spokenOfBy := goodIn_r _ [12, 13, 14, 15, 16, 17, 18, 61, 62, 45, 46, 47, 48, 49, 50, 51, 52, 53, 54] (by decide +kernel) (by decide +kernel)
set_option maxRecDepth 20000 in
theorem gX9_saidTogether_X4_spokenOfBy : GoodIn wsX9_saidTogether (wsV RX9 112 RX4 yX4_spokenOfBy wsX4_spokenOfBy) := goodIn_app (goodIn_of _ (by decide +kernel)) ggX9_saidTogether_X4_spokenOfBy
set_option maxRecDepth 20000 in
theorem ggX9_saidTogether_X10_has : GoodIn wsX9_saidTogether wsX10_has := goodIn_r _ [21] (by decide +kernel) (by decide +kernel)
set_option maxRecDepth 20000 in
theorem gX9_saidTogether_X10_has_n56 : GoodIn wsX9_saidTogether (wsX10_has) := ggX9_saidTogether_X10_has
set_option maxRecDepth 20000 in
theorem ggX9_saidTogether_X10_at : GoodIn wsX9_saidTogether wsX10_at := goodIn_r _ [23] (by decide +kernel) (by decide +kernel)
set_option maxRecDepth 20000 in
theorem gX9_saidTogether_X10_at_n45 : GoodIn wsX9_saidTogether (wsX10_at) := ggX9_saidTogether_X10_at
set_option maxRecDepth 20000 in
theorem ggX9_saidTogether_X4_says : GoodIn wsX9_saidTogether wsX4_says := goodIn_r _ [27, 13, 28, 29, 30, 22, 20, 23, 31, 32, 33, 11, 34, 35, 19, 21, 36, 37, 38, 39, 61, 62, 45, 46, 47, 48, 49, 50, 51, 52, 53, 54, 55, 56, 57, 58, 59, 60] (by decide +kernel) (by decide +kernel)
set_option maxRecDepth 20000 in
theorem gX9_saidTogether_X4_says : GoodIn wsX9_saidTogether (wsV RX9 59 RX4 yX4_says wsX4_says) := goodIn_app (goodIn_of _ (by decide +kernel)) ggX9_saidTogether_X4_says
theorem dX9_saidTogether_0 : decode cX9_saidTogether 0 = .ok (.iconst 0, 1) := by decide +kernel
theorem dX9_saidTogether_1 : decode cX9_saidTogether 1 = .ok (.istore_n 3, 1) := by decide +kernel
theorem dX9_saidTogether_2 : decode cX9_saidTogether 2 = .ok (.iconst 0, 1) := by decide +kernel
theorem dX9_saidTogether_3 : decode cX9_saidTogether 3 = .ok (.istore 4, 2) := by decide +kernel
theorem dX9_saidTogether_5 : decode cX9_saidTogether 5 = .ok (.iload 4, 2) := by decide +kernel
theorem dX9_saidTogether_7 : decode cX9_saidTogether 7 = .ok (.aload_n 0, 1) := by decide +kernel
theorem dX9_saidTogether_8 : decode cX9_saidTogether 8 = .ok (.getfield 18, 3) := by decide +kernel
theorem dX9_saidTogether_11 : decode cX9_saidTogether 11 = .ok (.getfield 103, 3) := by decide +kernel
theorem dX9_saidTogether_14 : decode cX9_saidTogether 14 = .ok (.if_icmp .ge 118, 3) := by decide +kernel
theorem dX9_saidTogether_17 : decode cX9_saidTogether 17 = .ok (.aload_n 0, 1) := by decide +kernel
theorem dX9_saidTogether_18 : decode cX9_saidTogether 18 = .ok (.getfield 26, 3) := by decide +kernel
theorem dX9_saidTogether_21 : decode cX9_saidTogether 21 = .ok (.iload 4, 2) := by decide +kernel
theorem dX9_saidTogether_23 : decode cX9_saidTogether 23 = .ok (.aload_n 0, 1) := by decide +kernel
theorem dX9_saidTogether_24 : decode cX9_saidTogether 24 = .ok (.getfield 22, 3) := by decide +kernel
theorem dX9_saidTogether_27 : decode cX9_saidTogether 27 = .ok (.getfield 30, 3) := by decide +kernel
theorem dX9_saidTogether_30 : decode cX9_saidTogether 30 = .ok (.invokevirtual 112, 3) := by decide +kernel
theorem dX9_saidTogether_33 : decode cX9_saidTogether 33 = .ok (.istore 5, 2) := by decide +kernel
theorem dX9_saidTogether_35 : decode cX9_saidTogether 35 = .ok (.iload 5, 2) := by decide +kernel
theorem dX9_saidTogether_37 : decode cX9_saidTogether 37 = .ok (.iload 4, 2) := by decide +kernel
theorem dX9_saidTogether_39 : decode cX9_saidTogether 39 = .ok (.if_icmp .eq 87, 3) := by decide +kernel
theorem dX9_saidTogether_42 : decode cX9_saidTogether 42 = .ok (.iload_n 1, 1) := by decide +kernel
theorem dX9_saidTogether_43 : decode cX9_saidTogether 43 = .ok (.iload 4, 2) := by decide +kernel
theorem dX9_saidTogether_45 : decode cX9_saidTogether 45 = .ok (.invokestatic 56, 3) := by decide +kernel
theorem dX9_saidTogether_48 : decode cX9_saidTogether 48 = .ok (.ifCond .eq 7, 3) := by decide +kernel
theorem dX9_saidTogether_51 : decode cX9_saidTogether 51 = .ok (.iload_n 2, 1) := by decide +kernel
theorem dX9_saidTogether_52 : decode cX9_saidTogether 52 = .ok (.goto 15, 3) := by decide +kernel
theorem dX9_saidTogether_55 : decode cX9_saidTogether 55 = .ok (.aload_n 0, 1) := by decide +kernel
theorem dX9_saidTogether_56 : decode cX9_saidTogether 56 = .ok (.getfield 22, 3) := by decide +kernel
theorem dX9_saidTogether_59 : decode cX9_saidTogether 59 = .ok (.getfield 42, 3) := by decide +kernel
theorem dX9_saidTogether_62 : decode cX9_saidTogether 62 = .ok (.iload 4, 2) := by decide +kernel
theorem dX9_saidTogether_64 : decode cX9_saidTogether 64 = .ok (.invokestatic 45, 3) := by decide +kernel
theorem dX9_saidTogether_67 : decode cX9_saidTogether 67 = .ok (.istore 6, 2) := by decide +kernel
theorem dX9_saidTogether_69 : decode cX9_saidTogether 69 = .ok (.iload_n 1, 1) := by decide +kernel
theorem dX9_saidTogether_70 : decode cX9_saidTogether 70 = .ok (.iload 5, 2) := by decide +kernel
theorem dX9_saidTogether_72 : decode cX9_saidTogether 72 = .ok (.invokestatic 56, 3) := by decide +kernel
theorem dX9_saidTogether_75 : decode cX9_saidTogether 75 = .ok (.ifCond .eq 7, 3) := by decide +kernel
theorem dX9_saidTogether_78 : decode cX9_saidTogether 78 = .ok (.iload_n 2, 1) := by decide +kernel
theorem dX9_saidTogether_79 : decode cX9_saidTogether 79 = .ok (.goto 15, 3) := by decide +kernel
theorem dX9_saidTogether_82 : decode cX9_saidTogether 82 = .ok (.aload_n 0, 1) := by decide +kernel
theorem dX9_saidTogether_83 : decode cX9_saidTogether 83 = .ok (.getfield 22, 3) := by decide +kernel
theorem dX9_saidTogether_86 : decode cX9_saidTogether 86 = .ok (.getfield 42, 3) := by decide +kernel
theorem dX9_saidTogether_89 : decode cX9_saidTogether 89 = .ok (.iload 5, 2) := by decide +kernel
theorem dX9_saidTogether_91 : decode cX9_saidTogether 91 = .ok (.invokestatic 45, 3) := by decide +kernel
theorem dX9_saidTogether_94 : decode cX9_saidTogether 94 = .ok (.istore 7, 2) := by decide +kernel
theorem dX9_saidTogether_96 : decode cX9_saidTogether 96 = .ok (.iload_n 3, 1) := by decide +kernel
theorem dX9_saidTogether_97 : decode cX9_saidTogether 97 = .ok (.aload_n 0, 1) := by decide +kernel
theorem dX9_saidTogether_98 : decode cX9_saidTogether 98 = .ok (.getfield 26, 3) := by decide +kernel
theorem dX9_saidTogether_101 : decode cX9_saidTogether 101 = .ok (.iload 4, 2) := by decide +kernel
theorem dX9_saidTogether_103 : decode cX9_saidTogether 103 = .ok (.iload 6, 2) := by decide +kernel
theorem dX9_saidTogether_105 : decode cX9_saidTogether 105 = .ok (.iload 5, 2) := by decide +kernel
theorem dX9_saidTogether_107 : decode cX9_saidTogether 107 = .ok (.iload 7, 2) := by decide +kernel
theorem dX9_saidTogether_109 : decode cX9_saidTogether 109 = .ok (.aload_n 0, 1) := by decide +kernel
theorem dX9_saidTogether_110 : decode cX9_saidTogether 110 = .ok (.getfield 22, 3) := by decide +kernel
theorem dX9_saidTogether_113 : decode cX9_saidTogether 113 = .ok (.getfield 53, 3) := by decide +kernel
theorem dX9_saidTogether_116 : decode cX9_saidTogether 116 = .ok (.iload 5, 2) := by decide +kernel
theorem dX9_saidTogether_118 : decode cX9_saidTogether 118 = .ok (.invokestatic 56, 3) := by decide +kernel
theorem dX9_saidTogether_121 : decode cX9_saidTogether 121 = .ok (.invokevirtual 59, 3) := by decide +kernel
theorem dX9_saidTogether_124 : decode cX9_saidTogether 124 = .ok (.iadd, 1) := by decide +kernel
theorem dX9_saidTogether_125 : decode cX9_saidTogether 125 = .ok (.istore_n 3, 1) := by decide +kernel
theorem dX9_saidTogether_126 : decode cX9_saidTogether 126 = .ok (.iinc 4 1, 3) := by decide +kernel
theorem dX9_saidTogether_129 : decode cX9_saidTogether 129 = .ok (.goto (-124), 3) := by decide +kernel
theorem dX9_saidTogether_132 : decode cX9_saidTogether 132 = .ok (.iload_n 3, 1) := by decide +kernel
theorem dX9_saidTogether_133 : decode cX9_saidTogether 133 = .ok (.ireturn, 1) := by decide +kernel
set_option maxRecDepth 20000 in
theorem ggX9_praised_X9_saidOf : GoodIn wsX9_praised wsX9_saidOf := goodIn_r _ [7, 1, 2, 8, 9, 10, 11, 12, 13, 14, 15, 16, 17, 18, 19, 20, 21, 22, 23, 24, 25, 26, 27, 28, 29, 30, 31, 32, 33, 34, 35, 36, 37, 38, 39, 40, 41, 42, 43, 44, 45, 46, 47, 48, 49, 50, 51, 52, 53, 54, 55, 56, 57, 58, 59, 60] (by decide +kernel) (by decide +kernel)
set_option maxRecDepth 20000 in
theorem gX9_praised_X9_saidOf : GoodIn wsX9_praised (wsV RX9 115 RX9 yX9_saidOf wsX9_saidOf) := goodIn_app (goodIn_of _ (by decide +kernel)) ggX9_praised_X9_saidOf
theorem dX9_praised_0 : decode cX9_praised 0 = .ok (.iconst (-1), 1) := by decide +kernel
theorem dX9_praised_1 : decode cX9_praised 1 = .ok (.istore_n 1, 1) := by decide +kernel
theorem dX9_praised_2 : decode cX9_praised 2 = .ok (.iconst 0, 1) := by decide +kernel
theorem dX9_praised_3 : decode cX9_praised 3 = .ok (.istore_n 2, 1) := by decide +kernel
theorem dX9_praised_4 : decode cX9_praised 4 = .ok (.iconst 0, 1) := by decide +kernel
theorem dX9_praised_5 : decode cX9_praised 5 = .ok (.istore_n 3, 1) := by decide +kernel
theorem dX9_praised_6 : decode cX9_praised 6 = .ok (.iload_n 3, 1) := by decide +kernel
theorem dX9_praised_7 : decode cX9_praised 7 = .ok (.aload_n 0, 1) := by decide +kernel
theorem dX9_praised_8 : decode cX9_praised 8 = .ok (.getfield 18, 3) := by decide +kernel
theorem dX9_praised_11 : decode cX9_praised 11 = .ok (.getfield 103, 3) := by decide +kernel
theorem dX9_praised_14 : decode cX9_praised 14 = .ok (.if_icmp .ge 32, 3) := by decide +kernel
theorem dX9_praised_17 : decode cX9_praised 17 = .ok (.aload_n 0, 1) := by decide +kernel
theorem dX9_praised_18 : decode cX9_praised 18 = .ok (.iload_n 3, 1) := by decide +kernel
theorem dX9_praised_19 : decode cX9_praised 19 = .ok (.invokevirtual 115, 3) := by decide +kernel
theorem dX9_praised_22 : decode cX9_praised 22 = .ok (.istore 4, 2) := by decide +kernel
theorem dX9_praised_24 : decode cX9_praised 24 = .ok (.iload_n 1, 1) := by decide +kernel
theorem dX9_praised_25 : decode cX9_praised 25 = .ok (.iconst (-1), 1) := by decide +kernel
theorem dX9_praised_26 : decode cX9_praised 26 = .ok (.if_icmp .eq 9, 3) := by decide +kernel
theorem dX9_praised_29 : decode cX9_praised 29 = .ok (.iload 4, 2) := by decide +kernel
theorem dX9_praised_31 : decode cX9_praised 31 = .ok (.iload_n 2, 1) := by decide +kernel
theorem dX9_praised_32 : decode cX9_praised 32 = .ok (.if_icmp .le 8, 3) := by decide +kernel
theorem dX9_praised_35 : decode cX9_praised 35 = .ok (.iload 4, 2) := by decide +kernel
theorem dX9_praised_37 : decode cX9_praised 37 = .ok (.istore_n 2, 1) := by decide +kernel
theorem dX9_praised_38 : decode cX9_praised 38 = .ok (.iload_n 3, 1) := by decide +kernel
theorem dX9_praised_39 : decode cX9_praised 39 = .ok (.istore_n 1, 1) := by decide +kernel
theorem dX9_praised_40 : decode cX9_praised 40 = .ok (.iinc 3 1, 3) := by decide +kernel
theorem dX9_praised_43 : decode cX9_praised 43 = .ok (.goto (-37), 3) := by decide +kernel
theorem dX9_praised_46 : decode cX9_praised 46 = .ok (.iload_n 1, 1) := by decide +kernel
theorem dX9_praised_47 : decode cX9_praised 47 = .ok (.ireturn, 1) := by decide +kernel
