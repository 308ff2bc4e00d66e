set_option maxRecDepth 20000 in
theorem ggX0_add_X10_put : GoodIn wsX0_add wsX10_put := goodIn_r _ [6] (by decide +kernel) (by decide +kernel)
set_option maxRecDepth 20000 in
theorem gX0_add_X10_put_n22 : GoodIn wsX0_add (wsX10_put) := ggX0_add_X10_put
theorem dX0_add_0 : decode cX0_add 0 = .ok (.aload_n 0, 1) := by decide +kernel
theorem dX0_add_1 : decode cX0_add 1 = .ok (.getfield 9, 3) := by decide +kernel
theorem dX0_add_4 : decode cX0_add 4 = .ok (.aload_n 0, 1) := by decide +kernel
theorem dX0_add_5 : decode cX0_add 5 = .ok (.getfield 18, 3) := by decide +kernel
theorem dX0_add_8 : decode cX0_add 8 = .ok (.iload_n 1, 1) := by decide +kernel
theorem dX0_add_9 : decode cX0_add 9 = .ok (.invokestatic 22, 3) := by decide +kernel
theorem dX0_add_12 : decode cX0_add 12 = .ok (.aload_n 0, 1) := by decide +kernel
theorem dX0_add_13 : decode cX0_add 13 = .ok (.getfield 15, 3) := by decide +kernel
theorem dX0_add_16 : decode cX0_add 16 = .ok (.aload_n 0, 1) := by decide +kernel
theorem dX0_add_17 : decode cX0_add 17 = .ok (.getfield 18, 3) := by decide +kernel
theorem dX0_add_20 : decode cX0_add 20 = .ok (.iload_n 2, 1) := by decide +kernel
theorem dX0_add_21 : decode cX0_add 21 = .ok (.invokestatic 22, 3) := by decide +kernel
theorem dX0_add_24 : decode cX0_add 24 = .ok (.aload_n 0, 1) := by decide +kernel
theorem dX0_add_25 : decode cX0_add 25 = .ok (.dup, 1) := by decide +kernel
theorem dX0_add_26 : decode cX0_add 26 = .ok (.getfield 18, 3) := by decide +kernel
theorem dX0_add_29 : decode cX0_add 29 = .ok (.iconst 1, 1) := by decide +kernel
theorem dX0_add_30 : decode cX0_add 30 = .ok (.iadd, 1) := by decide +kernel
theorem dX0_add_31 : decode cX0_add 31 = .ok (.putfield 18, 3) := by decide +kernel
theorem dX0_add_34 : decode cX0_add 34 = .ok (.aload_n 0, 1) := by decide +kernel
theorem dX0_add_35 : decode cX0_add 35 = .ok (.getfield 18, 3) := by decide +kernel
theorem dX0_add_38 : decode cX0_add 38 = .ok (.ireturn, 1) := by decide +kernel
set_option maxRecDepth 20000 in
theorem ggX0_firstWrong_X10_at : GoodIn wsX0_firstWrong wsX10_at := goodIn_r _ [7] (by decide +kernel) (by decide +kernel)
set_option maxRecDepth 20000 in
theorem gX0_firstWrong_X10_at_n26 : GoodIn wsX0_firstWrong (wsX10_at) := ggX0_firstWrong_X10_at
theorem dX0_firstWrong_0 : decode cX0_firstWrong 0 = .ok (.iconst 0, 1) := by decide +kernel
theorem dX0_firstWrong_1 : decode cX0_firstWrong 1 = .ok (.istore_n 2, 1) := by decide +kernel
theorem dX0_firstWrong_2 : decode cX0_firstWrong 2 = .ok (.iload_n 2, 1) := by decide +kernel
theorem dX0_firstWrong_3 : decode cX0_firstWrong 3 = .ok (.aload_n 0, 1) := by decide +kernel
theorem dX0_firstWrong_4 : decode cX0_firstWrong 4 = .ok (.getfield 18, 3) := by decide +kernel
theorem dX0_firstWrong_7 : decode cX0_firstWrong 7 = .ok (.if_icmp .ge 37, 3) := by decide +kernel
theorem dX0_firstWrong_10 : decode cX0_firstWrong 10 = .ok (.aload_n 0, 1) := by decide +kernel
theorem dX0_firstWrong_11 : decode cX0_firstWrong 11 = .ok (.getfield 15, 3) := by decide +kernel
theorem dX0_firstWrong_14 : decode cX0_firstWrong 14 = .ok (.iload_n 2, 1) := by decide +kernel
theorem dX0_firstWrong_15 : decode cX0_firstWrong 15 = .ok (.invokestatic 26, 3) := by decide +kernel
theorem dX0_firstWrong_18 : decode cX0_firstWrong 18 = .ok (.aload_n 1, 1) := by decide +kernel
theorem dX0_firstWrong_19 : decode cX0_firstWrong 19 = .ok (.getfield 30, 3) := by decide +kernel
theorem dX0_firstWrong_22 : decode cX0_firstWrong 22 = .ok (.aload_n 0, 1) := by decide +kernel
theorem dX0_firstWrong_23 : decode cX0_firstWrong 23 = .ok (.getfield 9, 3) := by decide +kernel
theorem dX0_firstWrong_26 : decode cX0_firstWrong 26 = .ok (.iload_n 2, 1) := by decide +kernel
theorem dX0_firstWrong_27 : decode cX0_firstWrong 27 = .ok (.invokestatic 26, 3) := by decide +kernel
theorem dX0_firstWrong_30 : decode cX0_firstWrong 30 = .ok (.invokestatic 26, 3) := by decide +kernel
theorem dX0_firstWrong_33 : decode cX0_firstWrong 33 = .ok (.if_icmp .eq 5, 3) := by decide +kernel
theorem dX0_firstWrong_36 : decode cX0_firstWrong 36 = .ok (.iload_n 2, 1) := by decide +kernel
theorem dX0_firstWrong_37 : decode cX0_firstWrong 37 = .ok (.ireturn, 1) := by decide +kernel
theorem dX0_firstWrong_38 : decode cX0_firstWrong 38 = .ok (.iinc 2 1, 3) := by decide +kernel
theorem dX0_firstWrong_41 : decode cX0_firstWrong 41 = .ok (.goto (-39), 3) := by decide +kernel
theorem dX0_firstWrong_44 : decode cX0_firstWrong 44 = .ok (.iconst (-1), 1) := by decide +kernel
theorem dX0_firstWrong_45 : decode cX0_firstWrong 45 = .ok (.ireturn, 1) := by decide +kernel
theorem dX1_init_0 : decode cX1_init 0 = .ok (.aload_n 0, 1) := by decide +kernel
theorem dX1_init_1 : decode cX1_init 1 = .ok (.invokespecial 1, 3) := by decide +kernel
theorem dX1_init_4 : decode cX1_init 4 = .ok (.return_, 1) := by decide +kernel
theorem dX1_next_0 : decode cX1_next 0 = .ok (.aload_n 0, 1) := by decide +kernel
theorem dX1_next_1 : decode cX1_next 1 = .ok (.aload_n 0, 1) := by decide +kernel
theorem dX1_next_2 : decode cX1_next 2 = .ok (.getfield 7, 3) := by decide +kernel
theorem dX1_next_5 : decode cX1_next 5 = .ok (.i2l, 1) := by decide +kernel
theorem dX1_next_6 : decode cX1_next 6 = .ok (.ldc2_w 13, 3) := by decide +kernel
theorem dX1_next_9 : decode cX1_next 9 = .ok (.lmul, 1) := by decide +kernel
theorem dX1_next_10 : decode cX1_next 10 = .ok (.ldc2_w 15, 3) := by decide +kernel
theorem dX1_next_13 : decode cX1_next 13 = .ok (.ladd, 1) := by decide +kernel
theorem dX1_next_14 : decode cX1_next 14 = .ok (.ldc2_w 17, 3) := by decide +kernel
theorem dX1_next_17 : decode cX1_next 17 = .ok (.land, 1) := by decide +kernel
theorem dX1_next_18 : decode cX1_next 18 = .ok (.l2i, 1) := by decide +kernel
theorem dX1_next_19 : decode cX1_next 19 = .ok (.putfield 7, 3) := by decide +kernel
theorem dX1_next_22 : decode cX1_next 22 = .ok (.iload_n 1, 1) := by decide +kernel
theorem dX1_next_23 : decode cX1_next 23 = .ok (.ifCond .le 15, 3) := by decide +kernel
theorem dX1_next_26 : decode cX1_next 26 = .ok (.aload_n 0, 1) := by decide +kernel
theorem dX1_next_27 : decode cX1_next 27 = .ok (.getfield 7, 3) := by decide +kernel
theorem dX1_next_30 : decode cX1_next 30 = .ok (.ldc 19, 2) := by decide +kernel
theorem dX1_next_32 : decode cX1_next 32 = .ok (.idiv, 1) := by decide +kernel
theorem dX1_next_33 : decode cX1_next 33 = .ok (.iload_n 1, 1) := by decide +kernel
theorem dX1_next_34 : decode cX1_next 34 = .ok (.irem, 1) := by decide +kernel
theorem dX1_next_35 : decode cX1_next 35 = .ok (.goto 4, 3) := by decide +kernel
theorem dX1_next_38 : decode cX1_next 38 = .ok (.iconst 0, 1) := by decide +kernel
theorem dX1_next_39 : decode cX1_next 39 = .ok (.ireturn, 1) := by decide +kernel
theorem dX2_init_0 : decode cX2_init 0 = .ok (.aload_n 0, 1) := by decide +kernel
theorem dX2_init_1 : decode cX2_init 1 = .ok (.invokespecial 3, 3) := by decide +kernel
theorem dX2_init_4 : decode cX2_init 4 = .ok (.aload_n 0, 1) := by decide +kernel
theorem dX2_init_5 : decode cX2_init 5 = .ok (.bipush 6, 2) := by decide +kernel
theorem dX2_init_7 : decode cX2_init 7 = .ok (.newarray .int, 2) := by decide +kernel
theorem dX2_init_9 : decode cX2_init 9 = .ok (.putfield 9, 3) := by decide +kernel
theorem dX2_init_12 : decode cX2_init 12 = .ok (.aload_n 0, 1) := by decide +kernel
theorem dX2_init_13 : decode cX2_init 13 = .ok (.bipush 6, 2) := by decide +kernel
theorem dX2_init_15 : decode cX2_init 15 = .ok (.newarray .int, 2) := by decide +kernel
theorem dX2_init_17 : decode cX2_init 17 = .ok (.putfield 15, 3) := by decide +kernel
theorem dX2_init_20 : decode cX2_init 20 = .ok (.aload_n 0, 1) := by decide +kernel
theorem dX2_init_21 : decode cX2_init 21 = .ok (.bipush 7, 2) := by decide +kernel
theorem dX2_init_23 : decode cX2_init 23 = .ok (.newarray .int, 2) := by decide +kernel
theorem dX2_init_25 : decode cX2_init 25 = .ok (.putfield 18, 3) := by decide +kernel
theorem dX2_init_28 : decode cX2_init 28 = .ok (.aload_n 0, 1) := by decide +kernel
theorem dX2_init_29 : decode cX2_init 29 = .ok (.bipush 7, 2) := by decide +kernel
theorem dX2_init_31 : decode cX2_init 31 = .ok (.newarray .int, 2) := by decide +kernel
theorem dX2_init_33 : decode cX2_init 33 = .ok (.putfield 21, 3) := by decide +kernel
theorem dX2_init_36 : decode cX2_init 36 = .ok (.aload_n 0, 1) := by decide +kernel
theorem dX2_init_37 : decode cX2_init 37 = .ok (.bipush 49, 2) := by decide +kernel
theorem dX2_init_39 : decode cX2_init 39 = .ok (.newarray .int, 2) := by decide +kernel
theorem dX2_init_41 : decode cX2_init 41 = .ok (.putfield 24, 3) := by decide +kernel
theorem dX2_init_44 : decode cX2_init 44 = .ok (.return_, 1) := by decide +kernel
set_option maxRecDepth 20000 in
theorem ggX2_clear_J7_fill_53178 : GoodIn wsX2_clear wsJ7_fill_53178 := goodIn_r _ [14] (by decide +kernel) (by decide +kernel)
set_option maxRecDepth 20000 in
theorem gX2_clear_J7_fill_53178 : GoodIn wsX2_clear (va_wsS RX2 27 yJ7_fill_53178 wsJ7_fill_53178) := goodIn_app (goodIn_of _ (by decide +kernel)) ggX2_clear_J7_fill_53178
theorem dX2_clear_0 : decode cX2_clear 0 = .ok (.aload_n 0, 1) := by decide +kernel
theorem dX2_clear_1 : decode cX2_clear 1 = .ok (.getfield 9, 3) := by decide +kernel
theorem dX2_clear_4 : decode cX2_clear 4 = .ok (.iconst 0, 1) := by decide +kernel
theorem dX2_clear_5 : decode cX2_clear 5 = .ok (.invokestatic 27, 3) := by decide +kernel
theorem dX2_clear_8 : decode cX2_clear 8 = .ok (.aload_n 0, 1) := by decide +kernel
theorem dX2_clear_9 : decode cX2_clear 9 = .ok (.getfield 15, 3) := by decide +kernel
theorem dX2_clear_12 : decode cX2_clear 12 = .ok (.iconst 0, 1) := by decide +kernel
theorem dX2_clear_13 : decode cX2_clear 13 = .ok (.invokestatic 27, 3) := by decide +kernel
theorem dX2_clear_16 : decode cX2_clear 16 = .ok (.aload_n 0, 1) := by decide +kernel
theorem dX2_clear_17 : decode cX2_clear 17 = .ok (.getfield 18, 3) := by decide +kernel
theorem dX2_clear_20 : decode cX2_clear 20 = .ok (.iconst 0, 1) := by decide +kernel
theorem dX2_clear_21 : decode cX2_clear 21 = .ok (.invokestatic 27, 3) := by decide +kernel
theorem dX2_clear_24 : decode cX2_clear 24 = .ok (.aload_n 0, 1) := by decide +kernel
theorem dX2_clear_25 : decode cX2_clear 25 = .ok (.getfield 21, 3) := by decide +kernel
theorem dX2_clear_28 : decode cX2_clear 28 = .ok (.iconst 0, 1) := by decide +kernel
theorem dX2_clear_29 : decode cX2_clear 29 = .ok (.invokestatic 27, 3) := by decide +kernel
theorem dX2_clear_32 : decode cX2_clear 32 = .ok (.aload_n 0, 1) := by decide +kernel
theorem dX2_clear_33 : decode cX2_clear 33 = .ok (.getfield 24, 3) := by decide +kernel
theorem dX2_clear_36 : decode cX2_clear 36 = .ok (.iconst 5, 1) := by decide +kernel
theorem dX2_clear_37 : decode cX2_clear 37 = .ok (.invokestatic 27, 3) := by decide +kernel
theorem dX2_clear_40 : decode cX2_clear 40 = .ok (.aload_n 0, 1) := by decide +kernel
theorem dX2_clear_41 : decode cX2_clear 41 = .ok (.iconst 0, 1) := by decide +kernel
theorem dX2_clear_42 : decode cX2_clear 42 = .ok (.putfield 33, 3) := by decide +kernel
theorem dX2_clear_45 : decode cX2_clear 45 = .ok (.aload_n 0, 1) := by decide +kernel
theorem dX2_clear_46 : decode cX2_clear 46 = .ok (.iconst 0, 1) := by decide +kernel
theorem dX2_clear_47 : decode cX2_clear 47 = .ok (.putfield 37, 3) := by decide +kernel
theorem dX2_clear_50 : decode cX2_clear 50 = .ok (.aload_n 0, 1) := by decide +kernel
theorem dX2_clear_51 : decode cX2_clear 51 = .ok (.iconst 0, 1) := by decide +kernel
theorem dX2_clear_52 : decode cX2_clear 52 = .ok (.putfield 40, 3) := by decide +kernel
theorem dX2_clear_55 : decode cX2_clear 55 = .ok (.aload_n 0, 1) := by decide +kernel
theorem dX2_clear_56 : decode cX2_clear 56 = .ok (.iconst 0, 1) := by decide +kernel
theorem dX2_clear_57 : decode cX2_clear 57 = .ok (.putfield 43, 3) := by decide +kernel
theorem dX2_clear_60 : decode cX2_clear 60 = .ok (.aload_n 0, 1) := by decide +kernel
theorem dX2_clear_61 : decode cX2_clear 61 = .ok (.iconst 0, 1) := by decide +kernel
theorem dX2_clear_62 : decode cX2_clear 62 = .ok (.putfield 46, 3) := by decide +kernel
theorem dX2_clear_65 : decode cX2_clear 65 = .ok (.return_, 1) := by decide +kernel
set_option maxRecDepth 20000 in
theorem ggX2_copyFrom_X10_copy : GoodIn wsX2_copyFrom wsX10_copy := goodIn_r _ [13, 14, 15, 16, 17, 18, 19, 20, 21] (by decide +kernel) (by decide +kernel)
set_option maxRecDepth 20000 in
theorem gX2_copyFrom_X10_copy_n49 : GoodIn wsX2_copyFrom (wsX10_copy) := ggX2_copyFrom_X10_copy
theorem dX2_copyFrom_0 : decode cX2_copyFrom 0 = .ok (.aload_n 1, 1) := by decide +kernel
theorem dX2_copyFrom_1 : decode cX2_copyFrom 1 = .ok (.getfield 9, 3) := by decide +kernel
theorem dX2_copyFrom_4 : decode cX2_copyFrom 4 = .ok (.aload_n 0, 1) := by decide +kernel
theorem dX2_copyFrom_5 : decode cX2_copyFrom 5 = .ok (.getfield 9, 3) := by decide +kernel
theorem dX2_copyFrom_8 : decode cX2_copyFrom 8 = .ok (.invokestatic 49, 3) := by decide +kernel
theorem dX2_copyFrom_11 : decode cX2_copyFrom 11 = .ok (.aload_n 1, 1) := by decide +kernel
theorem dX2_copyFrom_12 : decode cX2_copyFrom 12 = .ok (.getfield 15, 3) := by decide +kernel
theorem dX2_copyFrom_15 : decode cX2_copyFrom 15 = .ok (.aload_n 0, 1) := by decide +kernel
theorem dX2_copyFrom_16 : decode cX2_copyFrom 16 = .ok (.getfield 15, 3) := by decide +kernel
theorem dX2_copyFrom_19 : decode cX2_copyFrom 19 = .ok (.invokestatic 49, 3) := by decide +kernel
theorem dX2_copyFrom_22 : decode cX2_copyFrom 22 = .ok (.aload_n 1, 1) := by decide +kernel
theorem dX2_copyFrom_23 : decode cX2_copyFrom 23 = .ok (.getfield 18, 3) := by decide +kernel
theorem dX2_copyFrom_26 : decode cX2_copyFrom 26 = .ok (.aload_n 0, 1) := by decide +kernel
theorem dX2_copyFrom_27 : decode cX2_copyFrom 27 = .ok (.getfield 18, 3) := by decide +kernel
theorem dX2_copyFrom_30 : decode cX2_copyFrom 30 = .ok (.invokestatic 49, 3) := by decide +kernel
theorem dX2_copyFrom_33 : decode cX2_copyFrom 33 = .ok (.aload_n 1, 1) := by decide +kernel
theorem dX2_copyFrom_34 : decode cX2_copyFrom 34 = .ok (.getfield 21, 3) := by decide +kernel
theorem dX2_copyFrom_37 : decode cX2_copyFrom 37 = .ok (.aload_n 0, 1) := by decide +kernel
theorem dX2_copyFrom_38 : decode cX2_copyFrom 38 = .ok (.getfield 21, 3) := by decide +kernel
theorem dX2_copyFrom_41 : decode cX2_copyFrom 41 = .ok (.invokestatic 49, 3) := by decide +kernel
theorem dX2_copyFrom_44 : decode cX2_copyFrom 44 = .ok (.aload_n 1, 1) := by decide +kernel
theorem dX2_copyFrom_45 : decode cX2_copyFrom 45 = .ok (.getfield 24, 3) := by decide +kernel
theorem dX2_copyFrom_48 : decode cX2_copyFrom 48 = .ok (.aload_n 0, 1) := by decide +kernel
theorem dX2_copyFrom_49 : decode cX2_copyFrom 49 = .ok (.getfield 24, 3) := by decide +kernel
theorem dX2_copyFrom_52 : decode cX2_copyFrom 52 = .ok (.invokestatic 49, 3) := by decide +kernel
theorem dX2_copyFrom_55 : decode cX2_copyFrom 55 = .ok (.aload_n 0, 1) := by decide +kernel
theorem dX2_copyFrom_56 : decode cX2_copyFrom 56 = .ok (.aload_n 1, 1) := by decide +kernel
theorem dX2_copyFrom_57 : decode cX2_copyFrom 57 = .ok (.getfield 33, 3) := by decide +kernel
theorem dX2_copyFrom_60 : decode cX2_copyFrom 60 = .ok (.putfield 33, 3) := by decide +kernel
theorem dX2_copyFrom_63 : decode cX2_copyFrom 63 = .ok (.aload_n 0, 1) := by decide +kernel
theorem dX2_copyFrom_64 : decode cX2_copyFrom 64 = .ok (.aload_n 1, 1) := by decide +kernel
theorem dX2_copyFrom_65 : decode cX2_copyFrom 65 = .ok (.getfield 37, 3) := by decide +kernel
theorem dX2_copyFrom_68 : decode cX2_copyFrom 68 = .ok (.putfield 37, 3) := by decide +kernel
theorem dX2_copyFrom_71 : decode cX2_copyFrom 71 = .ok (.aload_n 0, 1) := by decide +kernel
theorem dX2_copyFrom_72 : decode cX2_copyFrom 72 = .ok (.aload_n 1, 1) := by decide +kernel
theorem dX2_copyFrom_73 : decode cX2_copyFrom 73 = .ok (.getfield 40, 3) := by decide +kernel
theorem dX2_copyFrom_76 : decode cX2_copyFrom 76 = .ok (.putfield 40, 3) := by decide +kernel
theorem dX2_copyFrom_79 : decode cX2_copyFrom 79 = .ok (.aload_n 0, 1) := by decide +kernel
theorem dX2_copyFrom_80 : decode cX2_copyFrom 80 = .ok (.aload_n 1, 1) := by decide +kernel
theorem dX2_copyFrom_81 : decode cX2_copyFrom 81 = .ok (.getfield 43, 3) := by decide +kernel
theorem dX2_copyFrom_84 : decode cX2_copyFrom 84 = .ok (.putfield 43, 3) := by decide +kernel
theorem dX2_copyFrom_87 : decode cX2_copyFrom 87 = .ok (.aload_n 0, 1) := by decide +kernel
theorem dX2_copyFrom_88 : decode cX2_copyFrom 88 = .ok (.aload_n 1, 1) := by decide +kernel
theorem dX2_copyFrom_89 : decode cX2_copyFrom 89 = .ok (.getfield 46, 3) := by decide +kernel
theorem dX2_copyFrom_92 : decode cX2_copyFrom 92 = .ok (.putfield 46, 3) := by decide +kernel
theorem dX2_copyFrom_95 : decode cX2_copyFrom 95 = .ok (.return_, 1) := by decide +kernel
theorem dX2_isTold_0 : decode cX2_isTold 0 = .ok (.aload_n 0, 1) := by decide +kernel
theorem dX2_isTold_1 : decode cX2_isTold 1 = .ok (.getfield 33, 3) := by decide +kernel
theorem dX2_isTold_4 : decode cX2_isTold 4 = .ok (.ifCond .le 7, 3) := by decide +kernel
theorem dX2_isTold_7 : decode cX2_isTold 7 = .ok (.iconst 1, 1) := by decide +kernel
theorem dX2_isTold_8 : decode cX2_isTold 8 = .ok (.goto 4, 3) := by decide +kernel
theorem dX2_isTold_11 : decode cX2_isTold 11 = .ok (.iconst 0, 1) := by decide +kernel
theorem dX2_isTold_12 : decode cX2_isTold 12 = .ok (.ireturn, 1) := by decide +kernel
theorem dX2_isRoom_0 : decode cX2_isRoom 0 = .ok (.iload_n 1, 1) := by decide +kernel
theorem dX2_isRoom_1 : decode cX2_isRoom 1 = .ok (.ifCond .lt 15, 3) := by decide +kernel
theorem dX2_isRoom_4 : decode cX2_isRoom 4 = .ok (.iload_n 1, 1) := by decide +kernel
theorem dX2_isRoom_5 : decode cX2_isRoom 5 = .ok (.aload_n 0, 1) := by decide +kernel
theorem dX2_isRoom_6 : decode cX2_isRoom 6 = .ok (.getfield 33, 3) := by decide +kernel
theorem dX2_isRoom_9 : decode cX2_isRoom 9 = .ok (.if_icmp .ge 7, 3) := by decide +kernel
theorem dX2_isRoom_12 : decode cX2_isRoom 12 = .ok (.iconst 1, 1) := by decide +kernel
theorem dX2_isRoom_13 : decode cX2_isRoom 13 = .ok (.goto 4, 3) := by decide +kernel
theorem dX2_isRoom_16 : decode cX2_isRoom 16 = .ok (.iconst 0, 1) := by decide +kernel
theorem dX2_isRoom_17 : decode cX2_isRoom 17 = .ok (.ireturn, 1) := by decide +kernel
theorem dX2_isPerson_0 : decode cX2_isPerson 0 = .ok (.iload_n 1, 1) := by decide +kernel
theorem dX2_isPerson_1 : decode cX2_isPerson 1 = .ok (.ifCond .lt 15, 3) := by decide +kernel
theorem dX2_isPerson_4 : decode cX2_isPerson 4 = .ok (.iload_n 1, 1) := by decide +kernel
theorem dX2_isPerson_5 : decode cX2_isPerson 5 = .ok (.aload_n 0, 1) := by decide +kernel
theorem dX2_isPerson_6 : decode cX2_isPerson 6 = .ok (.getfield 46, 3) := by decide +kernel
theorem dX2_isPerson_9 : decode cX2_isPerson 9 = .ok (.if_icmp .ge 7, 3) := by decide +kernel
theorem dX2_isPerson_12 : decode cX2_isPerson 12 = .ok (.iconst 1, 1) := by decide +kernel
theorem dX2_isPerson_13 : decode cX2_isPerson 13 = .ok (.goto 4, 3) := by decide +kernel
theorem dX2_isPerson_16 : decode cX2_isPerson 16 = .ok (.iconst 0, 1) := by decide +kernel
theorem dX2_isPerson_17 : decode cX2_isPerson 17 = .ok (.ireturn, 1) := by decide +kernel
set_option maxRecDepth 20000 in
theorem ggX2_isPair_X2_isPerson : GoodIn wsX2_isPair wsX2_isPerson := goodIn_r _ [5, 6, 7, 8, 9, 10, 11, 12, 13, 14, 15, 16] (by decide +kernel) (by decide +kernel)
set_option maxRecDepth 20000 in
theorem gX2_isPair_X2_isPerson : GoodIn wsX2_isPair (wsV RX2 53 RX2 yX2_isPerson wsX2_isPerson) := goodIn_app (goodIn_of _ (by decide +kernel)) ggX2_isPair_X2_isPerson
theorem dX2_isPair_0 : decode cX2_isPair 0 = .ok (.aload_n 0, 1) := by decide +kernel
theorem dX2_isPair_1 : decode cX2_isPair 1 = .ok (.iload_n 1, 1) := by decide +kernel
theorem dX2_isPair_2 : decode cX2_isPair 2 = .ok (.invokevirtual 53, 3) := by decide +kernel
theorem dX2_isPair_5 : decode cX2_isPair 5 = .ok (.ifCond .eq 20, 3) := by decide +kernel
theorem dX2_isPair_8 : decode cX2_isPair 8 = .ok (.aload_n 0, 1) := by decide +kernel
theorem dX2_isPair_9 : decode cX2_isPair 9 = .ok (.iload_n 2, 1) := by decide +kernel
theorem dX2_isPair_10 : decode cX2_isPair 10 = .ok (.invokevirtual 53, 3) := by decide +kernel
theorem dX2_isPair_13 : decode cX2_isPair 13 = .ok (.ifCond .eq 12, 3) := by decide +kernel
theorem dX2_isPair_16 : decode cX2_isPair 16 = .ok (.iload_n 1, 1) := by decide +kernel
theorem dX2_isPair_17 : decode cX2_isPair 17 = .ok (.iload_n 2, 1) := by decide +kernel
theorem dX2_isPair_18 : decode cX2_isPair 18 = .ok (.if_icmp .eq 7, 3) := by decide +kernel
theorem dX2_isPair_21 : decode cX2_isPair 21 = .ok (.iconst 1, 1) := by decide +kernel
theorem dX2_isPair_22 : decode cX2_isPair 22 = .ok (.goto 4, 3) := by decide +kernel
theorem dX2_isPair_25 : decode cX2_isPair 25 = .ok (.iconst 0, 1) := by decide +kernel
theorem dX2_isPair_26 : decode cX2_isPair 26 = .ok (.ireturn, 1) := by decide +kernel
set_option maxRecDepth 20000 in
theorem ggX2_isBench_X10_at : GoodIn wsX2_isBench wsX10_at := goodIn_r _ [4] (by decide +kernel) (by decide +kernel)
set_option maxRecDepth 20000 in
theorem gX2_isBench_X10_at_n57 : GoodIn wsX2_isBench (wsX10_at) := ggX2_isBench_X10_at
set_option maxRecDepth 20000 in
theorem ggX2_isBench_X10_has : GoodIn wsX2_isBench wsX10_has := goodIn_r _ [6] (by decide +kernel) (by decide +kernel)
set_option maxRecDepth 20000 in
theorem gX2_isBench_X10_has_n61 : GoodIn wsX2_isBench (wsX10_has) := ggX2_isBench_X10_has
theorem dX2_isBench_0 : decode cX2_isBench 0 = .ok (.aload_n 0, 1) := by decide +kernel
theorem dX2_isBench_1 : decode cX2_isBench 1 = .ok (.getfield 9, 3) := by decide +kernel
theorem dX2_isBench_4 : decode cX2_isBench 4 = .ok (.iload_n 1, 1) := by decide +kernel
theorem dX2_isBench_5 : decode cX2_isBench 5 = .ok (.invokestatic 57, 3) := by decide +kernel
theorem dX2_isBench_8 : decode cX2_isBench 8 = .ok (.iload_n 2, 1) := by decide +kernel
theorem dX2_isBench_9 : decode cX2_isBench 9 = .ok (.invokestatic 61, 3) := by decide +kernel
theorem dX2_isBench_12 : decode cX2_isBench 12 = .ok (.ireturn, 1) := by decide +kernel
set_option maxRecDepth 20000 in
theorem ggX2_isWay_X10_at : GoodIn wsX2_isWay wsX10_at := goodIn_r _ [4] (by decide +kernel) (by decide +kernel)
set_option maxRecDepth 20000 in
theorem gX2_isWay_X10_at_n57 : GoodIn wsX2_isWay (wsX10_at) := ggX2_isWay_X10_at
set_option maxRecDepth 20000 in
theorem ggX2_isWay_X10_has : GoodIn wsX2_isWay wsX10_has := goodIn_r _ [6] (by decide +kernel) (by decide +kernel)
set_option maxRecDepth 20000 in
theorem gX2_isWay_X10_has_n61 : GoodIn wsX2_isWay (wsX10_has) := ggX2_isWay_X10_has
theorem dX2_isWay_0 : decode cX2_isWay 0 = .ok (.aload_n 0, 1) := by decide +kernel
theorem dX2_isWay_1 : decode cX2_isWay 1 = .ok (.getfield 15, 3) := by decide +kernel
theorem dX2_isWay_4 : decode cX2_isWay 4 = .ok (.iload_n 1, 1) := by decide +kernel
theorem dX2_isWay_5 : decode cX2_isWay 5 = .ok (.invokestatic 57, 3) := by decide +kernel
theorem dX2_isWay_8 : decode cX2_isWay 8 = .ok (.iload_n 2, 1) := by decide +kernel
theorem dX2_isWay_9 : decode cX2_isWay 9 = .ok (.invokestatic 61, 3) := by decide +kernel
theorem dX2_isWay_12 : decode cX2_isWay 12 = .ok (.ireturn, 1) := by decide +kernel
set_option maxRecDepth 20000 in
theorem ggX2_addBench_X10_at : GoodIn wsX2_addBench wsX10_at := goodIn_r _ [5] (by decide +kernel) (by decide +kernel)
set_option maxRecDepth 20000 in
theorem gX2_addBench_X10_at_n57 : GoodIn wsX2_addBench (wsX10_at) := ggX2_addBench_X10_at
set_option maxRecDepth 20000 in
theorem ggX2_addBench_X10_bit : GoodIn wsX2_addBench wsX10_bit := goodIn_r _ [7] (by decide +kernel) (by decide +kernel)
set_option maxRecDepth 20000 in
theorem gX2_addBench_X10_bit_n65 : GoodIn wsX2_addBench (wsX10_bit) := ggX2_addBench_X10_bit
set_option maxRecDepth 20000 in
theorem ggX2_addBench_X10_put : GoodIn wsX2_addBench wsX10_put := goodIn_r _ [9] (by decide +kernel) (by decide +kernel)
set_option maxRecDepth 20000 in
theorem gX2_addBench_X10_put_n69 : GoodIn wsX2_addBench (wsX10_put) := ggX2_addBench_X10_put
theorem dX2_addBench_0 : decode cX2_addBench 0 = .ok (.aload_n 0, 1) := by decide +kernel
theorem dX2_addBench_1 : decode cX2_addBench 1 = .ok (.getfield 9, 3) := by decide +kernel
theorem dX2_addBench_4 : decode cX2_addBench 4 = .ok (.iload_n 1, 1) := by decide +kernel
theorem dX2_addBench_5 : decode cX2_addBench 5 = .ok (.aload_n 0, 1) := by decide +kernel
theorem dX2_addBench_6 : decode cX2_addBench 6 = .ok (.getfield 9, 3) := by decide +kernel
theorem dX2_addBench_9 : decode cX2_addBench 9 = .ok (.iload_n 1, 1) := by decide +kernel
theorem dX2_addBench_10 : decode cX2_addBench 10 = .ok (.invokestatic 57, 3) := by decide +kernel
theorem dX2_addBench_13 : decode cX2_addBench 13 = .ok (.iload_n 2, 1) := by decide +kernel
theorem dX2_addBench_14 : decode cX2_addBench 14 = .ok (.invokestatic 65, 3) := by decide +kernel
theorem dX2_addBench_17 : decode cX2_addBench 17 = .ok (.ior, 1) := by decide +kernel
theorem dX2_addBench_18 : decode cX2_addBench 18 = .ok (.invokestatic 69, 3) := by decide +kernel
theorem dX2_addBench_21 : decode cX2_addBench 21 = .ok (.aload_n 0, 1) := by decide +kernel
theorem dX2_addBench_22 : decode cX2_addBench 22 = .ok (.dup, 1) := by decide +kernel
theorem dX2_addBench_23 : decode cX2_addBench 23 = .ok (.getfield 40, 3) := by decide +kernel
theorem dX2_addBench_26 : decode cX2_addBench 26 = .ok (.iconst 1, 1) := by decide +kernel
theorem dX2_addBench_27 : decode cX2_addBench 27 = .ok (.iadd, 1) := by decide +kernel
theorem dX2_addBench_28 : decode cX2_addBench 28 = .ok (.putfield 40, 3) := by decide +kernel
theorem dX2_addBench_31 : decode cX2_addBench 31 = .ok (.return_, 1) := by decide +kernel
set_option maxRecDepth 20000 in
theorem ggX2_addWay_X10_at : GoodIn wsX2_addWay wsX10_at := goodIn_r _ [5] (by decide +kernel) (by decide +kernel)
set_option maxRecDepth 20000 in
theorem gX2_addWay_X10_at_n57 : GoodIn wsX2_addWay (wsX10_at) := ggX2_addWay_X10_at
set_option maxRecDepth 20000 in
theorem ggX2_addWay_X10_bit : GoodIn wsX2_addWay wsX10_bit := goodIn_r _ [7] (by decide +kernel) (by decide +kernel)
set_option maxRecDepth 20000 in
theorem gX2_addWay_X10_bit_n65 : GoodIn wsX2_addWay (wsX10_bit) := ggX2_addWay_X10_bit
set_option maxRecDepth 20000 in
theorem ggX2_addWay_X10_put : GoodIn wsX2_addWay wsX10_put := goodIn_r _ [9] (by decide +kernel) (by decide +kernel)
set_option maxRecDepth 20000 in
theorem gX2_addWay_X10_put_n69 : GoodIn wsX2_addWay (wsX10_put) := ggX2_addWay_X10_put
theorem dX2_addWay_0 : decode cX2_addWay 0 = .ok (.aload_n 0, 1) := by decide +kernel
theorem dX2_addWay_1 : decode cX2_addWay 1 = .ok (.getfield 15, 3) := by decide +kernel
theorem dX2_addWay_4 : decode cX2_addWay 4 = .ok (.iload_n 1, 1) := by decide +kernel
theorem dX2_addWay_5 : decode cX2_addWay 5 = .ok (.aload_n 0, 1) := by decide +kernel
theorem dX2_addWay_6 : decode cX2_addWay 6 = .ok (.getfield 15, 3) := by decide +kernel
theorem dX2_addWay_9 : decode cX2_addWay 9 = .ok (.iload_n 1, 1) := by decide +kernel
theorem dX2_addWay_10 : decode cX2_addWay 10 = .ok (.invokestatic 57, 3) := by decide +kernel
theorem dX2_addWay_13 : decode cX2_addWay 13 = .ok (.iload_n 2, 1) := by decide +kernel
theorem dX2_addWay_14 : decode cX2_addWay 14 = .ok (.invokestatic 65, 3) := by decide +kernel
theorem dX2_addWay_17 : decode cX2_addWay 17 = .ok (.ior, 1) := by decide +kernel
theorem dX2_addWay_18 : decode cX2_addWay 18 = .ok (.invokestatic 69, 3) := by decide +kernel
theorem dX2_addWay_21 : decode cX2_addWay 21 = .ok (.aload_n 0, 1) := by decide +kernel
theorem dX2_addWay_22 : decode cX2_addWay 22 = .ok (.getfield 15, 3) := by decide +kernel
theorem dX2_addWay_25 : decode cX2_addWay 25 = .ok (.iload_n 2, 1) := by decide +kernel
theorem dX2_addWay_26 : decode cX2_addWay 26 = .ok (.aload_n 0, 1) := by decide +kernel
theorem dX2_addWay_27 : decode cX2_addWay 27 = .ok (.getfield 15, 3) := by decide +kernel
theorem dX2_addWay_30 : decode cX2_addWay 30 = .ok (.iload_n 2, 1) := by decide +kernel
theorem dX2_addWay_31 : decode cX2_addWay 31 = .ok (.invokestatic 57, 3) := by decide +kernel
theorem dX2_addWay_34 : decode cX2_addWay 34 = .ok (.iload_n 1, 1) := by decide +kernel
theorem dX2_addWay_35 : decode cX2_addWay 35 = .ok (.invokestatic 65, 3) := by decide +kernel
theorem dX2_addWay_38 : decode cX2_addWay 38 = .ok (.ior, 1) := by decide +kernel
theorem dX2_addWay_39 : decode cX2_addWay 39 = .ok (.invokestatic 69, 3) := by decide +kernel
theorem dX2_addWay_42 : decode cX2_addWay 42 = .ok (.aload_n 0, 1) := by decide +kernel
theorem dX2_addWay_43 : decode cX2_addWay 43 = .ok (.dup, 1) := by decide +kernel
theorem dX2_addWay_44 : decode cX2_addWay 44 = .ok (.getfield 43, 3) := by decide +kernel
theorem dX2_addWay_47 : decode cX2_addWay 47 = .ok (.iconst 1, 1) := by decide +kernel
theorem dX2_addWay_48 : decode cX2_addWay 48 = .ok (.iadd, 1) := by decide +kernel
theorem dX2_addWay_49 : decode cX2_addWay 49 = .ok (.putfield 43, 3) := by decide +kernel
theorem dX2_addWay_52 : decode cX2_addWay 52 = .ok (.return_, 1) := by decide +kernel
set_option maxRecDepth 20000 in
theorem ggX2_addPerson_X10_put : GoodIn wsX2_addPerson wsX10_put := goodIn_r _ [6] (by decide +kernel) (by decide +kernel)
set_option maxRecDepth 20000 in
theorem gX2_addPerson_X10_put_n69 : GoodIn wsX2_addPerson (wsX10_put) := ggX2_addPerson_X10_put
theorem dX2_addPerson_0 : decode cX2_addPerson 0 = .ok (.aload_n 0, 1) := by decide +kernel
theorem dX2_addPerson_1 : decode cX2_addPerson 1 = .ok (.getfield 18, 3) := by decide +kernel
theorem dX2_addPerson_4 : decode cX2_addPerson 4 = .ok (.aload_n 0, 1) := by decide +kernel
theorem dX2_addPerson_5 : decode cX2_addPerson 5 = .ok (.getfield 46, 3) := by decide +kernel
theorem dX2_addPerson_8 : decode cX2_addPerson 8 = .ok (.iload_n 1, 1) := by decide +kernel
theorem dX2_addPerson_9 : decode cX2_addPerson 9 = .ok (.invokestatic 69, 3) := by decide +kernel
theorem dX2_addPerson_12 : decode cX2_addPerson 12 = .ok (.aload_n 0, 1) := by decide +kernel
theorem dX2_addPerson_13 : decode cX2_addPerson 13 = .ok (.getfield 21, 3) := by decide +kernel
theorem dX2_addPerson_16 : decode cX2_addPerson 16 = .ok (.aload_n 0, 1) := by decide +kernel
theorem dX2_addPerson_17 : decode cX2_addPerson 17 = .ok (.getfield 46, 3) := by decide +kernel
theorem dX2_addPerson_20 : decode cX2_addPerson 20 = .ok (.iload_n 2, 1) := by decide +kernel
theorem dX2_addPerson_21 : decode cX2_addPerson 21 = .ok (.invokestatic 69, 3) := by decide +kernel
theorem dX2_addPerson_24 : decode cX2_addPerson 24 = .ok (.aload_n 0, 1) := by decide +kernel
theorem dX2_addPerson_25 : decode cX2_addPerson 25 = .ok (.dup, 1) := by decide +kernel
theorem dX2_addPerson_26 : decode cX2_addPerson 26 = .ok (.getfield 46, 3) := by decide +kernel
theorem dX2_addPerson_29 : decode cX2_addPerson 29 = .ok (.iconst 1, 1) := by decide +kernel
theorem dX2_addPerson_30 : decode cX2_addPerson 30 = .ok (.iadd, 1) := by decide +kernel
theorem dX2_addPerson_31 : decode cX2_addPerson 31 = .ok (.putfield 46, 3) := by decide +kernel
theorem dX2_addPerson_34 : decode cX2_addPerson 34 = .ok (.return_, 1) := by decide +kernel
set_option maxRecDepth 20000 in
theorem ggX2_addLiking_X10_pairIndex : GoodIn wsX2_addLiking wsX10_pairIndex := goodIn_r _ [4] (by decide +kernel) (by decide +kernel)
set_option maxRecDepth 20000 in
theorem gX2_addLiking_X10_pairIndex_n73 : GoodIn wsX2_addLiking (wsX10_pairIndex) := ggX2_addLiking_X10_pairIndex
set_option maxRecDepth 20000 in
theorem ggX2_addLiking_X10_put : GoodIn wsX2_addLiking wsX10_put := goodIn_r _ [6] (by decide +kernel) (by decide +kernel)
set_option maxRecDepth 20000 in
theorem gX2_addLiking_X10_put_n69 : GoodIn wsX2_addLiking (wsX10_put) := ggX2_addLiking_X10_put
theorem dX2_addLiking_0 : decode cX2_addLiking 0 = .ok (.aload_n 0, 1) := by decide +kernel
theorem dX2_addLiking_1 : decode cX2_addLiking 1 = .ok (.getfield 24, 3) := by decide +kernel
theorem dX2_addLiking_4 : decode cX2_addLiking 4 = .ok (.iload_n 1, 1) := by decide +kernel
theorem dX2_addLiking_5 : decode cX2_addLiking 5 = .ok (.iload_n 2, 1) := by decide +kernel
theorem dX2_addLiking_6 : decode cX2_addLiking 6 = .ok (.invokestatic 73, 3) := by decide +kernel
theorem dX2_addLiking_9 : decode cX2_addLiking 9 = .ok (.iload_n 3, 1) := by decide +kernel
theorem dX2_addLiking_10 : decode cX2_addLiking 10 = .ok (.invokestatic 69, 3) := by decide +kernel
theorem dX2_addLiking_13 : decode cX2_addLiking 13 = .ok (.return_, 1) := by decide +kernel
set_option maxRecDepth 20000 in
theorem ggX3_init_X7_init : GoodIn wsX3_init wsX7_init := goodIn_r _ [9, 10, 2, 3, 11, 12, 13, 14, 15, 16, 17, 18, 19, 20, 21] (by decide +kernel) (by decide +kernel)
set_option maxRecDepth 20000 in
theorem gX3_init_X7_init_n9 : GoodIn wsX3_init (wsX7_init) := ggX3_init_X7_init
theorem dX3_init_0 : decode cX3_init 0 = .ok (.aload_n 0, 1) := by decide +kernel
theorem dX3_init_1 : decode cX3_init 1 = .ok (.invokespecial 1, 3) := by decide +kernel
theorem dX3_init_4 : decode cX3_init 4 = .ok (.aload_n 0, 1) := by decide +kernel
theorem dX3_init_5 : decode cX3_init 5 = .ok (.new 7, 3) := by decide +kernel
theorem dX3_init_8 : decode cX3_init 8 = .ok (.dup, 1) := by decide +kernel
theorem dX3_init_9 : decode cX3_init 9 = .ok (.invokespecial 9, 3) := by decide +kernel
theorem dX3_init_12 : decode cX3_init 12 = .ok (.putfield 10, 3) := by decide +kernel
theorem dX3_init_15 : decode cX3_init 15 = .ok (.return_, 1) := by decide +kernel
theorem dX4_init_0 : decode cX4_init 0 = .ok (.aload_n 0, 1) := by decide +kernel
theorem dX4_init_1 : decode cX4_init 1 = .ok (.invokespecial 3, 3) := by decide +kernel
theorem dX4_init_4 : decode cX4_init 4 = .ok (.aload_n 0, 1) := by decide +kernel
theorem dX4_init_5 : decode cX4_init 5 = .ok (.aload_n 1, 1) := by decide +kernel
theorem dX4_init_6 : decode cX4_init 6 = .ok (.putfield 9, 3) := by decide +kernel
theorem dX4_init_9 : decode cX4_init 9 = .ok (.aload_n 0, 1) := by decide +kernel
theorem dX4_init_10 : decode cX4_init 10 = .ok (.aload_n 2, 1) := by decide +kernel
theorem dX4_init_11 : decode cX4_init 11 = .ok (.putfield 15, 3) := by decide +kernel
theorem dX4_init_14 : decode cX4_init 14 = .ok (.return_, 1) := by decide +kernel
set_option maxRecDepth 20000 in
theorem ggX4_personsIn_X10_at : GoodIn wsX4_personsIn wsX10_at := goodIn_r _ [7] (by decide +kernel) (by decide +kernel)
set_option maxRecDepth 20000 in
theorem gX4_personsIn_X10_at_n31 : GoodIn wsX4_personsIn (wsX10_at) := ggX4_personsIn_X10_at
set_option maxRecDepth 20000 in
theorem ggX4_personsIn_X10_has : GoodIn wsX4_personsIn wsX10_has := goodIn_r _ [9] (by decide +kernel) (by decide +kernel)
set_option maxRecDepth 20000 in
theorem gX4_personsIn_X10_has_n35 : GoodIn wsX4_personsIn (wsX10_has) := ggX4_personsIn_X10_has
set_option maxRecDepth 20000 in
theorem ggX4_personsIn_X10_bit : GoodIn wsX4_personsIn wsX10_bit := goodIn_r _ [11] (by decide +kernel) (by decide +kernel)
set_option maxRecDepth 20000 in
theorem gX4_personsIn_X10_bit_n39 : GoodIn wsX4_personsIn (wsX10_bit) := ggX4_personsIn_X10_bit
theorem dX4_personsIn_0 : decode cX4_personsIn 0 = .ok (.iconst 0, 1) := by decide +kernel
theorem dX4_personsIn_1 : decode cX4_personsIn 1 = .ok (.istore_n 2, 1) := by decide +kernel
theorem dX4_personsIn_2 : decode cX4_personsIn 2 = .ok (.iconst 0, 1) := by decide +kernel
theorem dX4_personsIn_3 : decode cX4_personsIn 3 = .ok (.istore_n 3, 1) := by decide +kernel
theorem dX4_personsIn_4 : decode cX4_personsIn 4 = .ok (.iload_n 3, 1) := by decide +kernel
theorem dX4_personsIn_5 : decode cX4_personsIn 5 = .ok (.aload_n 0, 1) := by decide +kernel
theorem dX4_personsIn_6 : decode cX4_personsIn 6 = .ok (.getfield 9, 3) := by decide +kernel
theorem dX4_personsIn_9 : decode cX4_personsIn 9 = .ok (.getfield 19, 3) := by decide +kernel
theorem dX4_personsIn_12 : decode cX4_personsIn 12 = .ok (.if_icmp .ge 34, 3) := by decide +kernel
theorem dX4_personsIn_15 : decode cX4_personsIn 15 = .ok (.iload_n 1, 1) := by decide +kernel
theorem dX4_personsIn_16 : decode cX4_personsIn 16 = .ok (.aload_n 0, 1) := by decide +kernel
theorem dX4_personsIn_17 : decode cX4_personsIn 17 = .ok (.getfield 15, 3) := by decide +kernel
theorem dX4_personsIn_20 : decode cX4_personsIn 20 = .ok (.getfield 25, 3) := by decide +kernel
theorem dX4_personsIn_23 : decode cX4_personsIn 23 = .ok (.iload_n 3, 1) := by decide +kernel
theorem dX4_personsIn_24 : decode cX4_personsIn 24 = .ok (.invokestatic 31, 3) := by decide +kernel
theorem dX4_personsIn_27 : decode cX4_personsIn 27 = .ok (.invokestatic 35, 3) := by decide +kernel
theorem dX4_personsIn_30 : decode cX4_personsIn 30 = .ok (.ifCond .eq 10, 3) := by decide +kernel
theorem dX4_personsIn_33 : decode cX4_personsIn 33 = .ok (.iload_n 2, 1) := by decide +kernel
theorem dX4_personsIn_34 : decode cX4_personsIn 34 = .ok (.iload_n 3, 1) := by decide +kernel
theorem dX4_personsIn_35 : decode cX4_personsIn 35 = .ok (.invokestatic 39, 3) := by decide +kernel
theorem dX4_personsIn_38 : decode cX4_personsIn 38 = .ok (.ior, 1) := by decide +kernel
theorem dX4_personsIn_39 : decode cX4_personsIn 39 = .ok (.istore_n 2, 1) := by decide +kernel
theorem dX4_personsIn_40 : decode cX4_personsIn 40 = .ok (.iinc 3 1, 3) := by decide +kernel
theorem dX4_personsIn_43 : decode cX4_personsIn 43 = .ok (.goto (-39), 3) := by decide +kernel
theorem dX4_personsIn_46 : decode cX4_personsIn 46 = .ok (.iload_n 2, 1) := by decide +kernel
theorem dX4_personsIn_47 : decode cX4_personsIn 47 = .ok (.ireturn, 1) := by decide +kernel
set_option maxRecDepth 20000 in
theorem ggX4_reaches_X10_at : GoodIn wsX4_reaches wsX10_at := goodIn_r _ [5] (by decide +kernel) (by decide +kernel)
set_option maxRecDepth 20000 in
theorem gX4_reaches_X10_at_n31 : GoodIn wsX4_reaches (wsX10_at) := ggX4_reaches_X10_at
set_option maxRecDepth 20000 in
theorem ggX4_reaches_X10_has : GoodIn wsX4_reaches wsX10_has := goodIn_r _ [7] (by decide +kernel) (by decide +kernel)
set_option maxRecDepth 20000 in
theorem gX4_reaches_X10_has_n35 : GoodIn wsX4_reaches (wsX10_has) := ggX4_reaches_X10_has
theorem dX4_reaches_0 : decode cX4_reaches 0 = .ok (.iload_n 1, 1) := by decide +kernel
theorem dX4_reaches_1 : decode cX4_reaches 1 = .ok (.iload_n 2, 1) := by decide +kernel
theorem dX4_reaches_2 : decode cX4_reaches 2 = .ok (.if_icmp .eq 21, 3) := by decide +kernel
theorem dX4_reaches_5 : decode cX4_reaches 5 = .ok (.aload_n 0, 1) := by decide +kernel
theorem dX4_reaches_6 : decode cX4_reaches 6 = .ok (.getfield 9, 3) := by decide +kernel
theorem dX4_reaches_9 : decode cX4_reaches 9 = .ok (.getfield 43, 3) := by decide +kernel
theorem dX4_reaches_12 : decode cX4_reaches 12 = .ok (.iload_n 1, 1) := by decide +kernel
theorem dX4_reaches_13 : decode cX4_reaches 13 = .ok (.invokestatic 31, 3) := by decide +kernel
theorem dX4_reaches_16 : decode cX4_reaches 16 = .ok (.iload_n 2, 1) := by decide +kernel
theorem dX4_reaches_17 : decode cX4_reaches 17 = .ok (.invokestatic 35, 3) := by decide +kernel
theorem dX4_reaches_20 : decode cX4_reaches 20 = .ok (.ifCond .eq 7, 3) := by decide +kernel
theorem dX4_reaches_23 : decode cX4_reaches 23 = .ok (.iconst 1, 1) := by decide +kernel
theorem dX4_reaches_24 : decode cX4_reaches 24 = .ok (.goto 4, 3) := by decide +kernel
theorem dX4_reaches_27 : decode cX4_reaches 27 = .ok (.iconst 0, 1) := by decide +kernel
theorem dX4_reaches_28 : decode cX4_reaches 28 = .ok (.ireturn, 1) := by decide +kernel
set_option maxRecDepth 20000 in
theorem ggX4_says_X10_at : GoodIn wsX4_says wsX10_at := goodIn_r _ [7] (by decide +kernel) (by decide +kernel)
set_option maxRecDepth 20000 in
theorem gX4_says_X10_at_n31 : GoodIn wsX4_says (wsX10_at) := ggX4_says_X10_at
set_option maxRecDepth 20000 in
theorem ggX4_says_X4_reaches : GoodIn wsX4_says wsX4_reaches := goodIn_r _ [12, 1, 13, 5, 6, 7, 14, 15, 20, 21, 22, 23, 24, 25, 26, 27, 28, 29, 30, 31] (by decide +kernel) (by decide +kernel)
set_option maxRecDepth 20000 in
theorem gX4_says_X4_reaches : GoodIn wsX4_says (wsV RX4 49 RX4 yX4_reaches wsX4_reaches) := goodIn_app (goodIn_of _ (by decide +kernel)) ggX4_says_X4_reaches
set_option maxRecDepth 20000 in
theorem ggX4_says_X10_pairIndex : GoodIn wsX4_says wsX10_pairIndex := goodIn_r _ [17] (by decide +kernel) (by decide +kernel)
set_option maxRecDepth 20000 in
theorem gX4_says_X10_pairIndex_n55 : GoodIn wsX4_says (wsX10_pairIndex) := ggX4_says_X10_pairIndex
set_option maxRecDepth 20000 in
theorem ggX4_says_X10_words : GoodIn wsX4_says wsX10_words := goodIn_r _ [19] (by decide +kernel) (by decide +kernel)
set_option maxRecDepth 20000 in
theorem gX4_says_X10_words_n59 : GoodIn wsX4_says (wsX10_words) := ggX4_says_X10_words
theorem dX4_says_0 : decode cX4_says 0 = .ok (.aload_n 0, 1) := by decide +kernel
theorem dX4_says_1 : decode cX4_says 1 = .ok (.getfield 9, 3) := by decide +kernel
theorem dX4_says_4 : decode cX4_says 4 = .ok (.getfield 46, 3) := by decide +kernel
theorem dX4_says_7 : decode cX4_says 7 = .ok (.iload_n 1, 1) := by decide +kernel
theorem dX4_says_8 : decode cX4_says 8 = .ok (.invokestatic 31, 3) := by decide +kernel
theorem dX4_says_11 : decode cX4_says 11 = .ok (.istore 6, 2) := by decide +kernel
theorem dX4_says_13 : decode cX4_says 13 = .ok (.iload_n 2, 1) := by decide +kernel
theorem dX4_says_14 : decode cX4_says 14 = .ok (.iload 4, 2) := by decide +kernel
theorem dX4_says_16 : decode cX4_says 16 = .ok (.if_icmp .eq 24, 3) := by decide +kernel
theorem dX4_says_19 : decode cX4_says 19 = .ok (.iload 5, 2) := by decide +kernel
theorem dX4_says_21 : decode cX4_says 21 = .ok (.ifCond .eq 23, 3) := by decide +kernel
theorem dX4_says_24 : decode cX4_says 24 = .ok (.iload 6, 2) := by decide +kernel
theorem dX4_says_26 : decode cX4_says 26 = .ok (.iconst 3, 1) := by decide +kernel
theorem dX4_says_27 : decode cX4_says 27 = .ok (.if_icmp .eq 17, 3) := by decide +kernel
theorem dX4_says_30 : decode cX4_says 30 = .ok (.aload_n 0, 1) := by decide +kernel
theorem dX4_says_31 : decode cX4_says 31 = .ok (.iload_n 2, 1) := by decide +kernel
theorem dX4_says_32 : decode cX4_says 32 = .ok (.iload 4, 2) := by decide +kernel
theorem dX4_says_34 : decode cX4_says 34 = .ok (.invokevirtual 49, 3) := by decide +kernel
theorem dX4_says_37 : decode cX4_says 37 = .ok (.ifCond .eq 7, 3) := by decide +kernel
theorem dX4_says_40 : decode cX4_says 40 = .ok (.iconst 1, 1) := by decide +kernel
theorem dX4_says_41 : decode cX4_says 41 = .ok (.goto 4, 3) := by decide +kernel
theorem dX4_says_44 : decode cX4_says 44 = .ok (.iconst 0, 1) := by decide +kernel
theorem dX4_says_45 : decode cX4_says 45 = .ok (.istore 7, 2) := by decide +kernel
theorem dX4_says_47 : decode cX4_says 47 = .ok (.iload 6, 2) := by decide +kernel
theorem dX4_says_49 : decode cX4_says 49 = .ok (.aload_n 0, 1) := by decide +kernel
theorem dX4_says_50 : decode cX4_says 50 = .ok (.getfield 15, 3) := by decide +kernel
theorem dX4_says_53 : decode cX4_says 53 = .ok (.getfield 52, 3) := by decide +kernel
theorem dX4_says_56 : decode cX4_says 56 = .ok (.iload_n 1, 1) := by decide +kernel
theorem dX4_says_57 : decode cX4_says 57 = .ok (.iload_n 3, 1) := by decide +kernel
theorem dX4_says_58 : decode cX4_says 58 = .ok (.invokestatic 55, 3) := by decide +kernel
theorem dX4_says_61 : decode cX4_says 61 = .ok (.invokestatic 31, 3) := by decide +kernel
theorem dX4_says_64 : decode cX4_says 64 = .ok (.iload 7, 2) := by decide +kernel
theorem dX4_says_66 : decode cX4_says 66 = .ok (.invokestatic 59, 3) := by decide +kernel
theorem dX4_says_69 : decode cX4_says 69 = .ok (.ireturn, 1) := by decide +kernel
set_option maxRecDepth 20000 in
theorem ggX4_saysNow_X10_at : GoodIn wsX4_saysNow wsX10_at := goodIn_r _ [6] (by decide +kernel) (by decide +kernel)
set_option maxRecDepth 20000 in
theorem gX4_saysNow_X10_at_n31 : GoodIn wsX4_saysNow (wsX10_at) := ggX4_saysNow_X10_at
set_option maxRecDepth 20000 in
theorem ggX4_saysNow_X10_has : GoodIn wsX4_saysNow wsX10_has := goodIn_r _ [8] (by decide +kernel) (by decide +kernel)
set_option maxRecDepth 20000 in
theorem gX4_saysNow_X10_has_n35 : GoodIn wsX4_saysNow (wsX10_has) := ggX4_saysNow_X10_has
set_option maxRecDepth 20000 in
theorem ggX4_saysNow_X4_says : GoodIn wsX4_saysNow wsX4_says := goodIn_r _ [13, 14, 15, 1, 16, 4, 5, 6, 17, 18, 19, 12, 20, 21, 7, 8, 22, 23, 24, 25, 26, 27, 34, 35, 36, 37, 38, 39, 40, 41, 42, 43, 28, 29, 30, 31, 32, 33] (by decide +kernel) (by decide +kernel)
set_option maxRecDepth 20000 in
theorem gX4_saysNow_X4_says : GoodIn wsX4_saysNow (wsV RX4 66 RX4 yX4_says wsX4_says) := goodIn_app (goodIn_of _ (by decide +kernel)) ggX4_saysNow_X4_says
theorem dX4_saysNow_0 : decode cX4_saysNow 0 = .ok (.aload_n 0, 1) := by decide +kernel
theorem dX4_saysNow_1 : decode cX4_saysNow 1 = .ok (.iload_n 1, 1) := by decide +kernel
theorem dX4_saysNow_2 : decode cX4_saysNow 2 = .ok (.aload_n 0, 1) := by decide +kernel
theorem dX4_saysNow_3 : decode cX4_saysNow 3 = .ok (.getfield 15, 3) := by decide +kernel
theorem dX4_saysNow_6 : decode cX4_saysNow 6 = .ok (.getfield 25, 3) := by decide +kernel
theorem dX4_saysNow_9 : decode cX4_saysNow 9 = .ok (.iload_n 1, 1) := by decide +kernel
theorem dX4_saysNow_10 : decode cX4_saysNow 10 = .ok (.invokestatic 31, 3) := by decide +kernel
theorem dX4_saysNow_13 : decode cX4_saysNow 13 = .ok (.iload_n 2, 1) := by decide +kernel
theorem dX4_saysNow_14 : decode cX4_saysNow 14 = .ok (.aload_n 0, 1) := by decide +kernel
theorem dX4_saysNow_15 : decode cX4_saysNow 15 = .ok (.getfield 15, 3) := by decide +kernel
theorem dX4_saysNow_18 : decode cX4_saysNow 18 = .ok (.getfield 25, 3) := by decide +kernel
theorem dX4_saysNow_21 : decode cX4_saysNow 21 = .ok (.iload_n 2, 1) := by decide +kernel
theorem dX4_saysNow_22 : decode cX4_saysNow 22 = .ok (.invokestatic 31, 3) := by decide +kernel
theorem dX4_saysNow_25 : decode cX4_saysNow 25 = .ok (.aload_n 0, 1) := by decide +kernel
theorem dX4_saysNow_26 : decode cX4_saysNow 26 = .ok (.getfield 15, 3) := by decide +kernel
theorem dX4_saysNow_29 : decode cX4_saysNow 29 = .ok (.getfield 63, 3) := by decide +kernel
theorem dX4_saysNow_32 : decode cX4_saysNow 32 = .ok (.iload_n 2, 1) := by decide +kernel
theorem dX4_saysNow_33 : decode cX4_saysNow 33 = .ok (.invokestatic 35, 3) := by decide +kernel
theorem dX4_saysNow_36 : decode cX4_saysNow 36 = .ok (.invokevirtual 66, 3) := by decide +kernel
theorem dX4_saysNow_39 : decode cX4_saysNow 39 = .ok (.ireturn, 1) := by decide +kernel
set_option maxRecDepth 20000 in
theorem ggX4_spokenOfBy_J9_floorMod_7cf53 : GoodIn wsX4_spokenOfBy wsJ9_floorMod_7cf53 := goodIn_r _ [6] (by decide +kernel) (by decide +kernel)
set_option maxRecDepth 20000 in
theorem gX4_spokenOfBy_J9_floorMod_7cf53 : GoodIn wsX4_spokenOfBy (va_wsS RX4 70 yJ9_floorMod_7cf53 wsJ9_floorMod_7cf53) := goodIn_app (goodIn_of _ (by decide +kernel)) ggX4_spokenOfBy_J9_floorMod_7cf53
theorem dX4_spokenOfBy_0 : decode cX4_spokenOfBy 0 = .ok (.aload_n 0, 1) := by decide +kernel
theorem dX4_spokenOfBy_1 : decode cX4_spokenOfBy 1 = .ok (.getfield 9, 3) := by decide +kernel
theorem dX4_spokenOfBy_4 : decode cX4_spokenOfBy 4 = .ok (.getfield 19, 3) := by decide +kernel
theorem dX4_spokenOfBy_7 : decode cX4_spokenOfBy 7 = .ok (.ifCond .le 21, 3) := by decide +kernel
theorem dX4_spokenOfBy_10 : decode cX4_spokenOfBy 10 = .ok (.iload_n 1, 1) := by decide +kernel
theorem dX4_spokenOfBy_11 : decode cX4_spokenOfBy 11 = .ok (.iload_n 2, 1) := by decide +kernel
theorem dX4_spokenOfBy_12 : decode cX4_spokenOfBy 12 = .ok (.iadd, 1) := by decide +kernel
theorem dX4_spokenOfBy_13 : decode cX4_spokenOfBy 13 = .ok (.iconst 1, 1) := by decide +kernel
theorem dX4_spokenOfBy_14 : decode cX4_spokenOfBy 14 = .ok (.iadd, 1) := by decide +kernel
theorem dX4_spokenOfBy_15 : decode cX4_spokenOfBy 15 = .ok (.aload_n 0, 1) := by decide +kernel
theorem dX4_spokenOfBy_16 : decode cX4_spokenOfBy 16 = .ok (.getfield 9, 3) := by decide +kernel
theorem dX4_spokenOfBy_19 : decode cX4_spokenOfBy 19 = .ok (.getfield 19, 3) := by decide +kernel
theorem dX4_spokenOfBy_22 : decode cX4_spokenOfBy 22 = .ok (.invokestatic 70, 3) := by decide +kernel
theorem dX4_spokenOfBy_25 : decode cX4_spokenOfBy 25 = .ok (.goto 4, 3) := by decide +kernel
theorem dX4_spokenOfBy_28 : decode cX4_spokenOfBy 28 = .ok (.iload_n 1, 1) := by decide +kernel
theorem dX4_spokenOfBy_29 : decode cX4_spokenOfBy 29 = .ok (.ireturn, 1) := by decide +kernel
set_option maxRecDepth 20000 in
theorem ggX4_speakerOf_J9_floorMod_7cf53 : GoodIn wsX4_speakerOf wsJ9_floorMod_7cf53 := goodIn_r _ [6] (by decide +kernel) (by decide +kernel)
set_option maxRecDepth 20000 in
theorem gX4_speakerOf_J9_floorMod_7cf53 : GoodIn wsX4_speakerOf (va_wsS RX4 70 yJ9_floorMod_7cf53 wsJ9_floorMod_7cf53) := goodIn_app (goodIn_of _ (by decide +kernel)) ggX4_speakerOf_J9_floorMod_7cf53
theorem dX4_speakerOf_0 : decode cX4_speakerOf 0 = .ok (.aload_n 0, 1) := by decide +kernel
theorem dX4_speakerOf_1 : decode cX4_speakerOf 1 = .ok (.getfield 9, 3) := by decide +kernel
theorem dX4_speakerOf_4 : decode cX4_speakerOf 4 = .ok (.getfield 19, 3) := by decide +kernel
theorem dX4_speakerOf_7 : decode cX4_speakerOf 7 = .ok (.ifCond .le 21, 3) := by decide +kernel
theorem dX4_speakerOf_10 : decode cX4_speakerOf 10 = .ok (.iload_n 1, 1) := by decide +kernel
theorem dX4_speakerOf_11 : decode cX4_speakerOf 11 = .ok (.iload_n 2, 1) := by decide +kernel
theorem dX4_speakerOf_12 : decode cX4_speakerOf 12 = .ok (.isub, 1) := by decide +kernel
theorem dX4_speakerOf_13 : decode cX4_speakerOf 13 = .ok (.iconst 1, 1) := by decide +kernel
theorem dX4_speakerOf_14 : decode cX4_speakerOf 14 = .ok (.isub, 1) := by decide +kernel
theorem dX4_speakerOf_15 : decode cX4_speakerOf 15 = .ok (.aload_n 0, 1) := by decide +kernel
theorem dX4_speakerOf_16 : decode cX4_speakerOf 16 = .ok (.getfield 9, 3) := by decide +kernel
theorem dX4_speakerOf_19 : decode cX4_speakerOf 19 = .ok (.getfield 19, 3) := by decide +kernel
theorem dX4_speakerOf_22 : decode cX4_speakerOf 22 = .ok (.invokestatic 70, 3) := by decide +kernel
theorem dX4_speakerOf_25 : decode cX4_speakerOf 25 = .ok (.goto 4, 3) := by decide +kernel
theorem dX4_speakerOf_28 : decode cX4_speakerOf 28 = .ok (.iload_n 1, 1) := by decide +kernel
theorem dX4_speakerOf_29 : decode cX4_speakerOf 29 = .ok (.ireturn, 1) := by decide +kernel
set_option maxRecDepth 20000 in
theorem ggX4_passHour_X4_spokenOfBy : GoodIn wsX4_passHour wsX4_spokenOfBy := goodIn_r _ [14, 1, 2, 15, 16, 17, 18, 58, 59, 60, 61, 62, 63, 64, 65, 66, 67, 68, 69] (by decide +kernel) (by decide +kernel)
set_option maxRecDepth 20000 in
theorem gX4_passHour_X4_spokenOfBy : GoodIn wsX4_passHour (wsV RX4 78 RX4 yX4_spokenOfBy wsX4_spokenOfBy) := goodIn_app (goodIn_of _ (by decide +kernel)) ggX4_passHour_X4_spokenOfBy
set_option maxRecDepth 20000 in
theorem ggX4_passHour_X10_at : GoodIn wsX4_passHour wsX10_at := goodIn_r _ [21] (by decide +kernel) (by decide +kernel)
set_option maxRecDepth 20000 in
theorem gX4_passHour_X10_at_n31 : GoodIn wsX4_passHour (wsX10_at) := ggX4_passHour_X10_at
set_option maxRecDepth 20000 in
theorem ggX4_passHour_X4_reaches : GoodIn wsX4_passHour wsX4_reaches := goodIn_r _ [25, 1, 26, 19, 20, 21, 27, 28, 58, 59, 60, 61, 62, 63, 64, 65, 66, 67, 68, 69] (by decide +kernel) (by decide +kernel)
set_option maxRecDepth 20000 in
theorem gX4_passHour_X4_reaches : GoodIn wsX4_passHour (wsV RX4 49 RX4 yX4_reaches wsX4_reaches) := goodIn_app (goodIn_of _ (by decide +kernel)) ggX4_passHour_X4_reaches
set_option maxRecDepth 20000 in
theorem ggX4_passHour_X4_saysNow : GoodIn wsX4_passHour wsX4_saysNow := goodIn_r _ [32, 3, 5, 9, 19, 20, 21, 27, 28, 33, 34, 35, 13, 36, 1, 37, 38, 22, 23, 24, 25, 26, 39, 40, 41, 42, 58, 59, 70, 71, 72, 73, 74, 75, 60, 61, 62, 63, 64, 65, 66, 67, 68, 69] (by decide +kernel) (by decide +kernel)
set_option maxRecDepth 20000 in
theorem gX4_passHour_X4_saysNow : GoodIn wsX4_passHour (wsV RX4 84 RX4 yX4_saysNow wsX4_saysNow) := goodIn_app (goodIn_of _ (by decide +kernel)) ggX4_passHour_X4_saysNow
set_option maxRecDepth 20000 in
theorem ggX4_passHour_X4_warmer : GoodIn wsX4_passHour wsX4_warmer := goodIn_r _ [46, 47, 20, 48, 49, 50, 51, 52, 53, 54, 55] (by decide +kernel) (by decide +kernel)
set_option maxRecDepth 20000 in
theorem gX4_passHour_X4_warmer : GoodIn wsX4_passHour (wsV RX4 87 RX4 yX4_warmer wsX4_warmer) := goodIn_app (goodIn_of _ (by decide +kernel)) ggX4_passHour_X4_warmer
set_option maxRecDepth 20000 in
theorem ggX4_passHour_X10_put : GoodIn wsX4_passHour wsX10_put := goodIn_r _ [57] (by decide +kernel) (by decide +kernel)
set_option maxRecDepth 20000 in
theorem gX4_passHour_X10_put_n90 : GoodIn wsX4_passHour (wsX10_put) := ggX4_passHour_X10_put
set_option maxRecDepth 20000 in
theorem ggX4_passHour_X10_has : GoodIn wsX4_passHour wsX10_has := goodIn_r _ [28] (by decide +kernel) (by decide +kernel)
set_option maxRecDepth 20000 in
theorem gX4_passHour_X10_has_n35 : GoodIn wsX4_passHour (wsX10_has) := ggX4_passHour_X10_has
set_option maxRecDepth 20000 in
theorem ggX4_passHour_X10_bounded : GoodIn wsX4_passHour wsX10_bounded := goodIn_r _ [48, 49, 50, 51, 52, 53, 54, 55] (by decide +kernel) (by decide +kernel)
set_option maxRecDepth 20000 in
theorem gX4_passHour_X10_bounded_n100 : GoodIn wsX4_passHour (wsX10_bounded) := ggX4_passHour_X10_bounded
theorem dX4_passHour_0 : decode cX4_passHour 0 = .ok (.iconst 0, 1) := by decide +kernel
theorem dX4_passHour_1 : decode cX4_passHour 1 = .ok (.istore_n 1, 1) := by decide +kernel
theorem dX4_passHour_2 : decode cX4_passHour 2 = .ok (.iload_n 1, 1) := by decide +kernel
theorem dX4_passHour_3 : decode cX4_passHour 3 = .ok (.aload_n 0, 1) := by decide +kernel
theorem dX4_passHour_4 : decode cX4_passHour 4 = .ok (.getfield 9, 3) := by decide +kernel
theorem dX4_passHour_7 : decode cX4_passHour 7 = .ok (.getfield 19, 3) := by decide +kernel
theorem dX4_passHour_10 : decode cX4_passHour 10 = .ok (.if_icmp .ge 88, 3) := by decide +kernel
theorem dX4_passHour_13 : decode cX4_passHour 13 = .ok (.aload_n 0, 1) := by decide +kernel
theorem dX4_passHour_14 : decode cX4_passHour 14 = .ok (.iload_n 1, 1) := by decide +kernel
theorem dX4_passHour_15 : decode cX4_passHour 15 = .ok (.aload_n 0, 1) := by decide +kernel
theorem dX4_passHour_16 : decode cX4_passHour 16 = .ok (.getfield 15, 3) := by decide +kernel
theorem dX4_passHour_19 : decode cX4_passHour 19 = .ok (.getfield 75, 3) := by decide +kernel
theorem dX4_passHour_22 : decode cX4_passHour 22 = .ok (.invokevirtual 78, 3) := by decide +kernel
theorem dX4_passHour_25 : decode cX4_passHour 25 = .ok (.istore_n 2, 1) := by decide +kernel
theorem dX4_passHour_26 : decode cX4_passHour 26 = .ok (.iload_n 2, 1) := by decide +kernel
theorem dX4_passHour_27 : decode cX4_passHour 27 = .ok (.iload_n 1, 1) := by decide +kernel
theorem dX4_passHour_28 : decode cX4_passHour 28 = .ok (.if_icmp .eq 64, 3) := by decide +kernel
theorem dX4_passHour_31 : decode cX4_passHour 31 = .ok (.aload_n 0, 1) := by decide +kernel
theorem dX4_passHour_32 : decode cX4_passHour 32 = .ok (.aload_n 0, 1) := by decide +kernel
theorem dX4_passHour_33 : decode cX4_passHour 33 = .ok (.getfield 15, 3) := by decide +kernel
theorem dX4_passHour_36 : decode cX4_passHour 36 = .ok (.getfield 25, 3) := by decide +kernel
theorem dX4_passHour_39 : decode cX4_passHour 39 = .ok (.iload_n 1, 1) := by decide +kernel
theorem dX4_passHour_40 : decode cX4_passHour 40 = .ok (.invokestatic 31, 3) := by decide +kernel
theorem dX4_passHour_43 : decode cX4_passHour 43 = .ok (.aload_n 0, 1) := by decide +kernel
theorem dX4_passHour_44 : decode cX4_passHour 44 = .ok (.getfield 15, 3) := by decide +kernel
theorem dX4_passHour_47 : decode cX4_passHour 47 = .ok (.getfield 25, 3) := by decide +kernel
theorem dX4_passHour_50 : decode cX4_passHour 50 = .ok (.iload_n 2, 1) := by decide +kernel
theorem dX4_passHour_51 : decode cX4_passHour 51 = .ok (.invokestatic 31, 3) := by decide +kernel
theorem dX4_passHour_54 : decode cX4_passHour 54 = .ok (.invokevirtual 49, 3) := by decide +kernel
theorem dX4_passHour_57 : decode cX4_passHour 57 = .ok (.ifCond .eq 35, 3) := by decide +kernel
theorem dX4_passHour_60 : decode cX4_passHour 60 = .ok (.aload_n 0, 1) := by decide +kernel
theorem dX4_passHour_61 : decode cX4_passHour 61 = .ok (.getfield 15, 3) := by decide +kernel
theorem dX4_passHour_64 : decode cX4_passHour 64 = .ok (.getfield 81, 3) := by decide +kernel
theorem dX4_passHour_67 : decode cX4_passHour 67 = .ok (.iload_n 2, 1) := by decide +kernel
theorem dX4_passHour_68 : decode cX4_passHour 68 = .ok (.aload_n 0, 1) := by decide +kernel
theorem dX4_passHour_69 : decode cX4_passHour 69 = .ok (.aload_n 0, 1) := by decide +kernel
theorem dX4_passHour_70 : decode cX4_passHour 70 = .ok (.getfield 15, 3) := by decide +kernel
theorem dX4_passHour_73 : decode cX4_passHour 73 = .ok (.getfield 81, 3) := by decide +kernel
theorem dX4_passHour_76 : decode cX4_passHour 76 = .ok (.iload_n 2, 1) := by decide +kernel
theorem dX4_passHour_77 : decode cX4_passHour 77 = .ok (.invokestatic 31, 3) := by decide +kernel
theorem dX4_passHour_80 : decode cX4_passHour 80 = .ok (.aload_n 0, 1) := by decide +kernel
theorem dX4_passHour_81 : decode cX4_passHour 81 = .ok (.iload_n 1, 1) := by decide +kernel
theorem dX4_passHour_82 : decode cX4_passHour 82 = .ok (.iload_n 2, 1) := by decide +kernel
theorem dX4_passHour_83 : decode cX4_passHour 83 = .ok (.invokevirtual 84, 3) := by decide +kernel
theorem dX4_passHour_86 : decode cX4_passHour 86 = .ok (.invokevirtual 87, 3) := by decide +kernel
theorem dX4_passHour_89 : decode cX4_passHour 89 = .ok (.invokestatic 90, 3) := by decide +kernel
theorem dX4_passHour_92 : decode cX4_passHour 92 = .ok (.iinc 1 1, 3) := by decide +kernel
theorem dX4_passHour_95 : decode cX4_passHour 95 = .ok (.goto (-93), 3) := by decide +kernel
theorem dX4_passHour_98 : decode cX4_passHour 98 = .ok (.iconst 0, 1) := by decide +kernel
theorem dX4_passHour_99 : decode cX4_passHour 99 = .ok (.istore_n 1, 1) := by decide +kernel
theorem dX4_passHour_100 : decode cX4_passHour 100 = .ok (.iload_n 1, 1) := by decide +kernel
theorem dX4_passHour_101 : decode cX4_passHour 101 = .ok (.aload_n 0, 1) := by decide +kernel
theorem dX4_passHour_102 : decode cX4_passHour 102 = .ok (.getfield 9, 3) := by decide +kernel
theorem dX4_passHour_105 : decode cX4_passHour 105 = .ok (.getfield 19, 3) := by decide +kernel
theorem dX4_passHour_108 : decode cX4_passHour 108 = .ok (.if_icmp .ge 69, 3) := by decide +kernel
theorem dX4_passHour_111 : decode cX4_passHour 111 = .ok (.aload_n 0, 1) := by decide +kernel
theorem dX4_passHour_112 : decode cX4_passHour 112 = .ok (.getfield 9, 3) := by decide +kernel
theorem dX4_passHour_115 : decode cX4_passHour 115 = .ok (.getfield 94, 3) := by decide +kernel
theorem dX4_passHour_118 : decode cX4_passHour 118 = .ok (.aload_n 0, 1) := by decide +kernel
theorem dX4_passHour_119 : decode cX4_passHour 119 = .ok (.getfield 15, 3) := by decide +kernel
theorem dX4_passHour_122 : decode cX4_passHour 122 = .ok (.getfield 25, 3) := by decide +kernel
theorem dX4_passHour_125 : decode cX4_passHour 125 = .ok (.iload_n 1, 1) := by decide +kernel
theorem dX4_passHour_126 : decode cX4_passHour 126 = .ok (.invokestatic 31, 3) := by decide +kernel
theorem dX4_passHour_129 : decode cX4_passHour 129 = .ok (.invokestatic 35, 3) := by decide +kernel
theorem dX4_passHour_132 : decode cX4_passHour 132 = .ok (.ifCond .eq 7, 3) := by decide +kernel
theorem dX4_passHour_135 : decode cX4_passHour 135 = .ok (.iconst 1, 1) := by decide +kernel
theorem dX4_passHour_136 : decode cX4_passHour 136 = .ok (.goto 4, 3) := by decide +kernel
theorem dX4_passHour_139 : decode cX4_passHour 139 = .ok (.iconst (-1), 1) := by decide +kernel
theorem dX4_passHour_140 : decode cX4_passHour 140 = .ok (.istore_n 2, 1) := by decide +kernel
theorem dX4_passHour_141 : decode cX4_passHour 141 = .ok (.aload_n 0, 1) := by decide +kernel
theorem dX4_passHour_142 : decode cX4_passHour 142 = .ok (.getfield 15, 3) := by decide +kernel
theorem dX4_passHour_145 : decode cX4_passHour 145 = .ok (.getfield 97, 3) := by decide +kernel
theorem dX4_passHour_148 : decode cX4_passHour 148 = .ok (.iload_n 1, 1) := by decide +kernel
theorem dX4_passHour_149 : decode cX4_passHour 149 = .ok (.aload_n 0, 1) := by decide +kernel
theorem dX4_passHour_150 : decode cX4_passHour 150 = .ok (.getfield 15, 3) := by decide +kernel
theorem dX4_passHour_153 : decode cX4_passHour 153 = .ok (.getfield 97, 3) := by decide +kernel
theorem dX4_passHour_156 : decode cX4_passHour 156 = .ok (.iload_n 1, 1) := by decide +kernel
theorem dX4_passHour_157 : decode cX4_passHour 157 = .ok (.invokestatic 31, 3) := by decide +kernel
theorem dX4_passHour_160 : decode cX4_passHour 160 = .ok (.iload_n 2, 1) := by decide +kernel
theorem dX4_passHour_161 : decode cX4_passHour 161 = .ok (.iadd, 1) := by decide +kernel
theorem dX4_passHour_162 : decode cX4_passHour 162 = .ok (.iconst 0, 1) := by decide +kernel
theorem dX4_passHour_163 : decode cX4_passHour 163 = .ok (.bipush 99, 2) := by decide +kernel
theorem dX4_passHour_165 : decode cX4_passHour 165 = .ok (.invokestatic 100, 3) := by decide +kernel
theorem dX4_passHour_168 : decode cX4_passHour 168 = .ok (.invokestatic 90, 3) := by decide +kernel
theorem dX4_passHour_171 : decode cX4_passHour 171 = .ok (.iinc 1 1, 3) := by decide +kernel
theorem dX4_passHour_174 : decode cX4_passHour 174 = .ok (.goto (-74), 3) := by decide +kernel
theorem dX4_passHour_177 : decode cX4_passHour 177 = .ok (.aload_n 0, 1) := by decide +kernel
theorem dX4_passHour_178 : decode cX4_passHour 178 = .ok (.getfield 15, 3) := by decide +kernel
theorem dX4_passHour_181 : decode cX4_passHour 181 = .ok (.iconst 0, 1) := by decide +kernel
theorem dX4_passHour_182 : decode cX4_passHour 182 = .ok (.putfield 63, 3) := by decide +kernel
theorem dX4_passHour_185 : decode cX4_passHour 185 = .ok (.aload_n 0, 1) := by decide +kernel
theorem dX4_passHour_186 : decode cX4_passHour 186 = .ok (.getfield 15, 3) := by decide +kernel
theorem dX4_passHour_189 : decode cX4_passHour 189 = .ok (.dup, 1) := by decide +kernel
theorem dX4_passHour_190 : decode cX4_passHour 190 = .ok (.getfield 75, 3) := by decide +kernel
theorem dX4_passHour_193 : decode cX4_passHour 193 = .ok (.iconst 1, 1) := by decide +kernel
theorem dX4_passHour_194 : decode cX4_passHour 194 = .ok (.iadd, 1) := by decide +kernel
theorem dX4_passHour_195 : decode cX4_passHour 195 = .ok (.putfield 75, 3) := by decide +kernel
theorem dX4_passHour_198 : decode cX4_passHour 198 = .ok (.return_, 1) := by decide +kernel
set_option maxRecDepth 20000 in
theorem ggX4_warmer_X10_bounded : GoodIn wsX4_warmer wsX10_bounded := goodIn_r _ [3, 4, 5, 6, 7, 8, 9, 10] (by decide +kernel) (by decide +kernel)
set_option maxRecDepth 20000 in
theorem gX4_warmer_X10_bounded_n100 : GoodIn wsX4_warmer (wsX10_bounded) := ggX4_warmer_X10_bounded
theorem dX4_warmer_0 : decode cX4_warmer 0 = .ok (.iload_n 1, 1) := by decide +kernel
theorem dX4_warmer_1 : decode cX4_warmer 1 = .ok (.iload_n 2, 1) := by decide +kernel
theorem dX4_warmer_2 : decode cX4_warmer 2 = .ok (.iadd, 1) := by decide +kernel
theorem dX4_warmer_3 : decode cX4_warmer 3 = .ok (.sipush (-9999), 3) := by decide +kernel
theorem dX4_warmer_6 : decode cX4_warmer 6 = .ok (.sipush 9999, 3) := by decide +kernel
theorem dX4_warmer_9 : decode cX4_warmer 9 = .ok (.invokestatic 100, 3) := by decide +kernel
theorem dX4_warmer_12 : decode cX4_warmer 12 = .ok (.ireturn, 1) := by decide +kernel
theorem dX5_init_0 : decode cX5_init 0 = .ok (.aload_n 0, 1) := by decide +kernel
theorem dX5_init_1 : decode cX5_init 1 = .ok (.invokespecial 3, 3) := by decide +kernel
theorem dX5_init_4 : decode cX5_init 4 = .ok (.aload_n 0, 1) := by decide +kernel
theorem dX5_init_5 : decode cX5_init 5 = .ok (.bipush 6, 2) := by decide +kernel
theorem dX5_init_7 : decode cX5_init 7 = .ok (.newarray .int, 2) := by decide +kernel
theorem dX5_init_9 : decode cX5_init 9 = .ok (.putfield 9, 3) := by decide +kernel
theorem dX5_init_12 : decode cX5_init 12 = .ok (.aload_n 0, 1) := by decide +kernel
theorem dX5_init_13 : decode cX5_init 13 = .ok (.bipush 6, 2) := by decide +kernel
theorem dX5_init_15 : decode cX5_init 15 = .ok (.newarray .int, 2) := by decide +kernel
theorem dX5_init_17 : decode cX5_init 17 = .ok (.putfield 15, 3) := by decide +kernel
theorem dX5_init_20 : decode cX5_init 20 = .ok (.aload_n 0, 1) := by decide +kernel
theorem dX5_init_21 : decode cX5_init 21 = .ok (.bipush 6, 2) := by decide +kernel
theorem dX5_init_23 : decode cX5_init 23 = .ok (.newarray .int, 2) := by decide +kernel
theorem dX5_init_25 : decode cX5_init 25 = .ok (.putfield 18, 3) := by decide +kernel
theorem dX5_init_28 : decode cX5_init 28 = .ok (.return_, 1) := by decide +kernel
set_option maxRecDepth 20000 in
theorem ggX5_add_X10_put : GoodIn wsX5_add wsX10_put := goodIn_r _ [7] (by decide +kernel) (by decide +kernel)
set_option maxRecDepth 20000 in
theorem gX5_add_X10_put_n25 : GoodIn wsX5_add (wsX10_put) := ggX5_add_X10_put
theorem dX5_add_0 : decode cX5_add 0 = .ok (.aload_n 0, 1) := by decide +kernel
theorem dX5_add_1 : decode cX5_add 1 = .ok (.getfield 9, 3) := by decide +kernel
theorem dX5_add_4 : decode cX5_add 4 = .ok (.aload_n 0, 1) := by decide +kernel
theorem dX5_add_5 : decode cX5_add 5 = .ok (.getfield 21, 3) := by decide +kernel
theorem dX5_add_8 : decode cX5_add 8 = .ok (.iload_n 1, 1) := by decide +kernel
theorem dX5_add_9 : decode cX5_add 9 = .ok (.invokestatic 25, 3) := by decide +kernel
theorem dX5_add_12 : decode cX5_add 12 = .ok (.aload_n 0, 1) := by decide +kernel
theorem dX5_add_13 : decode cX5_add 13 = .ok (.getfield 15, 3) := by decide +kernel
theorem dX5_add_16 : decode cX5_add 16 = .ok (.aload_n 0, 1) := by decide +kernel
theorem dX5_add_17 : decode cX5_add 17 = .ok (.getfield 21, 3) := by decide +kernel
theorem dX5_add_20 : decode cX5_add 20 = .ok (.iload_n 2, 1) := by decide +kernel
theorem dX5_add_21 : decode cX5_add 21 = .ok (.invokestatic 25, 3) := by decide +kernel
theorem dX5_add_24 : decode cX5_add 24 = .ok (.aload_n 0, 1) := by decide +kernel
theorem dX5_add_25 : decode cX5_add 25 = .ok (.getfield 18, 3) := by decide +kernel
theorem dX5_add_28 : decode cX5_add 28 = .ok (.aload_n 0, 1) := by decide +kernel
theorem dX5_add_29 : decode cX5_add 29 = .ok (.getfield 21, 3) := by decide +kernel
theorem dX5_add_32 : decode cX5_add 32 = .ok (.iload_n 3, 1) := by decide +kernel
theorem dX5_add_33 : decode cX5_add 33 = .ok (.ifCond .eq 7, 3) := by decide +kernel
theorem dX5_add_36 : decode cX5_add 36 = .ok (.iconst 1, 1) := by decide +kernel
theorem dX5_add_37 : decode cX5_add 37 = .ok (.goto 4, 3) := by decide +kernel
theorem dX5_add_40 : decode cX5_add 40 = .ok (.iconst 0, 1) := by decide +kernel
theorem dX5_add_41 : decode cX5_add 41 = .ok (.invokestatic 25, 3) := by decide +kernel
theorem dX5_add_44 : decode cX5_add 44 = .ok (.aload_n 0, 1) := by decide +kernel
theorem dX5_add_45 : decode cX5_add 45 = .ok (.dup, 1) := by decide +kernel
theorem dX5_add_46 : decode cX5_add 46 = .ok (.getfield 21, 3) := by decide +kernel
theorem dX5_add_49 : decode cX5_add 49 = .ok (.iconst 1, 1) := by decide +kernel
theorem dX5_add_50 : decode cX5_add 50 = .ok (.iadd, 1) := by decide +kernel
theorem dX5_add_51 : decode cX5_add 51 = .ok (.putfield 21, 3) := by decide +kernel
theorem dX5_add_54 : decode cX5_add 54 = .ok (.aload_n 0, 1) := by decide +kernel
theorem dX5_add_55 : decode cX5_add 55 = .ok (.getfield 21, 3) := by decide +kernel
theorem dX5_add_58 : decode cX5_add 58 = .ok (.ireturn, 1) := by decide +kernel
set_option maxRecDepth 20000 in
theorem ggX5_fitting_X5_fits : GoodIn wsX5_fitting wsX5_fits := goodIn_r _ [5, 6, 7, 8, 9, 10, 11, 12, 13, 14, 17, 18, 19, 20] (by decide +kernel) (by decide +kernel)
set_option maxRecDepth 20000 in
theorem gX5_fitting_X5_fits : GoodIn wsX5_fitting (wsV RX5 29 RX5 yX5_fits wsX5_fits) := goodIn_app (goodIn_of _ (by decide +kernel)) ggX5_fitting_X5_fits
set_option maxRecDepth 20000 in
theorem ggX5_fitting_X10_bit : GoodIn wsX5_fitting wsX10_bit := goodIn_r _ [16] (by decide +kernel) (by decide +kernel)
set_option maxRecDepth 20000 in
theorem gX5_fitting_X10_bit_n33 : GoodIn wsX5_fitting (wsX10_bit) := ggX5_fitting_X10_bit
theorem dX5_fitting_0 : decode cX5_fitting 0 = .ok (.iconst 0, 1) := by decide +kernel
theorem dX5_fitting_1 : decode cX5_fitting 1 = .ok (.istore_n 1, 1) := by decide +kernel
theorem dX5_fitting_2 : decode cX5_fitting 2 = .ok (.iconst 0, 1) := by decide +kernel
theorem dX5_fitting_3 : decode cX5_fitting 3 = .ok (.istore_n 2, 1) := by decide +kernel
theorem dX5_fitting_4 : decode cX5_fitting 4 = .ok (.iload_n 2, 1) := by decide +kernel
theorem dX5_fitting_5 : decode cX5_fitting 5 = .ok (.bipush 9, 2) := by decide +kernel
theorem dX5_fitting_7 : decode cX5_fitting 7 = .ok (.if_icmp .gt 28, 3) := by decide +kernel
theorem dX5_fitting_10 : decode cX5_fitting 10 = .ok (.iload_n 1, 1) := by decide +kernel
theorem dX5_fitting_11 : decode cX5_fitting 11 = .ok (.aload_n 0, 1) := by decide +kernel
theorem dX5_fitting_12 : decode cX5_fitting 12 = .ok (.iload_n 2, 1) := by decide +kernel
theorem dX5_fitting_13 : decode cX5_fitting 13 = .ok (.invokevirtual 29, 3) := by decide +kernel
theorem dX5_fitting_16 : decode cX5_fitting 16 = .ok (.ifCond .eq 10, 3) := by decide +kernel
theorem dX5_fitting_19 : decode cX5_fitting 19 = .ok (.iload_n 2, 1) := by decide +kernel
theorem dX5_fitting_20 : decode cX5_fitting 20 = .ok (.invokestatic 33, 3) := by decide +kernel
theorem dX5_fitting_23 : decode cX5_fitting 23 = .ok (.goto 4, 3) := by decide +kernel
theorem dX5_fitting_26 : decode cX5_fitting 26 = .ok (.iconst 0, 1) := by decide +kernel
theorem dX5_fitting_27 : decode cX5_fitting 27 = .ok (.ior, 1) := by decide +kernel
theorem dX5_fitting_28 : decode cX5_fitting 28 = .ok (.istore_n 1, 1) := by decide +kernel
theorem dX5_fitting_29 : decode cX5_fitting 29 = .ok (.iinc 2 1, 3) := by decide +kernel
theorem dX5_fitting_32 : decode cX5_fitting 32 = .ok (.goto (-28), 3) := by decide +kernel
theorem dX5_fitting_35 : decode cX5_fitting 35 = .ok (.iload_n 1, 1) := by decide +kernel
theorem dX5_fitting_36 : decode cX5_fitting 36 = .ok (.ireturn, 1) := by decide +kernel
set_option maxRecDepth 20000 in
theorem ggX5_fits_X10_at : GoodIn wsX5_fits wsX10_at := goodIn_r _ [7] (by decide +kernel) (by decide +kernel)
set_option maxRecDepth 20000 in
theorem gX5_fits_X10_at_n37 : GoodIn wsX5_fits (wsX10_at) := ggX5_fits_X10_at
set_option maxRecDepth 20000 in
theorem ggX5_fits_X10_words : GoodIn wsX5_fits wsX10_words := goodIn_r _ [9] (by decide +kernel) (by decide +kernel)
set_option maxRecDepth 20000 in
theorem gX5_fits_X10_words_n41 : GoodIn wsX5_fits (wsX10_words) := ggX5_fits_X10_words
theorem dX5_fits_0 : decode cX5_fits 0 = .ok (.iconst 0, 1) := by decide +kernel
theorem dX5_fits_1 : decode cX5_fits 1 = .ok (.istore_n 2, 1) := by decide +kernel
theorem dX5_fits_2 : decode cX5_fits 2 = .ok (.iload_n 2, 1) := by decide +kernel
theorem dX5_fits_3 : decode cX5_fits 3 = .ok (.aload_n 0, 1) := by decide +kernel
theorem dX5_fits_4 : decode cX5_fits 4 = .ok (.getfield 21, 3) := by decide +kernel
theorem dX5_fits_7 : decode cX5_fits 7 = .ok (.if_icmp .ge 51, 3) := by decide +kernel
theorem dX5_fits_10 : decode cX5_fits 10 = .ok (.aload_n 0, 1) := by decide +kernel
theorem dX5_fits_11 : decode cX5_fits 11 = .ok (.getfield 9, 3) := by decide +kernel
theorem dX5_fits_14 : decode cX5_fits 14 = .ok (.iload_n 2, 1) := by decide +kernel
theorem dX5_fits_15 : decode cX5_fits 15 = .ok (.invokestatic 37, 3) := by decide +kernel
theorem dX5_fits_18 : decode cX5_fits 18 = .ok (.iload_n 1, 1) := by decide +kernel
theorem dX5_fits_19 : decode cX5_fits 19 = .ok (.aload_n 0, 1) := by decide +kernel
theorem dX5_fits_20 : decode cX5_fits 20 = .ok (.getfield 18, 3) := by decide +kernel
theorem dX5_fits_23 : decode cX5_fits 23 = .ok (.iload_n 2, 1) := by decide +kernel
theorem dX5_fits_24 : decode cX5_fits 24 = .ok (.invokestatic 37, 3) := by decide +kernel
theorem dX5_fits_27 : decode cX5_fits 27 = .ok (.iconst 1, 1) := by decide +kernel
theorem dX5_fits_28 : decode cX5_fits 28 = .ok (.if_icmp .ne 7, 3) := by decide +kernel
theorem dX5_fits_31 : decode cX5_fits 31 = .ok (.iconst 1, 1) := by decide +kernel
theorem dX5_fits_32 : decode cX5_fits 32 = .ok (.goto 4, 3) := by decide +kernel
theorem dX5_fits_35 : decode cX5_fits 35 = .ok (.iconst 0, 1) := by decide +kernel
theorem dX5_fits_36 : decode cX5_fits 36 = .ok (.invokestatic 41, 3) := by decide +kernel
theorem dX5_fits_39 : decode cX5_fits 39 = .ok (.aload_n 0, 1) := by decide +kernel
theorem dX5_fits_40 : decode cX5_fits 40 = .ok (.getfield 15, 3) := by decide +kernel
theorem dX5_fits_43 : decode cX5_fits 43 = .ok (.iload_n 2, 1) := by decide +kernel
theorem dX5_fits_44 : decode cX5_fits 44 = .ok (.invokestatic 37, 3) := by decide +kernel
theorem dX5_fits_47 : decode cX5_fits 47 = .ok (.if_icmp .eq 5, 3) := by decide +kernel
theorem dX5_fits_50 : decode cX5_fits 50 = .ok (.iconst 0, 1) := by decide +kernel
theorem dX5_fits_51 : decode cX5_fits 51 = .ok (.ireturn, 1) := by decide +kernel
theorem dX5_fits_52 : decode cX5_fits 52 = .ok (.iinc 2 1, 3) := by decide +kernel
theorem dX5_fits_55 : decode cX5_fits 55 = .ok (.goto (-53), 3) := by decide +kernel
theorem dX5_fits_58 : decode cX5_fits 58 = .ok (.iconst 1, 1) := by decide +kernel
theorem dX5_fits_59 : decode cX5_fits 59 = .ok (.ireturn, 1) := by decide +kernel
set_option maxRecDepth 20000 in
theorem ggX5_leastFitting_X5_fitting : GoodIn wsX5_leastFitting wsX5_fitting := goodIn_r _ [5, 6, 7, 8, 4, 9, 10, 11, 12, 13, 14, 15, 16, 17, 18, 19, 20, 23, 24, 25, 26] (by decide +kernel) (by decide +kernel)
set_option maxRecDepth 20000 in
theorem gX5_leastFitting_X5_fitting : GoodIn wsX5_leastFitting (wsV RX5 45 RX5 yX5_fitting wsX5_fitting) := goodIn_app (goodIn_of _ (by decide +kernel)) ggX5_leastFitting_X5_fitting
set_option maxRecDepth 20000 in
theorem ggX5_leastFitting_X10_has : GoodIn wsX5_leastFitting wsX10_has := goodIn_r _ [22] (by decide +kernel) (by decide +kernel)
set_option maxRecDepth 20000 in
theorem gX5_leastFitting_X10_has_n49 : GoodIn wsX5_leastFitting (wsX10_has) := ggX5_leastFitting_X10_has
theorem dX5_leastFitting_0 : decode cX5_leastFitting 0 = .ok (.aload_n 0, 1) := by decide +kernel
theorem dX5_leastFitting_1 : decode cX5_leastFitting 1 = .ok (.invokevirtual 45, 3) := by decide +kernel
theorem dX5_leastFitting_4 : decode cX5_leastFitting 4 = .ok (.istore_n 1, 1) := by decide +kernel
theorem dX5_leastFitting_5 : decode cX5_leastFitting 5 = .ok (.iconst 0, 1) := by decide +kernel
theorem dX5_leastFitting_6 : decode cX5_leastFitting 6 = .ok (.istore_n 2, 1) := by decide +kernel
theorem dX5_leastFitting_7 : decode cX5_leastFitting 7 = .ok (.iload_n 2, 1) := by decide +kernel
theorem dX5_leastFitting_8 : decode cX5_leastFitting 8 = .ok (.bipush 9, 2) := by decide +kernel
theorem dX5_leastFitting_10 : decode cX5_leastFitting 10 = .ok (.if_icmp .gt 19, 3) := by decide +kernel
theorem dX5_leastFitting_13 : decode cX5_leastFitting 13 = .ok (.iload_n 1, 1) := by decide +kernel
theorem dX5_leastFitting_14 : decode cX5_leastFitting 14 = .ok (.iload_n 2, 1) := by decide +kernel
theorem dX5_leastFitting_15 : decode cX5_leastFitting 15 = .ok (.invokestatic 49, 3) := by decide +kernel
theorem dX5_leastFitting_18 : decode cX5_leastFitting 18 = .ok (.ifCond .eq 5, 3) := by decide +kernel
theorem dX5_leastFitting_21 : decode cX5_leastFitting 21 = .ok (.iload_n 2, 1) := by decide +kernel
theorem dX5_leastFitting_22 : decode cX5_leastFitting 22 = .ok (.ireturn, 1) := by decide +kernel
theorem dX5_leastFitting_23 : decode cX5_leastFitting 23 = .ok (.iinc 2 1, 3) := by decide +kernel
theorem dX5_leastFitting_26 : decode cX5_leastFitting 26 = .ok (.goto (-19), 3) := by decide +kernel
theorem dX5_leastFitting_29 : decode cX5_leastFitting 29 = .ok (.iconst (-1), 1) := by decide +kernel
theorem dX5_leastFitting_30 : decode cX5_leastFitting 30 = .ok (.ireturn, 1) := by decide +kernel
set_option maxRecDepth 20000 in
theorem ggX5_greatestFitting_X5_fitting : GoodIn wsX5_greatestFitting wsX5_fitting := goodIn_r _ [5, 6, 7, 8, 4, 9, 10, 11, 12, 13, 14, 15, 16, 17, 18, 19, 20, 23, 24, 25, 26] (by decide +kernel) (by decide +kernel)
set_option maxRecDepth 20000 in
theorem gX5_greatestFitting_X5_fitting : GoodIn wsX5_greatestFitting (wsV RX5 45 RX5 yX5_fitting wsX5_fitting) := goodIn_app (goodIn_of _ (by decide +kernel)) ggX5_greatestFitting_X5_fitting
set_option maxRecDepth 20000 in
theorem ggX5_greatestFitting_X10_has : GoodIn wsX5_greatestFitting wsX10_has := goodIn_r _ [22] (by decide +kernel) (by decide +kernel)
set_option maxRecDepth 20000 in
theorem gX5_greatestFitting_X10_has_n49 : GoodIn wsX5_greatestFitting (wsX10_has) := ggX5_greatestFitting_X10_has
theorem dX5_greatestFitting_0 : decode cX5_greatestFitting 0 = .ok (.aload_n 0, 1) := by decide +kernel
theorem dX5_greatestFitting_1 : decode cX5_greatestFitting 1 = .ok (.invokevirtual 45, 3) := by decide +kernel
theorem dX5_greatestFitting_4 : decode cX5_greatestFitting 4 = .ok (.istore_n 1, 1) := by decide +kernel
theorem dX5_greatestFitting_5 : decode cX5_greatestFitting 5 = .ok (.bipush 9, 2) := by decide +kernel
theorem dX5_greatestFitting_7 : decode cX5_greatestFitting 7 = .ok (.istore_n 2, 1) := by decide +kernel
theorem dX5_greatestFitting_8 : decode cX5_greatestFitting 8 = .ok (.iload_n 2, 1) := by decide +kernel
theorem dX5_greatestFitting_9 : decode cX5_greatestFitting 9 = .ok (.ifCond .lt 19, 3) := by decide +kernel
theorem dX5_greatestFitting_12 : decode cX5_greatestFitting 12 = .ok (.iload_n 1, 1) := by decide +kernel
theorem dX5_greatestFitting_13 : decode cX5_greatestFitting 13 = .ok (.iload_n 2, 1) := by decide +kernel
theorem dX5_greatestFitting_14 : decode cX5_greatestFitting 14 = .ok (.invokestatic 49, 3) := by decide +kernel
theorem dX5_greatestFitting_17 : decode cX5_greatestFitting 17 = .ok (.ifCond .eq 5, 3) := by decide +kernel
theorem dX5_greatestFitting_20 : decode cX5_greatestFitting 20 = .ok (.iload_n 2, 1) := by decide +kernel
theorem dX5_greatestFitting_21 : decode cX5_greatestFitting 21 = .ok (.ireturn, 1) := by decide +kernel
theorem dX5_greatestFitting_22 : decode cX5_greatestFitting 22 = .ok (.iinc 2 (-1), 3) := by decide +kernel
theorem dX5_greatestFitting_25 : decode cX5_greatestFitting 25 = .ok (.goto (-17), 3) := by decide +kernel
theorem dX5_greatestFitting_28 : decode cX5_greatestFitting 28 = .ok (.iconst (-1), 1) := by decide +kernel
theorem dX5_greatestFitting_29 : decode cX5_greatestFitting 29 = .ok (.ireturn, 1) := by decide +kernel
set_option maxRecDepth 20000 in
theorem ggX5_bestQuestion_X5_fitting : GoodIn wsX5_bestQuestion wsX5_fitting := goodIn_r _ [9, 10, 11, 12, 8, 13, 14, 15, 16, 17, 18, 19, 20, 21, 22, 23, 24, 41, 42, 43, 44] (by decide +kernel) (by decide +kernel)
set_option maxRecDepth 20000 in
theorem gX5_bestQuestion_X5_fitting : GoodIn wsX5_bestQuestion (wsV RX5 45 RX5 yX5_fitting wsX5_fitting) := goodIn_app (goodIn_of _ (by decide +kernel)) ggX5_bestQuestion_X5_fitting
set_option maxRecDepth 20000 in
theorem ggX5_bestQuestion_X5_greatestPart : GoodIn wsX5_bestQuestion wsX5_greatestPart := goodIn_r _ [28, 29, 30, 3, 31, 32, 19, 33, 21, 22] (by decide +kernel) (by decide +kernel)
set_option maxRecDepth 20000 in
theorem gX5_bestQuestion_X5_greatestPart : GoodIn wsX5_bestQuestion (wsV RX5 53 RX5 yX5_greatestPart wsX5_greatestPart) := goodIn_app (goodIn_of _ (by decide +kernel)) ggX5_bestQuestion_X5_greatestPart
set_option maxRecDepth 20000 in
theorem ggX5_bestQuestion_J6_bitCount_0f7a4 : GoodIn wsX5_bestQuestion wsJ6_bitCount_0f7a4 := goodIn_r _ [37, 38, 39, 40] (by decide +kernel) (by decide +kernel)
set_option maxRecDepth 20000 in
theorem gX5_bestQuestion_J6_bitCount_0f7a4 : GoodIn wsX5_bestQuestion (va_wsS RX5 62 yJ6_bitCount_0f7a4 wsJ6_bitCount_0f7a4) := goodIn_app (goodIn_of _ (by decide +kernel)) ggX5_bestQuestion_J6_bitCount_0f7a4
theorem dX5_bestQuestion_0 : decode cX5_bestQuestion 0 = .ok (.aload_n 0, 1) := by decide +kernel
theorem dX5_bestQuestion_1 : decode cX5_bestQuestion 1 = .ok (.invokevirtual 45, 3) := by decide +kernel
theorem dX5_bestQuestion_4 : decode cX5_bestQuestion 4 = .ok (.istore_n 2, 1) := by decide +kernel
theorem dX5_bestQuestion_5 : decode cX5_bestQuestion 5 = .ok (.aload_n 0, 1) := by decide +kernel
theorem dX5_bestQuestion_6 : decode cX5_bestQuestion 6 = .ok (.iload_n 2, 1) := by decide +kernel
theorem dX5_bestQuestion_7 : decode cX5_bestQuestion 7 = .ok (.iload_n 1, 1) := by decide +kernel
theorem dX5_bestQuestion_8 : decode cX5_bestQuestion 8 = .ok (.iconst 0, 1) := by decide +kernel
theorem dX5_bestQuestion_9 : decode cX5_bestQuestion 9 = .ok (.invokevirtual 53, 3) := by decide +kernel
theorem dX5_bestQuestion_12 : decode cX5_bestQuestion 12 = .ok (.istore_n 3, 1) := by decide +kernel
theorem dX5_bestQuestion_13 : decode cX5_bestQuestion 13 = .ok (.aload_n 0, 1) := by decide +kernel
theorem dX5_bestQuestion_14 : decode cX5_bestQuestion 14 = .ok (.iload_n 2, 1) := by decide +kernel
theorem dX5_bestQuestion_15 : decode cX5_bestQuestion 15 = .ok (.iload_n 1, 1) := by decide +kernel
theorem dX5_bestQuestion_16 : decode cX5_bestQuestion 16 = .ok (.iconst 1, 1) := by decide +kernel
theorem dX5_bestQuestion_17 : decode cX5_bestQuestion 17 = .ok (.invokevirtual 53, 3) := by decide +kernel
theorem dX5_bestQuestion_20 : decode cX5_bestQuestion 20 = .ok (.istore 4, 2) := by decide +kernel
theorem dX5_bestQuestion_22 : decode cX5_bestQuestion 22 = .ok (.iload_n 3, 1) := by decide +kernel
theorem dX5_bestQuestion_23 : decode cX5_bestQuestion 23 = .ok (.iload 4, 2) := by decide +kernel
theorem dX5_bestQuestion_25 : decode cX5_bestQuestion 25 = .ok (.invokestatic 56, 3) := by decide +kernel
theorem dX5_bestQuestion_28 : decode cX5_bestQuestion 28 = .ok (.iload_n 2, 1) := by decide +kernel
theorem dX5_bestQuestion_29 : decode cX5_bestQuestion 29 = .ok (.invokestatic 62, 3) := by decide +kernel
theorem dX5_bestQuestion_32 : decode cX5_bestQuestion 32 = .ok (.if_icmp .lt 5, 3) := by decide +kernel
theorem dX5_bestQuestion_35 : decode cX5_bestQuestion 35 = .ok (.iconst (-1), 1) := by decide +kernel
theorem dX5_bestQuestion_36 : decode cX5_bestQuestion 36 = .ok (.ireturn, 1) := by decide +kernel
theorem dX5_bestQuestion_37 : decode cX5_bestQuestion 37 = .ok (.iload 4, 2) := by decide +kernel
theorem dX5_bestQuestion_39 : decode cX5_bestQuestion 39 = .ok (.iload_n 3, 1) := by decide +kernel
theorem dX5_bestQuestion_40 : decode cX5_bestQuestion 40 = .ok (.if_icmp .ge 7, 3) := by decide +kernel
theorem dX5_bestQuestion_43 : decode cX5_bestQuestion 43 = .ok (.iconst 1, 1) := by decide +kernel
theorem dX5_bestQuestion_44 : decode cX5_bestQuestion 44 = .ok (.goto 4, 3) := by decide +kernel
theorem dX5_bestQuestion_47 : decode cX5_bestQuestion 47 = .ok (.iconst 0, 1) := by decide +kernel
theorem dX5_bestQuestion_48 : decode cX5_bestQuestion 48 = .ok (.ireturn, 1) := by decide +kernel
set_option maxRecDepth 20000 in
theorem ggX5_greatestPart_X10_has : GoodIn wsX5_greatestPart wsX10_has := goodIn_r _ [7] (by decide +kernel) (by decide +kernel)
set_option maxRecDepth 20000 in
theorem gX5_greatestPart_X10_has_n49 : GoodIn wsX5_greatestPart (wsX10_has) := ggX5_greatestPart_X10_has
set_option maxRecDepth 20000 in
theorem ggX5_greatestPart_X10_words : GoodIn wsX5_greatestPart wsX10_words := goodIn_r _ [9] (by decide +kernel) (by decide +kernel)
set_option maxRecDepth 20000 in
theorem gX5_greatestPart_X10_words_n41 : GoodIn wsX5_greatestPart (wsX10_words) := ggX5_greatestPart_X10_words
theorem dX5_greatestPart_0 : decode cX5_greatestPart 0 = .ok (.iconst 0, 1) := by decide +kernel
theorem dX5_greatestPart_1 : decode cX5_greatestPart 1 = .ok (.istore 4, 2) := by decide +kernel
theorem dX5_greatestPart_3 : decode cX5_greatestPart 3 = .ok (.bipush (-9), 2) := by decide +kernel
theorem dX5_greatestPart_5 : decode cX5_greatestPart 5 = .ok (.istore 5, 2) := by decide +kernel
theorem dX5_greatestPart_7 : decode cX5_greatestPart 7 = .ok (.iload 5, 2) := by decide +kernel
theorem dX5_greatestPart_9 : decode cX5_greatestPart 9 = .ok (.bipush 9, 2) := by decide +kernel
theorem dX5_greatestPart_11 : decode cX5_greatestPart 11 = .ok (.if_icmp .gt 68, 3) := by decide +kernel
theorem dX5_greatestPart_14 : decode cX5_greatestPart 14 = .ok (.iconst 0, 1) := by decide +kernel
theorem dX5_greatestPart_15 : decode cX5_greatestPart 15 = .ok (.istore 6, 2) := by decide +kernel
theorem dX5_greatestPart_17 : decode cX5_greatestPart 17 = .ok (.iconst 0, 1) := by decide +kernel
theorem dX5_greatestPart_18 : decode cX5_greatestPart 18 = .ok (.istore 7, 2) := by decide +kernel
theorem dX5_greatestPart_20 : decode cX5_greatestPart 20 = .ok (.iload 7, 2) := by decide +kernel
theorem dX5_greatestPart_22 : decode cX5_greatestPart 22 = .ok (.bipush 9, 2) := by decide +kernel
theorem dX5_greatestPart_24 : decode cX5_greatestPart 24 = .ok (.if_icmp .gt 40, 3) := by decide +kernel
theorem dX5_greatestPart_27 : decode cX5_greatestPart 27 = .ok (.iload 6, 2) := by decide +kernel
theorem dX5_greatestPart_29 : decode cX5_greatestPart 29 = .ok (.iload_n 1, 1) := by decide +kernel
theorem dX5_greatestPart_30 : decode cX5_greatestPart 30 = .ok (.iload 7, 2) := by decide +kernel
theorem dX5_greatestPart_32 : decode cX5_greatestPart 32 = .ok (.invokestatic 49, 3) := by decide +kernel
theorem dX5_greatestPart_35 : decode cX5_greatestPart 35 = .ok (.ifCond .eq 19, 3) := by decide +kernel
theorem dX5_greatestPart_38 : decode cX5_greatestPart 38 = .ok (.iload_n 2, 1) := by decide +kernel
theorem dX5_greatestPart_39 : decode cX5_greatestPart 39 = .ok (.iload 7, 2) := by decide +kernel
theorem dX5_greatestPart_41 : decode cX5_greatestPart 41 = .ok (.iload_n 3, 1) := by decide +kernel
theorem dX5_greatestPart_42 : decode cX5_greatestPart 42 = .ok (.invokestatic 41, 3) := by decide +kernel
theorem dX5_greatestPart_45 : decode cX5_greatestPart 45 = .ok (.iload 5, 2) := by decide +kernel
theorem dX5_greatestPart_47 : decode cX5_greatestPart 47 = .ok (.if_icmp .ne 7, 3) := by decide +kernel
theorem dX5_greatestPart_50 : decode cX5_greatestPart 50 = .ok (.iconst 1, 1) := by decide +kernel
theorem dX5_greatestPart_51 : decode cX5_greatestPart 51 = .ok (.goto 4, 3) := by decide +kernel
theorem dX5_greatestPart_54 : decode cX5_greatestPart 54 = .ok (.iconst 0, 1) := by decide +kernel
theorem dX5_greatestPart_55 : decode cX5_greatestPart 55 = .ok (.iadd, 1) := by decide +kernel
theorem dX5_greatestPart_56 : decode cX5_greatestPart 56 = .ok (.istore 6, 2) := by decide +kernel
theorem dX5_greatestPart_58 : decode cX5_greatestPart 58 = .ok (.iinc 7 1, 3) := by decide +kernel
theorem dX5_greatestPart_61 : decode cX5_greatestPart 61 = .ok (.goto (-41), 3) := by decide +kernel
theorem dX5_greatestPart_64 : decode cX5_greatestPart 64 = .ok (.iload 4, 2) := by decide +kernel
theorem dX5_greatestPart_66 : decode cX5_greatestPart 66 = .ok (.iload 6, 2) := by decide +kernel
theorem dX5_greatestPart_68 : decode cX5_greatestPart 68 = .ok (.invokestatic 67, 3) := by decide +kernel
theorem dX5_greatestPart_71 : decode cX5_greatestPart 71 = .ok (.istore 4, 2) := by decide +kernel
theorem dX5_greatestPart_73 : decode cX5_greatestPart 73 = .ok (.iinc 5 1, 3) := by decide +kernel
theorem dX5_greatestPart_76 : decode cX5_greatestPart 76 = .ok (.goto (-69), 3) := by decide +kernel
theorem dX5_greatestPart_79 : decode cX5_greatestPart 79 = .ok (.iload 4, 2) := by decide +kernel
theorem dX5_greatestPart_81 : decode cX5_greatestPart 81 = .ok (.ireturn, 1) := by decide +kernel
set_option maxRecDepth 20000 in
theorem ggX6_init_X7_init : GoodIn wsX6_init wsX7_init := goodIn_r _ [9, 10, 2, 3, 11, 12, 13, 14, 15, 19, 20, 21, 22, 23, 24] (by decide +kernel) (by decide +kernel)
set_option maxRecDepth 20000 in
theorem gX6_init_X7_init_n17 : GoodIn wsX6_init (wsX7_init) := ggX6_init_X7_init
theorem dX6_init_0 : decode cX6_init 0 = .ok (.aload_n 0, 1) := by decide +kernel
theorem dX6_init_1 : decode cX6_init 1 = .ok (.invokespecial 3, 3) := by decide +kernel
theorem dX6_init_4 : decode cX6_init 4 = .ok (.aload_n 0, 1) := by decide +kernel
theorem dX6_init_5 : decode cX6_init 5 = .ok (.bipush 16, 2) := by decide +kernel
theorem dX6_init_7 : decode cX6_init 7 = .ok (.anewarray 9, 3) := by decide +kernel
theorem dX6_init_10 : decode cX6_init 10 = .ok (.putfield 11, 3) := by decide +kernel
theorem dX6_init_13 : decode cX6_init 13 = .ok (.iconst 0, 1) := by decide +kernel
theorem dX6_init_14 : decode cX6_init 14 = .ok (.istore_n 1, 1) := by decide +kernel
theorem dX6_init_15 : decode cX6_init 15 = .ok (.iload_n 1, 1) := by decide +kernel
theorem dX6_init_16 : decode cX6_init 16 = .ok (.aload_n 0, 1) := by decide +kernel
theorem dX6_init_17 : decode cX6_init 17 = .ok (.getfield 11, 3) := by decide +kernel
theorem dX6_init_20 : decode cX6_init 20 = .ok (.arraylength, 1) := by decide +kernel
theorem dX6_init_21 : decode cX6_init 21 = .ok (.if_icmp .ge 22, 3) := by decide +kernel
theorem dX6_init_24 : decode cX6_init 24 = .ok (.aload_n 0, 1) := by decide +kernel
theorem dX6_init_25 : decode cX6_init 25 = .ok (.getfield 11, 3) := by decide +kernel
theorem dX6_init_28 : decode cX6_init 28 = .ok (.iload_n 1, 1) := by decide +kernel
theorem dX6_init_29 : decode cX6_init 29 = .ok (.new 9, 3) := by decide +kernel
theorem dX6_init_32 : decode cX6_init 32 = .ok (.dup, 1) := by decide +kernel
theorem dX6_init_33 : decode cX6_init 33 = .ok (.invokespecial 17, 3) := by decide +kernel
theorem dX6_init_36 : decode cX6_init 36 = .ok (.aastore, 1) := by decide +kernel
theorem dX6_init_37 : decode cX6_init 37 = .ok (.iinc 1 1, 3) := by decide +kernel
theorem dX6_init_40 : decode cX6_init 40 = .ok (.goto (-25), 3) := by decide +kernel
theorem dX6_init_43 : decode cX6_init 43 = .ok (.return_, 1) := by decide +kernel
set_option maxRecDepth 20000 in
theorem ggX6_remember_X6_slotAt : GoodIn wsX6_remember wsX6_slotAt := goodIn_r _ [11, 12, 32, 33, 34] (by decide +kernel) (by decide +kernel)
set_option maxRecDepth 20000 in
theorem gX6_remember_X6_slotAt : GoodIn wsX6_remember (wsV RX6 22 RX6 yX6_slotAt wsX6_slotAt) := goodIn_app (goodIn_of _ (by decide +kernel)) ggX6_remember_X6_slotAt
set_option maxRecDepth 20000 in
theorem ggX6_remember_X7_copyFrom : GoodIn wsX6_remember wsX7_copyFrom := goodIn_r _ [17, 18, 19, 20, 21, 22, 23, 24, 25, 26, 27, 4, 5, 6, 28, 29, 30, 31, 35, 36, 37, 38, 39, 40] (by decide +kernel) (by decide +kernel)
set_option maxRecDepth 20000 in
theorem gX6_remember_X7_copyFrom : GoodIn wsX6_remember (wsV RX6 26 RX7 yX7_copyFrom wsX7_copyFrom) := goodIn_app (goodIn_of _ (by decide +kernel)) ggX6_remember_X7_copyFrom
theorem dX6_remember_0 : decode cX6_remember 0 = .ok (.aload_n 0, 1) := by decide +kernel
theorem dX6_remember_1 : decode cX6_remember 1 = .ok (.aload_n 0, 1) := by decide +kernel
theorem dX6_remember_2 : decode cX6_remember 2 = .ok (.getfield 18, 3) := by decide +kernel
theorem dX6_remember_5 : decode cX6_remember 5 = .ok (.invokevirtual 22, 3) := by decide +kernel
theorem dX6_remember_8 : decode cX6_remember 8 = .ok (.astore_n 2, 1) := by decide +kernel
theorem dX6_remember_9 : decode cX6_remember 9 = .ok (.aload_n 2, 1) := by decide +kernel
theorem dX6_remember_10 : decode cX6_remember 10 = .ok (.ifnonnull 4, 3) := by decide +kernel
theorem dX6_remember_13 : decode cX6_remember 13 = .ok (.return_, 1) := by decide +kernel
theorem dX6_remember_14 : decode cX6_remember 14 = .ok (.aload_n 2, 1) := by decide +kernel
theorem dX6_remember_15 : decode cX6_remember 15 = .ok (.aload_n 1, 1) := by decide +kernel
theorem dX6_remember_16 : decode cX6_remember 16 = .ok (.invokevirtual 26, 3) := by decide +kernel
theorem dX6_remember_19 : decode cX6_remember 19 = .ok (.aload_n 0, 1) := by decide +kernel
theorem dX6_remember_20 : decode cX6_remember 20 = .ok (.aload_n 0, 1) := by decide +kernel
theorem dX6_remember_21 : decode cX6_remember 21 = .ok (.getfield 18, 3) := by decide +kernel
theorem dX6_remember_24 : decode cX6_remember 24 = .ok (.iconst 1, 1) := by decide +kernel
theorem dX6_remember_25 : decode cX6_remember 25 = .ok (.iadd, 1) := by decide +kernel
theorem dX6_remember_26 : decode cX6_remember 26 = .ok (.bipush 16, 2) := by decide +kernel
theorem dX6_remember_28 : decode cX6_remember 28 = .ok (.irem, 1) := by decide +kernel
theorem dX6_remember_29 : decode cX6_remember 29 = .ok (.putfield 18, 3) := by decide +kernel
theorem dX6_remember_32 : decode cX6_remember 32 = .ok (.aload_n 0, 1) := by decide +kernel
theorem dX6_remember_33 : decode cX6_remember 33 = .ok (.aload_n 0, 1) := by decide +kernel
theorem dX6_remember_34 : decode cX6_remember 34 = .ok (.getfield 30, 3) := by decide +kernel
theorem dX6_remember_37 : decode cX6_remember 37 = .ok (.iconst 1, 1) := by decide +kernel
theorem dX6_remember_38 : decode cX6_remember 38 = .ok (.iadd, 1) := by decide +kernel
theorem dX6_remember_39 : decode cX6_remember 39 = .ok (.bipush 16, 2) := by decide +kernel
theorem dX6_remember_41 : decode cX6_remember 41 = .ok (.invokestatic 33, 3) := by decide +kernel
theorem dX6_remember_44 : decode cX6_remember 44 = .ok (.putfield 30, 3) := by decide +kernel
theorem dX6_remember_47 : decode cX6_remember 47 = .ok (.return_, 1) := by decide +kernel
set_option maxRecDepth 20000 in
theorem ggX6_recall_X6_slotAt : GoodIn wsX6_recall wsX6_slotAt := goodIn_r _ [7, 8, 31, 32, 33] (by decide +kernel) (by decide +kernel)
set_option maxRecDepth 20000 in
theorem gX6_recall_X6_slotAt : GoodIn wsX6_recall (wsV RX6 22 RX6 yX6_slotAt wsX6_slotAt) := goodIn_app (goodIn_of _ (by decide +kernel)) ggX6_recall_X6_slotAt
set_option maxRecDepth 20000 in
theorem ggX6_recall_X7_copyFrom : GoodIn wsX6_recall wsX7_copyFrom := goodIn_r _ [13, 14, 15, 16, 17, 18, 19, 20, 21, 22, 23, 24, 25, 26, 27, 28, 29, 30, 34, 35, 36, 37, 38, 39] (by decide +kernel) (by decide +kernel)
set_option maxRecDepth 20000 in
theorem gX6_recall_X7_copyFrom : GoodIn wsX6_recall (wsV RX6 26 RX7 yX7_copyFrom wsX7_copyFrom) := goodIn_app (goodIn_of _ (by decide +kernel)) ggX6_recall_X7_copyFrom
theorem dX6_recall_0 : decode cX6_recall 0 = .ok (.aload_n 0, 1) := by decide +kernel
theorem dX6_recall_1 : decode cX6_recall 1 = .ok (.getfield 18, 3) := by decide +kernel
theorem dX6_recall_4 : decode cX6_recall 4 = .ok (.bipush 16, 2) := by decide +kernel
theorem dX6_recall_6 : decode cX6_recall 6 = .ok (.iadd, 1) := by decide +kernel
theorem dX6_recall_7 : decode cX6_recall 7 = .ok (.iconst 1, 1) := by decide +kernel
theorem dX6_recall_8 : decode cX6_recall 8 = .ok (.isub, 1) := by decide +kernel
theorem dX6_recall_9 : decode cX6_recall 9 = .ok (.bipush 16, 2) := by decide +kernel
theorem dX6_recall_11 : decode cX6_recall 11 = .ok (.irem, 1) := by decide +kernel
theorem dX6_recall_12 : decode cX6_recall 12 = .ok (.istore_n 2, 1) := by decide +kernel
theorem dX6_recall_13 : decode cX6_recall 13 = .ok (.aload_n 0, 1) := by decide +kernel
theorem dX6_recall_14 : decode cX6_recall 14 = .ok (.iload_n 2, 1) := by decide +kernel
theorem dX6_recall_15 : decode cX6_recall 15 = .ok (.invokevirtual 22, 3) := by decide +kernel
theorem dX6_recall_18 : decode cX6_recall 18 = .ok (.astore_n 3, 1) := by decide +kernel
theorem dX6_recall_19 : decode cX6_recall 19 = .ok (.aload_n 0, 1) := by decide +kernel
theorem dX6_recall_20 : decode cX6_recall 20 = .ok (.getfield 30, 3) := by decide +kernel
theorem dX6_recall_23 : decode cX6_recall 23 = .ok (.ifCond .le 7, 3) := by decide +kernel
theorem dX6_recall_26 : decode cX6_recall 26 = .ok (.aload_n 3, 1) := by decide +kernel
theorem dX6_recall_27 : decode cX6_recall 27 = .ok (.ifnonnull 5, 3) := by decide +kernel
theorem dX6_recall_30 : decode cX6_recall 30 = .ok (.iconst 0, 1) := by decide +kernel
theorem dX6_recall_31 : decode cX6_recall 31 = .ok (.ireturn, 1) := by decide +kernel
theorem dX6_recall_32 : decode cX6_recall 32 = .ok (.aload_n 1, 1) := by decide +kernel
theorem dX6_recall_33 : decode cX6_recall 33 = .ok (.aload_n 3, 1) := by decide +kernel
theorem dX6_recall_34 : decode cX6_recall 34 = .ok (.invokevirtual 26, 3) := by decide +kernel
theorem dX6_recall_37 : decode cX6_recall 37 = .ok (.aload_n 0, 1) := by decide +kernel
theorem dX6_recall_38 : decode cX6_recall 38 = .ok (.iload_n 2, 1) := by decide +kernel
theorem dX6_recall_39 : decode cX6_recall 39 = .ok (.putfield 18, 3) := by decide +kernel
theorem dX6_recall_42 : decode cX6_recall 42 = .ok (.aload_n 0, 1) := by decide +kernel
theorem dX6_recall_43 : decode cX6_recall 43 = .ok (.dup, 1) := by decide +kernel
theorem dX6_recall_44 : decode cX6_recall 44 = .ok (.getfield 30, 3) := by decide +kernel
theorem dX6_recall_47 : decode cX6_recall 47 = .ok (.iconst 1, 1) := by decide +kernel
theorem dX6_recall_48 : decode cX6_recall 48 = .ok (.isub, 1) := by decide +kernel
theorem dX6_recall_49 : decode cX6_recall 49 = .ok (.putfield 30, 3) := by decide +kernel
theorem dX6_recall_52 : decode cX6_recall 52 = .ok (.iconst 1, 1) := by decide +kernel
theorem dX6_recall_53 : decode cX6_recall 53 = .ok (.ireturn, 1) := by decide +kernel
theorem dX6_forget_0 : decode cX6_forget 0 = .ok (.aload_n 0, 1) := by decide +kernel
theorem dX6_forget_1 : decode cX6_forget 1 = .ok (.iconst 0, 1) := by decide +kernel
theorem dX6_forget_2 : decode cX6_forget 2 = .ok (.putfield 30, 3) := by decide +kernel
theorem dX6_forget_5 : decode cX6_forget 5 = .ok (.return_, 1) := by decide +kernel
theorem dX6_slotAt_0 : decode cX6_slotAt 0 = .ok (.iload_n 1, 1) := by decide +kernel
theorem dX6_slotAt_1 : decode cX6_slotAt 1 = .ok (.ifCond .lt 21, 3) := by decide +kernel
theorem dX6_slotAt_4 : decode cX6_slotAt 4 = .ok (.iload_n 1, 1) := by decide +kernel
theorem dX6_slotAt_5 : decode cX6_slotAt 5 = .ok (.aload_n 0, 1) := by decide +kernel
theorem dX6_slotAt_6 : decode cX6_slotAt 6 = .ok (.getfield 11, 3) := by decide +kernel
theorem dX6_slotAt_9 : decode cX6_slotAt 9 = .ok (.arraylength, 1) := by decide +kernel
theorem dX6_slotAt_10 : decode cX6_slotAt 10 = .ok (.if_icmp .ge 12, 3) := by decide +kernel
theorem dX6_slotAt_13 : decode cX6_slotAt 13 = .ok (.aload_n 0, 1) := by decide +kernel
theorem dX6_slotAt_14 : decode cX6_slotAt 14 = .ok (.getfield 11, 3) := by decide +kernel
theorem dX6_slotAt_17 : decode cX6_slotAt 17 = .ok (.iload_n 1, 1) := by decide +kernel
theorem dX6_slotAt_18 : decode cX6_slotAt 18 = .ok (.aaload, 1) := by decide +kernel
theorem dX6_slotAt_19 : decode cX6_slotAt 19 = .ok (.goto 4, 3) := by decide +kernel
theorem dX6_slotAt_22 : decode cX6_slotAt 22 = .ok (.aconst_null, 1) := by decide +kernel
theorem dX6_slotAt_23 : decode cX6_slotAt 23 = .ok (.areturn, 1) := by decide +kernel
theorem dX7_init_0 : decode cX7_init 0 = .ok (.aload_n 0, 1) := by decide +kernel
theorem dX7_init_1 : decode cX7_init 1 = .ok (.invokespecial 3, 3) := by decide +kernel
theorem dX7_init_4 : decode cX7_init 4 = .ok (.aload_n 0, 1) := by decide +kernel
theorem dX7_init_5 : decode cX7_init 5 = .ok (.bipush 7, 2) := by decide +kernel
theorem dX7_init_7 : decode cX7_init 7 = .ok (.newarray .int, 2) := by decide +kernel
theorem dX7_init_9 : decode cX7_init 9 = .ok (.putfield 9, 3) := by decide +kernel
theorem dX7_init_12 : decode cX7_init 12 = .ok (.aload_n 0, 1) := by decide +kernel
theorem dX7_init_13 : decode cX7_init 13 = .ok (.bipush 7, 2) := by decide +kernel
theorem dX7_init_15 : decode cX7_init 15 = .ok (.newarray .int, 2) := by decide +kernel
theorem dX7_init_17 : decode cX7_init 17 = .ok (.putfield 15, 3) := by decide +kernel
theorem dX7_init_20 : decode cX7_init 20 = .ok (.aload_n 0, 1) := by decide +kernel
theorem dX7_init_21 : decode cX7_init 21 = .ok (.bipush 7, 2) := by decide +kernel
theorem dX7_init_23 : decode cX7_init 23 = .ok (.newarray .int, 2) := by decide +kernel
theorem dX7_init_25 : decode cX7_init 25 = .ok (.putfield 18, 3) := by decide +kernel
theorem dX7_init_28 : decode cX7_init 28 = .ok (.aload_n 0, 1) := by decide +kernel
theorem dX7_init_29 : decode cX7_init 29 = .ok (.bipush 49, 2) := by decide +kernel
theorem dX7_init_31 : decode cX7_init 31 = .ok (.newarray .int, 2) := by decide +kernel
theorem dX7_init_33 : decode cX7_init 33 = .ok (.putfield 21, 3) := by decide +kernel
theorem dX7_init_36 : decode cX7_init 36 = .ok (.return_, 1) := by decide +kernel
set_option maxRecDepth 20000 in
theorem ggX7_begin_X10_copy : GoodIn wsX7_begin wsX10_copy := goodIn_r _ [11, 12, 13, 14, 15, 16, 17, 18, 19] (by decide +kernel) (by decide +kernel)
set_option maxRecDepth 20000 in
theorem gX7_begin_X10_copy_n29 : GoodIn wsX7_begin (wsX10_copy) := ggX7_begin_X10_copy
set_option maxRecDepth 20000 in
theorem ggX7_begin_J7_fill_53178 : GoodIn wsX7_begin wsJ7_fill_53178 := goodIn_r _ [23] (by decide +kernel) (by decide +kernel)
set_option maxRecDepth 20000 in
theorem gX7_begin_J7_fill_53178 : GoodIn wsX7_begin (va_wsS RX7 33 yJ7_fill_53178 wsJ7_fill_53178) := goodIn_app (goodIn_of _ (by decide +kernel)) ggX7_begin_J7_fill_53178
theorem dX7_begin_0 : decode cX7_begin 0 = .ok (.aload_n 1, 1) := by decide +kernel
theorem dX7_begin_1 : decode cX7_begin 1 = .ok (.getfield 24, 3) := by decide +kernel
theorem dX7_begin_4 : decode cX7_begin 4 = .ok (.aload_n 0, 1) := by decide +kernel
theorem dX7_begin_5 : decode cX7_begin 5 = .ok (.getfield 9, 3) := by decide +kernel
theorem dX7_begin_8 : decode cX7_begin 8 = .ok (.invokestatic 29, 3) := by decide +kernel
theorem dX7_begin_11 : decode cX7_begin 11 = .ok (.aload_n 0, 1) := by decide +kernel
theorem dX7_begin_12 : decode cX7_begin 12 = .ok (.getfield 15, 3) := by decide +kernel
theorem dX7_begin_15 : decode cX7_begin 15 = .ok (.iconst 0, 1) := by decide +kernel
theorem dX7_begin_16 : decode cX7_begin 16 = .ok (.invokestatic 33, 3) := by decide +kernel
theorem dX7_begin_19 : decode cX7_begin 19 = .ok (.aload_n 0, 1) := by decide +kernel
theorem dX7_begin_20 : decode cX7_begin 20 = .ok (.getfield 18, 3) := by decide +kernel
theorem dX7_begin_23 : decode cX7_begin 23 = .ok (.iconst 0, 1) := by decide +kernel
theorem dX7_begin_24 : decode cX7_begin 24 = .ok (.invokestatic 33, 3) := by decide +kernel
theorem dX7_begin_27 : decode cX7_begin 27 = .ok (.aload_n 1, 1) := by decide +kernel
theorem dX7_begin_28 : decode cX7_begin 28 = .ok (.getfield 39, 3) := by decide +kernel
theorem dX7_begin_31 : decode cX7_begin 31 = .ok (.aload_n 0, 1) := by decide +kernel
