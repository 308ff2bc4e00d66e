theorem dX10_warm_11 : decode cX10_warm 11 = .ok (.ldc 162, 2) := by decide +kernel
theorem dX10_warm_13 : decode cX10_warm 13 = .ok (.ireturn, 1) := by decide +kernel
theorem dX10_warm_14 : decode cX10_warm 14 = .ok (.iload_n 2, 1) := by decide +kernel
theorem dX10_warm_15 : decode cX10_warm 15 = .ok (.iconst 0, 1) := by decide +kernel
theorem dX10_warm_16 : decode cX10_warm 16 = .ok (.bipush 100, 2) := by decide +kernel
theorem dX10_warm_18 : decode cX10_warm 18 = .ok (.invokestatic 83, 3) := by decide +kernel
theorem dX10_warm_21 : decode cX10_warm 21 = .ok (.ifCond .ne 6, 3) := by decide +kernel
theorem dX10_warm_24 : decode cX10_warm 24 = .ok (.ldc 87, 2) := by decide +kernel
theorem dX10_warm_26 : decode cX10_warm 26 = .ok (.ireturn, 1) := by decide +kernel
theorem dX10_warm_27 : decode cX10_warm 27 = .ok (.aload_n 0, 1) := by decide +kernel
theorem dX10_warm_28 : decode cX10_warm 28 = .ok (.getfield 44, 3) := by decide +kernel
theorem dX10_warm_31 : decode cX10_warm 31 = .ok (.iload_n 1, 1) := by decide +kernel
theorem dX10_warm_32 : decode cX10_warm 32 = .ok (.aload_n 0, 1) := by decide +kernel
theorem dX10_warm_33 : decode cX10_warm 33 = .ok (.getfield 26, 3) := by decide +kernel
theorem dX10_warm_36 : decode cX10_warm 36 = .ok (.getfield 186, 3) := by decide +kernel
theorem dX10_warm_39 : decode cX10_warm 39 = .ok (.iload_n 1, 1) := by decide +kernel
theorem dX10_warm_40 : decode cX10_warm 40 = .ok (.invokestatic 173, 3) := by decide +kernel
theorem dX10_warm_43 : decode cX10_warm 43 = .ok (.iload_n 2, 1) := by decide +kernel
theorem dX10_warm_44 : decode cX10_warm 44 = .ok (.invokevirtual 239, 3) := by decide +kernel
theorem dX10_warm_47 : decode cX10_warm 47 = .ok (.sipush 10000, 3) := by decide +kernel
theorem dX10_warm_50 : decode cX10_warm 50 = .ok (.iadd, 1) := by decide +kernel
theorem dX10_warm_51 : decode cX10_warm 51 = .ok (.ireturn, 1) := by decide +kernel
set_option maxRecDepth 20000 in
theorem ggX10_bestRoom_X2_isPerson : GoodIn wsX10_bestRoom wsX2_isPerson := goodIn_r _ [9, 10, 92, 93, 94, 95, 96, 97, 98, 99, 100, 101] (by decide +kernel) (by decide +kernel)
set_option maxRecDepth 20000 in
theorem gX10_bestRoom_X2_isPerson : GoodIn wsX10_bestRoom (wsV RX10 180 RX2 yX2_isPerson wsX2_isPerson) := goodIn_app (goodIn_of _ (by decide +kernel)) ggX10_bestRoom_X2_isPerson
set_option maxRecDepth 20000 in
theorem ggX10_bestRoom_X10_within : GoodIn wsX10_bestRoom wsX10_within := goodIn_r _ [14] (by decide +kernel) (by decide +kernel)
set_option maxRecDepth 20000 in
theorem gX10_bestRoom_X10_within : GoodIn wsX10_bestRoom (va_wsS RX10 83 yX10_within wsX10_within) := goodIn_app (goodIn_of _ (by decide +kernel)) ggX10_bestRoom_X10_within
set_option maxRecDepth 20000 in
theorem ggX10_bestRoom_X9_warmestRoom : GoodIn wsX10_bestRoom wsX9_warmestRoom := goodIn_r _ [19, 20, 21, 22, 23, 24, 18, 25, 26, 27, 28, 29, 13, 30, 31, 32, 33, 34, 35, 36, 37, 38, 39, 40, 41, 42, 43, 44, 45, 46, 47, 48, 49, 50, 51, 52, 53, 54, 55, 56, 57, 58, 59, 60, 61, 62, 63, 64, 65, 66, 67, 68, 69, 70, 71, 72, 73, 74, 75, 76, 77, 78, 79, 80, 102, 103, 104, 105, 106, 92, 93, 94, 95, 96, 97, 98, 99, 100, 101, 107, 108, 109, 110, 111, 112, 113, 114] (by decide +kernel) (by decide +kernel)
set_option maxRecDepth 20000 in
theorem gX10_bestRoom_X9_warmestRoom : GoodIn wsX10_bestRoom (wsV RX10 243 RX9 yX9_warmestRoom wsX9_warmestRoom) := goodIn_app (goodIn_of _ (by decide +kernel)) ggX10_bestRoom_X9_warmestRoom
set_option maxRecDepth 20000 in
theorem ggX10_bestRoom_X9_warmBehind : GoodIn wsX10_bestRoom wsX9_warmBehind := goodIn_r _ [25, 26, 27, 28, 29, 13, 30, 31, 32, 33, 18, 34, 35, 36, 37, 38, 39, 40, 41, 42, 43, 44, 45, 46, 47, 48, 49, 50, 51, 52, 53, 54, 55, 56, 57, 58, 59, 60, 61, 62, 63, 64, 65, 66, 67, 68, 69, 70, 71, 72, 73, 74, 75, 76, 77, 78, 79, 80, 102, 103, 104, 105, 106, 107, 108, 109, 110, 111, 112, 113, 114, 92, 93, 94, 95, 96, 97, 98, 99, 100, 101] (by decide +kernel) (by decide +kernel)
set_option maxRecDepth 20000 in
theorem gX10_bestRoom_X9_warmBehind : GoodIn wsX10_bestRoom (wsV RX10 239 RX9 yX9_warmBehind wsX9_warmBehind) := goodIn_app (goodIn_of _ (by decide +kernel)) ggX10_bestRoom_X9_warmBehind
theorem dX10_bestRoom_0 : decode cX10_bestRoom 0 = .ok (.aload_n 0, 1) := by decide +kernel
theorem dX10_bestRoom_1 : decode cX10_bestRoom 1 = .ok (.getfield 19, 3) := by decide +kernel
theorem dX10_bestRoom_4 : decode cX10_bestRoom 4 = .ok (.iload_n 1, 1) := by decide +kernel
theorem dX10_bestRoom_5 : decode cX10_bestRoom 5 = .ok (.invokevirtual 180, 3) := by decide +kernel
theorem dX10_bestRoom_8 : decode cX10_bestRoom 8 = .ok (.ifCond .ne 6, 3) := by decide +kernel
theorem dX10_bestRoom_11 : decode cX10_bestRoom 11 = .ok (.ldc 162, 2) := by decide +kernel
theorem dX10_bestRoom_13 : decode cX10_bestRoom 13 = .ok (.ireturn, 1) := by decide +kernel
theorem dX10_bestRoom_14 : decode cX10_bestRoom 14 = .ok (.iload_n 2, 1) := by decide +kernel
theorem dX10_bestRoom_15 : decode cX10_bestRoom 15 = .ok (.iconst 1, 1) := by decide +kernel
theorem dX10_bestRoom_16 : decode cX10_bestRoom 16 = .ok (.bipush 30, 2) := by decide +kernel
theorem dX10_bestRoom_18 : decode cX10_bestRoom 18 = .ok (.invokestatic 83, 3) := by decide +kernel
theorem dX10_bestRoom_21 : decode cX10_bestRoom 21 = .ok (.ifCond .eq 12, 3) := by decide +kernel
theorem dX10_bestRoom_24 : decode cX10_bestRoom 24 = .ok (.iload_n 3, 1) := by decide +kernel
theorem dX10_bestRoom_25 : decode cX10_bestRoom 25 = .ok (.iconst 0, 1) := by decide +kernel
theorem dX10_bestRoom_26 : decode cX10_bestRoom 26 = .ok (.iconst 1, 1) := by decide +kernel
theorem dX10_bestRoom_27 : decode cX10_bestRoom 27 = .ok (.invokestatic 83, 3) := by decide +kernel
theorem dX10_bestRoom_30 : decode cX10_bestRoom 30 = .ok (.ifCond .ne 6, 3) := by decide +kernel
theorem dX10_bestRoom_33 : decode cX10_bestRoom 33 = .ok (.ldc 87, 2) := by decide +kernel
theorem dX10_bestRoom_35 : decode cX10_bestRoom 35 = .ok (.ireturn, 1) := by decide +kernel
theorem dX10_bestRoom_36 : decode cX10_bestRoom 36 = .ok (.aload_n 0, 1) := by decide +kernel
theorem dX10_bestRoom_37 : decode cX10_bestRoom 37 = .ok (.getfield 44, 3) := by decide +kernel
theorem dX10_bestRoom_40 : decode cX10_bestRoom 40 = .ok (.iload_n 1, 1) := by decide +kernel
theorem dX10_bestRoom_41 : decode cX10_bestRoom 41 = .ok (.iload_n 2, 1) := by decide +kernel
theorem dX10_bestRoom_42 : decode cX10_bestRoom 42 = .ok (.invokevirtual 243, 3) := by decide +kernel
theorem dX10_bestRoom_45 : decode cX10_bestRoom 45 = .ok (.istore 4, 2) := by decide +kernel
theorem dX10_bestRoom_47 : decode cX10_bestRoom 47 = .ok (.iload_n 3, 1) := by decide +kernel
theorem dX10_bestRoom_48 : decode cX10_bestRoom 48 = .ok (.ifCond .ne 8, 3) := by decide +kernel
theorem dX10_bestRoom_51 : decode cX10_bestRoom 51 = .ok (.iload 4, 2) := by decide +kernel
theorem dX10_bestRoom_53 : decode cX10_bestRoom 53 = .ok (.goto 18, 3) := by decide +kernel
theorem dX10_bestRoom_56 : decode cX10_bestRoom 56 = .ok (.aload_n 0, 1) := by decide +kernel
theorem dX10_bestRoom_57 : decode cX10_bestRoom 57 = .ok (.getfield 44, 3) := by decide +kernel
theorem dX10_bestRoom_60 : decode cX10_bestRoom 60 = .ok (.iload_n 1, 1) := by decide +kernel
theorem dX10_bestRoom_61 : decode cX10_bestRoom 61 = .ok (.iload 4, 2) := by decide +kernel
theorem dX10_bestRoom_63 : decode cX10_bestRoom 63 = .ok (.iload_n 2, 1) := by decide +kernel
theorem dX10_bestRoom_64 : decode cX10_bestRoom 64 = .ok (.invokevirtual 239, 3) := by decide +kernel
theorem dX10_bestRoom_67 : decode cX10_bestRoom 67 = .ok (.sipush 10000, 3) := by decide +kernel
theorem dX10_bestRoom_70 : decode cX10_bestRoom 70 = .ok (.iadd, 1) := by decide +kernel
theorem dX10_bestRoom_71 : decode cX10_bestRoom 71 = .ok (.ireturn, 1) := by decide +kernel
set_option maxRecDepth 20000 in
theorem ggX10_route_X2_isPerson : GoodIn wsX10_route wsX2_isPerson := goodIn_r _ [9, 10, 95, 96, 97, 98, 99, 100, 101, 102, 103, 104] (by decide +kernel) (by decide +kernel)
set_option maxRecDepth 20000 in
theorem gX10_route_X2_isPerson : GoodIn wsX10_route (wsV RX10 180 RX2 yX2_isPerson wsX2_isPerson) := goodIn_app (goodIn_of _ (by decide +kernel)) ggX10_route_X2_isPerson
set_option maxRecDepth 20000 in
theorem ggX10_route_X10_within : GoodIn wsX10_route wsX10_within := goodIn_r _ [14] (by decide +kernel) (by decide +kernel)
set_option maxRecDepth 20000 in
theorem gX10_route_X10_within : GoodIn wsX10_route (va_wsS RX10 83 yX10_within wsX10_within) := goodIn_app (goodIn_of _ (by decide +kernel)) ggX10_route_X10_within
set_option maxRecDepth 20000 in
theorem ggX10_route_X9_firstOfRoute : GoodIn wsX10_route wsX9_firstOfRoute := goodIn_r _ [19, 20, 21, 22, 23, 24, 25, 26, 27, 28, 29, 30, 31, 32, 18, 33, 34, 35, 36, 37, 38, 39, 40, 41, 42, 43, 44, 45, 46, 47, 48, 13, 49, 50, 51, 52, 53, 54, 55, 56, 57, 58, 59, 60, 61, 62, 63, 64, 65, 66, 67, 68, 69, 70, 71, 72, 73, 74, 75, 76, 77, 8, 78, 79, 80, 81, 82, 83, 105, 106, 107, 108, 109, 95, 96, 97, 98, 99, 100, 101, 102, 103, 104, 110, 111, 112, 113, 114, 115, 116, 117] (by decide +kernel) (by decide +kernel)
set_option maxRecDepth 20000 in
theorem gX10_route_X9_firstOfRoute : GoodIn wsX10_route (wsV RX10 246 RX9 yX9_firstOfRoute wsX9_firstOfRoute) := goodIn_app (goodIn_of _ (by decide +kernel)) ggX10_route_X9_firstOfRoute
set_option maxRecDepth 20000 in
theorem ggX10_route_X9_worthOf : GoodIn wsX10_route wsX9_worthOf := goodIn_r _ [83, 23, 48, 13, 49, 105, 106, 107, 108, 109] (by decide +kernel) (by decide +kernel)
set_option maxRecDepth 20000 in
theorem gX10_route_X9_worthOf : GoodIn wsX10_route (wsV RX10 249 RX9 yX9_worthOf wsX9_worthOf) := goodIn_app (goodIn_of _ (by decide +kernel)) ggX10_route_X9_worthOf
theorem dX10_route_0 : decode cX10_route 0 = .ok (.aload_n 0, 1) := by decide +kernel
theorem dX10_route_1 : decode cX10_route 1 = .ok (.getfield 19, 3) := by decide +kernel
theorem dX10_route_4 : decode cX10_route 4 = .ok (.iload_n 1, 1) := by decide +kernel
theorem dX10_route_5 : decode cX10_route 5 = .ok (.invokevirtual 180, 3) := by decide +kernel
theorem dX10_route_8 : decode cX10_route 8 = .ok (.ifCond .ne 6, 3) := by decide +kernel
theorem dX10_route_11 : decode cX10_route 11 = .ok (.ldc 162, 2) := by decide +kernel
theorem dX10_route_13 : decode cX10_route 13 = .ok (.ireturn, 1) := by decide +kernel
theorem dX10_route_14 : decode cX10_route 14 = .ok (.iload_n 2, 1) := by decide +kernel
theorem dX10_route_15 : decode cX10_route 15 = .ok (.iconst 1, 1) := by decide +kernel
theorem dX10_route_16 : decode cX10_route 16 = .ok (.bipush 8, 2) := by decide +kernel
theorem dX10_route_18 : decode cX10_route 18 = .ok (.invokestatic 83, 3) := by decide +kernel
theorem dX10_route_21 : decode cX10_route 21 = .ok (.ifCond .eq 12, 3) := by decide +kernel
theorem dX10_route_24 : decode cX10_route 24 = .ok (.iload_n 3, 1) := by decide +kernel
theorem dX10_route_25 : decode cX10_route 25 = .ok (.iconst 0, 1) := by decide +kernel
theorem dX10_route_26 : decode cX10_route 26 = .ok (.iconst 1, 1) := by decide +kernel
theorem dX10_route_27 : decode cX10_route 27 = .ok (.invokestatic 83, 3) := by decide +kernel
theorem dX10_route_30 : decode cX10_route 30 = .ok (.ifCond .ne 6, 3) := by decide +kernel
theorem dX10_route_33 : decode cX10_route 33 = .ok (.ldc 87, 2) := by decide +kernel
theorem dX10_route_35 : decode cX10_route 35 = .ok (.ireturn, 1) := by decide +kernel
theorem dX10_route_36 : decode cX10_route 36 = .ok (.aload_n 0, 1) := by decide +kernel
theorem dX10_route_37 : decode cX10_route 37 = .ok (.getfield 44, 3) := by decide +kernel
theorem dX10_route_40 : decode cX10_route 40 = .ok (.iload_n 1, 1) := by decide +kernel
theorem dX10_route_41 : decode cX10_route 41 = .ok (.iload_n 2, 1) := by decide +kernel
theorem dX10_route_42 : decode cX10_route 42 = .ok (.invokevirtual 246, 3) := by decide +kernel
theorem dX10_route_45 : decode cX10_route 45 = .ok (.istore 4, 2) := by decide +kernel
theorem dX10_route_47 : decode cX10_route 47 = .ok (.iload_n 3, 1) := by decide +kernel
theorem dX10_route_48 : decode cX10_route 48 = .ok (.ifCond .ne 19, 3) := by decide +kernel
theorem dX10_route_51 : decode cX10_route 51 = .ok (.aload_n 0, 1) := by decide +kernel
theorem dX10_route_52 : decode cX10_route 52 = .ok (.getfield 44, 3) := by decide +kernel
theorem dX10_route_55 : decode cX10_route 55 = .ok (.iload 4, 2) := by decide +kernel
theorem dX10_route_57 : decode cX10_route 57 = .ok (.invokevirtual 249, 3) := by decide +kernel
theorem dX10_route_60 : decode cX10_route 60 = .ok (.sipush 10000, 3) := by decide +kernel
theorem dX10_route_63 : decode cX10_route 63 = .ok (.iadd, 1) := by decide +kernel
theorem dX10_route_64 : decode cX10_route 64 = .ok (.goto 5, 3) := by decide +kernel
theorem dX10_route_67 : decode cX10_route 67 = .ok (.iload 4, 2) := by decide +kernel
theorem dX10_route_69 : decode cX10_route 69 = .ok (.ireturn, 1) := by decide +kernel
set_option maxRecDepth 20000 in
theorem ggX10_leavers_X2_isRoom : GoodIn wsX10_leavers wsX2_isRoom := goodIn_r _ [9, 10, 84, 85, 86, 87, 88, 89, 90, 91, 92, 93] (by decide +kernel) (by decide +kernel)
set_option maxRecDepth 20000 in
theorem gX10_leavers_X2_isRoom : GoodIn wsX10_leavers (wsV RX10 158 RX2 yX2_isRoom wsX2_isRoom) := goodIn_app (goodIn_of _ (by decide +kernel)) ggX10_leavers_X2_isRoom
set_option maxRecDepth 20000 in
theorem ggX10_leavers_X10_within : GoodIn wsX10_leavers wsX10_within := goodIn_r _ [14] (by decide +kernel) (by decide +kernel)
set_option maxRecDepth 20000 in
theorem gX10_leavers_X10_within : GoodIn wsX10_leavers (va_wsS RX10 83 yX10_within wsX10_within) := goodIn_app (goodIn_of _ (by decide +kernel)) ggX10_leavers_X10_within
set_option maxRecDepth 20000 in
theorem ggX10_leavers_X9_bestLeavers : GoodIn wsX10_leavers wsX9_bestLeavers := goodIn_r _ [19, 20, 21, 22, 23, 24, 18, 25, 26, 27, 28, 29, 30, 31, 32, 33, 34, 35, 36, 37, 38, 39, 40, 41, 42, 13, 43, 44, 45, 46, 47, 48, 49, 50, 51, 52, 53, 54, 55, 56, 57, 58, 59, 60, 61, 62, 63, 64, 65, 66, 67, 68, 69, 70, 71, 72, 94, 95, 96, 97, 98, 84, 85, 86, 87, 88, 89, 90, 91, 92, 93, 99, 100, 101, 102, 103, 104, 105, 106] (by decide +kernel) (by decide +kernel)
set_option maxRecDepth 20000 in
theorem gX10_leavers_X9_bestLeavers : GoodIn wsX10_leavers (wsV RX10 252 RX9 yX9_bestLeavers wsX9_bestLeavers) := goodIn_app (goodIn_of _ (by decide +kernel)) ggX10_leavers_X9_bestLeavers
set_option maxRecDepth 20000 in
theorem ggX10_leavers_X9_saidTogether : GoodIn wsX10_leavers wsX9_saidTogether := goodIn_r _ [25, 20, 21, 26, 27, 28, 29, 30, 31, 32, 33, 34, 35, 36, 37, 38, 39, 40, 41, 42, 13, 43, 44, 45, 46, 47, 48, 49, 50, 51, 52, 53, 54, 55, 56, 57, 58, 59, 60, 61, 94, 95, 96, 97, 98, 84, 85, 86, 87, 88, 89, 90, 91, 92, 93, 99, 100, 101, 102, 103, 104, 105, 106] (by decide +kernel) (by decide +kernel)
set_option maxRecDepth 20000 in
theorem gX10_leavers_X9_saidTogether : GoodIn wsX10_leavers (wsV RX10 255 RX9 yX9_saidTogether wsX9_saidTogether) := goodIn_app (goodIn_of _ (by decide +kernel)) ggX10_leavers_X9_saidTogether
theorem dX10_leavers_0 : decode cX10_leavers 0 = .ok (.aload_n 0, 1) := by decide +kernel
theorem dX10_leavers_1 : decode cX10_leavers 1 = .ok (.getfield 19, 3) := by decide +kernel
theorem dX10_leavers_4 : decode cX10_leavers 4 = .ok (.iload_n 1, 1) := by decide +kernel
theorem dX10_leavers_5 : decode cX10_leavers 5 = .ok (.invokevirtual 158, 3) := by decide +kernel
theorem dX10_leavers_8 : decode cX10_leavers 8 = .ok (.ifCond .ne 6, 3) := by decide +kernel
theorem dX10_leavers_11 : decode cX10_leavers 11 = .ok (.ldc 162, 2) := by decide +kernel
theorem dX10_leavers_13 : decode cX10_leavers 13 = .ok (.ireturn, 1) := by decide +kernel
theorem dX10_leavers_14 : decode cX10_leavers 14 = .ok (.iload_n 2, 1) := by decide +kernel
theorem dX10_leavers_15 : decode cX10_leavers 15 = .ok (.iconst 0, 1) := by decide +kernel
theorem dX10_leavers_16 : decode cX10_leavers 16 = .ok (.iconst 1, 1) := by decide +kernel
theorem dX10_leavers_17 : decode cX10_leavers 17 = .ok (.invokestatic 83, 3) := by decide +kernel
theorem dX10_leavers_20 : decode cX10_leavers 20 = .ok (.ifCond .ne 6, 3) := by decide +kernel
theorem dX10_leavers_23 : decode cX10_leavers 23 = .ok (.ldc 87, 2) := by decide +kernel
theorem dX10_leavers_25 : decode cX10_leavers 25 = .ok (.ireturn, 1) := by decide +kernel
theorem dX10_leavers_26 : decode cX10_leavers 26 = .ok (.aload_n 0, 1) := by decide +kernel
theorem dX10_leavers_27 : decode cX10_leavers 27 = .ok (.getfield 44, 3) := by decide +kernel
theorem dX10_leavers_30 : decode cX10_leavers 30 = .ok (.iload_n 1, 1) := by decide +kernel
theorem dX10_leavers_31 : decode cX10_leavers 31 = .ok (.invokevirtual 252, 3) := by decide +kernel
theorem dX10_leavers_34 : decode cX10_leavers 34 = .ok (.istore_n 3, 1) := by decide +kernel
theorem dX10_leavers_35 : decode cX10_leavers 35 = .ok (.iload_n 2, 1) := by decide +kernel
theorem dX10_leavers_36 : decode cX10_leavers 36 = .ok (.ifCond .ne 7, 3) := by decide +kernel
theorem dX10_leavers_39 : decode cX10_leavers 39 = .ok (.iload_n 3, 1) := by decide +kernel
theorem dX10_leavers_40 : decode cX10_leavers 40 = .ok (.goto 16, 3) := by decide +kernel
theorem dX10_leavers_43 : decode cX10_leavers 43 = .ok (.aload_n 0, 1) := by decide +kernel
theorem dX10_leavers_44 : decode cX10_leavers 44 = .ok (.getfield 44, 3) := by decide +kernel
theorem dX10_leavers_47 : decode cX10_leavers 47 = .ok (.iload_n 3, 1) := by decide +kernel
theorem dX10_leavers_48 : decode cX10_leavers 48 = .ok (.iload_n 1, 1) := by decide +kernel
theorem dX10_leavers_49 : decode cX10_leavers 49 = .ok (.invokevirtual 255, 3) := by decide +kernel
theorem dX10_leavers_52 : decode cX10_leavers 52 = .ok (.sipush 10000, 3) := by decide +kernel
theorem dX10_leavers_55 : decode cX10_leavers 55 = .ok (.iadd, 1) := by decide +kernel
theorem dX10_leavers_56 : decode cX10_leavers 56 = .ok (.ireturn, 1) := by decide +kernel
set_option maxRecDepth 20000 in
theorem ggX10_silent_X9_silentPair : GoodIn wsX10_silent wsX9_silentPair := goodIn_r _ [6, 7, 8, 9, 10, 11, 5, 12, 13, 14, 15, 16, 17, 18, 19, 20, 21, 22, 23, 24, 25, 26, 27, 28, 29, 30, 31, 32, 33, 34, 35, 36, 37, 38, 39, 40, 41, 42, 53, 54, 55, 56, 57, 58, 59, 60, 61, 62, 63, 64, 65, 66, 67, 68, 69, 70, 71, 72, 73, 74, 75] (by decide +kernel) (by decide +kernel)
set_option maxRecDepth 20000 in
theorem gX10_silent_X9_silentPair : GoodIn wsX10_silent (wsV RX10 258 RX9 yX9_silentPair wsX9_silentPair) := goodIn_app (goodIn_of _ (by decide +kernel)) ggX10_silent_X9_silentPair
theorem dX10_silent_0 : decode cX10_silent 0 = .ok (.aload_n 0, 1) := by decide +kernel
theorem dX10_silent_1 : decode cX10_silent 1 = .ok (.getfield 44, 3) := by decide +kernel
theorem dX10_silent_4 : decode cX10_silent 4 = .ok (.iload_n 1, 1) := by decide +kernel
theorem dX10_silent_5 : decode cX10_silent 5 = .ok (.invokevirtual 258, 3) := by decide +kernel
theorem dX10_silent_8 : decode cX10_silent 8 = .ok (.ireturn, 1) := by decide +kernel
set_option maxRecDepth 20000 in
theorem ggX10_carried_X2_isPerson : GoodIn wsX10_carried wsX2_isPerson := goodIn_r _ [9, 10, 59, 60, 61, 62, 63, 64, 65, 66, 67, 68] (by decide +kernel) (by decide +kernel)
set_option maxRecDepth 20000 in
theorem gX10_carried_X2_isPerson : GoodIn wsX10_carried (wsV RX10 180 RX2 yX2_isPerson wsX2_isPerson) := goodIn_app (goodIn_of _ (by decide +kernel)) ggX10_carried_X2_isPerson
set_option maxRecDepth 20000 in
theorem ggX10_carried_X9_hoursTillAllKnow : GoodIn wsX10_carried wsX9_hoursTillAllKnow := goodIn_r _ [15, 16, 17, 18, 19, 20, 21, 22, 23, 14, 24, 25, 26, 27, 28, 29, 30, 31, 32, 33, 34, 35, 36, 37, 38, 39, 40, 41, 69, 70, 71, 72, 73, 59, 60, 61, 62, 63, 64, 65, 66, 67, 68, 74, 75, 76, 77, 78, 79, 80, 81] (by decide +kernel) (by decide +kernel)
set_option maxRecDepth 20000 in
theorem gX10_carried_X9_hoursTillAllKnow : GoodIn wsX10_carried (wsV RX10 261 RX9 yX9_hoursTillAllKnow wsX9_hoursTillAllKnow) := goodIn_app (goodIn_of _ (by decide +kernel)) ggX10_carried_X9_hoursTillAllKnow
set_option maxRecDepth 20000 in
theorem ggX10_carried_X10_within : GoodIn wsX10_carried wsX10_within := goodIn_r _ [44] (by decide +kernel) (by decide +kernel)
set_option maxRecDepth 20000 in
theorem gX10_carried_X10_within : GoodIn wsX10_carried (va_wsS RX10 83 yX10_within wsX10_within) := goodIn_app (goodIn_of _ (by decide +kernel)) ggX10_carried_X10_within
set_option maxRecDepth 20000 in
theorem ggX10_carried_X9_knownBehind : GoodIn wsX10_carried wsX9_knownBehind := goodIn_r _ [48, 18, 19, 20, 21, 22, 23, 14, 24, 16, 17, 25, 26, 27, 28, 29, 30, 31, 32, 33, 34, 35, 36, 37, 38, 39, 40, 41, 69, 70, 71, 72, 73, 59, 60, 61, 62, 63, 64, 65, 66, 67, 68, 74, 75, 76, 77, 78, 79, 80, 81] (by decide +kernel) (by decide +kernel)
set_option maxRecDepth 20000 in
theorem gX10_carried_X9_knownBehind : GoodIn wsX10_carried (wsV RX10 264 RX9 yX9_knownBehind wsX9_knownBehind) := goodIn_app (goodIn_of _ (by decide +kernel)) ggX10_carried_X9_knownBehind
theorem dX10_carried_0 : decode cX10_carried 0 = .ok (.aload_n 0, 1) := by decide +kernel
theorem dX10_carried_1 : decode cX10_carried 1 = .ok (.getfield 19, 3) := by decide +kernel
theorem dX10_carried_4 : decode cX10_carried 4 = .ok (.iload_n 1, 1) := by decide +kernel
theorem dX10_carried_5 : decode cX10_carried 5 = .ok (.invokevirtual 180, 3) := by decide +kernel
theorem dX10_carried_8 : decode cX10_carried 8 = .ok (.ifCond .ne 6, 3) := by decide +kernel
theorem dX10_carried_11 : decode cX10_carried 11 = .ok (.ldc 162, 2) := by decide +kernel
theorem dX10_carried_13 : decode cX10_carried 13 = .ok (.ireturn, 1) := by decide +kernel
theorem dX10_carried_14 : decode cX10_carried 14 = .ok (.iload_n 2, 1) := by decide +kernel
theorem dX10_carried_15 : decode cX10_carried 15 = .ok (.iconst (-1), 1) := by decide +kernel
theorem dX10_carried_16 : decode cX10_carried 16 = .ok (.if_icmp .ne 12, 3) := by decide +kernel
theorem dX10_carried_19 : decode cX10_carried 19 = .ok (.aload_n 0, 1) := by decide +kernel
theorem dX10_carried_20 : decode cX10_carried 20 = .ok (.getfield 44, 3) := by decide +kernel
theorem dX10_carried_23 : decode cX10_carried 23 = .ok (.iload_n 1, 1) := by decide +kernel
theorem dX10_carried_24 : decode cX10_carried 24 = .ok (.invokevirtual 261, 3) := by decide +kernel
theorem dX10_carried_27 : decode cX10_carried 27 = .ok (.ireturn, 1) := by decide +kernel
theorem dX10_carried_28 : decode cX10_carried 28 = .ok (.iload_n 2, 1) := by decide +kernel
theorem dX10_carried_29 : decode cX10_carried 29 = .ok (.iconst 0, 1) := by decide +kernel
theorem dX10_carried_30 : decode cX10_carried 30 = .ok (.bipush 20, 2) := by decide +kernel
theorem dX10_carried_32 : decode cX10_carried 32 = .ok (.invokestatic 83, 3) := by decide +kernel
theorem dX10_carried_35 : decode cX10_carried 35 = .ok (.ifCond .ne 6, 3) := by decide +kernel
theorem dX10_carried_38 : decode cX10_carried 38 = .ok (.ldc 87, 2) := by decide +kernel
theorem dX10_carried_40 : decode cX10_carried 40 = .ok (.ireturn, 1) := by decide +kernel
theorem dX10_carried_41 : decode cX10_carried 41 = .ok (.aload_n 0, 1) := by decide +kernel
theorem dX10_carried_42 : decode cX10_carried 42 = .ok (.getfield 44, 3) := by decide +kernel
theorem dX10_carried_45 : decode cX10_carried 45 = .ok (.iload_n 1, 1) := by decide +kernel
theorem dX10_carried_46 : decode cX10_carried 46 = .ok (.iload_n 2, 1) := by decide +kernel
theorem dX10_carried_47 : decode cX10_carried 47 = .ok (.invokevirtual 264, 3) := by decide +kernel
theorem dX10_carried_50 : decode cX10_carried 50 = .ok (.ireturn, 1) := by decide +kernel
set_option maxRecDepth 20000 in
theorem ggX10_hale_X10_within : GoodIn wsX10_hale wsX10_within := goodIn_r _ [7] (by decide +kernel) (by decide +kernel)
set_option maxRecDepth 20000 in
theorem gX10_hale_X10_within : GoodIn wsX10_hale (va_wsS RX10 83 yX10_within wsX10_within) := goodIn_app (goodIn_of _ (by decide +kernel)) ggX10_hale_X10_within
theorem dX10_hale_0 : decode cX10_hale 0 = .ok (.iload_n 1, 1) := by decide +kernel
theorem dX10_hale_1 : decode cX10_hale 1 = .ok (.iconst 0, 1) := by decide +kernel
theorem dX10_hale_2 : decode cX10_hale 2 = .ok (.bipush 60, 2) := by decide +kernel
theorem dX10_hale_4 : decode cX10_hale 4 = .ok (.invokestatic 83, 3) := by decide +kernel
theorem dX10_hale_7 : decode cX10_hale 7 = .ok (.ifCond .eq 13, 3) := by decide +kernel
theorem dX10_hale_10 : decode cX10_hale 10 = .ok (.iload_n 2, 1) := by decide +kernel
theorem dX10_hale_11 : decode cX10_hale 11 = .ok (.iconst 0, 1) := by decide +kernel
theorem dX10_hale_12 : decode cX10_hale 12 = .ok (.bipush 100, 2) := by decide +kernel
theorem dX10_hale_14 : decode cX10_hale 14 = .ok (.invokestatic 83, 3) := by decide +kernel
theorem dX10_hale_17 : decode cX10_hale 17 = .ok (.ifCond .ne 6, 3) := by decide +kernel
theorem dX10_hale_20 : decode cX10_hale 20 = .ok (.ldc 87, 2) := by decide +kernel
theorem dX10_hale_22 : decode cX10_hale 22 = .ok (.ireturn, 1) := by decide +kernel
theorem dX10_hale_23 : decode cX10_hale 23 = .ok (.ldc2_w 267, 3) := by decide +kernel
theorem dX10_hale_26 : decode cX10_hale 26 = .ok (.lstore_n 3, 1) := by decide +kernel
theorem dX10_hale_27 : decode cX10_hale 27 = .ok (.iconst 0, 1) := by decide +kernel
theorem dX10_hale_28 : decode cX10_hale 28 = .ok (.istore 5, 2) := by decide +kernel
theorem dX10_hale_30 : decode cX10_hale 30 = .ok (.iload 5, 2) := by decide +kernel
theorem dX10_hale_32 : decode cX10_hale 32 = .ok (.iload_n 1, 1) := by decide +kernel
theorem dX10_hale_33 : decode cX10_hale 33 = .ok (.if_icmp .ge 18, 3) := by decide +kernel
theorem dX10_hale_36 : decode cX10_hale 36 = .ok (.lload_n 3, 1) := by decide +kernel
theorem dX10_hale_37 : decode cX10_hale 37 = .ok (.iload_n 2, 1) := by decide +kernel
theorem dX10_hale_38 : decode cX10_hale 38 = .ok (.i2l, 1) := by decide +kernel
theorem dX10_hale_39 : decode cX10_hale 39 = .ok (.lmul, 1) := by decide +kernel
theorem dX10_hale_40 : decode cX10_hale 40 = .ok (.ldc2_w 269, 3) := by decide +kernel
theorem dX10_hale_43 : decode cX10_hale 43 = .ok (.ldiv, 1) := by decide +kernel
theorem dX10_hale_44 : decode cX10_hale 44 = .ok (.lstore_n 3, 1) := by decide +kernel
theorem dX10_hale_45 : decode cX10_hale 45 = .ok (.iinc 5 1, 3) := by decide +kernel
theorem dX10_hale_48 : decode cX10_hale 48 = .ok (.goto (-18), 3) := by decide +kernel
theorem dX10_hale_51 : decode cX10_hale 51 = .ok (.lload_n 3, 1) := by decide +kernel
theorem dX10_hale_52 : decode cX10_hale 52 = .ok (.l2i, 1) := by decide +kernel
theorem dX10_hale_53 : decode cX10_hale 53 = .ok (.ireturn, 1) := by decide +kernel
set_option maxRecDepth 20000 in
theorem ggX10_note_X10_within : GoodIn wsX10_note wsX10_within := goodIn_r _ [8] (by decide +kernel) (by decide +kernel)
set_option maxRecDepth 20000 in
theorem gX10_note_X10_within : GoodIn wsX10_note (va_wsS RX10 83 yX10_within wsX10_within) := goodIn_app (goodIn_of _ (by decide +kernel)) ggX10_note_X10_within
set_option maxRecDepth 20000 in
theorem ggX10_note_X5_add : GoodIn wsX10_note wsX5_add := goodIn_r _ [13, 14, 15, 16, 17, 18, 7, 19, 30, 31, 32, 33] (by decide +kernel) (by decide +kernel)
set_option maxRecDepth 20000 in
theorem gX10_note_X5_add : GoodIn wsX10_note (wsV RX10 271 RX5 yX5_add wsX5_add) := goodIn_app (goodIn_of _ (by decide +kernel)) ggX10_note_X5_add
theorem dX10_note_0 : decode cX10_note 0 = .ok (.iload_n 1, 1) := by decide +kernel
theorem dX10_note_1 : decode cX10_note 1 = .ok (.iconst 0, 1) := by decide +kernel
theorem dX10_note_2 : decode cX10_note 2 = .ok (.iconst 2, 1) := by decide +kernel
theorem dX10_note_3 : decode cX10_note 3 = .ok (.invokestatic 83, 3) := by decide +kernel
theorem dX10_note_6 : decode cX10_note 6 = .ok (.ifCond .eq 14, 3) := by decide +kernel
theorem dX10_note_9 : decode cX10_note 9 = .ok (.iload_n 2, 1) := by decide +kernel
theorem dX10_note_10 : decode cX10_note 10 = .ok (.bipush (-9), 2) := by decide +kernel
theorem dX10_note_12 : decode cX10_note 12 = .ok (.bipush 9, 2) := by decide +kernel
theorem dX10_note_14 : decode cX10_note 14 = .ok (.invokestatic 83, 3) := by decide +kernel
theorem dX10_note_17 : decode cX10_note 17 = .ok (.ifCond .ne 6, 3) := by decide +kernel
theorem dX10_note_20 : decode cX10_note 20 = .ok (.ldc 87, 2) := by decide +kernel
theorem dX10_note_22 : decode cX10_note 22 = .ok (.ireturn, 1) := by decide +kernel
theorem dX10_note_23 : decode cX10_note 23 = .ok (.aload_n 0, 1) := by decide +kernel
theorem dX10_note_24 : decode cX10_note 24 = .ok (.getfield 58, 3) := by decide +kernel
theorem dX10_note_27 : decode cX10_note 27 = .ok (.getfield 114, 3) := by decide +kernel
theorem dX10_note_30 : decode cX10_note 30 = .ok (.bipush 6, 2) := by decide +kernel
theorem dX10_note_32 : decode cX10_note 32 = .ok (.if_icmp .lt 6, 3) := by decide +kernel
theorem dX10_note_35 : decode cX10_note 35 = .ok (.ldc 92, 2) := by decide +kernel
theorem dX10_note_37 : decode cX10_note 37 = .ok (.ireturn, 1) := by decide +kernel
theorem dX10_note_38 : decode cX10_note 38 = .ok (.aload_n 0, 1) := by decide +kernel
theorem dX10_note_39 : decode cX10_note 39 = .ok (.getfield 58, 3) := by decide +kernel
theorem dX10_note_42 : decode cX10_note 42 = .ok (.iload_n 1, 1) := by decide +kernel
theorem dX10_note_43 : decode cX10_note 43 = .ok (.iload_n 2, 1) := by decide +kernel
theorem dX10_note_44 : decode cX10_note 44 = .ok (.iload_n 3, 1) := by decide +kernel
theorem dX10_note_45 : decode cX10_note 45 = .ok (.invokevirtual 271, 3) := by decide +kernel
theorem dX10_note_48 : decode cX10_note 48 = .ok (.ireturn, 1) := by decide +kernel
set_option maxRecDepth 20000 in
theorem ggX10_thinks_X5_fitting : GoodIn wsX10_thinks wsX5_fitting := goodIn_r _ [7, 8, 9, 10, 6, 11, 12, 13, 14, 15, 16, 17, 18, 19, 20, 21, 22, 51, 52, 53, 54] (by decide +kernel) (by decide +kernel)
set_option maxRecDepth 20000 in
theorem gX10_thinks_X5_fitting : GoodIn wsX10_thinks (wsV RX10 274 RX5 yX5_fitting wsX5_fitting) := goodIn_app (goodIn_of _ (by decide +kernel)) ggX10_thinks_X5_fitting
set_option maxRecDepth 20000 in
theorem ggX10_thinks_J6_bitCount_0f7a4 : GoodIn wsX10_thinks wsJ6_bitCount_0f7a4 := goodIn_r _ [26, 27, 28, 29] (by decide +kernel) (by decide +kernel)
set_option maxRecDepth 20000 in
theorem gX10_thinks_J6_bitCount_0f7a4 : GoodIn wsX10_thinks (va_wsS RX10 277 yJ6_bitCount_0f7a4 wsJ6_bitCount_0f7a4) := goodIn_app (goodIn_of _ (by decide +kernel)) ggX10_thinks_J6_bitCount_0f7a4
set_option maxRecDepth 20000 in
theorem ggX10_thinks_X5_leastFitting : GoodIn wsX10_thinks wsX5_leastFitting := goodIn_r _ [33, 34, 4, 5, 6, 7, 8, 9, 10, 11, 12, 13, 14, 15, 16, 17, 18, 19, 20, 21, 22, 35, 36, 51, 52, 53, 54] (by decide +kernel) (by decide +kernel)
set_option maxRecDepth 20000 in
theorem gX10_thinks_X5_leastFitting : GoodIn wsX10_thinks (wsV RX10 282 RX5 yX5_leastFitting wsX5_leastFitting) := goodIn_app (goodIn_of _ (by decide +kernel)) ggX10_thinks_X5_leastFitting
set_option maxRecDepth 20000 in
theorem ggX10_thinks_X5_greatestFitting : GoodIn wsX10_thinks wsX5_greatestFitting := goodIn_r _ [40, 34, 4, 5, 6, 7, 8, 9, 10, 11, 12, 13, 14, 15, 16, 17, 18, 19, 20, 21, 22, 35, 36, 51, 52, 53, 54] (by decide +kernel) (by decide +kernel)
set_option maxRecDepth 20000 in
theorem gX10_thinks_X5_greatestFitting : GoodIn wsX10_thinks (wsV RX10 285 RX5 yX5_greatestFitting wsX5_greatestFitting) := goodIn_app (goodIn_of _ (by decide +kernel)) ggX10_thinks_X5_greatestFitting
theorem dX10_thinks_0 : decode cX10_thinks 0 = .ok (.iload_n 1, 1) := by decide +kernel
theorem dX10_thinks_1 : decode cX10_thinks 1 = .ok (.tableswitch 54 0 2 #[27, 38, 46], 27) := by decide +kernel
theorem dX10_thinks_28 : decode cX10_thinks 28 = .ok (.aload_n 0, 1) := by decide +kernel
theorem dX10_thinks_29 : decode cX10_thinks 29 = .ok (.getfield 58, 3) := by decide +kernel
theorem dX10_thinks_32 : decode cX10_thinks 32 = .ok (.invokevirtual 274, 3) := by decide +kernel
theorem dX10_thinks_35 : decode cX10_thinks 35 = .ok (.invokestatic 277, 3) := by decide +kernel
theorem dX10_thinks_38 : decode cX10_thinks 38 = .ok (.ireturn, 1) := by decide +kernel
theorem dX10_thinks_39 : decode cX10_thinks 39 = .ok (.aload_n 0, 1) := by decide +kernel
theorem dX10_thinks_40 : decode cX10_thinks 40 = .ok (.getfield 58, 3) := by decide +kernel
theorem dX10_thinks_43 : decode cX10_thinks 43 = .ok (.invokevirtual 282, 3) := by decide +kernel
theorem dX10_thinks_46 : decode cX10_thinks 46 = .ok (.ireturn, 1) := by decide +kernel
theorem dX10_thinks_47 : decode cX10_thinks 47 = .ok (.aload_n 0, 1) := by decide +kernel
theorem dX10_thinks_48 : decode cX10_thinks 48 = .ok (.getfield 58, 3) := by decide +kernel
theorem dX10_thinks_51 : decode cX10_thinks 51 = .ok (.invokevirtual 285, 3) := by decide +kernel
theorem dX10_thinks_54 : decode cX10_thinks 54 = .ok (.ireturn, 1) := by decide +kernel
theorem dX10_thinks_55 : decode cX10_thinks 55 = .ok (.ldc 87, 2) := by decide +kernel
theorem dX10_thinks_57 : decode cX10_thinks 57 = .ok (.ireturn, 1) := by decide +kernel
set_option maxRecDepth 20000 in
theorem ggX10_ask_X10_within : GoodIn wsX10_ask wsX10_within := goodIn_r _ [6] (by decide +kernel) (by decide +kernel)
set_option maxRecDepth 20000 in
theorem gX10_ask_X10_within : GoodIn wsX10_ask (va_wsS RX10 83 yX10_within wsX10_within) := goodIn_app (goodIn_of _ (by decide +kernel)) ggX10_ask_X10_within
set_option maxRecDepth 20000 in
theorem ggX10_ask_X5_bestQuestion : GoodIn wsX10_ask wsX5_bestQuestion := goodIn_r _ [11, 12, 13, 14, 15, 16, 17, 18, 10, 19, 20, 21, 22, 23, 24, 25, 26, 27, 28, 5, 29, 30, 31, 32, 33, 34, 35, 36, 37, 38, 39, 40, 41, 42, 43, 44, 45, 46, 47, 48, 49, 60, 61, 62, 63] (by decide +kernel) (by decide +kernel)
set_option maxRecDepth 20000 in
theorem gX10_ask_X5_bestQuestion : GoodIn wsX10_ask (wsV RX10 288 RX5 yX5_bestQuestion wsX5_bestQuestion) := goodIn_app (goodIn_of _ (by decide +kernel)) ggX10_ask_X5_bestQuestion
theorem dX10_ask_0 : decode cX10_ask 0 = .ok (.iload_n 1, 1) := by decide +kernel
theorem dX10_ask_1 : decode cX10_ask 1 = .ok (.iconst 0, 1) := by decide +kernel
theorem dX10_ask_2 : decode cX10_ask 2 = .ok (.iconst 2, 1) := by decide +kernel
theorem dX10_ask_3 : decode cX10_ask 3 = .ok (.invokestatic 83, 3) := by decide +kernel
theorem dX10_ask_6 : decode cX10_ask 6 = .ok (.ifCond .eq 14, 3) := by decide +kernel
theorem dX10_ask_9 : decode cX10_ask 9 = .ok (.aload_n 0, 1) := by decide +kernel
theorem dX10_ask_10 : decode cX10_ask 10 = .ok (.getfield 58, 3) := by decide +kernel
theorem dX10_ask_13 : decode cX10_ask 13 = .ok (.iload_n 1, 1) := by decide +kernel
theorem dX10_ask_14 : decode cX10_ask 14 = .ok (.invokevirtual 288, 3) := by decide +kernel
theorem dX10_ask_17 : decode cX10_ask 17 = .ok (.goto 5, 3) := by decide +kernel
theorem dX10_ask_20 : decode cX10_ask 20 = .ok (.ldc 87, 2) := by decide +kernel
theorem dX10_ask_22 : decode cX10_ask 22 = .ok (.ireturn, 1) := by decide +kernel
set_option maxRecDepth 20000 in
theorem ggX10_listens_X2_isPair : GoodIn wsX10_listens wsX2_isPair := goodIn_r _ [9, 10, 11, 12, 8, 13, 14, 64, 65, 66, 67, 68, 69, 70, 71, 72, 73] (by decide +kernel) (by decide +kernel)
set_option maxRecDepth 20000 in
theorem gX10_listens_X2_isPair : GoodIn wsX10_listens (wsV RX10 198 RX2 yX2_isPair wsX2_isPair) := goodIn_app (goodIn_of _ (by decide +kernel)) ggX10_listens_X2_isPair
set_option maxRecDepth 20000 in
theorem ggX10_listens_X10_within : GoodIn wsX10_listens wsX10_within := goodIn_r _ [18] (by decide +kernel) (by decide +kernel)
set_option maxRecDepth 20000 in
theorem gX10_listens_X10_within : GoodIn wsX10_listens (va_wsS RX10 83 yX10_within wsX10_within) := goodIn_app (goodIn_of _ (by decide +kernel)) ggX10_listens_X10_within
set_option maxRecDepth 20000 in
theorem ggX10_listens_X9_listeningRooms : GoodIn wsX10_listens wsX9_listeningRooms := goodIn_r _ [23, 24, 25, 26, 27, 28, 29, 30, 17, 31, 32, 33, 34, 35, 36, 37, 38, 39, 40, 41, 42, 43, 44, 45, 46, 47, 48, 49, 50, 51, 52, 53, 74, 75, 76, 77, 78, 64, 65, 66, 67, 68, 69, 70, 71, 72, 73, 79, 80, 81, 82, 83, 84, 85, 86] (by decide +kernel) (by decide +kernel)
set_option maxRecDepth 20000 in
theorem gX10_listens_X9_listeningRooms : GoodIn wsX10_listens (wsV RX10 291 RX9 yX9_listeningRooms wsX9_listeningRooms) := goodIn_app (goodIn_of _ (by decide +kernel)) ggX10_listens_X9_listeningRooms
theorem dX10_listens_0 : decode cX10_listens 0 = .ok (.aload_n 0, 1) := by decide +kernel
theorem dX10_listens_1 : decode cX10_listens 1 = .ok (.getfield 19, 3) := by decide +kernel
theorem dX10_listens_4 : decode cX10_listens 4 = .ok (.iload_n 1, 1) := by decide +kernel
theorem dX10_listens_5 : decode cX10_listens 5 = .ok (.iload_n 2, 1) := by decide +kernel
theorem dX10_listens_6 : decode cX10_listens 6 = .ok (.invokevirtual 198, 3) := by decide +kernel
theorem dX10_listens_9 : decode cX10_listens 9 = .ok (.ifCond .ne 6, 3) := by decide +kernel
theorem dX10_listens_12 : decode cX10_listens 12 = .ok (.ldc 162, 2) := by decide +kernel
theorem dX10_listens_14 : decode cX10_listens 14 = .ok (.ireturn, 1) := by decide +kernel
theorem dX10_listens_15 : decode cX10_listens 15 = .ok (.iload_n 3, 1) := by decide +kernel
theorem dX10_listens_16 : decode cX10_listens 16 = .ok (.bipush (-9), 2) := by decide +kernel
theorem dX10_listens_18 : decode cX10_listens 18 = .ok (.bipush 9, 2) := by decide +kernel
theorem dX10_listens_20 : decode cX10_listens 20 = .ok (.invokestatic 83, 3) := by decide +kernel
theorem dX10_listens_23 : decode cX10_listens 23 = .ok (.ifCond .ne 6, 3) := by decide +kernel
theorem dX10_listens_26 : decode cX10_listens 26 = .ok (.ldc 87, 2) := by decide +kernel
theorem dX10_listens_28 : decode cX10_listens 28 = .ok (.ireturn, 1) := by decide +kernel
theorem dX10_listens_29 : decode cX10_listens 29 = .ok (.aload_n 0, 1) := by decide +kernel
theorem dX10_listens_30 : decode cX10_listens 30 = .ok (.getfield 44, 3) := by decide +kernel
theorem dX10_listens_33 : decode cX10_listens 33 = .ok (.iload_n 1, 1) := by decide +kernel
theorem dX10_listens_34 : decode cX10_listens 34 = .ok (.iload_n 2, 1) := by decide +kernel
theorem dX10_listens_35 : decode cX10_listens 35 = .ok (.iload_n 3, 1) := by decide +kernel
theorem dX10_listens_36 : decode cX10_listens 36 = .ok (.invokevirtual 291, 3) := by decide +kernel
theorem dX10_listens_39 : decode cX10_listens 39 = .ok (.ireturn, 1) := by decide +kernel
set_option maxRecDepth 20000 in
theorem ggX10_write_X2_isPerson : GoodIn wsX10_write wsX2_isPerson := goodIn_r _ [11, 12, 40, 41, 42, 43, 44, 45, 46, 47, 48, 49] (by decide +kernel) (by decide +kernel)
set_option maxRecDepth 20000 in
theorem gX10_write_X2_isPerson : GoodIn wsX10_write (wsV RX10 180 RX2 yX2_isPerson wsX2_isPerson) := goodIn_app (goodIn_of _ (by decide +kernel)) ggX10_write_X2_isPerson
set_option maxRecDepth 20000 in
theorem ggX10_write_X10_within : GoodIn wsX10_write wsX10_within := goodIn_r _ [16] (by decide +kernel) (by decide +kernel)
set_option maxRecDepth 20000 in
theorem gX10_write_X10_within : GoodIn wsX10_write (va_wsS RX10 83 yX10_within wsX10_within) := goodIn_app (goodIn_of _ (by decide +kernel)) ggX10_write_X10_within
set_option maxRecDepth 20000 in
theorem ggX10_write_X0_add : GoodIn wsX10_write wsX0_add := goodIn_r _ [21, 22, 23, 24, 25, 15, 26, 37, 38, 39] (by decide +kernel) (by decide +kernel)
set_option maxRecDepth 20000 in
theorem gX10_write_X0_add : GoodIn wsX10_write (wsV RX10 294 RX0 yX0_add wsX0_add) := goodIn_app (goodIn_of _ (by decide +kernel)) ggX10_write_X0_add
theorem dX10_write_0 : decode cX10_write 0 = .ok (.aload_n 0, 1) := by decide +kernel
theorem dX10_write_1 : decode cX10_write 1 = .ok (.getfield 19, 3) := by decide +kernel
theorem dX10_write_4 : decode cX10_write 4 = .ok (.iload_n 1, 1) := by decide +kernel
theorem dX10_write_5 : decode cX10_write 5 = .ok (.invokevirtual 180, 3) := by decide +kernel
theorem dX10_write_8 : decode cX10_write 8 = .ok (.ifCond .ne 6, 3) := by decide +kernel
theorem dX10_write_11 : decode cX10_write 11 = .ok (.ldc 162, 2) := by decide +kernel
theorem dX10_write_13 : decode cX10_write 13 = .ok (.ireturn, 1) := by decide +kernel
theorem dX10_write_14 : decode cX10_write 14 = .ok (.iload_n 2, 1) := by decide +kernel
theorem dX10_write_15 : decode cX10_write 15 = .ok (.sipush (-9999), 3) := by decide +kernel
theorem dX10_write_18 : decode cX10_write 18 = .ok (.sipush 9999, 3) := by decide +kernel
theorem dX10_write_21 : decode cX10_write 21 = .ok (.invokestatic 83, 3) := by decide +kernel
theorem dX10_write_24 : decode cX10_write 24 = .ok (.ifCond .ne 6, 3) := by decide +kernel
theorem dX10_write_27 : decode cX10_write 27 = .ok (.ldc 87, 2) := by decide +kernel
theorem dX10_write_29 : decode cX10_write 29 = .ok (.ireturn, 1) := by decide +kernel
theorem dX10_write_30 : decode cX10_write 30 = .ok (.aload_n 0, 1) := by decide +kernel
theorem dX10_write_31 : decode cX10_write 31 = .ok (.getfield 65, 3) := by decide +kernel
theorem dX10_write_34 : decode cX10_write 34 = .ok (.getfield 115, 3) := by decide +kernel
theorem dX10_write_37 : decode cX10_write 37 = .ok (.bipush 15, 2) := by decide +kernel
theorem dX10_write_39 : decode cX10_write 39 = .ok (.if_icmp .lt 6, 3) := by decide +kernel
theorem dX10_write_42 : decode cX10_write 42 = .ok (.ldc 92, 2) := by decide +kernel
theorem dX10_write_44 : decode cX10_write 44 = .ok (.ireturn, 1) := by decide +kernel
theorem dX10_write_45 : decode cX10_write 45 = .ok (.aload_n 0, 1) := by decide +kernel
theorem dX10_write_46 : decode cX10_write 46 = .ok (.getfield 65, 3) := by decide +kernel
theorem dX10_write_49 : decode cX10_write 49 = .ok (.iload_n 1, 1) := by decide +kernel
theorem dX10_write_50 : decode cX10_write 50 = .ok (.iload_n 2, 1) := by decide +kernel
theorem dX10_write_51 : decode cX10_write 51 = .ok (.invokevirtual 294, 3) := by decide +kernel
theorem dX10_write_54 : decode cX10_write 54 = .ok (.ireturn, 1) := by decide +kernel
theorem dX10_tear_0 : decode cX10_tear 0 = .ok (.aload_n 0, 1) := by decide +kernel
theorem dX10_tear_1 : decode cX10_tear 1 = .ok (.getfield 58, 3) := by decide +kernel
theorem dX10_tear_4 : decode cX10_tear 4 = .ok (.getfield 114, 3) := by decide +kernel
theorem dX10_tear_7 : decode cX10_tear 7 = .ok (.aload_n 0, 1) := by decide +kernel
theorem dX10_tear_8 : decode cX10_tear 8 = .ok (.getfield 65, 3) := by decide +kernel
theorem dX10_tear_11 : decode cX10_tear 11 = .ok (.getfield 115, 3) := by decide +kernel
theorem dX10_tear_14 : decode cX10_tear 14 = .ok (.iadd, 1) := by decide +kernel
theorem dX10_tear_15 : decode cX10_tear 15 = .ok (.istore_n 1, 1) := by decide +kernel
theorem dX10_tear_16 : decode cX10_tear 16 = .ok (.aload_n 0, 1) := by decide +kernel
theorem dX10_tear_17 : decode cX10_tear 17 = .ok (.getfield 58, 3) := by decide +kernel
theorem dX10_tear_20 : decode cX10_tear 20 = .ok (.iconst 0, 1) := by decide +kernel
theorem dX10_tear_21 : decode cX10_tear 21 = .ok (.putfield 114, 3) := by decide +kernel
theorem dX10_tear_24 : decode cX10_tear 24 = .ok (.aload_n 0, 1) := by decide +kernel
theorem dX10_tear_25 : decode cX10_tear 25 = .ok (.getfield 65, 3) := by decide +kernel
theorem dX10_tear_28 : decode cX10_tear 28 = .ok (.iconst 0, 1) := by decide +kernel
theorem dX10_tear_29 : decode cX10_tear 29 = .ok (.putfield 115, 3) := by decide +kernel
theorem dX10_tear_32 : decode cX10_tear 32 = .ok (.iload_n 1, 1) := by decide +kernel
theorem dX10_tear_33 : decode cX10_tear 33 = .ok (.ireturn, 1) := by decide +kernel
set_option maxRecDepth 20000 in
theorem ggX10_judge_X0_firstWrong : GoodIn wsX10_judge wsX0_firstWrong := goodIn_r _ [7, 8, 9, 10, 11, 12, 13, 14, 25, 26, 27, 28, 29, 30, 31, 32, 33] (by decide +kernel) (by decide +kernel)
set_option maxRecDepth 20000 in
theorem gX10_judge_X0_firstWrong : GoodIn wsX10_judge (wsV RX10 296 RX0 yX0_firstWrong wsX0_firstWrong) := goodIn_app (goodIn_of _ (by decide +kernel)) ggX10_judge_X0_firstWrong
theorem dX10_judge_0 : decode cX10_judge 0 = .ok (.aload_n 0, 1) := by decide +kernel
theorem dX10_judge_1 : decode cX10_judge 1 = .ok (.getfield 65, 3) := by decide +kernel
theorem dX10_judge_4 : decode cX10_judge 4 = .ok (.aload_n 0, 1) := by decide +kernel
theorem dX10_judge_5 : decode cX10_judge 5 = .ok (.getfield 26, 3) := by decide +kernel
theorem dX10_judge_8 : decode cX10_judge 8 = .ok (.invokevirtual 296, 3) := by decide +kernel
theorem dX10_judge_11 : decode cX10_judge 11 = .ok (.ireturn, 1) := by decide +kernel
theorem dX10_seed_0 : decode cX10_seed 0 = .ok (.iload_n 1, 1) := by decide +kernel
theorem dX10_seed_1 : decode cX10_seed 1 = .ok (.ifCond .ge 6, 3) := by decide +kernel
theorem dX10_seed_4 : decode cX10_seed 4 = .ok (.ldc 87, 2) := by decide +kernel
theorem dX10_seed_6 : decode cX10_seed 6 = .ok (.ireturn, 1) := by decide +kernel
theorem dX10_seed_7 : decode cX10_seed 7 = .ok (.aload_n 0, 1) := by decide +kernel
theorem dX10_seed_8 : decode cX10_seed 8 = .ok (.getfield 72, 3) := by decide +kernel
theorem dX10_seed_11 : decode cX10_seed 11 = .ok (.getfield 300, 3) := by decide +kernel
theorem dX10_seed_14 : decode cX10_seed 14 = .ok (.istore_n 2, 1) := by decide +kernel
theorem dX10_seed_15 : decode cX10_seed 15 = .ok (.aload_n 0, 1) := by decide +kernel
theorem dX10_seed_16 : decode cX10_seed 16 = .ok (.getfield 72, 3) := by decide +kernel
theorem dX10_seed_19 : decode cX10_seed 19 = .ok (.iload_n 1, 1) := by decide +kernel
theorem dX10_seed_20 : decode cX10_seed 20 = .ok (.putfield 300, 3) := by decide +kernel
theorem dX10_seed_23 : decode cX10_seed 23 = .ok (.iload_n 2, 1) := by decide +kernel
theorem dX10_seed_24 : decode cX10_seed 24 = .ok (.ireturn, 1) := by decide +kernel
set_option maxRecDepth 20000 in
theorem ggX10_keep_X10_imageAt : GoodIn wsX10_keep wsX10_imageAt := goodIn_r _ [13, 14, 45, 46, 47, 48, 49, 50, 51, 52, 53, 54] (by decide +kernel) (by decide +kernel)
set_option maxRecDepth 20000 in
theorem gX10_keep_X10_imageAt : GoodIn wsX10_keep (wsV RX10 303 RX10 yX10_imageAt wsX10_imageAt) := goodIn_app (goodIn_of _ (by decide +kernel)) ggX10_keep_X10_imageAt
set_option maxRecDepth 20000 in
theorem ggX10_keep_X7_copyFrom : GoodIn wsX10_keep wsX7_copyFrom := goodIn_r _ [19, 20, 21, 22, 23, 24, 25, 26, 12, 27, 28, 29, 30, 31, 32, 33, 34, 35, 56, 57, 58, 59, 60, 61] (by decide +kernel) (by decide +kernel)
set_option maxRecDepth 20000 in
theorem gX10_keep_X7_copyFrom : GoodIn wsX10_keep (wsV RX10 308 RX7 yX7_copyFrom wsX7_copyFrom) := goodIn_app (goodIn_of _ (by decide +kernel)) ggX10_keep_X7_copyFrom
set_option maxRecDepth 20000 in
theorem ggX10_keep_X6_forget : GoodIn wsX10_keep wsX6_forget := goodIn_r _ [40, 41, 62, 63, 64] (by decide +kernel) (by decide +kernel)
set_option maxRecDepth 20000 in
theorem gX10_keep_X6_forget : GoodIn wsX10_keep (wsV RX10 116 RX6 yX6_forget wsX6_forget) := goodIn_app (goodIn_of _ (by decide +kernel)) ggX10_keep_X6_forget
theorem dX10_keep_0 : decode cX10_keep 0 = .ok (.aload_n 0, 1) := by decide +kernel
theorem dX10_keep_1 : decode cX10_keep 1 = .ok (.iload_n 1, 1) := by decide +kernel
theorem dX10_keep_2 : decode cX10_keep 2 = .ok (.invokevirtual 303, 3) := by decide +kernel
theorem dX10_keep_5 : decode cX10_keep 5 = .ok (.astore_n 2, 1) := by decide +kernel
theorem dX10_keep_6 : decode cX10_keep 6 = .ok (.aload_n 2, 1) := by decide +kernel
theorem dX10_keep_7 : decode cX10_keep 7 = .ok (.ifnonnull 6, 3) := by decide +kernel
theorem dX10_keep_10 : decode cX10_keep 10 = .ok (.ldc 162, 2) := by decide +kernel
theorem dX10_keep_12 : decode cX10_keep 12 = .ok (.ireturn, 1) := by decide +kernel
theorem dX10_keep_13 : decode cX10_keep 13 = .ok (.aload_n 2, 1) := by decide +kernel
theorem dX10_keep_14 : decode cX10_keep 14 = .ok (.getfield 307, 3) := by decide +kernel
theorem dX10_keep_17 : decode cX10_keep 17 = .ok (.aload_n 0, 1) := by decide +kernel
theorem dX10_keep_18 : decode cX10_keep 18 = .ok (.getfield 26, 3) := by decide +kernel
theorem dX10_keep_21 : decode cX10_keep 21 = .ok (.invokevirtual 308, 3) := by decide +kernel
theorem dX10_keep_24 : decode cX10_keep 24 = .ok (.aload_n 2, 1) := by decide +kernel
theorem dX10_keep_25 : decode cX10_keep 25 = .ok (.aload_n 0, 1) := by decide +kernel
theorem dX10_keep_26 : decode cX10_keep 26 = .ok (.getfield 72, 3) := by decide +kernel
theorem dX10_keep_29 : decode cX10_keep 29 = .ok (.getfield 300, 3) := by decide +kernel
theorem dX10_keep_32 : decode cX10_keep 32 = .ok (.putfield 310, 3) := by decide +kernel
theorem dX10_keep_35 : decode cX10_keep 35 = .ok (.aload_n 2, 1) := by decide +kernel
theorem dX10_keep_36 : decode cX10_keep 36 = .ok (.iconst 1, 1) := by decide +kernel
theorem dX10_keep_37 : decode cX10_keep 37 = .ok (.putfield 119, 3) := by decide +kernel
theorem dX10_keep_40 : decode cX10_keep 40 = .ok (.aload_n 0, 1) := by decide +kernel
theorem dX10_keep_41 : decode cX10_keep 41 = .ok (.getfield 51, 3) := by decide +kernel
theorem dX10_keep_44 : decode cX10_keep 44 = .ok (.invokevirtual 116, 3) := by decide +kernel
theorem dX10_keep_47 : decode cX10_keep 47 = .ok (.iconst 1, 1) := by decide +kernel
theorem dX10_keep_48 : decode cX10_keep 48 = .ok (.ireturn, 1) := by decide +kernel
set_option maxRecDepth 20000 in
theorem ggX10_goBack_X10_imageAt : GoodIn wsX10_goBack wsX10_imageAt := goodIn_r _ [14, 15, 46, 47, 48, 49, 50, 51, 52, 53, 54, 55] (by decide +kernel) (by decide +kernel)
set_option maxRecDepth 20000 in
theorem gX10_goBack_X10_imageAt : GoodIn wsX10_goBack (wsV RX10 303 RX10 yX10_imageAt wsX10_imageAt) := goodIn_app (goodIn_of _ (by decide +kernel)) ggX10_goBack_X10_imageAt
set_option maxRecDepth 20000 in
theorem ggX10_goBack_X7_copyFrom : GoodIn wsX10_goBack wsX7_copyFrom := goodIn_r _ [20, 21, 22, 23, 24, 25, 26, 27, 13, 28, 29, 30, 31, 32, 33, 34, 35, 36, 57, 58, 59, 60, 61, 62] (by decide +kernel) (by decide +kernel)
set_option maxRecDepth 20000 in
theorem gX10_goBack_X7_copyFrom : GoodIn wsX10_goBack (wsV RX10 308 RX7 yX7_copyFrom wsX7_copyFrom) := goodIn_app (goodIn_of _ (by decide +kernel)) ggX10_goBack_X7_copyFrom
set_option maxRecDepth 20000 in
theorem ggX10_goBack_X6_forget : GoodIn wsX10_goBack wsX6_forget := goodIn_r _ [41, 42, 63, 64, 65] (by decide +kernel) (by decide +kernel)
set_option maxRecDepth 20000 in
theorem gX10_goBack_X6_forget : GoodIn wsX10_goBack (wsV RX10 116 RX6 yX6_forget wsX6_forget) := goodIn_app (goodIn_of _ (by decide +kernel)) ggX10_goBack_X6_forget
theorem dX10_goBack_0 : decode cX10_goBack 0 = .ok (.aload_n 0, 1) := by decide +kernel
theorem dX10_goBack_1 : decode cX10_goBack 1 = .ok (.iload_n 1, 1) := by decide +kernel
theorem dX10_goBack_2 : decode cX10_goBack 2 = .ok (.invokevirtual 303, 3) := by decide +kernel
theorem dX10_goBack_5 : decode cX10_goBack 5 = .ok (.astore_n 2, 1) := by decide +kernel
theorem dX10_goBack_6 : decode cX10_goBack 6 = .ok (.aload_n 2, 1) := by decide +kernel
theorem dX10_goBack_7 : decode cX10_goBack 7 = .ok (.ifnonnull 6, 3) := by decide +kernel
theorem dX10_goBack_10 : decode cX10_goBack 10 = .ok (.ldc 162, 2) := by decide +kernel
theorem dX10_goBack_12 : decode cX10_goBack 12 = .ok (.ireturn, 1) := by decide +kernel
theorem dX10_goBack_13 : decode cX10_goBack 13 = .ok (.aload_n 2, 1) := by decide +kernel
theorem dX10_goBack_14 : decode cX10_goBack 14 = .ok (.getfield 119, 3) := by decide +kernel
theorem dX10_goBack_17 : decode cX10_goBack 17 = .ok (.ifCond .ne 6, 3) := by decide +kernel
theorem dX10_goBack_20 : decode cX10_goBack 20 = .ok (.ldc 227, 2) := by decide +kernel
theorem dX10_goBack_22 : decode cX10_goBack 22 = .ok (.ireturn, 1) := by decide +kernel
theorem dX10_goBack_23 : decode cX10_goBack 23 = .ok (.aload_n 0, 1) := by decide +kernel
theorem dX10_goBack_24 : decode cX10_goBack 24 = .ok (.getfield 26, 3) := by decide +kernel
theorem dX10_goBack_27 : decode cX10_goBack 27 = .ok (.aload_n 2, 1) := by decide +kernel
theorem dX10_goBack_28 : decode cX10_goBack 28 = .ok (.getfield 307, 3) := by decide +kernel
theorem dX10_goBack_31 : decode cX10_goBack 31 = .ok (.invokevirtual 308, 3) := by decide +kernel
theorem dX10_goBack_34 : decode cX10_goBack 34 = .ok (.aload_n 0, 1) := by decide +kernel
theorem dX10_goBack_35 : decode cX10_goBack 35 = .ok (.getfield 72, 3) := by decide +kernel
theorem dX10_goBack_38 : decode cX10_goBack 38 = .ok (.aload_n 2, 1) := by decide +kernel
theorem dX10_goBack_39 : decode cX10_goBack 39 = .ok (.getfield 310, 3) := by decide +kernel
theorem dX10_goBack_42 : decode cX10_goBack 42 = .ok (.putfield 300, 3) := by decide +kernel
theorem dX10_goBack_45 : decode cX10_goBack 45 = .ok (.aload_n 0, 1) := by decide +kernel
theorem dX10_goBack_46 : decode cX10_goBack 46 = .ok (.getfield 51, 3) := by decide +kernel
theorem dX10_goBack_49 : decode cX10_goBack 49 = .ok (.invokevirtual 116, 3) := by decide +kernel
theorem dX10_goBack_52 : decode cX10_goBack 52 = .ok (.iconst 1, 1) := by decide +kernel
theorem dX10_goBack_53 : decode cX10_goBack 53 = .ok (.ireturn, 1) := by decide +kernel
theorem dX10_imageAt_0 : decode cX10_imageAt 0 = .ok (.iload_n 1, 1) := by decide +kernel
theorem dX10_imageAt_1 : decode cX10_imageAt 1 = .ok (.ifCond .lt 21, 3) := by decide +kernel
theorem dX10_imageAt_4 : decode cX10_imageAt 4 = .ok (.iload_n 1, 1) := by decide +kernel
theorem dX10_imageAt_5 : decode cX10_imageAt 5 = .ok (.aload_n 0, 1) := by decide +kernel
theorem dX10_imageAt_6 : decode cX10_imageAt 6 = .ok (.getfield 78, 3) := by decide +kernel
theorem dX10_imageAt_9 : decode cX10_imageAt 9 = .ok (.arraylength, 1) := by decide +kernel
theorem dX10_imageAt_10 : decode cX10_imageAt 10 = .ok (.if_icmp .ge 12, 3) := by decide +kernel
theorem dX10_imageAt_13 : decode cX10_imageAt 13 = .ok (.aload_n 0, 1) := by decide +kernel
theorem dX10_imageAt_14 : decode cX10_imageAt 14 = .ok (.getfield 78, 3) := by decide +kernel
theorem dX10_imageAt_17 : decode cX10_imageAt 17 = .ok (.iload_n 1, 1) := by decide +kernel
theorem dX10_imageAt_18 : decode cX10_imageAt 18 = .ok (.aaload, 1) := by decide +kernel
theorem dX10_imageAt_19 : decode cX10_imageAt 19 = .ok (.goto 4, 3) := by decide +kernel
theorem dX10_imageAt_22 : decode cX10_imageAt 22 = .ok (.aconst_null, 1) := by decide +kernel
theorem dX10_imageAt_23 : decode cX10_imageAt 23 = .ok (.areturn, 1) := by decide +kernel
set_option maxRecDepth 20000 in
theorem ggX10_refusalOfHours_X10_within : GoodIn wsX10_refusalOfHours wsX10_within := goodIn_r _ [10] (by decide +kernel) (by decide +kernel)
set_option maxRecDepth 20000 in
theorem gX10_refusalOfHours_X10_within : GoodIn wsX10_refusalOfHours (va_wsS RX10 83 yX10_within wsX10_within) := goodIn_app (goodIn_of _ (by decide +kernel)) ggX10_refusalOfHours_X10_within
set_option maxRecDepth 20000 in
theorem ggX10_refusalOfHours_X2_isTold : GoodIn wsX10_refusalOfHours wsX2_isTold := goodIn_r _ [15, 16, 33, 34, 35, 36, 37, 38, 39, 40, 41, 42] (by decide +kernel) (by decide +kernel)
set_option maxRecDepth 20000 in
theorem gX10_refusalOfHours_X2_isTold : GoodIn wsX10_refusalOfHours (wsV RX10 313 RX2 yX2_isTold wsX2_isTold) := goodIn_app (goodIn_of _ (by decide +kernel)) ggX10_refusalOfHours_X2_isTold
theorem dX10_refusalOfHours_0 : decode cX10_refusalOfHours 0 = .ok (.iload_n 1, 1) := by decide +kernel
theorem dX10_refusalOfHours_1 : decode cX10_refusalOfHours 1 = .ok (.iconst 1, 1) := by decide +kernel
theorem dX10_refusalOfHours_2 : decode cX10_refusalOfHours 2 = .ok (.bipush 60, 2) := by decide +kernel
theorem dX10_refusalOfHours_4 : decode cX10_refusalOfHours 4 = .ok (.invokestatic 83, 3) := by decide +kernel
theorem dX10_refusalOfHours_7 : decode cX10_refusalOfHours 7 = .ok (.ifCond .ne 6, 3) := by decide +kernel
theorem dX10_refusalOfHours_10 : decode cX10_refusalOfHours 10 = .ok (.ldc 87, 2) := by decide +kernel
theorem dX10_refusalOfHours_12 : decode cX10_refusalOfHours 12 = .ok (.ireturn, 1) := by decide +kernel
theorem dX10_refusalOfHours_13 : decode cX10_refusalOfHours 13 = .ok (.aload_n 0, 1) := by decide +kernel
theorem dX10_refusalOfHours_14 : decode cX10_refusalOfHours 14 = .ok (.getfield 19, 3) := by decide +kernel
theorem dX10_refusalOfHours_17 : decode cX10_refusalOfHours 17 = .ok (.invokevirtual 313, 3) := by decide +kernel
theorem dX10_refusalOfHours_20 : decode cX10_refusalOfHours 20 = .ok (.ifCond .ne 6, 3) := by decide +kernel
theorem dX10_refusalOfHours_23 : decode cX10_refusalOfHours 23 = .ok (.ldc 227, 2) := by decide +kernel
theorem dX10_refusalOfHours_25 : decode cX10_refusalOfHours 25 = .ok (.ireturn, 1) := by decide +kernel
theorem dX10_refusalOfHours_26 : decode cX10_refusalOfHours 26 = .ok (.aload_n 0, 1) := by decide +kernel
theorem dX10_refusalOfHours_27 : decode cX10_refusalOfHours 27 = .ok (.getfield 26, 3) := by decide +kernel
theorem dX10_refusalOfHours_30 : decode cX10_refusalOfHours 30 = .ok (.getfield 141, 3) := by decide +kernel
theorem dX10_refusalOfHours_33 : decode cX10_refusalOfHours 33 = .ok (.sipush 9000, 3) := by decide +kernel
theorem dX10_refusalOfHours_36 : decode cX10_refusalOfHours 36 = .ok (.if_icmp .le 8, 3) := by decide +kernel
theorem dX10_refusalOfHours_39 : decode cX10_refusalOfHours 39 = .ok (.ldc 92, 2) := by decide +kernel
theorem dX10_refusalOfHours_41 : decode cX10_refusalOfHours 41 = .ok (.goto 4, 3) := by decide +kernel
theorem dX10_refusalOfHours_44 : decode cX10_refusalOfHours 44 = .ok (.iconst 0, 1) := by decide +kernel
theorem dX10_refusalOfHours_45 : decode cX10_refusalOfHours 45 = .ok (.ireturn, 1) := by decide +kernel
set_option maxRecDepth 20000 in
theorem ggX10_drawDeed_X1_next : GoodIn wsX10_drawDeed wsX1_next := goodIn_r _ [13, 14, 15, 16, 17, 18, 66] (by decide +kernel) (by decide +kernel)
set_option maxRecDepth 20000 in
theorem gX10_drawDeed_X1_next : GoodIn wsX10_drawDeed (wsV RX10 316 RX1 yX1_next wsX1_next) := goodIn_app (goodIn_of _ (by decide +kernel)) ggX10_drawDeed_X1_next
set_option maxRecDepth 20000 in
theorem ggX10_drawDeed_X10_at : GoodIn wsX10_drawDeed wsX10_at := goodIn_r _ [22] (by decide +kernel) (by decide +kernel)
set_option maxRecDepth 20000 in
theorem gX10_drawDeed_X10_at : GoodIn wsX10_drawDeed (va_wsS RX10 173 yX10_at wsX10_at) := goodIn_app (goodIn_of _ (by decide +kernel)) ggX10_drawDeed_X10_at
set_option maxRecDepth 20000 in
theorem ggX10_drawDeed_X2_isWay : GoodIn wsX10_drawDeed wsX2_isWay := goodIn_r _ [27, 28, 20, 21, 22, 29, 30, 50, 51, 52, 53, 54, 55, 56, 57, 58, 59] (by decide +kernel) (by decide +kernel)
set_option maxRecDepth 20000 in
theorem gX10_drawDeed_X2_isWay : GoodIn wsX10_drawDeed (wsV RX10 224 RX2 yX2_isWay wsX2_isWay) := goodIn_app (goodIn_of _ (by decide +kernel)) ggX10_drawDeed_X2_isWay
set_option maxRecDepth 20000 in
theorem ggX10_drawDeed_X10_put : GoodIn wsX10_drawDeed wsX10_put := goodIn_r _ [33] (by decide +kernel) (by decide +kernel)
set_option maxRecDepth 20000 in
theorem gX10_drawDeed_X10_put : GoodIn wsX10_drawDeed (va_wsS RX10 228 yX10_put wsX10_put) := goodIn_app (goodIn_of _ (by decide +kernel)) ggX10_drawDeed_X10_put
set_option maxRecDepth 20000 in
theorem ggX10_drawDeed_X10_bit : GoodIn wsX10_drawDeed wsX10_bit := goodIn_r _ [36] (by decide +kernel) (by decide +kernel)
set_option maxRecDepth 20000 in
theorem gX10_drawDeed_X10_bit : GoodIn wsX10_drawDeed (va_wsS RX10 163 yX10_bit wsX10_bit) := goodIn_app (goodIn_of _ (by decide +kernel)) ggX10_drawDeed_X10_bit
set_option maxRecDepth 20000 in
theorem ggX10_drawDeed_X10_pairIndex : GoodIn wsX10_drawDeed wsX10_pairIndex := goodIn_r _ [39] (by decide +kernel) (by decide +kernel)
set_option maxRecDepth 20000 in
theorem gX10_drawDeed_X10_pairIndex : GoodIn wsX10_drawDeed (va_wsS RX10 204 yX10_pairIndex wsX10_pairIndex) := goodIn_app (goodIn_of _ (by decide +kernel)) ggX10_drawDeed_X10_pairIndex
theorem dX10_drawDeed_0 : decode cX10_drawDeed 0 = .ok (.aload_n 0, 1) := by decide +kernel
theorem dX10_drawDeed_1 : decode cX10_drawDeed 1 = .ok (.getfield 19, 3) := by decide +kernel
theorem dX10_drawDeed_4 : decode cX10_drawDeed 4 = .ok (.getfield 123, 3) := by decide +kernel
theorem dX10_drawDeed_7 : decode cX10_drawDeed 7 = .ok (.ifCond .gt 4, 3) := by decide +kernel
theorem dX10_drawDeed_10 : decode cX10_drawDeed 10 = .ok (.return_, 1) := by decide +kernel
theorem dX10_drawDeed_11 : decode cX10_drawDeed 11 = .ok (.aload_n 0, 1) := by decide +kernel
theorem dX10_drawDeed_12 : decode cX10_drawDeed 12 = .ok (.getfield 72, 3) := by decide +kernel
theorem dX10_drawDeed_15 : decode cX10_drawDeed 15 = .ok (.iconst 4, 1) := by decide +kernel
theorem dX10_drawDeed_16 : decode cX10_drawDeed 16 = .ok (.invokevirtual 316, 3) := by decide +kernel
theorem dX10_drawDeed_19 : decode cX10_drawDeed 19 = .ok (.istore_n 1, 1) := by decide +kernel
theorem dX10_drawDeed_20 : decode cX10_drawDeed 20 = .ok (.aload_n 0, 1) := by decide +kernel
theorem dX10_drawDeed_21 : decode cX10_drawDeed 21 = .ok (.getfield 72, 3) := by decide +kernel
theorem dX10_drawDeed_24 : decode cX10_drawDeed 24 = .ok (.aload_n 0, 1) := by decide +kernel
theorem dX10_drawDeed_25 : decode cX10_drawDeed 25 = .ok (.getfield 19, 3) := by decide +kernel
theorem dX10_drawDeed_28 : decode cX10_drawDeed 28 = .ok (.getfield 123, 3) := by decide +kernel
theorem dX10_drawDeed_31 : decode cX10_drawDeed 31 = .ok (.invokevirtual 316, 3) := by decide +kernel
theorem dX10_drawDeed_34 : decode cX10_drawDeed 34 = .ok (.istore_n 2, 1) := by decide +kernel
theorem dX10_drawDeed_35 : decode cX10_drawDeed 35 = .ok (.iload_n 1, 1) := by decide +kernel
theorem dX10_drawDeed_36 : decode cX10_drawDeed 36 = .ok (.tableswitch 153 0 2 #[28, 80, 99], 28) := by decide +kernel
theorem dX10_drawDeed_64 : decode cX10_drawDeed 64 = .ok (.aload_n 0, 1) := by decide +kernel
theorem dX10_drawDeed_65 : decode cX10_drawDeed 65 = .ok (.getfield 72, 3) := by decide +kernel
theorem dX10_drawDeed_68 : decode cX10_drawDeed 68 = .ok (.aload_n 0, 1) := by decide +kernel
theorem dX10_drawDeed_69 : decode cX10_drawDeed 69 = .ok (.getfield 19, 3) := by decide +kernel
theorem dX10_drawDeed_72 : decode cX10_drawDeed 72 = .ok (.getfield 129, 3) := by decide +kernel
theorem dX10_drawDeed_75 : decode cX10_drawDeed 75 = .ok (.invokevirtual 316, 3) := by decide +kernel
theorem dX10_drawDeed_78 : decode cX10_drawDeed 78 = .ok (.istore_n 3, 1) := by decide +kernel
theorem dX10_drawDeed_79 : decode cX10_drawDeed 79 = .ok (.aload_n 0, 1) := by decide +kernel
theorem dX10_drawDeed_80 : decode cX10_drawDeed 80 = .ok (.getfield 19, 3) := by decide +kernel
theorem dX10_drawDeed_83 : decode cX10_drawDeed 83 = .ok (.aload_n 0, 1) := by decide +kernel
theorem dX10_drawDeed_84 : decode cX10_drawDeed 84 = .ok (.getfield 26, 3) := by decide +kernel
theorem dX10_drawDeed_87 : decode cX10_drawDeed 87 = .ok (.getfield 186, 3) := by decide +kernel
theorem dX10_drawDeed_90 : decode cX10_drawDeed 90 = .ok (.iload_n 2, 1) := by decide +kernel
theorem dX10_drawDeed_91 : decode cX10_drawDeed 91 = .ok (.invokestatic 173, 3) := by decide +kernel
theorem dX10_drawDeed_94 : decode cX10_drawDeed 94 = .ok (.iload_n 3, 1) := by decide +kernel
theorem dX10_drawDeed_95 : decode cX10_drawDeed 95 = .ok (.invokevirtual 224, 3) := by decide +kernel
theorem dX10_drawDeed_98 : decode cX10_drawDeed 98 = .ok (.ifCond .eq 91, 3) := by decide +kernel
theorem dX10_drawDeed_101 : decode cX10_drawDeed 101 = .ok (.aload_n 0, 1) := by decide +kernel
theorem dX10_drawDeed_102 : decode cX10_drawDeed 102 = .ok (.getfield 26, 3) := by decide +kernel
theorem dX10_drawDeed_105 : decode cX10_drawDeed 105 = .ok (.getfield 186, 3) := by decide +kernel
theorem dX10_drawDeed_108 : decode cX10_drawDeed 108 = .ok (.iload_n 2, 1) := by decide +kernel
theorem dX10_drawDeed_109 : decode cX10_drawDeed 109 = .ok (.iload_n 3, 1) := by decide +kernel
theorem dX10_drawDeed_110 : decode cX10_drawDeed 110 = .ok (.invokestatic 228, 3) := by decide +kernel
theorem dX10_drawDeed_113 : decode cX10_drawDeed 113 = .ok (.goto 76, 3) := by decide +kernel
theorem dX10_drawDeed_116 : decode cX10_drawDeed 116 = .ok (.aload_n 0, 1) := by decide +kernel
theorem dX10_drawDeed_117 : decode cX10_drawDeed 117 = .ok (.getfield 26, 3) := by decide +kernel
theorem dX10_drawDeed_120 : decode cX10_drawDeed 120 = .ok (.dup, 1) := by decide +kernel
theorem dX10_drawDeed_121 : decode cX10_drawDeed 121 = .ok (.getfield 144, 3) := by decide +kernel
theorem dX10_drawDeed_124 : decode cX10_drawDeed 124 = .ok (.iload_n 2, 1) := by decide +kernel
theorem dX10_drawDeed_125 : decode cX10_drawDeed 125 = .ok (.invokestatic 163, 3) := by decide +kernel
theorem dX10_drawDeed_128 : decode cX10_drawDeed 128 = .ok (.ior, 1) := by decide +kernel
theorem dX10_drawDeed_129 : decode cX10_drawDeed 129 = .ok (.putfield 144, 3) := by decide +kernel
theorem dX10_drawDeed_132 : decode cX10_drawDeed 132 = .ok (.goto 57, 3) := by decide +kernel
theorem dX10_drawDeed_135 : decode cX10_drawDeed 135 = .ok (.aload_n 0, 1) := by decide +kernel
theorem dX10_drawDeed_136 : decode cX10_drawDeed 136 = .ok (.getfield 72, 3) := by decide +kernel
theorem dX10_drawDeed_139 : decode cX10_drawDeed 139 = .ok (.aload_n 0, 1) := by decide +kernel
theorem dX10_drawDeed_140 : decode cX10_drawDeed 140 = .ok (.getfield 19, 3) := by decide +kernel
theorem dX10_drawDeed_143 : decode cX10_drawDeed 143 = .ok (.getfield 123, 3) := by decide +kernel
theorem dX10_drawDeed_146 : decode cX10_drawDeed 146 = .ok (.invokevirtual 316, 3) := by decide +kernel
theorem dX10_drawDeed_149 : decode cX10_drawDeed 149 = .ok (.istore 4, 2) := by decide +kernel
theorem dX10_drawDeed_151 : decode cX10_drawDeed 151 = .ok (.aload_n 0, 1) := by decide +kernel
theorem dX10_drawDeed_152 : decode cX10_drawDeed 152 = .ok (.getfield 72, 3) := by decide +kernel
theorem dX10_drawDeed_155 : decode cX10_drawDeed 155 = .ok (.bipush 10, 2) := by decide +kernel
theorem dX10_drawDeed_157 : decode cX10_drawDeed 157 = .ok (.invokevirtual 316, 3) := by decide +kernel
theorem dX10_drawDeed_160 : decode cX10_drawDeed 160 = .ok (.istore 5, 2) := by decide +kernel
theorem dX10_drawDeed_162 : decode cX10_drawDeed 162 = .ok (.iload 4, 2) := by decide +kernel
theorem dX10_drawDeed_164 : decode cX10_drawDeed 164 = .ok (.iload_n 2, 1) := by decide +kernel
theorem dX10_drawDeed_165 : decode cX10_drawDeed 165 = .ok (.if_icmp .eq 24, 3) := by decide +kernel
theorem dX10_drawDeed_168 : decode cX10_drawDeed 168 = .ok (.aload_n 0, 1) := by decide +kernel
theorem dX10_drawDeed_169 : decode cX10_drawDeed 169 = .ok (.getfield 26, 3) := by decide +kernel
theorem dX10_drawDeed_172 : decode cX10_drawDeed 172 = .ok (.getfield 201, 3) := by decide +kernel
theorem dX10_drawDeed_175 : decode cX10_drawDeed 175 = .ok (.iload_n 2, 1) := by decide +kernel
theorem dX10_drawDeed_176 : decode cX10_drawDeed 176 = .ok (.iload 4, 2) := by decide +kernel
theorem dX10_drawDeed_178 : decode cX10_drawDeed 178 = .ok (.invokestatic 204, 3) := by decide +kernel
theorem dX10_drawDeed_181 : decode cX10_drawDeed 181 = .ok (.iload 5, 2) := by decide +kernel
theorem dX10_drawDeed_183 : decode cX10_drawDeed 183 = .ok (.invokestatic 228, 3) := by decide +kernel
theorem dX10_drawDeed_186 : decode cX10_drawDeed 186 = .ok (.goto 3, 3) := by decide +kernel
theorem dX10_drawDeed_189 : decode cX10_drawDeed 189 = .ok (.return_, 1) := by decide +kernel
theorem dX10_at_0 : decode cX10_at 0 = .ok (.iload_n 1, 1) := by decide +kernel
theorem dX10_at_1 : decode cX10_at 1 = .ok (.ifCond .lt 15, 3) := by decide +kernel
theorem dX10_at_4 : decode cX10_at 4 = .ok (.iload_n 1, 1) := by decide +kernel
theorem dX10_at_5 : decode cX10_at 5 = .ok (.aload_n 0, 1) := by decide +kernel
theorem dX10_at_6 : decode cX10_at 6 = .ok (.arraylength, 1) := by decide +kernel
theorem dX10_at_7 : decode cX10_at 7 = .ok (.if_icmp .ge 9, 3) := by decide +kernel
theorem dX10_at_10 : decode cX10_at 10 = .ok (.aload_n 0, 1) := by decide +kernel
theorem dX10_at_11 : decode cX10_at 11 = .ok (.iload_n 1, 1) := by decide +kernel
theorem dX10_at_12 : decode cX10_at 12 = .ok (.iaload, 1) := by decide +kernel
theorem dX10_at_13 : decode cX10_at 13 = .ok (.goto 4, 3) := by decide +kernel
theorem dX10_at_16 : decode cX10_at 16 = .ok (.iconst 0, 1) := by decide +kernel
theorem dX10_at_17 : decode cX10_at 17 = .ok (.ireturn, 1) := by decide +kernel
theorem dX10_put_0 : decode cX10_put 0 = .ok (.iload_n 1, 1) := by decide +kernel
theorem dX10_put_1 : decode cX10_put 1 = .ok (.ifCond .lt 13, 3) := by decide +kernel
theorem dX10_put_4 : decode cX10_put 4 = .ok (.iload_n 1, 1) := by decide +kernel
theorem dX10_put_5 : decode cX10_put 5 = .ok (.aload_n 0, 1) := by decide +kernel
theorem dX10_put_6 : decode cX10_put 6 = .ok (.arraylength, 1) := by decide +kernel
theorem dX10_put_7 : decode cX10_put 7 = .ok (.if_icmp .ge 7, 3) := by decide +kernel
theorem dX10_put_10 : decode cX10_put 10 = .ok (.aload_n 0, 1) := by decide +kernel
theorem dX10_put_11 : decode cX10_put 11 = .ok (.iload_n 1, 1) := by decide +kernel
theorem dX10_put_12 : decode cX10_put 12 = .ok (.iload_n 2, 1) := by decide +kernel
theorem dX10_put_13 : decode cX10_put 13 = .ok (.iastore, 1) := by decide +kernel
theorem dX10_put_14 : decode cX10_put 14 = .ok (.return_, 1) := by decide +kernel
theorem dX10_copy_0 : decode cX10_copy 0 = .ok (.aload_n 0, 1) := by decide +kernel
theorem dX10_copy_1 : decode cX10_copy 1 = .ok (.iconst 0, 1) := by decide +kernel
theorem dX10_copy_2 : decode cX10_copy 2 = .ok (.aload_n 1, 1) := by decide +kernel
theorem dX10_copy_3 : decode cX10_copy 3 = .ok (.iconst 0, 1) := by decide +kernel
theorem dX10_copy_4 : decode cX10_copy 4 = .ok (.aload_n 0, 1) := by decide +kernel
theorem dX10_copy_5 : decode cX10_copy 5 = .ok (.arraylength, 1) := by decide +kernel
theorem dX10_copy_6 : decode cX10_copy 6 = .ok (.aload_n 1, 1) := by decide +kernel
theorem dX10_copy_7 : decode cX10_copy 7 = .ok (.arraylength, 1) := by decide +kernel
theorem dX10_copy_8 : decode cX10_copy 8 = .ok (.invokestatic 319, 3) := by decide +kernel
theorem dX10_copy_11 : decode cX10_copy 11 = .ok (.invokestatic 324, 3) := by decide +kernel
theorem dX10_copy_14 : decode cX10_copy 14 = .ok (.return_, 1) := by decide +kernel
theorem dX10_bit_0 : decode cX10_bit 0 = .ok (.iload_n 0, 1) := by decide +kernel
theorem dX10_bit_1 : decode cX10_bit 1 = .ok (.ifCond .lt 15, 3) := by decide +kernel
theorem dX10_bit_4 : decode cX10_bit 4 = .ok (.iload_n 0, 1) := by decide +kernel
theorem dX10_bit_5 : decode cX10_bit 5 = .ok (.bipush 30, 2) := by decide +kernel
theorem dX10_bit_7 : decode cX10_bit 7 = .ok (.if_icmp .gt 9, 3) := by decide +kernel
theorem dX10_bit_10 : decode cX10_bit 10 = .ok (.iconst 1, 1) := by decide +kernel
theorem dX10_bit_11 : decode cX10_bit 11 = .ok (.iload_n 0, 1) := by decide +kernel
theorem dX10_bit_12 : decode cX10_bit 12 = .ok (.ishl, 1) := by decide +kernel
theorem dX10_bit_13 : decode cX10_bit 13 = .ok (.goto 4, 3) := by decide +kernel
theorem dX10_bit_16 : decode cX10_bit 16 = .ok (.iconst 0, 1) := by decide +kernel
theorem dX10_bit_17 : decode cX10_bit 17 = .ok (.ireturn, 1) := by decide +kernel
theorem dX10_has_0 : decode cX10_has 0 = .ok (.iload_n 1, 1) := by decide +kernel
theorem dX10_has_1 : decode cX10_has 1 = .ok (.ifCond .lt 22, 3) := by decide +kernel
theorem dX10_has_4 : decode cX10_has 4 = .ok (.iload_n 1, 1) := by decide +kernel
theorem dX10_has_5 : decode cX10_has 5 = .ok (.bipush 30, 2) := by decide +kernel
theorem dX10_has_7 : decode cX10_has 7 = .ok (.if_icmp .gt 16, 3) := by decide +kernel
theorem dX10_has_10 : decode cX10_has 10 = .ok (.iload_n 0, 1) := by decide +kernel
theorem dX10_has_11 : decode cX10_has 11 = .ok (.iload_n 1, 1) := by decide +kernel
theorem dX10_has_12 : decode cX10_has 12 = .ok (.ishr, 1) := by decide +kernel
theorem dX10_has_13 : decode cX10_has 13 = .ok (.iconst 1, 1) := by decide +kernel
theorem dX10_has_14 : decode cX10_has 14 = .ok (.iand, 1) := by decide +kernel
theorem dX10_has_15 : decode cX10_has 15 = .ok (.iconst 1, 1) := by decide +kernel
theorem dX10_has_16 : decode cX10_has 16 = .ok (.if_icmp .ne 7, 3) := by decide +kernel
theorem dX10_has_19 : decode cX10_has 19 = .ok (.iconst 1, 1) := by decide +kernel
theorem dX10_has_20 : decode cX10_has 20 = .ok (.goto 4, 3) := by decide +kernel
theorem dX10_has_23 : decode cX10_has 23 = .ok (.iconst 0, 1) := by decide +kernel
theorem dX10_has_24 : decode cX10_has 24 = .ok (.ireturn, 1) := by decide +kernel
theorem dX10_within_0 : decode cX10_within 0 = .ok (.iload_n 0, 1) := by decide +kernel
theorem dX10_within_1 : decode cX10_within 1 = .ok (.iload_n 1, 1) := by decide +kernel
theorem dX10_within_2 : decode cX10_within 2 = .ok (.if_icmp .lt 12, 3) := by decide +kernel
theorem dX10_within_5 : decode cX10_within 5 = .ok (.iload_n 0, 1) := by decide +kernel
theorem dX10_within_6 : decode cX10_within 6 = .ok (.iload_n 2, 1) := by decide +kernel
theorem dX10_within_7 : decode cX10_within 7 = .ok (.if_icmp .gt 7, 3) := by decide +kernel
theorem dX10_within_10 : decode cX10_within 10 = .ok (.iconst 1, 1) := by decide +kernel
theorem dX10_within_11 : decode cX10_within 11 = .ok (.goto 4, 3) := by decide +kernel
theorem dX10_within_14 : decode cX10_within 14 = .ok (.iconst 0, 1) := by decide +kernel
theorem dX10_within_15 : decode cX10_within 15 = .ok (.ireturn, 1) := by decide +kernel
theorem dX10_bounded_0 : decode cX10_bounded 0 = .ok (.iload_n 1, 1) := by decide +kernel
theorem dX10_bounded_1 : decode cX10_bounded 1 = .ok (.iload_n 2, 1) := by decide +kernel
theorem dX10_bounded_2 : decode cX10_bounded 2 = .ok (.iload_n 0, 1) := by decide +kernel
theorem dX10_bounded_3 : decode cX10_bounded 3 = .ok (.invokestatic 319, 3) := by decide +kernel
theorem dX10_bounded_6 : decode cX10_bounded 6 = .ok (.invokestatic 330, 3) := by decide +kernel
theorem dX10_bounded_9 : decode cX10_bounded 9 = .ok (.ireturn, 1) := by decide +kernel
set_option maxRecDepth 20000 in
theorem ggX10_isSmaller_J6_bitCount_0f7a4 : GoodIn wsX10_isSmaller wsJ6_bitCount_0f7a4 := goodIn_r _ [4, 5, 6, 7] (by decide +kernel) (by decide +kernel)
set_option maxRecDepth 20000 in
theorem gX10_isSmaller_J6_bitCount_0f7a4 : GoodIn wsX10_isSmaller (va_wsS RX10 277 yJ6_bitCount_0f7a4 wsJ6_bitCount_0f7a4) := goodIn_app (goodIn_of _ (by decide +kernel)) ggX10_isSmaller_J6_bitCount_0f7a4
theorem dX10_isSmaller_0 : decode cX10_isSmaller 0 = .ok (.iload_n 0, 1) := by decide +kernel
theorem dX10_isSmaller_1 : decode cX10_isSmaller 1 = .ok (.invokestatic 277, 3) := by decide +kernel
theorem dX10_isSmaller_4 : decode cX10_isSmaller 4 = .ok (.iload_n 1, 1) := by decide +kernel
theorem dX10_isSmaller_5 : decode cX10_isSmaller 5 = .ok (.invokestatic 277, 3) := by decide +kernel
theorem dX10_isSmaller_8 : decode cX10_isSmaller 8 = .ok (.isub, 1) := by decide +kernel
theorem dX10_isSmaller_9 : decode cX10_isSmaller 9 = .ok (.istore_n 2, 1) := by decide +kernel
theorem dX10_isSmaller_10 : decode cX10_isSmaller 10 = .ok (.iload_n 2, 1) := by decide +kernel
theorem dX10_isSmaller_11 : decode cX10_isSmaller 11 = .ok (.ifCond .lt 12, 3) := by decide +kernel
theorem dX10_isSmaller_14 : decode cX10_isSmaller 14 = .ok (.iload_n 2, 1) := by decide +kernel
theorem dX10_isSmaller_15 : decode cX10_isSmaller 15 = .ok (.ifCond .ne 12, 3) := by decide +kernel
theorem dX10_isSmaller_18 : decode cX10_isSmaller 18 = .ok (.iload_n 0, 1) := by decide +kernel
theorem dX10_isSmaller_19 : decode cX10_isSmaller 19 = .ok (.iload_n 1, 1) := by decide +kernel
theorem dX10_isSmaller_20 : decode cX10_isSmaller 20 = .ok (.if_icmp .ge 7, 3) := by decide +kernel
theorem dX10_isSmaller_23 : decode cX10_isSmaller 23 = .ok (.iconst 1, 1) := by decide +kernel
theorem dX10_isSmaller_24 : decode cX10_isSmaller 24 = .ok (.goto 4, 3) := by decide +kernel
theorem dX10_isSmaller_27 : decode cX10_isSmaller 27 = .ok (.iconst 0, 1) := by decide +kernel
theorem dX10_isSmaller_28 : decode cX10_isSmaller 28 = .ok (.ireturn, 1) := by decide +kernel
theorem dX10_pairIndex_0 : decode cX10_pairIndex 0 = .ok (.iload_n 0, 1) := by decide +kernel
theorem dX10_pairIndex_1 : decode cX10_pairIndex 1 = .ok (.bipush 7, 2) := by decide +kernel
theorem dX10_pairIndex_3 : decode cX10_pairIndex 3 = .ok (.imul, 1) := by decide +kernel
theorem dX10_pairIndex_4 : decode cX10_pairIndex 4 = .ok (.iload_n 1, 1) := by decide +kernel
theorem dX10_pairIndex_5 : decode cX10_pairIndex 5 = .ok (.iadd, 1) := by decide +kernel
theorem dX10_pairIndex_6 : decode cX10_pairIndex 6 = .ok (.ireturn, 1) := by decide +kernel
theorem dX10_words_0 : decode cX10_words 0 = .ok (.iload_n 2, 1) := by decide +kernel
theorem dX10_words_1 : decode cX10_words 1 = .ok (.ifCond .eq 10, 3) := by decide +kernel
theorem dX10_words_4 : decode cX10_words 4 = .ok (.iload_n 1, 1) := by decide +kernel
theorem dX10_words_5 : decode cX10_words 5 = .ok (.bipush 9, 2) := by decide +kernel
theorem dX10_words_7 : decode cX10_words 7 = .ok (.isub, 1) := by decide +kernel
theorem dX10_words_8 : decode cX10_words 8 = .ok (.goto 13, 3) := by decide +kernel
theorem dX10_words_11 : decode cX10_words 11 = .ok (.iload_n 1, 1) := by decide +kernel
theorem dX10_words_12 : decode cX10_words 12 = .ok (.iconst 5, 1) := by decide +kernel
theorem dX10_words_13 : decode cX10_words 13 = .ok (.if_icmp .lt 7, 3) := by decide +kernel
theorem dX10_words_16 : decode cX10_words 16 = .ok (.iload_n 1, 1) := by decide +kernel
theorem dX10_words_17 : decode cX10_words 17 = .ok (.goto 4, 3) := by decide +kernel
theorem dX10_words_20 : decode cX10_words 20 = .ok (.iconst 0, 1) := by decide +kernel
theorem dX10_words_21 : decode cX10_words 21 = .ok (.istore_n 3, 1) := by decide +kernel
theorem dX10_words_22 : decode cX10_words 22 = .ok (.iload_n 0, 1) := by decide +kernel
theorem dX10_words_23 : decode cX10_words 23 = .ok (.iconst 1, 1) := by decide +kernel
theorem dX10_words_24 : decode cX10_words 24 = .ok (.if_icmp .ne 9, 3) := by decide +kernel
theorem dX10_words_27 : decode cX10_words 27 = .ok (.iload_n 3, 1) := by decide +kernel
theorem dX10_words_28 : decode cX10_words 28 = .ok (.ifCond .ge 5, 3) := by decide +kernel
theorem dX10_words_31 : decode cX10_words 31 = .ok (.iconst 0, 1) := by decide +kernel
theorem dX10_words_32 : decode cX10_words 32 = .ok (.ireturn, 1) := by decide +kernel
theorem dX10_words_33 : decode cX10_words 33 = .ok (.iload_n 0, 1) := by decide +kernel
theorem dX10_words_34 : decode cX10_words 34 = .ok (.iconst 2, 1) := by decide +kernel
theorem dX10_words_35 : decode cX10_words 35 = .ok (.if_icmp .ne 13, 3) := by decide +kernel
theorem dX10_words_38 : decode cX10_words 38 = .ok (.iload_n 3, 1) := by decide +kernel
theorem dX10_words_39 : decode cX10_words 39 = .ok (.ifCond .le 9, 3) := by decide +kernel
theorem dX10_words_42 : decode cX10_words 42 = .ok (.iload_n 3, 1) := by decide +kernel
theorem dX10_words_43 : decode cX10_words 43 = .ok (.iconst 2, 1) := by decide +kernel
theorem dX10_words_44 : decode cX10_words 44 = .ok (.idiv, 1) := by decide +kernel
theorem dX10_words_45 : decode cX10_words 45 = .ok (.goto 4, 3) := by decide +kernel
theorem dX10_words_48 : decode cX10_words 48 = .ok (.iload_n 3, 1) := by decide +kernel
theorem dX10_words_49 : decode cX10_words 49 = .ok (.ireturn, 1) := by decide +kernel
theorem dX11_init_0 : decode cX11_init 0 = .ok (.aload_n 0, 1) := by decide +kernel
theorem dX11_init_1 : decode cX11_init 1 = .ok (.invokespecial 1, 3) := by decide +kernel
theorem dX11_init_4 : decode cX11_init 4 = .ok (.aload_n 0, 1) := by decide +kernel
theorem dX11_init_5 : decode cX11_init 5 = .ok (.bipush 6, 2) := by decide +kernel
theorem dX11_init_7 : decode cX11_init 7 = .ok (.newarray .int, 2) := by decide +kernel
theorem dX11_init_9 : decode cX11_init 9 = .ok (.putfield 7, 3) := by decide +kernel
theorem dX11_init_12 : decode cX11_init 12 = .ok (.aload_n 0, 1) := by decide +kernel
theorem dX11_init_13 : decode cX11_init 13 = .ok (.bipush 6, 2) := by decide +kernel
theorem dX11_init_15 : decode cX11_init 15 = .ok (.newarray .int, 2) := by decide +kernel
theorem dX11_init_17 : decode cX11_init 17 = .ok (.putfield 13, 3) := by decide +kernel
theorem dX11_init_20 : decode cX11_init 20 = .ok (.aload_n 0, 1) := by decide +kernel
theorem dX11_init_21 : decode cX11_init 21 = .ok (.bipush 7, 2) := by decide +kernel
theorem dX11_init_23 : decode cX11_init 23 = .ok (.newarray .int, 2) := by decide +kernel
theorem dX11_init_25 : decode cX11_init 25 = .ok (.putfield 16, 3) := by decide +kernel
theorem dX11_init_28 : decode cX11_init 28 = .ok (.aload_n 0, 1) := by decide +kernel
theorem dX11_init_29 : decode cX11_init 29 = .ok (.bipush 72, 2) := by decide +kernel
theorem dX11_init_31 : decode cX11_init 31 = .ok (.newarray .int, 2) := by decide +kernel
theorem dX11_init_33 : decode cX11_init 33 = .ok (.putfield 19, 3) := by decide +kernel
theorem dX11_init_36 : decode cX11_init 36 = .ok (.aload_n 0, 1) := by decide +kernel
theorem dX11_init_37 : decode cX11_init 37 = .ok (.bipush 72, 2) := by decide +kernel
theorem dX11_init_39 : decode cX11_init 39 = .ok (.newarray .int, 2) := by decide +kernel
theorem dX11_init_41 : decode cX11_init 41 = .ok (.putfield 22, 3) := by decide +kernel
theorem dX11_init_44 : decode cX11_init 44 = .ok (.aload_n 0, 1) := by decide +kernel
theorem dX11_init_45 : decode cX11_init 45 = .ok (.bipush 6, 2) := by decide +kernel
theorem dX11_init_47 : decode cX11_init 47 = .ok (.newarray .int, 2) := by decide +kernel
theorem dX11_init_49 : decode cX11_init 49 = .ok (.putfield 25, 3) := by decide +kernel
theorem dX11_init_52 : decode cX11_init 52 = .ok (.aload_n 0, 1) := by decide +kernel
theorem dX11_init_53 : decode cX11_init 53 = .ok (.bipush 6, 2) := by decide +kernel
theorem dX11_init_55 : decode cX11_init 55 = .ok (.newarray .int, 2) := by decide +kernel
theorem dX11_init_57 : decode cX11_init 57 = .ok (.putfield 28, 3) := by decide +kernel
theorem dX11_init_60 : decode cX11_init 60 = .ok (.aload_n 0, 1) := by decide +kernel
theorem dX11_init_61 : decode cX11_init 61 = .ok (.bipush 6, 2) := by decide +kernel
theorem dX11_init_63 : decode cX11_init 63 = .ok (.newarray .int, 2) := by decide +kernel
theorem dX11_init_65 : decode cX11_init 65 = .ok (.putfield 31, 3) := by decide +kernel
theorem dX11_init_68 : decode cX11_init 68 = .ok (.aload_n 0, 1) := by decide +kernel
theorem dX11_init_69 : decode cX11_init 69 = .ok (.bipush 15, 2) := by decide +kernel
theorem dX11_init_71 : decode cX11_init 71 = .ok (.newarray .int, 2) := by decide +kernel
theorem dX11_init_73 : decode cX11_init 73 = .ok (.putfield 34, 3) := by decide +kernel
theorem dX11_init_76 : decode cX11_init 76 = .ok (.aload_n 0, 1) := by decide +kernel
theorem dX11_init_77 : decode cX11_init 77 = .ok (.bipush 15, 2) := by decide +kernel
theorem dX11_init_79 : decode cX11_init 79 = .ok (.newarray .int, 2) := by decide +kernel
theorem dX11_init_81 : decode cX11_init 81 = .ok (.putfield 37, 3) := by decide +kernel
theorem dX11_init_84 : decode cX11_init 84 = .ok (.aload_n 0, 1) := by decide +kernel
theorem dX11_init_85 : decode cX11_init 85 = .ok (.sipush 240, 3) := by decide +kernel
theorem dX11_init_88 : decode cX11_init 88 = .ok (.newarray .int, 2) := by decide +kernel
theorem dX11_init_90 : decode cX11_init 90 = .ok (.putfield 40, 3) := by decide +kernel
theorem dX11_init_93 : decode cX11_init 93 = .ok (.aload_n 0, 1) := by decide +kernel
theorem dX11_init_94 : decode cX11_init 94 = .ok (.iconst (-1), 1) := by decide +kernel
theorem dX11_init_95 : decode cX11_init 95 = .ok (.putfield 43, 3) := by decide +kernel
theorem dX11_init_98 : decode cX11_init 98 = .ok (.aload_n 0, 1) := by decide +kernel
theorem dX11_init_99 : decode cX11_init 99 = .ok (.bipush 6, 2) := by decide +kernel
theorem dX11_init_101 : decode cX11_init 101 = .ok (.newarray .int, 2) := by decide +kernel
theorem dX11_init_103 : decode cX11_init 103 = .ok (.putfield 47, 3) := by decide +kernel
theorem dX11_init_106 : decode cX11_init 106 = .ok (.aload_n 0, 1) := by decide +kernel
theorem dX11_init_107 : decode cX11_init 107 = .ok (.bipush 6, 2) := by decide +kernel
theorem dX11_init_109 : decode cX11_init 109 = .ok (.newarray .int, 2) := by decide +kernel
theorem dX11_init_111 : decode cX11_init 111 = .ok (.putfield 50, 3) := by decide +kernel
theorem dX11_init_114 : decode cX11_init 114 = .ok (.aload_n 0, 1) := by decide +kernel
theorem dX11_init_115 : decode cX11_init 115 = .ok (.bipush 7, 2) := by decide +kernel
theorem dX11_init_117 : decode cX11_init 117 = .ok (.newarray .int, 2) := by decide +kernel
theorem dX11_init_119 : decode cX11_init 119 = .ok (.putfield 53, 3) := by decide +kernel
theorem dX11_init_122 : decode cX11_init 122 = .ok (.aload_n 0, 1) := by decide +kernel
theorem dX11_init_123 : decode cX11_init 123 = .ok (.bipush 7, 2) := by decide +kernel
theorem dX11_init_125 : decode cX11_init 125 = .ok (.newarray .int, 2) := by decide +kernel
theorem dX11_init_127 : decode cX11_init 127 = .ok (.putfield 56, 3) := by decide +kernel
theorem dX11_init_130 : decode cX11_init 130 = .ok (.aload_n 0, 1) := by decide +kernel
theorem dX11_init_131 : decode cX11_init 131 = .ok (.bipush 49, 2) := by decide +kernel
theorem dX11_init_133 : decode cX11_init 133 = .ok (.newarray .int, 2) := by decide +kernel
theorem dX11_init_135 : decode cX11_init 135 = .ok (.putfield 59, 3) := by decide +kernel
theorem dX11_init_138 : decode cX11_init 138 = .ok (.aload_n 0, 1) := by decide +kernel
theorem dX11_init_139 : decode cX11_init 139 = .ok (.sipush 1152, 3) := by decide +kernel
theorem dX11_init_142 : decode cX11_init 142 = .ok (.newarray .int, 2) := by decide +kernel
theorem dX11_init_144 : decode cX11_init 144 = .ok (.putfield 62, 3) := by decide +kernel
theorem dX11_init_147 : decode cX11_init 147 = .ok (.aload_n 0, 1) := by decide +kernel
theorem dX11_init_148 : decode cX11_init 148 = .ok (.bipush 54, 2) := by decide +kernel
theorem dX11_init_150 : decode cX11_init 150 = .ok (.newarray .int, 2) := by decide +kernel
theorem dX11_init_152 : decode cX11_init 152 = .ok (.putfield 65, 3) := by decide +kernel
theorem dX11_init_155 : decode cX11_init 155 = .ok (.aload_n 0, 1) := by decide +kernel
theorem dX11_init_156 : decode cX11_init 156 = .ok (.sipush 146, 3) := by decide +kernel
theorem dX11_init_159 : decode cX11_init 159 = .ok (.newarray .int, 2) := by decide +kernel
theorem dX11_init_161 : decode cX11_init 161 = .ok (.putfield 68, 3) := by decide +kernel
theorem dX11_init_164 : decode cX11_init 164 = .ok (.aload_n 0, 1) := by decide +kernel
theorem dX11_init_165 : decode cX11_init 165 = .ok (.iconst 2, 1) := by decide +kernel
theorem dX11_init_166 : decode cX11_init 166 = .ok (.newarray .boolean, 2) := by decide +kernel
theorem dX11_init_168 : decode cX11_init 168 = .ok (.putfield 71, 3) := by decide +kernel
theorem dX11_init_171 : decode cX11_init 171 = .ok (.aload_n 0, 1) := by decide +kernel
theorem dX11_init_172 : decode cX11_init 172 = .ok (.iconst 0, 1) := by decide +kernel
theorem dX11_init_173 : decode cX11_init 173 = .ok (.putfield 75, 3) := by decide +kernel
theorem dX11_init_176 : decode cX11_init 176 = .ok (.return_, 1) := by decide +kernel
theorem dX11_in_0 : decode cX11_in 0 = .ok (.lload_n 0, 1) := by decide +kernel
theorem dX11_in_1 : decode cX11_in 1 = .ok (.lload_n 2, 1) := by decide +kernel
theorem dX11_in_2 : decode cX11_in 2 = .ok (.lcmp, 1) := by decide +kernel
theorem dX11_in_3 : decode cX11_in 3 = .ok (.ifCond .lt 14, 3) := by decide +kernel
theorem dX11_in_6 : decode cX11_in 6 = .ok (.lload_n 0, 1) := by decide +kernel
theorem dX11_in_7 : decode cX11_in 7 = .ok (.lload 4, 2) := by decide +kernel
theorem dX11_in_9 : decode cX11_in 9 = .ok (.lcmp, 1) := by decide +kernel
theorem dX11_in_10 : decode cX11_in 10 = .ok (.ifCond .gt 7, 3) := by decide +kernel
theorem dX11_in_13 : decode cX11_in 13 = .ok (.iconst 1, 1) := by decide +kernel
theorem dX11_in_14 : decode cX11_in 14 = .ok (.goto 4, 3) := by decide +kernel
theorem dX11_in_17 : decode cX11_in 17 = .ok (.iconst 0, 1) := by decide +kernel
theorem dX11_in_18 : decode cX11_in 18 = .ok (.ireturn, 1) := by decide +kernel
theorem dX11_has_0 : decode cX11_has 0 = .ok (.iload_n 0, 1) := by decide +kernel
theorem dX11_has_1 : decode cX11_has 1 = .ok (.iload_n 1, 1) := by decide +kernel
theorem dX11_has_2 : decode cX11_has 2 = .ok (.ishr, 1) := by decide +kernel
theorem dX11_has_3 : decode cX11_has 3 = .ok (.iconst 1, 1) := by decide +kernel
theorem dX11_has_4 : decode cX11_has 4 = .ok (.iand, 1) := by decide +kernel
theorem dX11_has_5 : decode cX11_has 5 = .ok (.iconst 1, 1) := by decide +kernel
theorem dX11_has_6 : decode cX11_has 6 = .ok (.if_icmp .ne 7, 3) := by decide +kernel
theorem dX11_has_9 : decode cX11_has 9 = .ok (.iconst 1, 1) := by decide +kernel
theorem dX11_has_10 : decode cX11_has 10 = .ok (.goto 4, 3) := by decide +kernel
theorem dX11_has_13 : decode cX11_has 13 = .ok (.iconst 0, 1) := by decide +kernel
theorem dX11_has_14 : decode cX11_has 14 = .ok (.ireturn, 1) := by decide +kernel
theorem dX11_ones_0 : decode cX11_ones 0 = .ok (.iconst 0, 1) := by decide +kernel
theorem dX11_ones_1 : decode cX11_ones 1 = .ok (.istore_n 1, 1) := by decide +kernel
theorem dX11_ones_2 : decode cX11_ones 2 = .ok (.iconst 0, 1) := by decide +kernel
theorem dX11_ones_3 : decode cX11_ones 3 = .ok (.istore_n 2, 1) := by decide +kernel
theorem dX11_ones_4 : decode cX11_ones 4 = .ok (.iload_n 2, 1) := by decide +kernel
theorem dX11_ones_5 : decode cX11_ones 5 = .ok (.bipush 7, 2) := by decide +kernel
theorem dX11_ones_7 : decode cX11_ones 7 = .ok (.if_icmp .ge 17, 3) := by decide +kernel
theorem dX11_ones_10 : decode cX11_ones 10 = .ok (.iload_n 1, 1) := by decide +kernel
theorem dX11_ones_11 : decode cX11_ones 11 = .ok (.iload_n 0, 1) := by decide +kernel
theorem dX11_ones_12 : decode cX11_ones 12 = .ok (.iload_n 2, 1) := by decide +kernel
theorem dX11_ones_13 : decode cX11_ones 13 = .ok (.ishr, 1) := by decide +kernel
theorem dX11_ones_14 : decode cX11_ones 14 = .ok (.iconst 1, 1) := by decide +kernel
theorem dX11_ones_15 : decode cX11_ones 15 = .ok (.iand, 1) := by decide +kernel
theorem dX11_ones_16 : decode cX11_ones 16 = .ok (.iadd, 1) := by decide +kernel
theorem dX11_ones_17 : decode cX11_ones 17 = .ok (.istore_n 1, 1) := by decide +kernel
theorem dX11_ones_18 : decode cX11_ones 18 = .ok (.iinc 2 1, 3) := by decide +kernel
theorem dX11_ones_21 : decode cX11_ones 21 = .ok (.goto (-17), 3) := by decide +kernel
theorem dX11_ones_24 : decode cX11_ones 24 = .ok (.iload_n 1, 1) := by decide +kernel
theorem dX11_ones_25 : decode cX11_ones 25 = .ok (.ireturn, 1) := by decide +kernel
set_option maxRecDepth 20000 in
theorem ggX11_isRoom_X11_in : GoodIn wsX11_isRoom wsX11_in := goodIn_r _ [5] (by decide +kernel) (by decide +kernel)
set_option maxRecDepth 20000 in
theorem gX11_isRoom_X11_in : GoodIn wsX11_isRoom (va_wsS RX11 78 yX11_in wsX11_in) := goodIn_app (goodIn_of _ (by decide +kernel)) ggX11_isRoom_X11_in
theorem dX11_isRoom_0 : decode cX11_isRoom 0 = .ok (.iload_n 1, 1) := by decide +kernel
theorem dX11_isRoom_1 : decode cX11_isRoom 1 = .ok (.i2l, 1) := by decide +kernel
theorem dX11_isRoom_2 : decode cX11_isRoom 2 = .ok (.lconst 0, 1) := by decide +kernel
theorem dX11_isRoom_3 : decode cX11_isRoom 3 = .ok (.aload_n 0, 1) := by decide +kernel
theorem dX11_isRoom_4 : decode cX11_isRoom 4 = .ok (.getfield 75, 3) := by decide +kernel
theorem dX11_isRoom_7 : decode cX11_isRoom 7 = .ok (.iconst 1, 1) := by decide +kernel
theorem dX11_isRoom_8 : decode cX11_isRoom 8 = .ok (.isub, 1) := by decide +kernel
theorem dX11_isRoom_9 : decode cX11_isRoom 9 = .ok (.i2l, 1) := by decide +kernel
theorem dX11_isRoom_10 : decode cX11_isRoom 10 = .ok (.invokestatic 78, 3) := by decide +kernel
theorem dX11_isRoom_13 : decode cX11_isRoom 13 = .ok (.ireturn, 1) := by decide +kernel
set_option maxRecDepth 20000 in
theorem ggX11_isPerson_X11_in : GoodIn wsX11_isPerson wsX11_in := goodIn_r _ [5] (by decide +kernel) (by decide +kernel)
set_option maxRecDepth 20000 in
theorem gX11_isPerson_X11_in : GoodIn wsX11_isPerson (va_wsS RX11 78 yX11_in wsX11_in) := goodIn_app (goodIn_of _ (by decide +kernel)) ggX11_isPerson_X11_in
theorem dX11_isPerson_0 : decode cX11_isPerson 0 = .ok (.iload_n 1, 1) := by decide +kernel
theorem dX11_isPerson_1 : decode cX11_isPerson 1 = .ok (.i2l, 1) := by decide +kernel
theorem dX11_isPerson_2 : decode cX11_isPerson 2 = .ok (.lconst 0, 1) := by decide +kernel
theorem dX11_isPerson_3 : decode cX11_isPerson 3 = .ok (.aload_n 0, 1) := by decide +kernel
theorem dX11_isPerson_4 : decode cX11_isPerson 4 = .ok (.getfield 82, 3) := by decide +kernel
theorem dX11_isPerson_7 : decode cX11_isPerson 7 = .ok (.iconst 1, 1) := by decide +kernel
theorem dX11_isPerson_8 : decode cX11_isPerson 8 = .ok (.isub, 1) := by decide +kernel
theorem dX11_isPerson_9 : decode cX11_isPerson 9 = .ok (.i2l, 1) := by decide +kernel
theorem dX11_isPerson_10 : decode cX11_isPerson 10 = .ok (.invokestatic 78, 3) := by decide +kernel
theorem dX11_isPerson_13 : decode cX11_isPerson 13 = .ok (.ireturn, 1) := by decide +kernel
set_option maxRecDepth 20000 in
theorem ggX11_areTwo_X11_isPerson : GoodIn wsX11_areTwo wsX11_isPerson := goodIn_r _ [5, 6, 7, 8, 4, 9, 10, 11, 12, 13, 14, 15, 16, 17, 18, 19, 20, 21, 22, 23, 24, 25, 26, 27, 28, 29, 30, 31, 32, 33, 34, 35, 36, 37, 38, 39, 40, 41, 42, 43, 44, 45, 46, 47, 48, 49, 50] (by decide +kernel) (by decide +kernel)
set_option maxRecDepth 20000 in
theorem gX11_areTwo_X11_isPerson : GoodIn wsX11_areTwo (wsV RX11 85 RX11 yX11_isPerson wsX11_isPerson) := goodIn_app (goodIn_of _ (by decide +kernel)) ggX11_areTwo_X11_isPerson
theorem dX11_areTwo_0 : decode cX11_areTwo 0 = .ok (.aload_n 0, 1) := by decide +kernel
theorem dX11_areTwo_1 : decode cX11_areTwo 1 = .ok (.iload_n 1, 1) := by decide +kernel
theorem dX11_areTwo_2 : decode cX11_areTwo 2 = .ok (.invokevirtual 85, 3) := by decide +kernel
theorem dX11_areTwo_5 : decode cX11_areTwo 5 = .ok (.ifCond .eq 20, 3) := by decide +kernel
theorem dX11_areTwo_8 : decode cX11_areTwo 8 = .ok (.aload_n 0, 1) := by decide +kernel
theorem dX11_areTwo_9 : decode cX11_areTwo 9 = .ok (.iload_n 2, 1) := by decide +kernel
theorem dX11_areTwo_10 : decode cX11_areTwo 10 = .ok (.invokevirtual 85, 3) := by decide +kernel
theorem dX11_areTwo_13 : decode cX11_areTwo 13 = .ok (.ifCond .eq 12, 3) := by decide +kernel
theorem dX11_areTwo_16 : decode cX11_areTwo 16 = .ok (.iload_n 1, 1) := by decide +kernel
theorem dX11_areTwo_17 : decode cX11_areTwo 17 = .ok (.iload_n 2, 1) := by decide +kernel
theorem dX11_areTwo_18 : decode cX11_areTwo 18 = .ok (.if_icmp .eq 7, 3) := by decide +kernel
theorem dX11_areTwo_21 : decode cX11_areTwo 21 = .ok (.iconst 1, 1) := by decide +kernel
theorem dX11_areTwo_22 : decode cX11_areTwo 22 = .ok (.goto 4, 3) := by decide +kernel
theorem dX11_areTwo_25 : decode cX11_areTwo 25 = .ok (.iconst 0, 1) := by decide +kernel
theorem dX11_areTwo_26 : decode cX11_areTwo 26 = .ok (.ireturn, 1) := by decide +kernel
set_option maxRecDepth 20000 in
theorem ggX11_feed_X11_in : GoodIn wsX11_feed wsX11_in := goodIn_r _ [9] (by decide +kernel) (by decide +kernel)
set_option maxRecDepth 20000 in
theorem gX11_feed_X11_in : GoodIn wsX11_feed (va_wsS RX11 78 yX11_in wsX11_in) := goodIn_app (goodIn_of _ (by decide +kernel)) ggX11_feed_X11_in
theorem dX11_feed_0 : decode cX11_feed 0 = .ok (.iload_n 1, 1) := by decide +kernel
theorem dX11_feed_1 : decode cX11_feed 1 = .ok (.i2l, 1) := by decide +kernel
theorem dX11_feed_2 : decode cX11_feed 2 = .ok (.lconst 0, 1) := by decide +kernel
theorem dX11_feed_3 : decode cX11_feed 3 = .ok (.ldc2_w 89, 3) := by decide +kernel
theorem dX11_feed_6 : decode cX11_feed 6 = .ok (.invokestatic 78, 3) := by decide +kernel
theorem dX11_feed_9 : decode cX11_feed 9 = .ok (.ifCond .ne 6, 3) := by decide +kernel
theorem dX11_feed_12 : decode cX11_feed 12 = .ok (.ldc 91, 2) := by decide +kernel
theorem dX11_feed_14 : decode cX11_feed 14 = .ok (.ireturn, 1) := by decide +kernel
theorem dX11_feed_15 : decode cX11_feed 15 = .ok (.aload_n 0, 1) := by decide +kernel
theorem dX11_feed_16 : decode cX11_feed 16 = .ok (.getfield 92, 3) := by decide +kernel
theorem dX11_feed_19 : decode cX11_feed 19 = .ok (.sipush 240, 3) := by decide +kernel
theorem dX11_feed_22 : decode cX11_feed 22 = .ok (.if_icmp .ne 6, 3) := by decide +kernel
theorem dX11_feed_25 : decode cX11_feed 25 = .ok (.ldc 95, 2) := by decide +kernel
theorem dX11_feed_27 : decode cX11_feed 27 = .ok (.ireturn, 1) := by decide +kernel
theorem dX11_feed_28 : decode cX11_feed 28 = .ok (.aload_n 0, 1) := by decide +kernel
theorem dX11_feed_29 : decode cX11_feed 29 = .ok (.getfield 40, 3) := by decide +kernel
theorem dX11_feed_32 : decode cX11_feed 32 = .ok (.aload_n 0, 1) := by decide +kernel
theorem dX11_feed_33 : decode cX11_feed 33 = .ok (.getfield 92, 3) := by decide +kernel
theorem dX11_feed_36 : decode cX11_feed 36 = .ok (.iload_n 1, 1) := by decide +kernel
theorem dX11_feed_37 : decode cX11_feed 37 = .ok (.iastore, 1) := by decide +kernel
theorem dX11_feed_38 : decode cX11_feed 38 = .ok (.aload_n 0, 1) := by decide +kernel
theorem dX11_feed_39 : decode cX11_feed 39 = .ok (.dup, 1) := by decide +kernel
theorem dX11_feed_40 : decode cX11_feed 40 = .ok (.getfield 92, 3) := by decide +kernel
theorem dX11_feed_43 : decode cX11_feed 43 = .ok (.iconst 1, 1) := by decide +kernel
theorem dX11_feed_44 : decode cX11_feed 44 = .ok (.iadd, 1) := by decide +kernel
theorem dX11_feed_45 : decode cX11_feed 45 = .ok (.putfield 92, 3) := by decide +kernel
theorem dX11_feed_48 : decode cX11_feed 48 = .ok (.aload_n 0, 1) := by decide +kernel
theorem dX11_feed_49 : decode cX11_feed 49 = .ok (.getfield 92, 3) := by decide +kernel
theorem dX11_feed_52 : decode cX11_feed 52 = .ok (.ireturn, 1) := by decide +kernel
theorem dX11_here_0 : decode cX11_here 0 = .ok (.aload_n 0, 1) := by decide +kernel
theorem dX11_here_1 : decode cX11_here 1 = .ok (.getfield 96, 3) := by decide +kernel
theorem dX11_here_4 : decode cX11_here 4 = .ok (.aload_n 0, 1) := by decide +kernel
theorem dX11_here_5 : decode cX11_here 5 = .ok (.getfield 92, 3) := by decide +kernel
theorem dX11_here_8 : decode cX11_here 8 = .ok (.if_icmp .ge 30, 3) := by decide +kernel
theorem dX11_here_11 : decode cX11_here 11 = .ok (.aload_n 0, 1) := by decide +kernel
theorem dX11_here_12 : decode cX11_here 12 = .ok (.getfield 40, 3) := by decide +kernel
theorem dX11_here_15 : decode cX11_here 15 = .ok (.aload_n 0, 1) := by decide +kernel
theorem dX11_here_16 : decode cX11_here 16 = .ok (.getfield 96, 3) := by decide +kernel
theorem dX11_here_19 : decode cX11_here 19 = .ok (.iaload, 1) := by decide +kernel
theorem dX11_here_20 : decode cX11_here 20 = .ok (.bipush 32, 2) := by decide +kernel
theorem dX11_here_22 : decode cX11_here 22 = .ok (.if_icmp .ne 16, 3) := by decide +kernel
theorem dX11_here_25 : decode cX11_here 25 = .ok (.aload_n 0, 1) := by decide +kernel
theorem dX11_here_26 : decode cX11_here 26 = .ok (.dup, 1) := by decide +kernel
theorem dX11_here_27 : decode cX11_here 27 = .ok (.getfield 96, 3) := by decide +kernel
theorem dX11_here_30 : decode cX11_here 30 = .ok (.iconst 1, 1) := by decide +kernel
theorem dX11_here_31 : decode cX11_here 31 = .ok (.iadd, 1) := by decide +kernel
theorem dX11_here_32 : decode cX11_here 32 = .ok (.putfield 96, 3) := by decide +kernel
theorem dX11_here_35 : decode cX11_here 35 = .ok (.goto (-35), 3) := by decide +kernel
theorem dX11_here_38 : decode cX11_here 38 = .ok (.aload_n 0, 1) := by decide +kernel
theorem dX11_here_39 : decode cX11_here 39 = .ok (.getfield 96, 3) := by decide +kernel
theorem dX11_here_42 : decode cX11_here 42 = .ok (.aload_n 0, 1) := by decide +kernel
theorem dX11_here_43 : decode cX11_here 43 = .ok (.getfield 92, 3) := by decide +kernel
theorem dX11_here_46 : decode cX11_here 46 = .ok (.if_icmp .ge 15, 3) := by decide +kernel
theorem dX11_here_49 : decode cX11_here 49 = .ok (.aload_n 0, 1) := by decide +kernel
theorem dX11_here_50 : decode cX11_here 50 = .ok (.getfield 40, 3) := by decide +kernel
theorem dX11_here_53 : decode cX11_here 53 = .ok (.aload_n 0, 1) := by decide +kernel
theorem dX11_here_54 : decode cX11_here 54 = .ok (.getfield 96, 3) := by decide +kernel
theorem dX11_here_57 : decode cX11_here 57 = .ok (.iaload, 1) := by decide +kernel
theorem dX11_here_58 : decode cX11_here 58 = .ok (.goto 4, 3) := by decide +kernel
theorem dX11_here_61 : decode cX11_here 61 = .ok (.iconst (-1), 1) := by decide +kernel
theorem dX11_here_62 : decode cX11_here 62 = .ok (.ireturn, 1) := by decide +kernel
theorem dX11_fails_0 : decode cX11_fails 0 = .ok (.aload_n 0, 1) := by decide +kernel
theorem dX11_fails_1 : decode cX11_fails 1 = .ok (.iload_n 2, 1) := by decide +kernel
theorem dX11_fails_2 : decode cX11_fails 2 = .ok (.putfield 43, 3) := by decide +kernel
theorem dX11_fails_5 : decode cX11_fails 5 = .ok (.iload_n 1, 1) := by decide +kernel
theorem dX11_fails_6 : decode cX11_fails 6 = .ok (.ireturn, 1) := by decide +kernel
set_option maxRecDepth 20000 in
theorem ggX11_takeNumber_X11_here : GoodIn wsX11_takeNumber wsX11_here := goodIn_r _ [12, 3, 6, 7, 21, 22, 23, 24, 25, 26, 27, 28, 29, 30, 31, 32, 33, 34, 35, 36, 37, 38, 39, 40, 41, 42, 43, 44, 45, 46, 47, 48, 49, 50, 51, 52, 53, 54, 55, 56, 57, 58, 59, 60, 61] (by decide +kernel) (by decide +kernel)
set_option maxRecDepth 20000 in
theorem gX11_takeNumber_X11_here : GoodIn wsX11_takeNumber (wsV RX11 99 RX11 yX11_here wsX11_here) := goodIn_app (goodIn_of _ (by decide +kernel)) ggX11_takeNumber_X11_here
set_option maxRecDepth 20000 in
theorem ggX11_takeNumber_X11_in : GoodIn wsX11_takeNumber wsX11_in := goodIn_r _ [15] (by decide +kernel) (by decide +kernel)
set_option maxRecDepth 20000 in
theorem gX11_takeNumber_X11_in : GoodIn wsX11_takeNumber (va_wsS RX11 78 yX11_in wsX11_in) := goodIn_app (goodIn_of _ (by decide +kernel)) ggX11_takeNumber_X11_in
set_option maxRecDepth 20000 in
theorem ggX11_takeNumber_X11_fails : GoodIn wsX11_takeNumber wsX11_fails := goodIn_r _ [19, 20, 21, 22, 23, 24, 25, 26, 27, 28, 29, 30, 31, 32, 33, 34, 35, 36, 37, 38, 39, 40, 41, 42, 43, 44, 45, 46, 47, 48, 49, 50, 51, 52, 53, 54, 55, 56, 57, 58, 59, 60, 61] (by decide +kernel) (by decide +kernel)
set_option maxRecDepth 20000 in
theorem gX11_takeNumber_X11_fails : GoodIn wsX11_takeNumber (wsV RX11 107 RX11 yX11_fails wsX11_fails) := goodIn_app (goodIn_of _ (by decide +kernel)) ggX11_takeNumber_X11_fails
theorem dX11_takeNumber_0 : decode cX11_takeNumber 0 = .ok (.aload_n 0, 1) := by decide +kernel
theorem dX11_takeNumber_1 : decode cX11_takeNumber 1 = .ok (.invokevirtual 99, 3) := by decide +kernel
theorem dX11_takeNumber_4 : decode cX11_takeNumber 4 = .ok (.istore_n 3, 1) := by decide +kernel
theorem dX11_takeNumber_5 : decode cX11_takeNumber 5 = .ok (.iload_n 3, 1) := by decide +kernel
theorem dX11_takeNumber_6 : decode cX11_takeNumber 6 = .ok (.i2l, 1) := by decide +kernel
theorem dX11_takeNumber_7 : decode cX11_takeNumber 7 = .ok (.ldc2_w 103, 3) := by decide +kernel
theorem dX11_takeNumber_10 : decode cX11_takeNumber 10 = .ok (.ldc2_w 105, 3) := by decide +kernel
theorem dX11_takeNumber_13 : decode cX11_takeNumber 13 = .ok (.invokestatic 78, 3) := by decide +kernel
theorem dX11_takeNumber_16 : decode cX11_takeNumber 16 = .ok (.ifCond .ne 13, 3) := by decide +kernel
theorem dX11_takeNumber_19 : decode cX11_takeNumber 19 = .ok (.aload_n 0, 1) := by decide +kernel
theorem dX11_takeNumber_20 : decode cX11_takeNumber 20 = .ok (.iconst 1, 1) := by decide +kernel
theorem dX11_takeNumber_21 : decode cX11_takeNumber 21 = .ok (.aload_n 0, 1) := by decide +kernel
theorem dX11_takeNumber_22 : decode cX11_takeNumber 22 = .ok (.getfield 96, 3) := by decide +kernel
theorem dX11_takeNumber_25 : decode cX11_takeNumber 25 = .ok (.invokevirtual 107, 3) := by decide +kernel
theorem dX11_takeNumber_28 : decode cX11_takeNumber 28 = .ok (.ireturn, 1) := by decide +kernel
theorem dX11_takeNumber_29 : decode cX11_takeNumber 29 = .ok (.aload_n 0, 1) := by decide +kernel
theorem dX11_takeNumber_30 : decode cX11_takeNumber 30 = .ok (.aload_n 0, 1) := by decide +kernel
theorem dX11_takeNumber_31 : decode cX11_takeNumber 31 = .ok (.getfield 96, 3) := by decide +kernel
theorem dX11_takeNumber_34 : decode cX11_takeNumber 34 = .ok (.putfield 111, 3) := by decide +kernel
theorem dX11_takeNumber_37 : decode cX11_takeNumber 37 = .ok (.aload_n 0, 1) := by decide +kernel
theorem dX11_takeNumber_38 : decode cX11_takeNumber 38 = .ok (.iconst 0, 1) := by decide +kernel
theorem dX11_takeNumber_39 : decode cX11_takeNumber 39 = .ok (.putfield 114, 3) := by decide +kernel
theorem dX11_takeNumber_42 : decode cX11_takeNumber 42 = .ok (.aload_n 0, 1) := by decide +kernel
theorem dX11_takeNumber_43 : decode cX11_takeNumber 43 = .ok (.getfield 96, 3) := by decide +kernel
theorem dX11_takeNumber_46 : decode cX11_takeNumber 46 = .ok (.aload_n 0, 1) := by decide +kernel
theorem dX11_takeNumber_47 : decode cX11_takeNumber 47 = .ok (.getfield 92, 3) := by decide +kernel
theorem dX11_takeNumber_50 : decode cX11_takeNumber 50 = .ok (.if_icmp .ge 79, 3) := by decide +kernel
theorem dX11_takeNumber_53 : decode cX11_takeNumber 53 = .ok (.aload_n 0, 1) := by decide +kernel
theorem dX11_takeNumber_54 : decode cX11_takeNumber 54 = .ok (.getfield 40, 3) := by decide +kernel
theorem dX11_takeNumber_57 : decode cX11_takeNumber 57 = .ok (.aload_n 0, 1) := by decide +kernel
theorem dX11_takeNumber_58 : decode cX11_takeNumber 58 = .ok (.getfield 96, 3) := by decide +kernel
theorem dX11_takeNumber_61 : decode cX11_takeNumber 61 = .ok (.iaload, 1) := by decide +kernel
theorem dX11_takeNumber_62 : decode cX11_takeNumber 62 = .ok (.i2l, 1) := by decide +kernel
theorem dX11_takeNumber_63 : decode cX11_takeNumber 63 = .ok (.ldc2_w 103, 3) := by decide +kernel
theorem dX11_takeNumber_66 : decode cX11_takeNumber 66 = .ok (.ldc2_w 105, 3) := by decide +kernel
theorem dX11_takeNumber_69 : decode cX11_takeNumber 69 = .ok (.invokestatic 78, 3) := by decide +kernel
theorem dX11_takeNumber_72 : decode cX11_takeNumber 72 = .ok (.ifCond .eq 57, 3) := by decide +kernel
theorem dX11_takeNumber_75 : decode cX11_takeNumber 75 = .ok (.aload_n 0, 1) := by decide +kernel
theorem dX11_takeNumber_76 : decode cX11_takeNumber 76 = .ok (.aload_n 0, 1) := by decide +kernel
theorem dX11_takeNumber_77 : decode cX11_takeNumber 77 = .ok (.getfield 114, 3) := by decide +kernel
theorem dX11_takeNumber_80 : decode cX11_takeNumber 80 = .ok (.sipush 10000, 3) := by decide +kernel
theorem dX11_takeNumber_83 : decode cX11_takeNumber 83 = .ok (.if_icmp .le 10, 3) := by decide +kernel
theorem dX11_takeNumber_86 : decode cX11_takeNumber 86 = .ok (.aload_n 0, 1) := by decide +kernel
theorem dX11_takeNumber_87 : decode cX11_takeNumber 87 = .ok (.getfield 114, 3) := by decide +kernel
theorem dX11_takeNumber_90 : decode cX11_takeNumber 90 = .ok (.goto 23, 3) := by decide +kernel
theorem dX11_takeNumber_93 : decode cX11_takeNumber 93 = .ok (.bipush 10, 2) := by decide +kernel
theorem dX11_takeNumber_95 : decode cX11_takeNumber 95 = .ok (.aload_n 0, 1) := by decide +kernel
theorem dX11_takeNumber_96 : decode cX11_takeNumber 96 = .ok (.getfield 114, 3) := by decide +kernel
theorem dX11_takeNumber_99 : decode cX11_takeNumber 99 = .ok (.imul, 1) := by decide +kernel
theorem dX11_takeNumber_100 : decode cX11_takeNumber 100 = .ok (.aload_n 0, 1) := by decide +kernel
theorem dX11_takeNumber_101 : decode cX11_takeNumber 101 = .ok (.getfield 40, 3) := by decide +kernel
theorem dX11_takeNumber_104 : decode cX11_takeNumber 104 = .ok (.aload_n 0, 1) := by decide +kernel
theorem dX11_takeNumber_105 : decode cX11_takeNumber 105 = .ok (.getfield 96, 3) := by decide +kernel
theorem dX11_takeNumber_108 : decode cX11_takeNumber 108 = .ok (.iaload, 1) := by decide +kernel
theorem dX11_takeNumber_109 : decode cX11_takeNumber 109 = .ok (.iadd, 1) := by decide +kernel
theorem dX11_takeNumber_110 : decode cX11_takeNumber 110 = .ok (.bipush 48, 2) := by decide +kernel
theorem dX11_takeNumber_112 : decode cX11_takeNumber 112 = .ok (.isub, 1) := by decide +kernel
theorem dX11_takeNumber_113 : decode cX11_takeNumber 113 = .ok (.putfield 114, 3) := by decide +kernel
theorem dX11_takeNumber_116 : decode cX11_takeNumber 116 = .ok (.aload_n 0, 1) := by decide +kernel
theorem dX11_takeNumber_117 : decode cX11_takeNumber 117 = .ok (.dup, 1) := by decide +kernel
theorem dX11_takeNumber_118 : decode cX11_takeNumber 118 = .ok (.getfield 96, 3) := by decide +kernel
theorem dX11_takeNumber_121 : decode cX11_takeNumber 121 = .ok (.iconst 1, 1) := by decide +kernel
theorem dX11_takeNumber_122 : decode cX11_takeNumber 122 = .ok (.iadd, 1) := by decide +kernel
theorem dX11_takeNumber_123 : decode cX11_takeNumber 123 = .ok (.putfield 96, 3) := by decide +kernel
theorem dX11_takeNumber_126 : decode cX11_takeNumber 126 = .ok (.goto (-84), 3) := by decide +kernel
theorem dX11_takeNumber_129 : decode cX11_takeNumber 129 = .ok (.aload_n 0, 1) := by decide +kernel
theorem dX11_takeNumber_130 : decode cX11_takeNumber 130 = .ok (.getfield 96, 3) := by decide +kernel
