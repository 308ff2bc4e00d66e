set_option maxRecDepth 20000 in
theorem ggX9_saidOf_X4_saysNow : GoodIn wsX9_saidOf wsX4_saysNow := goodIn_r _ [8, 9, 10, 11, 12, 13, 14, 15, 16, 17, 18, 19, 7, 20, 21, 22, 23, 24, 25, 26, 27, 28, 29, 30, 31, 32, 48, 49, 50, 51, 52, 53, 54, 55, 38, 39, 40, 41, 42, 43, 44, 45, 46, 47] (by decide +kernel) (by decide +kernel)
set_option maxRecDepth 20000 in
theorem gX9_saidOf_X4_saysNow : GoodIn wsX9_saidOf (wsV RX9 118 RX4 yX4_saysNow wsX4_saysNow) := goodIn_app (goodIn_of _ (by decide +kernel)) ggX9_saidOf_X4_saysNow
theorem dX9_saidOf_0 : decode cX9_saidOf 0 = .ok (.iconst 0, 1) := by decide +kernel
theorem dX9_saidOf_1 : decode cX9_saidOf 1 = .ok (.istore_n 2, 1) := by decide +kernel
theorem dX9_saidOf_2 : decode cX9_saidOf 2 = .ok (.iconst 0, 1) := by decide +kernel
theorem dX9_saidOf_3 : decode cX9_saidOf 3 = .ok (.istore_n 3, 1) := by decide +kernel
theorem dX9_saidOf_4 : decode cX9_saidOf 4 = .ok (.iload_n 3, 1) := by decide +kernel
theorem dX9_saidOf_5 : decode cX9_saidOf 5 = .ok (.aload_n 0, 1) := by decide +kernel
theorem dX9_saidOf_6 : decode cX9_saidOf 6 = .ok (.getfield 18, 3) := by decide +kernel
theorem dX9_saidOf_9 : decode cX9_saidOf 9 = .ok (.getfield 103, 3) := by decide +kernel
theorem dX9_saidOf_12 : decode cX9_saidOf 12 = .ok (.if_icmp .ge 26, 3) := by decide +kernel
theorem dX9_saidOf_15 : decode cX9_saidOf 15 = .ok (.iload_n 3, 1) := by decide +kernel
theorem dX9_saidOf_16 : decode cX9_saidOf 16 = .ok (.iload_n 1, 1) := by decide +kernel
theorem dX9_saidOf_17 : decode cX9_saidOf 17 = .ok (.if_icmp .eq 15, 3) := by decide +kernel
theorem dX9_saidOf_20 : decode cX9_saidOf 20 = .ok (.iload_n 2, 1) := by decide +kernel
theorem dX9_saidOf_21 : decode cX9_saidOf 21 = .ok (.aload_n 0, 1) := by decide +kernel
theorem dX9_saidOf_22 : decode cX9_saidOf 22 = .ok (.getfield 26, 3) := by decide +kernel
theorem dX9_saidOf_25 : decode cX9_saidOf 25 = .ok (.iload_n 3, 1) := by decide +kernel
theorem dX9_saidOf_26 : decode cX9_saidOf 26 = .ok (.iload_n 1, 1) := by decide +kernel
theorem dX9_saidOf_27 : decode cX9_saidOf 27 = .ok (.invokevirtual 118, 3) := by decide +kernel
theorem dX9_saidOf_30 : decode cX9_saidOf 30 = .ok (.iadd, 1) := by decide +kernel
theorem dX9_saidOf_31 : decode cX9_saidOf 31 = .ok (.istore_n 2, 1) := by decide +kernel
theorem dX9_saidOf_32 : decode cX9_saidOf 32 = .ok (.iinc 3 1, 3) := by decide +kernel
theorem dX9_saidOf_35 : decode cX9_saidOf 35 = .ok (.goto (-31), 3) := by decide +kernel
theorem dX9_saidOf_38 : decode cX9_saidOf 38 = .ok (.iload_n 2, 1) := by decide +kernel
theorem dX9_saidOf_39 : decode cX9_saidOf 39 = .ok (.ireturn, 1) := by decide +kernel
set_option maxRecDepth 20000 in
theorem ggX9_isSilent_X4_saysNow : GoodIn wsX9_isSilent wsX4_saysNow := goodIn_r _ [6, 7, 8, 9, 10, 11, 12, 13, 14, 15, 16, 17, 5, 18, 19, 20, 21, 22, 23, 24, 25, 26, 27, 28, 29, 30, 36, 37, 38, 39, 40, 41, 42, 43, 44, 45, 46, 47, 48, 49, 50, 51, 52, 53] (by decide +kernel) (by decide +kernel)
set_option maxRecDepth 20000 in
theorem gX9_isSilent_X4_saysNow : GoodIn wsX9_isSilent (wsV RX9 118 RX4 yX4_saysNow wsX4_saysNow) := goodIn_app (goodIn_of _ (by decide +kernel)) ggX9_isSilent_X4_saysNow
theorem dX9_isSilent_0 : decode cX9_isSilent 0 = .ok (.aload_n 0, 1) := by decide +kernel
theorem dX9_isSilent_1 : decode cX9_isSilent 1 = .ok (.getfield 26, 3) := by decide +kernel
theorem dX9_isSilent_4 : decode cX9_isSilent 4 = .ok (.iload_n 1, 1) := by decide +kernel
theorem dX9_isSilent_5 : decode cX9_isSilent 5 = .ok (.iload_n 2, 1) := by decide +kernel
theorem dX9_isSilent_6 : decode cX9_isSilent 6 = .ok (.invokevirtual 118, 3) := by decide +kernel
theorem dX9_isSilent_9 : decode cX9_isSilent 9 = .ok (.ifCond .gt 19, 3) := by decide +kernel
theorem dX9_isSilent_12 : decode cX9_isSilent 12 = .ok (.aload_n 0, 1) := by decide +kernel
theorem dX9_isSilent_13 : decode cX9_isSilent 13 = .ok (.getfield 26, 3) := by decide +kernel
theorem dX9_isSilent_16 : decode cX9_isSilent 16 = .ok (.iload_n 2, 1) := by decide +kernel
theorem dX9_isSilent_17 : decode cX9_isSilent 17 = .ok (.iload_n 1, 1) := by decide +kernel
theorem dX9_isSilent_18 : decode cX9_isSilent 18 = .ok (.invokevirtual 118, 3) := by decide +kernel
theorem dX9_isSilent_21 : decode cX9_isSilent 21 = .ok (.ifCond .gt 7, 3) := by decide +kernel
theorem dX9_isSilent_24 : decode cX9_isSilent 24 = .ok (.iconst 1, 1) := by decide +kernel
theorem dX9_isSilent_25 : decode cX9_isSilent 25 = .ok (.goto 4, 3) := by decide +kernel
theorem dX9_isSilent_28 : decode cX9_isSilent 28 = .ok (.iconst 0, 1) := by decide +kernel
theorem dX9_isSilent_29 : decode cX9_isSilent 29 = .ok (.ireturn, 1) := by decide +kernel
set_option maxRecDepth 20000 in
theorem ggX9_silentPairs_X9_isSilent : GoodIn wsX9_silentPairs wsX9_isSilent := goodIn_r _ [7, 8, 9, 10, 11, 12, 13, 14, 15, 16, 17, 18, 19, 20, 21, 22, 23, 24, 25, 26, 27, 28, 29, 30, 31, 32, 33, 34, 35, 36, 37, 38, 39, 40, 41, 42, 53, 54, 55, 56, 57, 58, 59, 60, 43, 44, 45, 46, 47, 48, 49, 50, 51, 52] (by decide +kernel) (by decide +kernel)
set_option maxRecDepth 20000 in
theorem gX9_silentPairs_X9_isSilent : GoodIn wsX9_silentPairs (wsV RX9 121 RX9 yX9_isSilent wsX9_isSilent) := goodIn_app (goodIn_of _ (by decide +kernel)) ggX9_silentPairs_X9_isSilent
theorem dX9_silentPairs_0 : decode cX9_silentPairs 0 = .ok (.iconst 0, 1) := by decide +kernel
theorem dX9_silentPairs_1 : decode cX9_silentPairs 1 = .ok (.istore_n 1, 1) := by decide +kernel
theorem dX9_silentPairs_2 : decode cX9_silentPairs 2 = .ok (.iconst 0, 1) := by decide +kernel
theorem dX9_silentPairs_3 : decode cX9_silentPairs 3 = .ok (.istore_n 2, 1) := by decide +kernel
theorem dX9_silentPairs_4 : decode cX9_silentPairs 4 = .ok (.iload_n 2, 1) := by decide +kernel
theorem dX9_silentPairs_5 : decode cX9_silentPairs 5 = .ok (.aload_n 0, 1) := by decide +kernel
theorem dX9_silentPairs_6 : decode cX9_silentPairs 6 = .ok (.getfield 18, 3) := by decide +kernel
theorem dX9_silentPairs_9 : decode cX9_silentPairs 9 = .ok (.getfield 103, 3) := by decide +kernel
theorem dX9_silentPairs_12 : decode cX9_silentPairs 12 = .ok (.if_icmp .ge 47, 3) := by decide +kernel
theorem dX9_silentPairs_15 : decode cX9_silentPairs 15 = .ok (.iload_n 2, 1) := by decide +kernel
theorem dX9_silentPairs_16 : decode cX9_silentPairs 16 = .ok (.iconst 1, 1) := by decide +kernel
theorem dX9_silentPairs_17 : decode cX9_silentPairs 17 = .ok (.iadd, 1) := by decide +kernel
theorem dX9_silentPairs_18 : decode cX9_silentPairs 18 = .ok (.istore_n 3, 1) := by decide +kernel
theorem dX9_silentPairs_19 : decode cX9_silentPairs 19 = .ok (.iload_n 3, 1) := by decide +kernel
theorem dX9_silentPairs_20 : decode cX9_silentPairs 20 = .ok (.aload_n 0, 1) := by decide +kernel
theorem dX9_silentPairs_21 : decode cX9_silentPairs 21 = .ok (.getfield 18, 3) := by decide +kernel
theorem dX9_silentPairs_24 : decode cX9_silentPairs 24 = .ok (.getfield 103, 3) := by decide +kernel
theorem dX9_silentPairs_27 : decode cX9_silentPairs 27 = .ok (.if_icmp .ge 26, 3) := by decide +kernel
theorem dX9_silentPairs_30 : decode cX9_silentPairs 30 = .ok (.iload_n 1, 1) := by decide +kernel
theorem dX9_silentPairs_31 : decode cX9_silentPairs 31 = .ok (.aload_n 0, 1) := by decide +kernel
theorem dX9_silentPairs_32 : decode cX9_silentPairs 32 = .ok (.iload_n 2, 1) := by decide +kernel
theorem dX9_silentPairs_33 : decode cX9_silentPairs 33 = .ok (.iload_n 3, 1) := by decide +kernel
theorem dX9_silentPairs_34 : decode cX9_silentPairs 34 = .ok (.invokevirtual 121, 3) := by decide +kernel
theorem dX9_silentPairs_37 : decode cX9_silentPairs 37 = .ok (.ifCond .eq 7, 3) := by decide +kernel
theorem dX9_silentPairs_40 : decode cX9_silentPairs 40 = .ok (.iconst 1, 1) := by decide +kernel
theorem dX9_silentPairs_41 : decode cX9_silentPairs 41 = .ok (.goto 4, 3) := by decide +kernel
theorem dX9_silentPairs_44 : decode cX9_silentPairs 44 = .ok (.iconst 0, 1) := by decide +kernel
theorem dX9_silentPairs_45 : decode cX9_silentPairs 45 = .ok (.iadd, 1) := by decide +kernel
theorem dX9_silentPairs_46 : decode cX9_silentPairs 46 = .ok (.istore_n 1, 1) := by decide +kernel
theorem dX9_silentPairs_47 : decode cX9_silentPairs 47 = .ok (.iinc 3 1, 3) := by decide +kernel
theorem dX9_silentPairs_50 : decode cX9_silentPairs 50 = .ok (.goto (-31), 3) := by decide +kernel
theorem dX9_silentPairs_53 : decode cX9_silentPairs 53 = .ok (.iinc 2 1, 3) := by decide +kernel
theorem dX9_silentPairs_56 : decode cX9_silentPairs 56 = .ok (.goto (-52), 3) := by decide +kernel
theorem dX9_silentPairs_59 : decode cX9_silentPairs 59 = .ok (.iload_n 1, 1) := by decide +kernel
theorem dX9_silentPairs_60 : decode cX9_silentPairs 60 = .ok (.ireturn, 1) := by decide +kernel
set_option maxRecDepth 20000 in
theorem ggX9_silentPair_X9_isSilent : GoodIn wsX9_silentPair wsX9_isSilent := goodIn_r _ [7, 8, 9, 10, 11, 12, 13, 14, 15, 16, 17, 18, 19, 20, 21, 22, 23, 24, 25, 26, 27, 28, 29, 30, 31, 32, 33, 34, 35, 36, 37, 38, 39, 40, 41, 42, 53, 54, 55, 56, 57, 58, 59, 60, 43, 44, 45, 46, 47, 48, 49, 50, 51, 52] (by decide +kernel) (by decide +kernel)
set_option maxRecDepth 20000 in
theorem gX9_silentPair_X9_isSilent : GoodIn wsX9_silentPair (wsV RX9 121 RX9 yX9_isSilent wsX9_isSilent) := goodIn_app (goodIn_of _ (by decide +kernel)) ggX9_silentPair_X9_isSilent
theorem dX9_silentPair_0 : decode cX9_silentPair 0 = .ok (.iconst 0, 1) := by decide +kernel
theorem dX9_silentPair_1 : decode cX9_silentPair 1 = .ok (.istore_n 2, 1) := by decide +kernel
theorem dX9_silentPair_2 : decode cX9_silentPair 2 = .ok (.iconst 0, 1) := by decide +kernel
theorem dX9_silentPair_3 : decode cX9_silentPair 3 = .ok (.istore_n 3, 1) := by decide +kernel
theorem dX9_silentPair_4 : decode cX9_silentPair 4 = .ok (.iload_n 3, 1) := by decide +kernel
theorem dX9_silentPair_5 : decode cX9_silentPair 5 = .ok (.aload_n 0, 1) := by decide +kernel
theorem dX9_silentPair_6 : decode cX9_silentPair 6 = .ok (.getfield 18, 3) := by decide +kernel
theorem dX9_silentPair_9 : decode cX9_silentPair 9 = .ok (.getfield 103, 3) := by decide +kernel
theorem dX9_silentPair_12 : decode cX9_silentPair 12 = .ok (.if_icmp .ge 58, 3) := by decide +kernel
theorem dX9_silentPair_15 : decode cX9_silentPair 15 = .ok (.iload_n 3, 1) := by decide +kernel
theorem dX9_silentPair_16 : decode cX9_silentPair 16 = .ok (.iconst 1, 1) := by decide +kernel
theorem dX9_silentPair_17 : decode cX9_silentPair 17 = .ok (.iadd, 1) := by decide +kernel
theorem dX9_silentPair_18 : decode cX9_silentPair 18 = .ok (.istore 4, 2) := by decide +kernel
theorem dX9_silentPair_20 : decode cX9_silentPair 20 = .ok (.iload 4, 2) := by decide +kernel
theorem dX9_silentPair_22 : decode cX9_silentPair 22 = .ok (.aload_n 0, 1) := by decide +kernel
theorem dX9_silentPair_23 : decode cX9_silentPair 23 = .ok (.getfield 18, 3) := by decide +kernel
theorem dX9_silentPair_26 : decode cX9_silentPair 26 = .ok (.getfield 103, 3) := by decide +kernel
theorem dX9_silentPair_29 : decode cX9_silentPair 29 = .ok (.if_icmp .ge 35, 3) := by decide +kernel
theorem dX9_silentPair_32 : decode cX9_silentPair 32 = .ok (.aload_n 0, 1) := by decide +kernel
theorem dX9_silentPair_33 : decode cX9_silentPair 33 = .ok (.iload_n 3, 1) := by decide +kernel
theorem dX9_silentPair_34 : decode cX9_silentPair 34 = .ok (.iload 4, 2) := by decide +kernel
theorem dX9_silentPair_36 : decode cX9_silentPair 36 = .ok (.invokevirtual 121, 3) := by decide +kernel
theorem dX9_silentPair_39 : decode cX9_silentPair 39 = .ok (.ifCond .eq 19, 3) := by decide +kernel
theorem dX9_silentPair_42 : decode cX9_silentPair 42 = .ok (.iload_n 2, 1) := by decide +kernel
theorem dX9_silentPair_43 : decode cX9_silentPair 43 = .ok (.iload_n 1, 1) := by decide +kernel
theorem dX9_silentPair_44 : decode cX9_silentPair 44 = .ok (.if_icmp .ne 11, 3) := by decide +kernel
theorem dX9_silentPair_47 : decode cX9_silentPair 47 = .ok (.bipush 100, 2) := by decide +kernel
theorem dX9_silentPair_49 : decode cX9_silentPair 49 = .ok (.iload_n 3, 1) := by decide +kernel
theorem dX9_silentPair_50 : decode cX9_silentPair 50 = .ok (.imul, 1) := by decide +kernel
theorem dX9_silentPair_51 : decode cX9_silentPair 51 = .ok (.iload 4, 2) := by decide +kernel
theorem dX9_silentPair_53 : decode cX9_silentPair 53 = .ok (.iadd, 1) := by decide +kernel
theorem dX9_silentPair_54 : decode cX9_silentPair 54 = .ok (.ireturn, 1) := by decide +kernel
theorem dX9_silentPair_55 : decode cX9_silentPair 55 = .ok (.iinc 2 1, 3) := by decide +kernel
theorem dX9_silentPair_58 : decode cX9_silentPair 58 = .ok (.iinc 4 1, 3) := by decide +kernel
theorem dX9_silentPair_61 : decode cX9_silentPair 61 = .ok (.goto (-41), 3) := by decide +kernel
theorem dX9_silentPair_64 : decode cX9_silentPair 64 = .ok (.iinc 3 1, 3) := by decide +kernel
theorem dX9_silentPair_67 : decode cX9_silentPair 67 = .ok (.goto (-63), 3) := by decide +kernel
theorem dX9_silentPair_70 : decode cX9_silentPair 70 = .ok (.iconst (-1), 1) := by decide +kernel
theorem dX9_silentPair_71 : decode cX9_silentPair 71 = .ok (.ireturn, 1) := by decide +kernel
set_option maxRecDepth 20000 in
theorem ggX9_cover_X10_bit : GoodIn wsX9_cover wsX10_bit := goodIn_r _ [5] (by decide +kernel) (by decide +kernel)
set_option maxRecDepth 20000 in
theorem gX9_cover_X10_bit_n106 : GoodIn wsX9_cover (wsX10_bit) := ggX9_cover_X10_bit
set_option maxRecDepth 20000 in
theorem ggX9_cover_X9_covers : GoodIn wsX9_cover wsX9_covers := goodIn_r _ [10, 1, 2, 11, 12, 4, 13, 14, 15, 25, 26, 27, 28, 29, 30, 31, 32, 33, 34, 35, 36, 37, 38, 39] (by decide +kernel) (by decide +kernel)
set_option maxRecDepth 20000 in
theorem gX9_cover_X9_covers : GoodIn wsX9_cover (wsV RX9 124 RX9 yX9_covers wsX9_covers) := goodIn_app (goodIn_of _ (by decide +kernel)) ggX9_cover_X9_covers
set_option maxRecDepth 20000 in
theorem ggX9_cover_X10_isSmaller : GoodIn wsX9_cover wsX10_isSmaller := goodIn_r _ [17, 18, 19, 20, 21, 22, 23, 24] (by decide +kernel) (by decide +kernel)
set_option maxRecDepth 20000 in
theorem gX9_cover_X10_isSmaller_n109 : GoodIn wsX9_cover (wsX10_isSmaller) := ggX9_cover_X10_isSmaller
theorem dX9_cover_0 : decode cX9_cover 0 = .ok (.aload_n 0, 1) := by decide +kernel
theorem dX9_cover_1 : decode cX9_cover 1 = .ok (.getfield 18, 3) := by decide +kernel
theorem dX9_cover_4 : decode cX9_cover 4 = .ok (.getfield 76, 3) := by decide +kernel
theorem dX9_cover_7 : decode cX9_cover 7 = .ok (.invokestatic 106, 3) := by decide +kernel
theorem dX9_cover_10 : decode cX9_cover 10 = .ok (.iconst 1, 1) := by decide +kernel
theorem dX9_cover_11 : decode cX9_cover 11 = .ok (.isub, 1) := by decide +kernel
theorem dX9_cover_12 : decode cX9_cover 12 = .ok (.istore_n 1, 1) := by decide +kernel
theorem dX9_cover_13 : decode cX9_cover 13 = .ok (.iconst 0, 1) := by decide +kernel
theorem dX9_cover_14 : decode cX9_cover 14 = .ok (.istore_n 2, 1) := by decide +kernel
theorem dX9_cover_15 : decode cX9_cover 15 = .ok (.iload_n 2, 1) := by decide +kernel
theorem dX9_cover_16 : decode cX9_cover 16 = .ok (.aload_n 0, 1) := by decide +kernel
theorem dX9_cover_17 : decode cX9_cover 17 = .ok (.getfield 18, 3) := by decide +kernel
theorem dX9_cover_20 : decode cX9_cover 20 = .ok (.getfield 76, 3) := by decide +kernel
theorem dX9_cover_23 : decode cX9_cover 23 = .ok (.invokestatic 106, 3) := by decide +kernel
theorem dX9_cover_26 : decode cX9_cover 26 = .ok (.if_icmp .ge 27, 3) := by decide +kernel
theorem dX9_cover_29 : decode cX9_cover 29 = .ok (.aload_n 0, 1) := by decide +kernel
theorem dX9_cover_30 : decode cX9_cover 30 = .ok (.iload_n 2, 1) := by decide +kernel
theorem dX9_cover_31 : decode cX9_cover 31 = .ok (.invokevirtual 124, 3) := by decide +kernel
theorem dX9_cover_34 : decode cX9_cover 34 = .ok (.ifCond .eq 13, 3) := by decide +kernel
theorem dX9_cover_37 : decode cX9_cover 37 = .ok (.iload_n 2, 1) := by decide +kernel
theorem dX9_cover_38 : decode cX9_cover 38 = .ok (.iload_n 1, 1) := by decide +kernel
theorem dX9_cover_39 : decode cX9_cover 39 = .ok (.invokestatic 109, 3) := by decide +kernel
theorem dX9_cover_42 : decode cX9_cover 42 = .ok (.ifCond .eq 5, 3) := by decide +kernel
theorem dX9_cover_45 : decode cX9_cover 45 = .ok (.iload_n 2, 1) := by decide +kernel
theorem dX9_cover_46 : decode cX9_cover 46 = .ok (.istore_n 1, 1) := by decide +kernel
theorem dX9_cover_47 : decode cX9_cover 47 = .ok (.iinc 2 1, 3) := by decide +kernel
theorem dX9_cover_50 : decode cX9_cover 50 = .ok (.goto (-35), 3) := by decide +kernel
theorem dX9_cover_53 : decode cX9_cover 53 = .ok (.iload_n 1, 1) := by decide +kernel
theorem dX9_cover_54 : decode cX9_cover 54 = .ok (.ireturn, 1) := by decide +kernel
set_option maxRecDepth 20000 in
theorem ggX9_covers_X10_has : GoodIn wsX9_covers wsX10_has := goodIn_r _ [6] (by decide +kernel) (by decide +kernel)
set_option maxRecDepth 20000 in
theorem gX9_covers_X10_has_n56 : GoodIn wsX9_covers (wsX10_has) := ggX9_covers_X10_has
set_option maxRecDepth 20000 in
theorem ggX9_covers_X10_at : GoodIn wsX9_covers wsX10_at := goodIn_r _ [8] (by decide +kernel) (by decide +kernel)
set_option maxRecDepth 20000 in
theorem gX9_covers_X10_at_n45 : GoodIn wsX9_covers (wsX10_at) := ggX9_covers_X10_at
theorem dX9_covers_0 : decode cX9_covers 0 = .ok (.iconst 0, 1) := by decide +kernel
theorem dX9_covers_1 : decode cX9_covers 1 = .ok (.istore_n 2, 1) := by decide +kernel
theorem dX9_covers_2 : decode cX9_covers 2 = .ok (.iload_n 2, 1) := by decide +kernel
theorem dX9_covers_3 : decode cX9_covers 3 = .ok (.aload_n 0, 1) := by decide +kernel
theorem dX9_covers_4 : decode cX9_covers 4 = .ok (.getfield 18, 3) := by decide +kernel
theorem dX9_covers_7 : decode cX9_covers 7 = .ok (.getfield 76, 3) := by decide +kernel
theorem dX9_covers_10 : decode cX9_covers 10 = .ok (.if_icmp .ge 35, 3) := by decide +kernel
theorem dX9_covers_13 : decode cX9_covers 13 = .ok (.iload_n 1, 1) := by decide +kernel
theorem dX9_covers_14 : decode cX9_covers 14 = .ok (.iload_n 2, 1) := by decide +kernel
theorem dX9_covers_15 : decode cX9_covers 15 = .ok (.invokestatic 56, 3) := by decide +kernel
theorem dX9_covers_18 : decode cX9_covers 18 = .ok (.ifCond .ne 21, 3) := by decide +kernel
theorem dX9_covers_21 : decode cX9_covers 21 = .ok (.aload_n 0, 1) := by decide +kernel
theorem dX9_covers_22 : decode cX9_covers 22 = .ok (.getfield 18, 3) := by decide +kernel
theorem dX9_covers_25 : decode cX9_covers 25 = .ok (.getfield 128, 3) := by decide +kernel
theorem dX9_covers_28 : decode cX9_covers 28 = .ok (.iload_n 2, 1) := by decide +kernel
theorem dX9_covers_29 : decode cX9_covers 29 = .ok (.invokestatic 45, 3) := by decide +kernel
theorem dX9_covers_32 : decode cX9_covers 32 = .ok (.iload_n 1, 1) := by decide +kernel
theorem dX9_covers_33 : decode cX9_covers 33 = .ok (.iand, 1) := by decide +kernel
theorem dX9_covers_34 : decode cX9_covers 34 = .ok (.ifCond .ne 5, 3) := by decide +kernel
theorem dX9_covers_37 : decode cX9_covers 37 = .ok (.iconst 0, 1) := by decide +kernel
theorem dX9_covers_38 : decode cX9_covers 38 = .ok (.ireturn, 1) := by decide +kernel
theorem dX9_covers_39 : decode cX9_covers 39 = .ok (.iinc 2 1, 3) := by decide +kernel
theorem dX9_covers_42 : decode cX9_covers 42 = .ok (.goto (-40), 3) := by decide +kernel
theorem dX9_covers_45 : decode cX9_covers 45 = .ok (.iconst 1, 1) := by decide +kernel
theorem dX9_covers_46 : decode cX9_covers 46 = .ok (.ireturn, 1) := by decide +kernel
set_option maxRecDepth 20000 in
theorem ggX9_knownBehind_X10_bit : GoodIn wsX9_knownBehind wsX10_bit := goodIn_r _ [3] (by decide +kernel) (by decide +kernel)
set_option maxRecDepth 20000 in
theorem gX9_knownBehind_X10_bit_n106 : GoodIn wsX9_knownBehind (wsX10_bit) := ggX9_knownBehind_X10_bit
set_option maxRecDepth 20000 in
theorem ggX9_knownBehind_X9_spread : GoodIn wsX9_knownBehind wsX9_spread := goodIn_r _ [8, 9, 10, 11, 12, 13, 14, 15, 2, 16, 17, 18, 1, 3, 19, 20, 21, 22, 23, 24, 25, 26, 27, 28, 29, 30, 31, 32, 33, 34, 35, 36, 37, 38, 39, 40, 41, 42, 43, 44, 45, 46, 47, 48, 49, 50] (by decide +kernel) (by decide +kernel)
set_option maxRecDepth 20000 in
theorem gX9_knownBehind_X9_spread : GoodIn wsX9_knownBehind (wsV RX9 131 RX9 yX9_spread wsX9_spread) := goodIn_app (goodIn_of _ (by decide +kernel)) ggX9_knownBehind_X9_spread
theorem dX9_knownBehind_0 : decode cX9_knownBehind 0 = .ok (.iload_n 1, 1) := by decide +kernel
theorem dX9_knownBehind_1 : decode cX9_knownBehind 1 = .ok (.invokestatic 106, 3) := by decide +kernel
theorem dX9_knownBehind_4 : decode cX9_knownBehind 4 = .ok (.istore_n 3, 1) := by decide +kernel
theorem dX9_knownBehind_5 : decode cX9_knownBehind 5 = .ok (.iconst 0, 1) := by decide +kernel
theorem dX9_knownBehind_6 : decode cX9_knownBehind 6 = .ok (.istore 4, 2) := by decide +kernel
theorem dX9_knownBehind_8 : decode cX9_knownBehind 8 = .ok (.iload 4, 2) := by decide +kernel
theorem dX9_knownBehind_10 : decode cX9_knownBehind 10 = .ok (.iload_n 2, 1) := by decide +kernel
theorem dX9_knownBehind_11 : decode cX9_knownBehind 11 = .ok (.if_icmp .ge 15, 3) := by decide +kernel
theorem dX9_knownBehind_14 : decode cX9_knownBehind 14 = .ok (.aload_n 0, 1) := by decide +kernel
theorem dX9_knownBehind_15 : decode cX9_knownBehind 15 = .ok (.iload_n 3, 1) := by decide +kernel
theorem dX9_knownBehind_16 : decode cX9_knownBehind 16 = .ok (.invokevirtual 131, 3) := by decide +kernel
theorem dX9_knownBehind_19 : decode cX9_knownBehind 19 = .ok (.istore_n 3, 1) := by decide +kernel
theorem dX9_knownBehind_20 : decode cX9_knownBehind 20 = .ok (.iinc 4 1, 3) := by decide +kernel
theorem dX9_knownBehind_23 : decode cX9_knownBehind 23 = .ok (.goto (-15), 3) := by decide +kernel
theorem dX9_knownBehind_26 : decode cX9_knownBehind 26 = .ok (.iload_n 3, 1) := by decide +kernel
theorem dX9_knownBehind_27 : decode cX9_knownBehind 27 = .ok (.ireturn, 1) := by decide +kernel
set_option maxRecDepth 20000 in
theorem ggX9_hoursTillAllKnow_X10_bit : GoodIn wsX9_hoursTillAllKnow wsX10_bit := goodIn_r _ [5] (by decide +kernel) (by decide +kernel)
set_option maxRecDepth 20000 in
theorem gX9_hoursTillAllKnow_X10_bit_n106 : GoodIn wsX9_hoursTillAllKnow (wsX10_bit) := ggX9_hoursTillAllKnow_X10_bit
set_option maxRecDepth 20000 in
theorem ggX9_hoursTillAllKnow_X9_spread : GoodIn wsX9_hoursTillAllKnow wsX9_spread := goodIn_r _ [10, 1, 2, 11, 12, 13, 14, 15, 4, 16, 17, 18, 3, 5, 19, 20, 21, 22, 23, 24, 25, 26, 27, 28, 29, 30, 31, 32, 33, 34, 35, 36, 37, 38, 39, 40, 41, 42, 43, 44, 45, 46, 47, 48, 49, 50] (by decide +kernel) (by decide +kernel)
set_option maxRecDepth 20000 in
theorem gX9_hoursTillAllKnow_X9_spread : GoodIn wsX9_hoursTillAllKnow (wsV RX9 131 RX9 yX9_spread wsX9_spread) := goodIn_app (goodIn_of _ (by decide +kernel)) ggX9_hoursTillAllKnow_X9_spread
theorem dX9_hoursTillAllKnow_0 : decode cX9_hoursTillAllKnow 0 = .ok (.iload_n 1, 1) := by decide +kernel
theorem dX9_hoursTillAllKnow_1 : decode cX9_hoursTillAllKnow 1 = .ok (.invokestatic 106, 3) := by decide +kernel
theorem dX9_hoursTillAllKnow_4 : decode cX9_hoursTillAllKnow 4 = .ok (.istore_n 2, 1) := by decide +kernel
theorem dX9_hoursTillAllKnow_5 : decode cX9_hoursTillAllKnow 5 = .ok (.iconst 0, 1) := by decide +kernel
theorem dX9_hoursTillAllKnow_6 : decode cX9_hoursTillAllKnow 6 = .ok (.istore_n 3, 1) := by decide +kernel
theorem dX9_hoursTillAllKnow_7 : decode cX9_hoursTillAllKnow 7 = .ok (.iload_n 3, 1) := by decide +kernel
theorem dX9_hoursTillAllKnow_8 : decode cX9_hoursTillAllKnow 8 = .ok (.aload_n 0, 1) := by decide +kernel
theorem dX9_hoursTillAllKnow_9 : decode cX9_hoursTillAllKnow 9 = .ok (.getfield 18, 3) := by decide +kernel
theorem dX9_hoursTillAllKnow_12 : decode cX9_hoursTillAllKnow 12 = .ok (.getfield 103, 3) := by decide +kernel
theorem dX9_hoursTillAllKnow_15 : decode cX9_hoursTillAllKnow 15 = .ok (.if_icmp .gt 33, 3) := by decide +kernel
theorem dX9_hoursTillAllKnow_18 : decode cX9_hoursTillAllKnow 18 = .ok (.iload_n 2, 1) := by decide +kernel
theorem dX9_hoursTillAllKnow_19 : decode cX9_hoursTillAllKnow 19 = .ok (.aload_n 0, 1) := by decide +kernel
theorem dX9_hoursTillAllKnow_20 : decode cX9_hoursTillAllKnow 20 = .ok (.getfield 18, 3) := by decide +kernel
theorem dX9_hoursTillAllKnow_23 : decode cX9_hoursTillAllKnow 23 = .ok (.getfield 103, 3) := by decide +kernel
theorem dX9_hoursTillAllKnow_26 : decode cX9_hoursTillAllKnow 26 = .ok (.invokestatic 106, 3) := by decide +kernel
theorem dX9_hoursTillAllKnow_29 : decode cX9_hoursTillAllKnow 29 = .ok (.iconst 1, 1) := by decide +kernel
theorem dX9_hoursTillAllKnow_30 : decode cX9_hoursTillAllKnow 30 = .ok (.isub, 1) := by decide +kernel
theorem dX9_hoursTillAllKnow_31 : decode cX9_hoursTillAllKnow 31 = .ok (.if_icmp .ne 5, 3) := by decide +kernel
theorem dX9_hoursTillAllKnow_34 : decode cX9_hoursTillAllKnow 34 = .ok (.iload_n 3, 1) := by decide +kernel
theorem dX9_hoursTillAllKnow_35 : decode cX9_hoursTillAllKnow 35 = .ok (.ireturn, 1) := by decide +kernel
theorem dX9_hoursTillAllKnow_36 : decode cX9_hoursTillAllKnow 36 = .ok (.aload_n 0, 1) := by decide +kernel
theorem dX9_hoursTillAllKnow_37 : decode cX9_hoursTillAllKnow 37 = .ok (.iload_n 2, 1) := by decide +kernel
theorem dX9_hoursTillAllKnow_38 : decode cX9_hoursTillAllKnow 38 = .ok (.invokevirtual 131, 3) := by decide +kernel
theorem dX9_hoursTillAllKnow_41 : decode cX9_hoursTillAllKnow 41 = .ok (.istore_n 2, 1) := by decide +kernel
theorem dX9_hoursTillAllKnow_42 : decode cX9_hoursTillAllKnow 42 = .ok (.iinc 3 1, 3) := by decide +kernel
theorem dX9_hoursTillAllKnow_45 : decode cX9_hoursTillAllKnow 45 = .ok (.goto (-38), 3) := by decide +kernel
theorem dX9_hoursTillAllKnow_48 : decode cX9_hoursTillAllKnow 48 = .ok (.iconst (-1), 1) := by decide +kernel
theorem dX9_hoursTillAllKnow_49 : decode cX9_hoursTillAllKnow 49 = .ok (.ireturn, 1) := by decide +kernel
set_option maxRecDepth 20000 in
theorem ggX9_spread_X10_has : GoodIn wsX9_spread wsX10_has := goodIn_r _ [9] (by decide +kernel) (by decide +kernel)
set_option maxRecDepth 20000 in
theorem gX9_spread_X10_has_n56 : GoodIn wsX9_spread (wsX10_has) := ggX9_spread_X10_has
set_option maxRecDepth 20000 in
theorem ggX9_spread_X10_at : GoodIn wsX9_spread wsX10_at := goodIn_r _ [11] (by decide +kernel) (by decide +kernel)
set_option maxRecDepth 20000 in
theorem gX9_spread_X10_at_n45 : GoodIn wsX9_spread (wsX10_at) := ggX9_spread_X10_at
set_option maxRecDepth 20000 in
theorem ggX9_spread_X10_bit : GoodIn wsX9_spread wsX10_bit := goodIn_r _ [13] (by decide +kernel) (by decide +kernel)
set_option maxRecDepth 20000 in
theorem gX9_spread_X10_bit_n106 : GoodIn wsX9_spread (wsX10_bit) := ggX9_spread_X10_bit
set_option maxRecDepth 20000 in
theorem ggX9_spread_X4_personsIn : GoodIn wsX9_spread wsX4_personsIn := goodIn_r _ [18, 19, 20, 21, 22, 10, 8, 11, 7, 9, 12, 13, 44, 45, 28, 29, 30, 31, 32, 33, 34, 35, 36, 37, 38, 39, 40, 41, 42, 43] (by decide +kernel) (by decide +kernel)
set_option maxRecDepth 20000 in
theorem gX9_spread_X4_personsIn : GoodIn wsX9_spread (wsV RX9 134 RX4 yX4_personsIn wsX4_personsIn) := goodIn_app (goodIn_of _ (by decide +kernel)) ggX9_spread_X4_personsIn
theorem dX9_spread_0 : decode cX9_spread 0 = .ok (.iconst 0, 1) := by decide +kernel
theorem dX9_spread_1 : decode cX9_spread 1 = .ok (.istore_n 2, 1) := by decide +kernel
theorem dX9_spread_2 : decode cX9_spread 2 = .ok (.iconst 0, 1) := by decide +kernel
theorem dX9_spread_3 : decode cX9_spread 3 = .ok (.istore_n 3, 1) := by decide +kernel
theorem dX9_spread_4 : decode cX9_spread 4 = .ok (.iload_n 3, 1) := by decide +kernel
theorem dX9_spread_5 : decode cX9_spread 5 = .ok (.aload_n 0, 1) := by decide +kernel
theorem dX9_spread_6 : decode cX9_spread 6 = .ok (.getfield 18, 3) := by decide +kernel
theorem dX9_spread_9 : decode cX9_spread 9 = .ok (.getfield 103, 3) := by decide +kernel
theorem dX9_spread_12 : decode cX9_spread 12 = .ok (.if_icmp .ge 51, 3) := by decide +kernel
theorem dX9_spread_15 : decode cX9_spread 15 = .ok (.iload_n 1, 1) := by decide +kernel
theorem dX9_spread_16 : decode cX9_spread 16 = .ok (.iload_n 3, 1) := by decide +kernel
theorem dX9_spread_17 : decode cX9_spread 17 = .ok (.invokestatic 56, 3) := by decide +kernel
theorem dX9_spread_20 : decode cX9_spread 20 = .ok (.ifCond .eq 37, 3) := by decide +kernel
theorem dX9_spread_23 : decode cX9_spread 23 = .ok (.aload_n 0, 1) := by decide +kernel
theorem dX9_spread_24 : decode cX9_spread 24 = .ok (.getfield 22, 3) := by decide +kernel
theorem dX9_spread_27 : decode cX9_spread 27 = .ok (.getfield 42, 3) := by decide +kernel
theorem dX9_spread_30 : decode cX9_spread 30 = .ok (.iload_n 3, 1) := by decide +kernel
theorem dX9_spread_31 : decode cX9_spread 31 = .ok (.invokestatic 45, 3) := by decide +kernel
theorem dX9_spread_34 : decode cX9_spread 34 = .ok (.istore 4, 2) := by decide +kernel
theorem dX9_spread_36 : decode cX9_spread 36 = .ok (.iload_n 2, 1) := by decide +kernel
theorem dX9_spread_37 : decode cX9_spread 37 = .ok (.iload 4, 2) := by decide +kernel
theorem dX9_spread_39 : decode cX9_spread 39 = .ok (.invokestatic 106, 3) := by decide +kernel
theorem dX9_spread_42 : decode cX9_spread 42 = .ok (.aload_n 0, 1) := by decide +kernel
theorem dX9_spread_43 : decode cX9_spread 43 = .ok (.getfield 18, 3) := by decide +kernel
theorem dX9_spread_46 : decode cX9_spread 46 = .ok (.getfield 128, 3) := by decide +kernel
theorem dX9_spread_49 : decode cX9_spread 49 = .ok (.iload 4, 2) := by decide +kernel
theorem dX9_spread_51 : decode cX9_spread 51 = .ok (.invokestatic 45, 3) := by decide +kernel
theorem dX9_spread_54 : decode cX9_spread 54 = .ok (.ior, 1) := by decide +kernel
theorem dX9_spread_55 : decode cX9_spread 55 = .ok (.ior, 1) := by decide +kernel
theorem dX9_spread_56 : decode cX9_spread 56 = .ok (.istore_n 2, 1) := by decide +kernel
theorem dX9_spread_57 : decode cX9_spread 57 = .ok (.iinc 3 1, 3) := by decide +kernel
theorem dX9_spread_60 : decode cX9_spread 60 = .ok (.goto (-56), 3) := by decide +kernel
theorem dX9_spread_63 : decode cX9_spread 63 = .ok (.iload_n 1, 1) := by decide +kernel
theorem dX9_spread_64 : decode cX9_spread 64 = .ok (.aload_n 0, 1) := by decide +kernel
theorem dX9_spread_65 : decode cX9_spread 65 = .ok (.getfield 26, 3) := by decide +kernel
theorem dX9_spread_68 : decode cX9_spread 68 = .ok (.iload_n 2, 1) := by decide +kernel
theorem dX9_spread_69 : decode cX9_spread 69 = .ok (.invokevirtual 134, 3) := by decide +kernel
theorem dX9_spread_72 : decode cX9_spread 72 = .ok (.ior, 1) := by decide +kernel
theorem dX9_spread_73 : decode cX9_spread 73 = .ok (.ireturn, 1) := by decide +kernel
set_option maxRecDepth 20000 in
theorem ggX9_listeningRooms_X10_at : GoodIn wsX9_listeningRooms wsX10_at := goodIn_r _ [9] (by decide +kernel) (by decide +kernel)
set_option maxRecDepth 20000 in
theorem gX9_listeningRooms_X10_at_n45 : GoodIn wsX9_listeningRooms (wsX10_at) := ggX9_listeningRooms_X10_at
set_option maxRecDepth 20000 in
theorem ggX9_listeningRooms_X10_has : GoodIn wsX9_listeningRooms wsX10_has := goodIn_r _ [11] (by decide +kernel) (by decide +kernel)
set_option maxRecDepth 20000 in
theorem gX9_listeningRooms_X10_has_n56 : GoodIn wsX9_listeningRooms (wsX10_has) := ggX9_listeningRooms_X10_has
set_option maxRecDepth 20000 in
theorem ggX9_listeningRooms_X4_says : GoodIn wsX9_listeningRooms wsX4_says := goodIn_r _ [16, 17, 18, 19, 20, 7, 8, 9, 21, 22, 23, 15, 24, 25, 10, 11, 26, 27, 28, 29, 53, 54, 37, 38, 39, 40, 41, 42, 43, 44, 45, 46, 47, 48, 49, 50, 51, 52] (by decide +kernel) (by decide +kernel)
set_option maxRecDepth 20000 in
theorem gX9_listeningRooms_X4_says : GoodIn wsX9_listeningRooms (wsV RX9 59 RX4 yX4_says wsX4_says) := goodIn_app (goodIn_of _ (by decide +kernel)) ggX9_listeningRooms_X4_says
set_option maxRecDepth 20000 in
theorem ggX9_listeningRooms_X10_bit : GoodIn wsX9_listeningRooms wsX10_bit := goodIn_r _ [31] (by decide +kernel) (by decide +kernel)
set_option maxRecDepth 20000 in
theorem gX9_listeningRooms_X10_bit_n106 : GoodIn wsX9_listeningRooms (wsX10_bit) := ggX9_listeningRooms_X10_bit
theorem dX9_listeningRooms_0 : decode cX9_listeningRooms 0 = .ok (.iconst 0, 1) := by decide +kernel
theorem dX9_listeningRooms_1 : decode cX9_listeningRooms 1 = .ok (.istore 4, 2) := by decide +kernel
theorem dX9_listeningRooms_3 : decode cX9_listeningRooms 3 = .ok (.iconst 0, 1) := by decide +kernel
theorem dX9_listeningRooms_4 : decode cX9_listeningRooms 4 = .ok (.istore 5, 2) := by decide +kernel
theorem dX9_listeningRooms_6 : decode cX9_listeningRooms 6 = .ok (.iload 5, 2) := by decide +kernel
theorem dX9_listeningRooms_8 : decode cX9_listeningRooms 8 = .ok (.aload_n 0, 1) := by decide +kernel
theorem dX9_listeningRooms_9 : decode cX9_listeningRooms 9 = .ok (.getfield 18, 3) := by decide +kernel
theorem dX9_listeningRooms_12 : decode cX9_listeningRooms 12 = .ok (.getfield 76, 3) := by decide +kernel
theorem dX9_listeningRooms_15 : decode cX9_listeningRooms 15 = .ok (.if_icmp .ge 56, 3) := by decide +kernel
theorem dX9_listeningRooms_18 : decode cX9_listeningRooms 18 = .ok (.aload_n 0, 1) := by decide +kernel
theorem dX9_listeningRooms_19 : decode cX9_listeningRooms 19 = .ok (.getfield 26, 3) := by decide +kernel
theorem dX9_listeningRooms_22 : decode cX9_listeningRooms 22 = .ok (.iload_n 1, 1) := by decide +kernel
theorem dX9_listeningRooms_23 : decode cX9_listeningRooms 23 = .ok (.aload_n 0, 1) := by decide +kernel
theorem dX9_listeningRooms_24 : decode cX9_listeningRooms 24 = .ok (.getfield 22, 3) := by decide +kernel
theorem dX9_listeningRooms_27 : decode cX9_listeningRooms 27 = .ok (.getfield 42, 3) := by decide +kernel
theorem dX9_listeningRooms_30 : decode cX9_listeningRooms 30 = .ok (.iload_n 1, 1) := by decide +kernel
theorem dX9_listeningRooms_31 : decode cX9_listeningRooms 31 = .ok (.invokestatic 45, 3) := by decide +kernel
theorem dX9_listeningRooms_34 : decode cX9_listeningRooms 34 = .ok (.iload_n 2, 1) := by decide +kernel
theorem dX9_listeningRooms_35 : decode cX9_listeningRooms 35 = .ok (.iload 5, 2) := by decide +kernel
theorem dX9_listeningRooms_37 : decode cX9_listeningRooms 37 = .ok (.aload_n 0, 1) := by decide +kernel
theorem dX9_listeningRooms_38 : decode cX9_listeningRooms 38 = .ok (.getfield 22, 3) := by decide +kernel
theorem dX9_listeningRooms_41 : decode cX9_listeningRooms 41 = .ok (.getfield 53, 3) := by decide +kernel
theorem dX9_listeningRooms_44 : decode cX9_listeningRooms 44 = .ok (.iload_n 2, 1) := by decide +kernel
theorem dX9_listeningRooms_45 : decode cX9_listeningRooms 45 = .ok (.invokestatic 56, 3) := by decide +kernel
theorem dX9_listeningRooms_48 : decode cX9_listeningRooms 48 = .ok (.invokevirtual 59, 3) := by decide +kernel
theorem dX9_listeningRooms_51 : decode cX9_listeningRooms 51 = .ok (.iload_n 3, 1) := by decide +kernel
theorem dX9_listeningRooms_52 : decode cX9_listeningRooms 52 = .ok (.if_icmp .ne 13, 3) := by decide +kernel
theorem dX9_listeningRooms_55 : decode cX9_listeningRooms 55 = .ok (.iload 4, 2) := by decide +kernel
theorem dX9_listeningRooms_57 : decode cX9_listeningRooms 57 = .ok (.iload 5, 2) := by decide +kernel
theorem dX9_listeningRooms_59 : decode cX9_listeningRooms 59 = .ok (.invokestatic 106, 3) := by decide +kernel
theorem dX9_listeningRooms_62 : decode cX9_listeningRooms 62 = .ok (.ior, 1) := by decide +kernel
theorem dX9_listeningRooms_63 : decode cX9_listeningRooms 63 = .ok (.istore 4, 2) := by decide +kernel
theorem dX9_listeningRooms_65 : decode cX9_listeningRooms 65 = .ok (.iinc 5 1, 3) := by decide +kernel
theorem dX9_listeningRooms_68 : decode cX9_listeningRooms 68 = .ok (.goto (-62), 3) := by decide +kernel
theorem dX9_listeningRooms_71 : decode cX9_listeningRooms 71 = .ok (.iload 4, 2) := by decide +kernel
theorem dX9_listeningRooms_73 : decode cX9_listeningRooms 73 = .ok (.ireturn, 1) := by decide +kernel
set_option maxRecDepth 20000 in
theorem ggX10_init_X8_init : GoodIn wsX10_init wsX8_init := goodIn_r _ [45, 46, 2, 3, 47, 48, 49, 9, 10, 50, 51, 52, 53, 54, 55, 56, 57, 58, 59, 107, 108, 109, 110, 111, 112, 113, 114, 125, 126, 127, 128, 129, 130, 131, 132, 133, 134] (by decide +kernel) (by decide +kernel)
set_option maxRecDepth 20000 in
theorem gX10_init_X8_init_n11 : GoodIn wsX10_init (wsX8_init) := ggX10_init_X8_init
set_option maxRecDepth 20000 in
theorem ggX10_init_X2_init : GoodIn wsX10_init wsX2_init := goodIn_r _ [53, 54, 2, 3, 47, 55, 56, 57, 58, 59, 125, 126, 127, 128, 129, 130, 131, 132, 133, 134] (by decide +kernel) (by decide +kernel)
set_option maxRecDepth 20000 in
theorem gX10_init_X2_init_n18 : GoodIn wsX10_init (wsX2_init) := ggX10_init_X2_init
set_option maxRecDepth 20000 in
theorem ggX10_init_X7_init : GoodIn wsX10_init wsX7_init := goodIn_r _ [61, 62, 2, 3, 47, 63, 64, 65, 66, 135, 136, 137, 138, 139, 140] (by decide +kernel) (by decide +kernel)
set_option maxRecDepth 20000 in
theorem gX10_init_X7_init_n25 : GoodIn wsX10_init (wsX7_init) := ggX10_init_X7_init
set_option maxRecDepth 20000 in
theorem ggX10_init_X4_init : GoodIn wsX10_init wsX4_init := goodIn_r _ [69, 70, 2, 3, 71, 72, 141, 142] (by decide +kernel) (by decide +kernel)
set_option maxRecDepth 20000 in
theorem gX10_init_X4_init : GoodIn wsX10_init (wsX4_init) := ggX10_init_X4_init
set_option maxRecDepth 20000 in
theorem ggX10_init_X9_init : GoodIn wsX10_init wsX9_init := goodIn_r _ [75, 76, 2, 3, 47, 77, 78, 79, 80, 81, 143, 144, 145, 146, 147] (by decide +kernel) (by decide +kernel)
set_option maxRecDepth 20000 in
theorem gX10_init_X9_init : GoodIn wsX10_init (wsX9_init) := ggX10_init_X9_init
set_option maxRecDepth 20000 in
theorem ggX10_init_X6_init : GoodIn wsX10_init wsX6_init := goodIn_r _ [84, 85, 2, 3, 86, 87, 13, 14, 60, 61, 62, 47, 63, 64, 65, 66, 148, 149, 150, 135, 136, 137, 138, 139, 140] (by decide +kernel) (by decide +kernel)
set_option maxRecDepth 20000 in
theorem gX10_init_X6_init : GoodIn wsX10_init (wsX6_init) := ggX10_init_X6_init
set_option maxRecDepth 20000 in
theorem ggX10_init_X5_init : GoodIn wsX10_init wsX5_init := goodIn_r _ [89, 90, 2, 3, 47, 91, 92, 93, 151, 152, 153, 154] (by decide +kernel) (by decide +kernel)
set_option maxRecDepth 20000 in
theorem gX10_init_X5_init_n57 : GoodIn wsX10_init (wsX5_init) := ggX10_init_X5_init
set_option maxRecDepth 20000 in
theorem ggX10_init_X0_init : GoodIn wsX10_init wsX0_init := goodIn_r _ [95, 96, 2, 3, 47, 97, 98, 155, 156, 157] (by decide +kernel) (by decide +kernel)
set_option maxRecDepth 20000 in
theorem gX10_init_X0_init_n64 : GoodIn wsX10_init (wsX0_init) := ggX10_init_X0_init
set_option maxRecDepth 20000 in
theorem ggX10_init_X1_init : GoodIn wsX10_init wsX1_init := goodIn_r _ [100, 101, 2, 3] (by decide +kernel) (by decide +kernel)
set_option maxRecDepth 20000 in
theorem gX10_init_X1_init_n71 : GoodIn wsX10_init (wsX1_init) := ggX10_init_X1_init
set_option maxRecDepth 20000 in
theorem ggX10_init_X3_init : GoodIn wsX10_init wsX3_init := goodIn_r _ [103, 104, 2, 3, 105, 13, 14, 106, 60, 61, 62, 47, 63, 64, 65, 66, 135, 136, 137, 138, 139, 140, 159, 160, 161] (by decide +kernel) (by decide +kernel)
set_option maxRecDepth 20000 in
theorem gX10_init_X3_init_n82 : GoodIn wsX10_init (wsX3_init) := ggX10_init_X3_init
theorem dX10_init_0 : decode cX10_init 0 = .ok (.aload_n 0, 1) := by decide +kernel
theorem dX10_init_1 : decode cX10_init 1 = .ok (.invokespecial 3, 3) := by decide +kernel
theorem dX10_init_4 : decode cX10_init 4 = .ok (.aload_n 0, 1) := by decide +kernel
theorem dX10_init_5 : decode cX10_init 5 = .ok (.new 9, 3) := by decide +kernel
theorem dX10_init_8 : decode cX10_init 8 = .ok (.dup, 1) := by decide +kernel
theorem dX10_init_9 : decode cX10_init 9 = .ok (.invokespecial 11, 3) := by decide +kernel
theorem dX10_init_12 : decode cX10_init 12 = .ok (.putfield 12, 3) := by decide +kernel
theorem dX10_init_15 : decode cX10_init 15 = .ok (.aload_n 0, 1) := by decide +kernel
theorem dX10_init_16 : decode cX10_init 16 = .ok (.new 16, 3) := by decide +kernel
theorem dX10_init_19 : decode cX10_init 19 = .ok (.dup, 1) := by decide +kernel
theorem dX10_init_20 : decode cX10_init 20 = .ok (.invokespecial 18, 3) := by decide +kernel
theorem dX10_init_23 : decode cX10_init 23 = .ok (.putfield 19, 3) := by decide +kernel
theorem dX10_init_26 : decode cX10_init 26 = .ok (.aload_n 0, 1) := by decide +kernel
theorem dX10_init_27 : decode cX10_init 27 = .ok (.new 23, 3) := by decide +kernel
theorem dX10_init_30 : decode cX10_init 30 = .ok (.dup, 1) := by decide +kernel
theorem dX10_init_31 : decode cX10_init 31 = .ok (.invokespecial 25, 3) := by decide +kernel
theorem dX10_init_34 : decode cX10_init 34 = .ok (.putfield 26, 3) := by decide +kernel
theorem dX10_init_37 : decode cX10_init 37 = .ok (.aload_n 0, 1) := by decide +kernel
theorem dX10_init_38 : decode cX10_init 38 = .ok (.new 30, 3) := by decide +kernel
theorem dX10_init_41 : decode cX10_init 41 = .ok (.dup, 1) := by decide +kernel
theorem dX10_init_42 : decode cX10_init 42 = .ok (.aload_n 0, 1) := by decide +kernel
theorem dX10_init_43 : decode cX10_init 43 = .ok (.getfield 19, 3) := by decide +kernel
theorem dX10_init_46 : decode cX10_init 46 = .ok (.aload_n 0, 1) := by decide +kernel
theorem dX10_init_47 : decode cX10_init 47 = .ok (.getfield 26, 3) := by decide +kernel
theorem dX10_init_50 : decode cX10_init 50 = .ok (.invokespecial 32, 3) := by decide +kernel
theorem dX10_init_53 : decode cX10_init 53 = .ok (.putfield 35, 3) := by decide +kernel
theorem dX10_init_56 : decode cX10_init 56 = .ok (.aload_n 0, 1) := by decide +kernel
theorem dX10_init_57 : decode cX10_init 57 = .ok (.new 39, 3) := by decide +kernel
theorem dX10_init_60 : decode cX10_init 60 = .ok (.dup, 1) := by decide +kernel
theorem dX10_init_61 : decode cX10_init 61 = .ok (.aload_n 0, 1) := by decide +kernel
theorem dX10_init_62 : decode cX10_init 62 = .ok (.getfield 19, 3) := by decide +kernel
theorem dX10_init_65 : decode cX10_init 65 = .ok (.aload_n 0, 1) := by decide +kernel
theorem dX10_init_66 : decode cX10_init 66 = .ok (.getfield 26, 3) := by decide +kernel
theorem dX10_init_69 : decode cX10_init 69 = .ok (.aload_n 0, 1) := by decide +kernel
theorem dX10_init_70 : decode cX10_init 70 = .ok (.getfield 35, 3) := by decide +kernel
theorem dX10_init_73 : decode cX10_init 73 = .ok (.invokespecial 41, 3) := by decide +kernel
theorem dX10_init_76 : decode cX10_init 76 = .ok (.putfield 44, 3) := by decide +kernel
theorem dX10_init_79 : decode cX10_init 79 = .ok (.aload_n 0, 1) := by decide +kernel
theorem dX10_init_80 : decode cX10_init 80 = .ok (.new 48, 3) := by decide +kernel
theorem dX10_init_83 : decode cX10_init 83 = .ok (.dup, 1) := by decide +kernel
theorem dX10_init_84 : decode cX10_init 84 = .ok (.invokespecial 50, 3) := by decide +kernel
theorem dX10_init_87 : decode cX10_init 87 = .ok (.putfield 51, 3) := by decide +kernel
theorem dX10_init_90 : decode cX10_init 90 = .ok (.aload_n 0, 1) := by decide +kernel
theorem dX10_init_91 : decode cX10_init 91 = .ok (.new 55, 3) := by decide +kernel
theorem dX10_init_94 : decode cX10_init 94 = .ok (.dup, 1) := by decide +kernel
theorem dX10_init_95 : decode cX10_init 95 = .ok (.invokespecial 57, 3) := by decide +kernel
theorem dX10_init_98 : decode cX10_init 98 = .ok (.putfield 58, 3) := by decide +kernel
theorem dX10_init_101 : decode cX10_init 101 = .ok (.aload_n 0, 1) := by decide +kernel
theorem dX10_init_102 : decode cX10_init 102 = .ok (.new 62, 3) := by decide +kernel
theorem dX10_init_105 : decode cX10_init 105 = .ok (.dup, 1) := by decide +kernel
theorem dX10_init_106 : decode cX10_init 106 = .ok (.invokespecial 64, 3) := by decide +kernel
theorem dX10_init_109 : decode cX10_init 109 = .ok (.putfield 65, 3) := by decide +kernel
theorem dX10_init_112 : decode cX10_init 112 = .ok (.aload_n 0, 1) := by decide +kernel
theorem dX10_init_113 : decode cX10_init 113 = .ok (.new 69, 3) := by decide +kernel
theorem dX10_init_116 : decode cX10_init 116 = .ok (.dup, 1) := by decide +kernel
theorem dX10_init_117 : decode cX10_init 117 = .ok (.invokespecial 71, 3) := by decide +kernel
theorem dX10_init_120 : decode cX10_init 120 = .ok (.putfield 72, 3) := by decide +kernel
theorem dX10_init_123 : decode cX10_init 123 = .ok (.aload_n 0, 1) := by decide +kernel
theorem dX10_init_124 : decode cX10_init 124 = .ok (.iconst 2, 1) := by decide +kernel
theorem dX10_init_125 : decode cX10_init 125 = .ok (.anewarray 76, 3) := by decide +kernel
theorem dX10_init_128 : decode cX10_init 128 = .ok (.putfield 78, 3) := by decide +kernel
theorem dX10_init_131 : decode cX10_init 131 = .ok (.iconst 0, 1) := by decide +kernel
theorem dX10_init_132 : decode cX10_init 132 = .ok (.istore_n 1, 1) := by decide +kernel
theorem dX10_init_133 : decode cX10_init 133 = .ok (.iload_n 1, 1) := by decide +kernel
theorem dX10_init_134 : decode cX10_init 134 = .ok (.aload_n 0, 1) := by decide +kernel
theorem dX10_init_135 : decode cX10_init 135 = .ok (.getfield 78, 3) := by decide +kernel
theorem dX10_init_138 : decode cX10_init 138 = .ok (.arraylength, 1) := by decide +kernel
theorem dX10_init_139 : decode cX10_init 139 = .ok (.if_icmp .ge 22, 3) := by decide +kernel
theorem dX10_init_142 : decode cX10_init 142 = .ok (.aload_n 0, 1) := by decide +kernel
theorem dX10_init_143 : decode cX10_init 143 = .ok (.getfield 78, 3) := by decide +kernel
theorem dX10_init_146 : decode cX10_init 146 = .ok (.iload_n 1, 1) := by decide +kernel
theorem dX10_init_147 : decode cX10_init 147 = .ok (.new 76, 3) := by decide +kernel
theorem dX10_init_150 : decode cX10_init 150 = .ok (.dup, 1) := by decide +kernel
theorem dX10_init_151 : decode cX10_init 151 = .ok (.invokespecial 82, 3) := by decide +kernel
theorem dX10_init_154 : decode cX10_init 154 = .ok (.aastore, 1) := by decide +kernel
theorem dX10_init_155 : decode cX10_init 155 = .ok (.iinc 1 1, 3) := by decide +kernel
theorem dX10_init_158 : decode cX10_init 158 = .ok (.goto (-25), 3) := by decide +kernel
theorem dX10_init_161 : decode cX10_init 161 = .ok (.return_, 1) := by decide +kernel
set_option maxRecDepth 20000 in
theorem ggX10_feed_X10_within : GoodIn wsX10_feed wsX10_within := goodIn_r _ [8] (by decide +kernel) (by decide +kernel)
set_option maxRecDepth 20000 in
theorem gX10_feed_X10_within : GoodIn wsX10_feed (va_wsS RX10 83 yX10_within wsX10_within) := goodIn_app (goodIn_of _ (by decide +kernel)) ggX10_feed_X10_within
set_option maxRecDepth 20000 in
theorem ggX10_feed_X8_add : GoodIn wsX10_feed wsX8_add := goodIn_r _ [13, 14, 15, 16, 7, 17, 28, 29, 30, 31, 32, 33, 34, 35] (by decide +kernel) (by decide +kernel)
set_option maxRecDepth 20000 in
theorem gX10_feed_X8_add : GoodIn wsX10_feed (wsV RX10 93 RX8 yX8_add wsX8_add) := goodIn_app (goodIn_of _ (by decide +kernel)) ggX10_feed_X8_add
theorem dX10_feed_0 : decode cX10_feed 0 = .ok (.iload_n 1, 1) := by decide +kernel
theorem dX10_feed_1 : decode cX10_feed 1 = .ok (.iconst 0, 1) := by decide +kernel
theorem dX10_feed_2 : decode cX10_feed 2 = .ok (.sipush 255, 3) := by decide +kernel
theorem dX10_feed_5 : decode cX10_feed 5 = .ok (.invokestatic 83, 3) := by decide +kernel
theorem dX10_feed_8 : decode cX10_feed 8 = .ok (.ifCond .ne 6, 3) := by decide +kernel
theorem dX10_feed_11 : decode cX10_feed 11 = .ok (.ldc 87, 2) := by decide +kernel
theorem dX10_feed_13 : decode cX10_feed 13 = .ok (.ireturn, 1) := by decide +kernel
theorem dX10_feed_14 : decode cX10_feed 14 = .ok (.aload_n 0, 1) := by decide +kernel
theorem dX10_feed_15 : decode cX10_feed 15 = .ok (.getfield 12, 3) := by decide +kernel
theorem dX10_feed_18 : decode cX10_feed 18 = .ok (.getfield 88, 3) := by decide +kernel
theorem dX10_feed_21 : decode cX10_feed 21 = .ok (.sipush 240, 3) := by decide +kernel
theorem dX10_feed_24 : decode cX10_feed 24 = .ok (.if_icmp .lt 6, 3) := by decide +kernel
theorem dX10_feed_27 : decode cX10_feed 27 = .ok (.ldc 92, 2) := by decide +kernel
theorem dX10_feed_29 : decode cX10_feed 29 = .ok (.ireturn, 1) := by decide +kernel
theorem dX10_feed_30 : decode cX10_feed 30 = .ok (.aload_n 0, 1) := by decide +kernel
theorem dX10_feed_31 : decode cX10_feed 31 = .ok (.getfield 12, 3) := by decide +kernel
theorem dX10_feed_34 : decode cX10_feed 34 = .ok (.iload_n 1, 1) := by decide +kernel
theorem dX10_feed_35 : decode cX10_feed 35 = .ok (.invokevirtual 93, 3) := by decide +kernel
theorem dX10_feed_38 : decode cX10_feed 38 = .ok (.ireturn, 1) := by decide +kernel
set_option maxRecDepth 20000 in
theorem ggX10_hill_X8_read : GoodIn wsX10_hill wsX8_read := goodIn_r _ [19, 20, 21, 22, 23, 24, 25, 26, 27, 28, 29, 30, 31, 32, 33, 34, 35, 36, 37, 38, 39, 40, 41, 42, 43, 44, 45, 46, 47, 18, 48, 49, 50, 51, 52, 53, 54, 55, 56, 57, 58, 59, 60, 61, 62, 63, 64, 65, 66, 67, 68, 69, 70, 71, 72, 73, 74, 75, 76, 77, 78, 79, 80, 81, 82, 83, 84, 85, 86, 87, 88, 89, 90, 91, 92, 93, 94, 95, 96, 97, 98, 99, 100, 101, 102, 103, 104, 105, 106, 107, 108, 109, 110, 111, 112, 113, 114, 115, 116, 117, 118, 119, 120, 121, 122, 123, 124, 125, 126, 127, 128, 129, 130, 131, 132, 133, 134, 135, 136, 137, 138, 139, 140, 185, 186, 187, 188, 189, 190, 191, 192, 203, 204, 205, 206, 207, 208, 209, 210, 211, 212] (by decide +kernel) (by decide +kernel)
set_option maxRecDepth 20000 in
theorem gX10_hill_X8_read : GoodIn wsX10_hill (wsV RX10 97 RX8 yX8_read wsX8_read) := goodIn_app (goodIn_of _ (by decide +kernel)) ggX10_hill_X8_read
set_option maxRecDepth 20000 in
theorem ggX10_hill_X2_copyFrom : GoodIn wsX10_hill wsX2_copyFrom := goodIn_r _ [144, 31, 32, 33, 34, 35, 36, 37, 38, 39, 40, 145, 85, 146, 147, 148, 149, 150, 151, 152, 153, 154, 203, 204, 205, 206, 207, 208, 209, 210, 211, 212] (by decide +kernel) (by decide +kernel)
set_option maxRecDepth 20000 in
theorem gX10_hill_X2_copyFrom : GoodIn wsX10_hill (wsV RX10 107 RX2 yX2_copyFrom wsX2_copyFrom) := goodIn_app (goodIn_of _ (by decide +kernel)) ggX10_hill_X2_copyFrom
set_option maxRecDepth 20000 in
theorem ggX10_hill_X7_begin : GoodIn wsX10_hill wsX7_begin := goodIn_r _ [159, 160, 161, 162, 163, 164, 165, 166, 167, 145, 85, 146, 147, 148, 149, 150, 151, 152, 153, 154, 168, 42, 43, 44, 203, 204, 205, 206, 207, 208, 209, 210, 211, 212, 213, 214, 215, 216, 217, 218] (by decide +kernel) (by decide +kernel)
set_option maxRecDepth 20000 in
theorem gX10_hill_X7_begin : GoodIn wsX10_hill (wsV RX10 111 RX7 yX7_begin wsX7_begin) := goodIn_app (goodIn_of _ (by decide +kernel)) ggX10_hill_X7_begin
set_option maxRecDepth 20000 in
theorem ggX10_hill_X6_forget : GoodIn wsX10_hill wsX6_forget := goodIn_r _ [173, 174, 219, 220, 221] (by decide +kernel) (by decide +kernel)
set_option maxRecDepth 20000 in
theorem gX10_hill_X6_forget : GoodIn wsX10_hill (wsV RX10 116 RX6 yX6_forget wsX6_forget) := goodIn_app (goodIn_of _ (by decide +kernel)) ggX10_hill_X6_forget
theorem dX10_hill_0 : decode cX10_hill 0 = .ok (.aload_n 0, 1) := by decide +kernel
theorem dX10_hill_1 : decode cX10_hill 1 = .ok (.getfield 12, 3) := by decide +kernel
theorem dX10_hill_4 : decode cX10_hill 4 = .ok (.invokevirtual 97, 3) := by decide +kernel
theorem dX10_hill_7 : decode cX10_hill 7 = .ok (.istore_n 1, 1) := by decide +kernel
theorem dX10_hill_8 : decode cX10_hill 8 = .ok (.aload_n 0, 1) := by decide +kernel
theorem dX10_hill_9 : decode cX10_hill 9 = .ok (.getfield 12, 3) := by decide +kernel
theorem dX10_hill_12 : decode cX10_hill 12 = .ok (.iconst 0, 1) := by decide +kernel
theorem dX10_hill_13 : decode cX10_hill 13 = .ok (.putfield 88, 3) := by decide +kernel
theorem dX10_hill_16 : decode cX10_hill 16 = .ok (.iload_n 1, 1) := by decide +kernel
theorem dX10_hill_17 : decode cX10_hill 17 = .ok (.ifCond .ne 14, 3) := by decide +kernel
theorem dX10_hill_20 : decode cX10_hill 20 = .ok (.bipush (-10), 2) := by decide +kernel
theorem dX10_hill_22 : decode cX10_hill 22 = .ok (.aload_n 0, 1) := by decide +kernel
theorem dX10_hill_23 : decode cX10_hill 23 = .ok (.getfield 12, 3) := by decide +kernel
theorem dX10_hill_26 : decode cX10_hill 26 = .ok (.getfield 101, 3) := by decide +kernel
theorem dX10_hill_29 : decode cX10_hill 29 = .ok (.isub, 1) := by decide +kernel
theorem dX10_hill_30 : decode cX10_hill 30 = .ok (.ireturn, 1) := by decide +kernel
theorem dX10_hill_31 : decode cX10_hill 31 = .ok (.aload_n 0, 1) := by decide +kernel
theorem dX10_hill_32 : decode cX10_hill 32 = .ok (.getfield 19, 3) := by decide +kernel
theorem dX10_hill_35 : decode cX10_hill 35 = .ok (.aload_n 0, 1) := by decide +kernel
theorem dX10_hill_36 : decode cX10_hill 36 = .ok (.getfield 12, 3) := by decide +kernel
theorem dX10_hill_39 : decode cX10_hill 39 = .ok (.getfield 104, 3) := by decide +kernel
theorem dX10_hill_42 : decode cX10_hill 42 = .ok (.invokevirtual 107, 3) := by decide +kernel
theorem dX10_hill_45 : decode cX10_hill 45 = .ok (.aload_n 0, 1) := by decide +kernel
theorem dX10_hill_46 : decode cX10_hill 46 = .ok (.getfield 26, 3) := by decide +kernel
theorem dX10_hill_49 : decode cX10_hill 49 = .ok (.aload_n 0, 1) := by decide +kernel
theorem dX10_hill_50 : decode cX10_hill 50 = .ok (.getfield 19, 3) := by decide +kernel
theorem dX10_hill_53 : decode cX10_hill 53 = .ok (.invokevirtual 111, 3) := by decide +kernel
theorem dX10_hill_56 : decode cX10_hill 56 = .ok (.aload_n 0, 1) := by decide +kernel
theorem dX10_hill_57 : decode cX10_hill 57 = .ok (.getfield 58, 3) := by decide +kernel
theorem dX10_hill_60 : decode cX10_hill 60 = .ok (.iconst 0, 1) := by decide +kernel
theorem dX10_hill_61 : decode cX10_hill 61 = .ok (.putfield 114, 3) := by decide +kernel
theorem dX10_hill_64 : decode cX10_hill 64 = .ok (.aload_n 0, 1) := by decide +kernel
theorem dX10_hill_65 : decode cX10_hill 65 = .ok (.getfield 65, 3) := by decide +kernel
theorem dX10_hill_68 : decode cX10_hill 68 = .ok (.iconst 0, 1) := by decide +kernel
theorem dX10_hill_69 : decode cX10_hill 69 = .ok (.putfield 115, 3) := by decide +kernel
theorem dX10_hill_72 : decode cX10_hill 72 = .ok (.aload_n 0, 1) := by decide +kernel
theorem dX10_hill_73 : decode cX10_hill 73 = .ok (.getfield 51, 3) := by decide +kernel
theorem dX10_hill_76 : decode cX10_hill 76 = .ok (.invokevirtual 116, 3) := by decide +kernel
theorem dX10_hill_79 : decode cX10_hill 79 = .ok (.iconst 0, 1) := by decide +kernel
theorem dX10_hill_80 : decode cX10_hill 80 = .ok (.istore_n 2, 1) := by decide +kernel
theorem dX10_hill_81 : decode cX10_hill 81 = .ok (.iload_n 2, 1) := by decide +kernel
theorem dX10_hill_82 : decode cX10_hill 82 = .ok (.aload_n 0, 1) := by decide +kernel
theorem dX10_hill_83 : decode cX10_hill 83 = .ok (.getfield 78, 3) := by decide +kernel
theorem dX10_hill_86 : decode cX10_hill 86 = .ok (.arraylength, 1) := by decide +kernel
theorem dX10_hill_87 : decode cX10_hill 87 = .ok (.if_icmp .ge 28, 3) := by decide +kernel
theorem dX10_hill_90 : decode cX10_hill 90 = .ok (.aload_n 0, 1) := by decide +kernel
theorem dX10_hill_91 : decode cX10_hill 91 = .ok (.getfield 78, 3) := by decide +kernel
theorem dX10_hill_94 : decode cX10_hill 94 = .ok (.iload_n 2, 1) := by decide +kernel
theorem dX10_hill_95 : decode cX10_hill 95 = .ok (.aaload, 1) := by decide +kernel
theorem dX10_hill_96 : decode cX10_hill 96 = .ok (.ifnull 13, 3) := by decide +kernel
theorem dX10_hill_99 : decode cX10_hill 99 = .ok (.aload_n 0, 1) := by decide +kernel
theorem dX10_hill_100 : decode cX10_hill 100 = .ok (.getfield 78, 3) := by decide +kernel
theorem dX10_hill_103 : decode cX10_hill 103 = .ok (.iload_n 2, 1) := by decide +kernel
theorem dX10_hill_104 : decode cX10_hill 104 = .ok (.aaload, 1) := by decide +kernel
theorem dX10_hill_105 : decode cX10_hill 105 = .ok (.iconst 0, 1) := by decide +kernel
theorem dX10_hill_106 : decode cX10_hill 106 = .ok (.putfield 119, 3) := by decide +kernel
theorem dX10_hill_109 : decode cX10_hill 109 = .ok (.iinc 2 1, 3) := by decide +kernel
theorem dX10_hill_112 : decode cX10_hill 112 = .ok (.goto (-31), 3) := by decide +kernel
theorem dX10_hill_115 : decode cX10_hill 115 = .ok (.aload_n 0, 1) := by decide +kernel
theorem dX10_hill_116 : decode cX10_hill 116 = .ok (.getfield 19, 3) := by decide +kernel
theorem dX10_hill_119 : decode cX10_hill 119 = .ok (.getfield 123, 3) := by decide +kernel
theorem dX10_hill_122 : decode cX10_hill 122 = .ok (.ireturn, 1) := by decide +kernel
theorem dX10_fault_0 : decode cX10_fault 0 = .ok (.aload_n 0, 1) := by decide +kernel
theorem dX10_fault_1 : decode cX10_fault 1 = .ok (.getfield 12, 3) := by decide +kernel
theorem dX10_fault_4 : decode cX10_fault 4 = .ok (.getfield 126, 3) := by decide +kernel
theorem dX10_fault_7 : decode cX10_fault 7 = .ok (.ireturn, 1) := by decide +kernel
set_option maxRecDepth 20000 in
theorem ggX10_told_X9_praised : GoodIn wsX10_told wsX9_praised := goodIn_r _ [24, 25, 26, 27, 28, 29, 23, 30, 31, 32, 33, 34, 35, 36, 37, 38, 39, 40, 41, 42, 43, 44, 45, 46, 47, 48, 49, 50, 51, 52, 53, 54, 55, 56, 57, 58, 59, 60, 134, 135, 136, 137, 138, 100, 101, 102, 103, 104, 105, 106, 107, 108, 109, 139, 140, 118, 119, 120, 121, 122, 123] (by decide +kernel) (by decide +kernel)
set_option maxRecDepth 20000 in
theorem gX10_told_X9_praised : GoodIn wsX10_told (wsV RX10 147 RX9 yX9_praised wsX9_praised) := goodIn_app (goodIn_of _ (by decide +kernel)) ggX10_told_X9_praised
set_option maxRecDepth 20000 in
theorem ggX10_told_X9_silentPairs : GoodIn wsX10_told wsX9_silentPairs := goodIn_r _ [64, 25, 26, 65, 66, 67, 23, 68, 31, 32, 33, 34, 35, 36, 37, 38, 39, 40, 41, 42, 43, 44, 45, 46, 47, 48, 49, 50, 51, 52, 53, 54, 55, 56, 57, 58, 59, 60, 134, 135, 136, 137, 138, 100, 101, 102, 103, 104, 105, 106, 107, 108, 109, 139, 140, 118, 119, 120, 121, 122, 123] (by decide +kernel) (by decide +kernel)
set_option maxRecDepth 20000 in
theorem gX10_told_X9_silentPairs : GoodIn wsX10_told (wsV RX10 151 RX9 yX9_silentPairs wsX9_silentPairs) := goodIn_app (goodIn_of _ (by decide +kernel)) ggX10_told_X9_silentPairs
set_option maxRecDepth 20000 in
theorem ggX10_told_X9_cover : GoodIn wsX10_told wsX9_cover := goodIn_r _ [72, 25, 73, 74, 41, 75, 76, 77, 78, 23, 79, 80, 43, 44, 40, 42, 81, 82, 83, 84, 85, 86, 87, 88, 89, 134, 135, 136, 137, 138, 100, 101, 102, 103, 104, 105, 106, 107, 108, 109] (by decide +kernel) (by decide +kernel)
set_option maxRecDepth 20000 in
theorem gX10_told_X9_cover : GoodIn wsX10_told (wsV RX10 154 RX9 yX9_cover wsX9_cover) := goodIn_app (goodIn_of _ (by decide +kernel)) ggX10_told_X9_cover
theorem dX10_told_0 : decode cX10_told 0 = .ok (.iload_n 1, 1) := by decide +kernel
theorem dX10_told_1 : decode cX10_told 1 = .ok (.tableswitch 183 0 13 #[71, 79, 87, 95, 103, 111, 119, 127, 135, 143, 151, 159, 167, 175], 71) := by decide +kernel
theorem dX10_told_72 : decode cX10_told 72 = .ok (.aload_n 0, 1) := by decide +kernel
theorem dX10_told_73 : decode cX10_told 73 = .ok (.getfield 19, 3) := by decide +kernel
theorem dX10_told_76 : decode cX10_told 76 = .ok (.getfield 129, 3) := by decide +kernel
theorem dX10_told_79 : decode cX10_told 79 = .ok (.ireturn, 1) := by decide +kernel
theorem dX10_told_80 : decode cX10_told 80 = .ok (.aload_n 0, 1) := by decide +kernel
theorem dX10_told_81 : decode cX10_told 81 = .ok (.getfield 19, 3) := by decide +kernel
theorem dX10_told_84 : decode cX10_told 84 = .ok (.getfield 132, 3) := by decide +kernel
theorem dX10_told_87 : decode cX10_told 87 = .ok (.ireturn, 1) := by decide +kernel
theorem dX10_told_88 : decode cX10_told 88 = .ok (.aload_n 0, 1) := by decide +kernel
theorem dX10_told_89 : decode cX10_told 89 = .ok (.getfield 19, 3) := by decide +kernel
theorem dX10_told_92 : decode cX10_told 92 = .ok (.getfield 135, 3) := by decide +kernel
theorem dX10_told_95 : decode cX10_told 95 = .ok (.ireturn, 1) := by decide +kernel
theorem dX10_told_96 : decode cX10_told 96 = .ok (.aload_n 0, 1) := by decide +kernel
theorem dX10_told_97 : decode cX10_told 97 = .ok (.getfield 19, 3) := by decide +kernel
theorem dX10_told_100 : decode cX10_told 100 = .ok (.getfield 138, 3) := by decide +kernel
theorem dX10_told_103 : decode cX10_told 103 = .ok (.ireturn, 1) := by decide +kernel
theorem dX10_told_104 : decode cX10_told 104 = .ok (.aload_n 0, 1) := by decide +kernel
theorem dX10_told_105 : decode cX10_told 105 = .ok (.getfield 19, 3) := by decide +kernel
theorem dX10_told_108 : decode cX10_told 108 = .ok (.getfield 123, 3) := by decide +kernel
theorem dX10_told_111 : decode cX10_told 111 = .ok (.ireturn, 1) := by decide +kernel
theorem dX10_told_112 : decode cX10_told 112 = .ok (.aload_n 0, 1) := by decide +kernel
theorem dX10_told_113 : decode cX10_told 113 = .ok (.getfield 12, 3) := by decide +kernel
theorem dX10_told_116 : decode cX10_told 116 = .ok (.getfield 88, 3) := by decide +kernel
theorem dX10_told_119 : decode cX10_told 119 = .ok (.ireturn, 1) := by decide +kernel
theorem dX10_told_120 : decode cX10_told 120 = .ok (.aload_n 0, 1) := by decide +kernel
theorem dX10_told_121 : decode cX10_told 121 = .ok (.getfield 26, 3) := by decide +kernel
theorem dX10_told_124 : decode cX10_told 124 = .ok (.getfield 141, 3) := by decide +kernel
theorem dX10_told_127 : decode cX10_told 127 = .ok (.ireturn, 1) := by decide +kernel
theorem dX10_told_128 : decode cX10_told 128 = .ok (.aload_n 0, 1) := by decide +kernel
theorem dX10_told_129 : decode cX10_told 129 = .ok (.getfield 26, 3) := by decide +kernel
theorem dX10_told_132 : decode cX10_told 132 = .ok (.getfield 144, 3) := by decide +kernel
theorem dX10_told_135 : decode cX10_told 135 = .ok (.ireturn, 1) := by decide +kernel
theorem dX10_told_136 : decode cX10_told 136 = .ok (.aload_n 0, 1) := by decide +kernel
theorem dX10_told_137 : decode cX10_told 137 = .ok (.getfield 44, 3) := by decide +kernel
theorem dX10_told_140 : decode cX10_told 140 = .ok (.invokevirtual 147, 3) := by decide +kernel
theorem dX10_told_143 : decode cX10_told 143 = .ok (.ireturn, 1) := by decide +kernel
theorem dX10_told_144 : decode cX10_told 144 = .ok (.aload_n 0, 1) := by decide +kernel
theorem dX10_told_145 : decode cX10_told 145 = .ok (.getfield 44, 3) := by decide +kernel
theorem dX10_told_148 : decode cX10_told 148 = .ok (.invokevirtual 151, 3) := by decide +kernel
theorem dX10_told_151 : decode cX10_told 151 = .ok (.ireturn, 1) := by decide +kernel
theorem dX10_told_152 : decode cX10_told 152 = .ok (.aload_n 0, 1) := by decide +kernel
theorem dX10_told_153 : decode cX10_told 153 = .ok (.getfield 44, 3) := by decide +kernel
theorem dX10_told_156 : decode cX10_told 156 = .ok (.invokevirtual 154, 3) := by decide +kernel
theorem dX10_told_159 : decode cX10_told 159 = .ok (.ireturn, 1) := by decide +kernel
theorem dX10_told_160 : decode cX10_told 160 = .ok (.aload_n 0, 1) := by decide +kernel
theorem dX10_told_161 : decode cX10_told 161 = .ok (.getfield 58, 3) := by decide +kernel
theorem dX10_told_164 : decode cX10_told 164 = .ok (.getfield 114, 3) := by decide +kernel
theorem dX10_told_167 : decode cX10_told 167 = .ok (.ireturn, 1) := by decide +kernel
theorem dX10_told_168 : decode cX10_told 168 = .ok (.aload_n 0, 1) := by decide +kernel
theorem dX10_told_169 : decode cX10_told 169 = .ok (.getfield 65, 3) := by decide +kernel
theorem dX10_told_172 : decode cX10_told 172 = .ok (.getfield 115, 3) := by decide +kernel
theorem dX10_told_175 : decode cX10_told 175 = .ok (.ireturn, 1) := by decide +kernel
theorem dX10_told_176 : decode cX10_told 176 = .ok (.aload_n 0, 1) := by decide +kernel
theorem dX10_told_177 : decode cX10_told 177 = .ok (.getfield 51, 3) := by decide +kernel
theorem dX10_told_180 : decode cX10_told 180 = .ok (.getfield 157, 3) := by decide +kernel
theorem dX10_told_183 : decode cX10_told 183 = .ok (.ireturn, 1) := by decide +kernel
theorem dX10_told_184 : decode cX10_told 184 = .ok (.ldc 87, 2) := by decide +kernel
theorem dX10_told_186 : decode cX10_told 186 = .ok (.ireturn, 1) := by decide +kernel
set_option maxRecDepth 20000 in
theorem ggX10_room_X2_isRoom : GoodIn wsX10_room wsX2_isRoom := goodIn_r _ [11, 12, 41, 42, 43, 44, 45, 46, 47, 48, 49, 50] (by decide +kernel) (by decide +kernel)
set_option maxRecDepth 20000 in
theorem gX10_room_X2_isRoom : GoodIn wsX10_room (wsV RX10 158 RX2 yX2_isRoom wsX2_isRoom) := goodIn_app (goodIn_of _ (by decide +kernel)) ggX10_room_X2_isRoom
set_option maxRecDepth 20000 in
theorem ggX10_room_X10_bit : GoodIn wsX10_room wsX10_bit := goodIn_r _ [16] (by decide +kernel) (by decide +kernel)
set_option maxRecDepth 20000 in
theorem gX10_room_X10_bit : GoodIn wsX10_room (va_wsS RX10 163 yX10_bit wsX10_bit) := goodIn_app (goodIn_of _ (by decide +kernel)) ggX10_room_X10_bit
set_option maxRecDepth 20000 in
theorem ggX10_room_X4_personsIn : GoodIn wsX10_room wsX4_personsIn := goodIn_r _ [21, 22, 23, 24, 25, 26, 15, 27, 28, 29, 14, 16, 51, 52, 41, 42, 43, 44, 45, 46, 47, 48, 49, 50, 53, 54, 55, 56, 57, 58] (by decide +kernel) (by decide +kernel)
set_option maxRecDepth 20000 in
theorem gX10_room_X4_personsIn : GoodIn wsX10_room (wsV RX10 166 RX4 yX4_personsIn wsX4_personsIn) := goodIn_app (goodIn_of _ (by decide +kernel)) ggX10_room_X4_personsIn
set_option maxRecDepth 20000 in
theorem ggX10_room_X10_at : GoodIn wsX10_room wsX10_at := goodIn_r _ [27] (by decide +kernel) (by decide +kernel)
set_option maxRecDepth 20000 in
theorem gX10_room_X10_at : GoodIn wsX10_room (va_wsS RX10 173 yX10_at wsX10_at) := goodIn_app (goodIn_of _ (by decide +kernel)) ggX10_room_X10_at
theorem dX10_room_0 : decode cX10_room 0 = .ok (.aload_n 0, 1) := by decide +kernel
theorem dX10_room_1 : decode cX10_room 1 = .ok (.getfield 19, 3) := by decide +kernel
theorem dX10_room_4 : decode cX10_room 4 = .ok (.iload_n 1, 1) := by decide +kernel
theorem dX10_room_5 : decode cX10_room 5 = .ok (.invokevirtual 158, 3) := by decide +kernel
theorem dX10_room_8 : decode cX10_room 8 = .ok (.ifCond .ne 6, 3) := by decide +kernel
theorem dX10_room_11 : decode cX10_room 11 = .ok (.ldc 162, 2) := by decide +kernel
theorem dX10_room_13 : decode cX10_room 13 = .ok (.ireturn, 1) := by decide +kernel
theorem dX10_room_14 : decode cX10_room 14 = .ok (.iload_n 2, 1) := by decide +kernel
theorem dX10_room_15 : decode cX10_room 15 = .ok (.tableswitch 61 0 2 #[25, 37, 49], 25) := by decide +kernel
theorem dX10_room_40 : decode cX10_room 40 = .ok (.aload_n 0, 1) := by decide +kernel
theorem dX10_room_41 : decode cX10_room 41 = .ok (.getfield 35, 3) := by decide +kernel
theorem dX10_room_44 : decode cX10_room 44 = .ok (.iload_n 1, 1) := by decide +kernel
theorem dX10_room_45 : decode cX10_room 45 = .ok (.invokestatic 163, 3) := by decide +kernel
theorem dX10_room_48 : decode cX10_room 48 = .ok (.invokevirtual 166, 3) := by decide +kernel
theorem dX10_room_51 : decode cX10_room 51 = .ok (.ireturn, 1) := by decide +kernel
theorem dX10_room_52 : decode cX10_room 52 = .ok (.aload_n 0, 1) := by decide +kernel
theorem dX10_room_53 : decode cX10_room 53 = .ok (.getfield 19, 3) := by decide +kernel
theorem dX10_room_56 : decode cX10_room 56 = .ok (.getfield 169, 3) := by decide +kernel
theorem dX10_room_59 : decode cX10_room 59 = .ok (.iload_n 1, 1) := by decide +kernel
theorem dX10_room_60 : decode cX10_room 60 = .ok (.invokestatic 173, 3) := by decide +kernel
theorem dX10_room_63 : decode cX10_room 63 = .ok (.ireturn, 1) := by decide +kernel
theorem dX10_room_64 : decode cX10_room 64 = .ok (.aload_n 0, 1) := by decide +kernel
theorem dX10_room_65 : decode cX10_room 65 = .ok (.getfield 19, 3) := by decide +kernel
theorem dX10_room_68 : decode cX10_room 68 = .ok (.getfield 177, 3) := by decide +kernel
theorem dX10_room_71 : decode cX10_room 71 = .ok (.iload_n 1, 1) := by decide +kernel
theorem dX10_room_72 : decode cX10_room 72 = .ok (.invokestatic 173, 3) := by decide +kernel
theorem dX10_room_75 : decode cX10_room 75 = .ok (.ireturn, 1) := by decide +kernel
theorem dX10_room_76 : decode cX10_room 76 = .ok (.ldc 87, 2) := by decide +kernel
theorem dX10_room_78 : decode cX10_room 78 = .ok (.ireturn, 1) := by decide +kernel
set_option maxRecDepth 20000 in
theorem ggX10_person_X2_isPerson : GoodIn wsX10_person wsX2_isPerson := goodIn_r _ [14, 15, 33, 34, 35, 36, 37, 38, 39, 40, 41, 42] (by decide +kernel) (by decide +kernel)
set_option maxRecDepth 20000 in
theorem gX10_person_X2_isPerson : GoodIn wsX10_person (wsV RX10 180 RX2 yX2_isPerson wsX2_isPerson) := goodIn_app (goodIn_of _ (by decide +kernel)) ggX10_person_X2_isPerson
set_option maxRecDepth 20000 in
theorem ggX10_person_X10_at : GoodIn wsX10_person wsX10_at := goodIn_r _ [19] (by decide +kernel) (by decide +kernel)
set_option maxRecDepth 20000 in
theorem gX10_person_X10_at : GoodIn wsX10_person (va_wsS RX10 173 yX10_at wsX10_at) := goodIn_app (goodIn_of _ (by decide +kernel)) ggX10_person_X10_at
set_option maxRecDepth 20000 in
theorem ggX10_person_X10_has : GoodIn wsX10_person wsX10_has := goodIn_r _ [22] (by decide +kernel) (by decide +kernel)
set_option maxRecDepth 20000 in
theorem gX10_person_X10_has : GoodIn wsX10_person (va_wsS RX10 194 yX10_has wsX10_has) := goodIn_app (goodIn_of _ (by decide +kernel)) ggX10_person_X10_has
theorem dX10_person_0 : decode cX10_person 0 = .ok (.aload_n 0, 1) := by decide +kernel
theorem dX10_person_1 : decode cX10_person 1 = .ok (.getfield 19, 3) := by decide +kernel
theorem dX10_person_4 : decode cX10_person 4 = .ok (.iload_n 1, 1) := by decide +kernel
theorem dX10_person_5 : decode cX10_person 5 = .ok (.invokevirtual 180, 3) := by decide +kernel
theorem dX10_person_8 : decode cX10_person 8 = .ok (.ifCond .ne 6, 3) := by decide +kernel
theorem dX10_person_11 : decode cX10_person 11 = .ok (.ldc 162, 2) := by decide +kernel
theorem dX10_person_13 : decode cX10_person 13 = .ok (.ireturn, 1) := by decide +kernel
theorem dX10_person_14 : decode cX10_person 14 = .ok (.iload_n 2, 1) := by decide +kernel
theorem dX10_person_15 : decode cX10_person 15 = .ok (.tableswitch 105 0 4 #[33, 45, 57, 73, 85], 33) := by decide +kernel
theorem dX10_person_48 : decode cX10_person 48 = .ok (.aload_n 0, 1) := by decide +kernel
theorem dX10_person_49 : decode cX10_person 49 = .ok (.getfield 19, 3) := by decide +kernel
theorem dX10_person_52 : decode cX10_person 52 = .ok (.getfield 183, 3) := by decide +kernel
theorem dX10_person_55 : decode cX10_person 55 = .ok (.iload_n 1, 1) := by decide +kernel
theorem dX10_person_56 : decode cX10_person 56 = .ok (.invokestatic 173, 3) := by decide +kernel
theorem dX10_person_59 : decode cX10_person 59 = .ok (.ireturn, 1) := by decide +kernel
theorem dX10_person_60 : decode cX10_person 60 = .ok (.aload_n 0, 1) := by decide +kernel
theorem dX10_person_61 : decode cX10_person 61 = .ok (.getfield 26, 3) := by decide +kernel
theorem dX10_person_64 : decode cX10_person 64 = .ok (.getfield 186, 3) := by decide +kernel
theorem dX10_person_67 : decode cX10_person 67 = .ok (.iload_n 1, 1) := by decide +kernel
theorem dX10_person_68 : decode cX10_person 68 = .ok (.invokestatic 173, 3) := by decide +kernel
theorem dX10_person_71 : decode cX10_person 71 = .ok (.ireturn, 1) := by decide +kernel
theorem dX10_person_72 : decode cX10_person 72 = .ok (.aload_n 0, 1) := by decide +kernel
theorem dX10_person_73 : decode cX10_person 73 = .ok (.getfield 26, 3) := by decide +kernel
theorem dX10_person_76 : decode cX10_person 76 = .ok (.getfield 188, 3) := by decide +kernel
theorem dX10_person_79 : decode cX10_person 79 = .ok (.iload_n 1, 1) := by decide +kernel
theorem dX10_person_80 : decode cX10_person 80 = .ok (.invokestatic 173, 3) := by decide +kernel
theorem dX10_person_83 : decode cX10_person 83 = .ok (.sipush 10000, 3) := by decide +kernel
theorem dX10_person_86 : decode cX10_person 86 = .ok (.iadd, 1) := by decide +kernel
theorem dX10_person_87 : decode cX10_person 87 = .ok (.ireturn, 1) := by decide +kernel
theorem dX10_person_88 : decode cX10_person 88 = .ok (.aload_n 0, 1) := by decide +kernel
theorem dX10_person_89 : decode cX10_person 89 = .ok (.getfield 26, 3) := by decide +kernel
theorem dX10_person_92 : decode cX10_person 92 = .ok (.getfield 191, 3) := by decide +kernel
theorem dX10_person_95 : decode cX10_person 95 = .ok (.iload_n 1, 1) := by decide +kernel
theorem dX10_person_96 : decode cX10_person 96 = .ok (.invokestatic 173, 3) := by decide +kernel
theorem dX10_person_99 : decode cX10_person 99 = .ok (.ireturn, 1) := by decide +kernel
theorem dX10_person_100 : decode cX10_person 100 = .ok (.aload_n 0, 1) := by decide +kernel
theorem dX10_person_101 : decode cX10_person 101 = .ok (.getfield 26, 3) := by decide +kernel
theorem dX10_person_104 : decode cX10_person 104 = .ok (.getfield 144, 3) := by decide +kernel
theorem dX10_person_107 : decode cX10_person 107 = .ok (.iload_n 1, 1) := by decide +kernel
theorem dX10_person_108 : decode cX10_person 108 = .ok (.invokestatic 194, 3) := by decide +kernel
theorem dX10_person_111 : decode cX10_person 111 = .ok (.ifCond .eq 7, 3) := by decide +kernel
theorem dX10_person_114 : decode cX10_person 114 = .ok (.iconst 1, 1) := by decide +kernel
theorem dX10_person_115 : decode cX10_person 115 = .ok (.goto 4, 3) := by decide +kernel
theorem dX10_person_118 : decode cX10_person 118 = .ok (.iconst 0, 1) := by decide +kernel
theorem dX10_person_119 : decode cX10_person 119 = .ok (.ireturn, 1) := by decide +kernel
theorem dX10_person_120 : decode cX10_person 120 = .ok (.ldc 87, 2) := by decide +kernel
theorem dX10_person_122 : decode cX10_person 122 = .ok (.ireturn, 1) := by decide +kernel
set_option maxRecDepth 20000 in
theorem ggX10_liking_X2_isPair : GoodIn wsX10_liking wsX2_isPair := goodIn_r _ [9, 10, 11, 12, 8, 13, 14, 38, 39, 40, 41, 42, 43, 44, 45, 46, 47] (by decide +kernel) (by decide +kernel)
set_option maxRecDepth 20000 in
theorem gX10_liking_X2_isPair : GoodIn wsX10_liking (wsV RX10 198 RX2 yX2_isPair wsX2_isPair) := goodIn_app (goodIn_of _ (by decide +kernel)) ggX10_liking_X2_isPair
set_option maxRecDepth 20000 in
theorem ggX10_liking_X10_pairIndex : GoodIn wsX10_liking wsX10_pairIndex := goodIn_r _ [18] (by decide +kernel) (by decide +kernel)
set_option maxRecDepth 20000 in
theorem gX10_liking_X10_pairIndex : GoodIn wsX10_liking (va_wsS RX10 204 yX10_pairIndex wsX10_pairIndex) := goodIn_app (goodIn_of _ (by decide +kernel)) ggX10_liking_X10_pairIndex
set_option maxRecDepth 20000 in
theorem ggX10_liking_X10_at : GoodIn wsX10_liking wsX10_at := goodIn_r _ [21] (by decide +kernel) (by decide +kernel)
set_option maxRecDepth 20000 in
theorem gX10_liking_X10_at : GoodIn wsX10_liking (va_wsS RX10 173 yX10_at wsX10_at) := goodIn_app (goodIn_of _ (by decide +kernel)) ggX10_liking_X10_at
theorem dX10_liking_0 : decode cX10_liking 0 = .ok (.aload_n 0, 1) := by decide +kernel
theorem dX10_liking_1 : decode cX10_liking 1 = .ok (.getfield 19, 3) := by decide +kernel
theorem dX10_liking_4 : decode cX10_liking 4 = .ok (.iload_n 1, 1) := by decide +kernel
theorem dX10_liking_5 : decode cX10_liking 5 = .ok (.iload_n 2, 1) := by decide +kernel
theorem dX10_liking_6 : decode cX10_liking 6 = .ok (.invokevirtual 198, 3) := by decide +kernel
theorem dX10_liking_9 : decode cX10_liking 9 = .ok (.ifCond .eq 21, 3) := by decide +kernel
theorem dX10_liking_12 : decode cX10_liking 12 = .ok (.aload_n 0, 1) := by decide +kernel
theorem dX10_liking_13 : decode cX10_liking 13 = .ok (.getfield 26, 3) := by decide +kernel
theorem dX10_liking_16 : decode cX10_liking 16 = .ok (.getfield 201, 3) := by decide +kernel
theorem dX10_liking_19 : decode cX10_liking 19 = .ok (.iload_n 1, 1) := by decide +kernel
theorem dX10_liking_20 : decode cX10_liking 20 = .ok (.iload_n 2, 1) := by decide +kernel
theorem dX10_liking_21 : decode cX10_liking 21 = .ok (.invokestatic 204, 3) := by decide +kernel
theorem dX10_liking_24 : decode cX10_liking 24 = .ok (.invokestatic 173, 3) := by decide +kernel
theorem dX10_liking_27 : decode cX10_liking 27 = .ok (.goto 5, 3) := by decide +kernel
theorem dX10_liking_30 : decode cX10_liking 30 = .ok (.ldc 162, 2) := by decide +kernel
theorem dX10_liking_32 : decode cX10_liking 32 = .ok (.ireturn, 1) := by decide +kernel
set_option maxRecDepth 20000 in
theorem ggX10_said_X2_isPair : GoodIn wsX10_said wsX2_isPair := goodIn_r _ [11, 12, 13, 14, 10, 15, 16, 64, 65, 66, 67, 68, 69, 70, 71, 72, 73] (by decide +kernel) (by decide +kernel)
set_option maxRecDepth 20000 in
theorem gX10_said_X2_isPair : GoodIn wsX10_said (wsV RX10 198 RX2 yX2_isPair wsX2_isPair) := goodIn_app (goodIn_of _ (by decide +kernel)) ggX10_said_X2_isPair
set_option maxRecDepth 20000 in
theorem ggX10_said_X4_saysNow : GoodIn wsX10_said wsX4_saysNow := goodIn_r _ [21, 22, 23, 24, 25, 26, 27, 28, 29, 30, 31, 32, 20, 33, 34, 35, 36, 37, 38, 39, 40, 41, 42, 43, 44, 45, 74, 75, 58, 59, 60, 61, 62, 63, 64, 65, 66, 67, 68, 69, 70, 71, 72, 73] (by decide +kernel) (by decide +kernel)
set_option maxRecDepth 20000 in
theorem gX10_said_X4_saysNow : GoodIn wsX10_said (wsV RX10 208 RX4 yX4_saysNow wsX4_saysNow) := goodIn_app (goodIn_of _ (by decide +kernel)) ggX10_said_X4_saysNow
set_option maxRecDepth 20000 in
theorem ggX10_said_X10_at : GoodIn wsX10_said wsX10_at := goodIn_r _ [27] (by decide +kernel) (by decide +kernel)
set_option maxRecDepth 20000 in
theorem gX10_said_X10_at : GoodIn wsX10_said (va_wsS RX10 173 yX10_at wsX10_at) := goodIn_app (goodIn_of _ (by decide +kernel)) ggX10_said_X10_at
set_option maxRecDepth 20000 in
theorem ggX10_said_X4_reaches : GoodIn wsX10_said wsX4_reaches := goodIn_r _ [40, 34, 41, 25, 26, 27, 28, 29, 74, 75, 64, 65, 66, 67, 68, 69, 70, 71, 72, 73] (by decide +kernel) (by decide +kernel)
set_option maxRecDepth 20000 in
theorem gX10_said_X4_reaches : GoodIn wsX10_said (wsV RX10 211 RX4 yX4_reaches wsX4_reaches) := goodIn_app (goodIn_of _ (by decide +kernel)) ggX10_said_X4_reaches
theorem dX10_said_0 : decode cX10_said 0 = .ok (.aload_n 0, 1) := by decide +kernel
theorem dX10_said_1 : decode cX10_said 1 = .ok (.getfield 19, 3) := by decide +kernel
theorem dX10_said_4 : decode cX10_said 4 = .ok (.iload_n 1, 1) := by decide +kernel
theorem dX10_said_5 : decode cX10_said 5 = .ok (.iload_n 2, 1) := by decide +kernel
theorem dX10_said_6 : decode cX10_said 6 = .ok (.invokevirtual 198, 3) := by decide +kernel
theorem dX10_said_9 : decode cX10_said 9 = .ok (.ifCond .ne 6, 3) := by decide +kernel
theorem dX10_said_12 : decode cX10_said 12 = .ok (.ldc 162, 2) := by decide +kernel
theorem dX10_said_14 : decode cX10_said 14 = .ok (.ireturn, 1) := by decide +kernel
theorem dX10_said_15 : decode cX10_said 15 = .ok (.iload_n 3, 1) := by decide +kernel
theorem dX10_said_16 : decode cX10_said 16 = .ok (.lookupswitch 79 #[(0, 28), (1, 41)], 28) := by decide +kernel
theorem dX10_said_44 : decode cX10_said 44 = .ok (.aload_n 0, 1) := by decide +kernel
theorem dX10_said_45 : decode cX10_said 45 = .ok (.getfield 35, 3) := by decide +kernel
theorem dX10_said_48 : decode cX10_said 48 = .ok (.iload_n 1, 1) := by decide +kernel
theorem dX10_said_49 : decode cX10_said 49 = .ok (.iload_n 2, 1) := by decide +kernel
theorem dX10_said_50 : decode cX10_said 50 = .ok (.invokevirtual 208, 3) := by decide +kernel
theorem dX10_said_53 : decode cX10_said 53 = .ok (.bipush 100, 2) := by decide +kernel
theorem dX10_said_55 : decode cX10_said 55 = .ok (.iadd, 1) := by decide +kernel
theorem dX10_said_56 : decode cX10_said 56 = .ok (.ireturn, 1) := by decide +kernel
theorem dX10_said_57 : decode cX10_said 57 = .ok (.aload_n 0, 1) := by decide +kernel
theorem dX10_said_58 : decode cX10_said 58 = .ok (.getfield 35, 3) := by decide +kernel
theorem dX10_said_61 : decode cX10_said 61 = .ok (.aload_n 0, 1) := by decide +kernel
theorem dX10_said_62 : decode cX10_said 62 = .ok (.getfield 26, 3) := by decide +kernel
theorem dX10_said_65 : decode cX10_said 65 = .ok (.getfield 186, 3) := by decide +kernel
theorem dX10_said_68 : decode cX10_said 68 = .ok (.iload_n 1, 1) := by decide +kernel
theorem dX10_said_69 : decode cX10_said 69 = .ok (.invokestatic 173, 3) := by decide +kernel
theorem dX10_said_72 : decode cX10_said 72 = .ok (.aload_n 0, 1) := by decide +kernel
theorem dX10_said_73 : decode cX10_said 73 = .ok (.getfield 26, 3) := by decide +kernel
theorem dX10_said_76 : decode cX10_said 76 = .ok (.getfield 186, 3) := by decide +kernel
theorem dX10_said_79 : decode cX10_said 79 = .ok (.iload_n 2, 1) := by decide +kernel
theorem dX10_said_80 : decode cX10_said 80 = .ok (.invokestatic 173, 3) := by decide +kernel
theorem dX10_said_83 : decode cX10_said 83 = .ok (.invokevirtual 211, 3) := by decide +kernel
theorem dX10_said_86 : decode cX10_said 86 = .ok (.ifCond .eq 7, 3) := by decide +kernel
theorem dX10_said_89 : decode cX10_said 89 = .ok (.iconst 1, 1) := by decide +kernel
theorem dX10_said_90 : decode cX10_said 90 = .ok (.goto 4, 3) := by decide +kernel
theorem dX10_said_93 : decode cX10_said 93 = .ok (.iconst 0, 1) := by decide +kernel
theorem dX10_said_94 : decode cX10_said 94 = .ok (.ireturn, 1) := by decide +kernel
theorem dX10_said_95 : decode cX10_said 95 = .ok (.ldc 87, 2) := by decide +kernel
theorem dX10_said_97 : decode cX10_said 97 = .ok (.ireturn, 1) := by decide +kernel
set_option maxRecDepth 20000 in
theorem ggX10_hour_X10_refusalOfHours : GoodIn wsX10_hour wsX10_refusalOfHours := goodIn_r _ [9, 10, 11, 12, 2, 4, 13, 14, 15, 8, 16, 17, 18, 19, 20, 21, 22, 113, 114, 115, 116, 117, 118, 119, 120, 121, 122, 123, 124, 125, 126, 127, 128, 129, 130, 131, 132, 133, 134, 135, 136, 137, 138] (by decide +kernel) (by decide +kernel)
set_option maxRecDepth 20000 in
theorem gX10_hour_X10_refusalOfHours : GoodIn wsX10_hour (wsV RX10 214 RX10 yX10_refusalOfHours wsX10_refusalOfHours) := goodIn_app (goodIn_of _ (by decide +kernel)) ggX10_hour_X10_refusalOfHours
set_option maxRecDepth 20000 in
theorem ggX10_hour_X6_remember : GoodIn wsX10_hour wsX6_remember := goodIn_r _ [27, 28, 29, 30, 31, 32, 33, 34, 35, 36, 26, 37, 38, 39, 40, 41, 42, 43, 44, 45, 46, 47, 48, 49, 50, 8, 51, 52, 53, 54, 55, 56, 139, 140, 141, 123, 124, 125, 126, 127, 128] (by decide +kernel) (by decide +kernel)
set_option maxRecDepth 20000 in
theorem gX10_hour_X6_remember : GoodIn wsX10_hour (wsV RX10 217 RX6 yX6_remember wsX6_remember) := goodIn_app (goodIn_of _ (by decide +kernel)) ggX10_hour_X6_remember
set_option maxRecDepth 20000 in
theorem ggX10_hour_X4_passHour : GoodIn wsX10_hour wsX4_passHour := goodIn_r _ [61, 62, 63, 64, 65, 66, 67, 68, 69, 70, 71, 72, 73, 60, 74, 75, 76, 77, 78, 79, 8, 80, 81, 82, 83, 84, 85, 86, 87, 88, 89, 90, 91, 92, 93, 94, 95, 96, 97, 98, 99, 100, 101, 102, 103, 104, 105, 106, 107, 52, 31, 32, 33, 108, 109, 110, 111, 112, 142, 143, 129, 130, 131, 132, 133, 134, 135, 136, 137, 138, 123, 124, 125, 126, 127, 128] (by decide +kernel) (by decide +kernel)
set_option maxRecDepth 20000 in
theorem gX10_hour_X4_passHour : GoodIn wsX10_hour (wsV RX10 221 RX4 yX4_passHour wsX4_passHour) := goodIn_app (goodIn_of _ (by decide +kernel)) ggX10_hour_X4_passHour
theorem dX10_hour_0 : decode cX10_hour 0 = .ok (.aload_n 0, 1) := by decide +kernel
theorem dX10_hour_1 : decode cX10_hour 1 = .ok (.iload_n 1, 1) := by decide +kernel
theorem dX10_hour_2 : decode cX10_hour 2 = .ok (.invokevirtual 214, 3) := by decide +kernel
theorem dX10_hour_5 : decode cX10_hour 5 = .ok (.istore_n 2, 1) := by decide +kernel
theorem dX10_hour_6 : decode cX10_hour 6 = .ok (.iload_n 2, 1) := by decide +kernel
theorem dX10_hour_7 : decode cX10_hour 7 = .ok (.ifCond .eq 5, 3) := by decide +kernel
theorem dX10_hour_10 : decode cX10_hour 10 = .ok (.iload_n 2, 1) := by decide +kernel
theorem dX10_hour_11 : decode cX10_hour 11 = .ok (.ireturn, 1) := by decide +kernel
theorem dX10_hour_12 : decode cX10_hour 12 = .ok (.aload_n 0, 1) := by decide +kernel
theorem dX10_hour_13 : decode cX10_hour 13 = .ok (.getfield 51, 3) := by decide +kernel
theorem dX10_hour_16 : decode cX10_hour 16 = .ok (.aload_n 0, 1) := by decide +kernel
theorem dX10_hour_17 : decode cX10_hour 17 = .ok (.getfield 26, 3) := by decide +kernel
theorem dX10_hour_20 : decode cX10_hour 20 = .ok (.invokevirtual 217, 3) := by decide +kernel
theorem dX10_hour_23 : decode cX10_hour 23 = .ok (.iconst 0, 1) := by decide +kernel
theorem dX10_hour_24 : decode cX10_hour 24 = .ok (.istore_n 3, 1) := by decide +kernel
theorem dX10_hour_25 : decode cX10_hour 25 = .ok (.iload_n 3, 1) := by decide +kernel
theorem dX10_hour_26 : decode cX10_hour 26 = .ok (.iload_n 1, 1) := by decide +kernel
theorem dX10_hour_27 : decode cX10_hour 27 = .ok (.if_icmp .ge 16, 3) := by decide +kernel
theorem dX10_hour_30 : decode cX10_hour 30 = .ok (.aload_n 0, 1) := by decide +kernel
theorem dX10_hour_31 : decode cX10_hour 31 = .ok (.getfield 35, 3) := by decide +kernel
theorem dX10_hour_34 : decode cX10_hour 34 = .ok (.invokevirtual 221, 3) := by decide +kernel
theorem dX10_hour_37 : decode cX10_hour 37 = .ok (.iinc 3 1, 3) := by decide +kernel
theorem dX10_hour_40 : decode cX10_hour 40 = .ok (.goto (-15), 3) := by decide +kernel
theorem dX10_hour_43 : decode cX10_hour 43 = .ok (.aload_n 0, 1) := by decide +kernel
theorem dX10_hour_44 : decode cX10_hour 44 = .ok (.getfield 26, 3) := by decide +kernel
theorem dX10_hour_47 : decode cX10_hour 47 = .ok (.getfield 141, 3) := by decide +kernel
theorem dX10_hour_50 : decode cX10_hour 50 = .ok (.ireturn, 1) := by decide +kernel
set_option maxRecDepth 20000 in
theorem ggX10_go_X2_isPerson : GoodIn wsX10_go wsX2_isPerson := goodIn_r _ [11, 12, 82, 83, 84, 85, 86, 87, 88, 89, 90, 91] (by decide +kernel) (by decide +kernel)
set_option maxRecDepth 20000 in
theorem gX10_go_X2_isPerson : GoodIn wsX10_go (wsV RX10 180 RX2 yX2_isPerson wsX2_isPerson) := goodIn_app (goodIn_of _ (by decide +kernel)) ggX10_go_X2_isPerson
set_option maxRecDepth 20000 in
theorem ggX10_go_X2_isRoom : GoodIn wsX10_go wsX2_isRoom := goodIn_r _ [16, 17, 82, 83, 84, 85, 86, 87, 88, 89, 90, 91] (by decide +kernel) (by decide +kernel)
set_option maxRecDepth 20000 in
theorem gX10_go_X2_isRoom : GoodIn wsX10_go (wsV RX10 158 RX2 yX2_isRoom wsX2_isRoom) := goodIn_app (goodIn_of _ (by decide +kernel)) ggX10_go_X2_isRoom
set_option maxRecDepth 20000 in
theorem ggX10_go_X10_at : GoodIn wsX10_go wsX10_at := goodIn_r _ [21] (by decide +kernel) (by decide +kernel)
set_option maxRecDepth 20000 in
theorem gX10_go_X10_at : GoodIn wsX10_go (va_wsS RX10 173 yX10_at wsX10_at) := goodIn_app (goodIn_of _ (by decide +kernel)) ggX10_go_X10_at
set_option maxRecDepth 20000 in
theorem ggX10_go_X2_isWay : GoodIn wsX10_go wsX2_isWay := goodIn_r _ [25, 26, 19, 20, 21, 27, 28, 82, 83, 84, 85, 86, 87, 88, 89, 90, 91] (by decide +kernel) (by decide +kernel)
set_option maxRecDepth 20000 in
theorem gX10_go_X2_isWay : GoodIn wsX10_go (wsV RX10 224 RX2 yX2_isWay wsX2_isWay) := goodIn_app (goodIn_of _ (by decide +kernel)) ggX10_go_X2_isWay
set_option maxRecDepth 20000 in
theorem ggX10_go_X6_remember : GoodIn wsX10_go wsX6_remember := goodIn_r _ [33, 34, 35, 36, 37, 38, 39, 40, 41, 42, 32, 43, 44, 45, 46, 47, 48, 49, 50, 51, 52, 53, 54, 55, 56, 20, 57, 58, 59, 60, 61, 62, 92, 93, 94, 76, 77, 78, 79, 80, 81] (by decide +kernel) (by decide +kernel)
set_option maxRecDepth 20000 in
theorem gX10_go_X6_remember : GoodIn wsX10_go (wsV RX10 217 RX6 yX6_remember wsX6_remember) := goodIn_app (goodIn_of _ (by decide +kernel)) ggX10_go_X6_remember
set_option maxRecDepth 20000 in
theorem ggX10_go_X10_put : GoodIn wsX10_go wsX10_put := goodIn_r _ [65] (by decide +kernel) (by decide +kernel)
set_option maxRecDepth 20000 in
theorem gX10_go_X10_put : GoodIn wsX10_go (va_wsS RX10 228 yX10_put wsX10_put) := goodIn_app (goodIn_of _ (by decide +kernel)) ggX10_go_X10_put
theorem dX10_go_0 : decode cX10_go 0 = .ok (.aload_n 0, 1) := by decide +kernel
theorem dX10_go_1 : decode cX10_go 1 = .ok (.getfield 19, 3) := by decide +kernel
theorem dX10_go_4 : decode cX10_go 4 = .ok (.iload_n 1, 1) := by decide +kernel
theorem dX10_go_5 : decode cX10_go 5 = .ok (.invokevirtual 180, 3) := by decide +kernel
theorem dX10_go_8 : decode cX10_go 8 = .ok (.ifCond .eq 14, 3) := by decide +kernel
theorem dX10_go_11 : decode cX10_go 11 = .ok (.aload_n 0, 1) := by decide +kernel
theorem dX10_go_12 : decode cX10_go 12 = .ok (.getfield 19, 3) := by decide +kernel
theorem dX10_go_15 : decode cX10_go 15 = .ok (.iload_n 2, 1) := by decide +kernel
theorem dX10_go_16 : decode cX10_go 16 = .ok (.invokevirtual 158, 3) := by decide +kernel
theorem dX10_go_19 : decode cX10_go 19 = .ok (.ifCond .ne 6, 3) := by decide +kernel
theorem dX10_go_22 : decode cX10_go 22 = .ok (.ldc 162, 2) := by decide +kernel
theorem dX10_go_24 : decode cX10_go 24 = .ok (.ireturn, 1) := by decide +kernel
theorem dX10_go_25 : decode cX10_go 25 = .ok (.aload_n 0, 1) := by decide +kernel
theorem dX10_go_26 : decode cX10_go 26 = .ok (.getfield 26, 3) := by decide +kernel
theorem dX10_go_29 : decode cX10_go 29 = .ok (.getfield 186, 3) := by decide +kernel
theorem dX10_go_32 : decode cX10_go 32 = .ok (.iload_n 1, 1) := by decide +kernel
theorem dX10_go_33 : decode cX10_go 33 = .ok (.invokestatic 173, 3) := by decide +kernel
theorem dX10_go_36 : decode cX10_go 36 = .ok (.istore_n 3, 1) := by decide +kernel
theorem dX10_go_37 : decode cX10_go 37 = .ok (.aload_n 0, 1) := by decide +kernel
theorem dX10_go_38 : decode cX10_go 38 = .ok (.getfield 19, 3) := by decide +kernel
theorem dX10_go_41 : decode cX10_go 41 = .ok (.iload_n 3, 1) := by decide +kernel
theorem dX10_go_42 : decode cX10_go 42 = .ok (.iload_n 2, 1) := by decide +kernel
theorem dX10_go_43 : decode cX10_go 43 = .ok (.invokevirtual 224, 3) := by decide +kernel
theorem dX10_go_46 : decode cX10_go 46 = .ok (.ifCond .ne 6, 3) := by decide +kernel
theorem dX10_go_49 : decode cX10_go 49 = .ok (.ldc 227, 2) := by decide +kernel
theorem dX10_go_51 : decode cX10_go 51 = .ok (.ireturn, 1) := by decide +kernel
theorem dX10_go_52 : decode cX10_go 52 = .ok (.aload_n 0, 1) := by decide +kernel
theorem dX10_go_53 : decode cX10_go 53 = .ok (.getfield 51, 3) := by decide +kernel
theorem dX10_go_56 : decode cX10_go 56 = .ok (.aload_n 0, 1) := by decide +kernel
theorem dX10_go_57 : decode cX10_go 57 = .ok (.getfield 26, 3) := by decide +kernel
theorem dX10_go_60 : decode cX10_go 60 = .ok (.invokevirtual 217, 3) := by decide +kernel
theorem dX10_go_63 : decode cX10_go 63 = .ok (.aload_n 0, 1) := by decide +kernel
theorem dX10_go_64 : decode cX10_go 64 = .ok (.getfield 26, 3) := by decide +kernel
theorem dX10_go_67 : decode cX10_go 67 = .ok (.getfield 186, 3) := by decide +kernel
theorem dX10_go_70 : decode cX10_go 70 = .ok (.iload_n 1, 1) := by decide +kernel
theorem dX10_go_71 : decode cX10_go 71 = .ok (.iload_n 2, 1) := by decide +kernel
theorem dX10_go_72 : decode cX10_go 72 = .ok (.invokestatic 228, 3) := by decide +kernel
theorem dX10_go_75 : decode cX10_go 75 = .ok (.iload_n 3, 1) := by decide +kernel
theorem dX10_go_76 : decode cX10_go 76 = .ok (.ireturn, 1) := by decide +kernel
set_option maxRecDepth 20000 in
theorem ggX10_cough_X2_isPerson : GoodIn wsX10_cough wsX2_isPerson := goodIn_r _ [11, 12, 70, 71, 72, 73, 74, 75, 76, 77, 78, 79] (by decide +kernel) (by decide +kernel)
set_option maxRecDepth 20000 in
theorem gX10_cough_X2_isPerson : GoodIn wsX10_cough (wsV RX10 180 RX2 yX2_isPerson wsX2_isPerson) := goodIn_app (goodIn_of _ (by decide +kernel)) ggX10_cough_X2_isPerson
set_option maxRecDepth 20000 in
theorem ggX10_cough_X10_has : GoodIn wsX10_cough wsX10_has := goodIn_r _ [16] (by decide +kernel) (by decide +kernel)
set_option maxRecDepth 20000 in
theorem gX10_cough_X10_has : GoodIn wsX10_cough (va_wsS RX10 194 yX10_has wsX10_has) := goodIn_app (goodIn_of _ (by decide +kernel)) ggX10_cough_X10_has
set_option maxRecDepth 20000 in
theorem ggX10_cough_X6_remember : GoodIn wsX10_cough wsX6_remember := goodIn_r _ [21, 22, 23, 24, 25, 26, 27, 28, 29, 30, 20, 31, 32, 33, 34, 35, 36, 37, 38, 39, 40, 41, 42, 43, 44, 15, 45, 46, 47, 48, 49, 50, 80, 81, 82, 64, 65, 66, 67, 68, 69] (by decide +kernel) (by decide +kernel)
set_option maxRecDepth 20000 in
theorem gX10_cough_X6_remember : GoodIn wsX10_cough (wsV RX10 217 RX6 yX6_remember wsX6_remember) := goodIn_app (goodIn_of _ (by decide +kernel)) ggX10_cough_X6_remember
set_option maxRecDepth 20000 in
theorem ggX10_cough_X10_bit : GoodIn wsX10_cough wsX10_bit := goodIn_r _ [53] (by decide +kernel) (by decide +kernel)
set_option maxRecDepth 20000 in
theorem gX10_cough_X10_bit : GoodIn wsX10_cough (va_wsS RX10 163 yX10_bit wsX10_bit) := goodIn_app (goodIn_of _ (by decide +kernel)) ggX10_cough_X10_bit
theorem dX10_cough_0 : decode cX10_cough 0 = .ok (.aload_n 0, 1) := by decide +kernel
theorem dX10_cough_1 : decode cX10_cough 1 = .ok (.getfield 19, 3) := by decide +kernel
theorem dX10_cough_4 : decode cX10_cough 4 = .ok (.iload_n 1, 1) := by decide +kernel
theorem dX10_cough_5 : decode cX10_cough 5 = .ok (.invokevirtual 180, 3) := by decide +kernel
theorem dX10_cough_8 : decode cX10_cough 8 = .ok (.ifCond .ne 6, 3) := by decide +kernel
theorem dX10_cough_11 : decode cX10_cough 11 = .ok (.ldc 162, 2) := by decide +kernel
theorem dX10_cough_13 : decode cX10_cough 13 = .ok (.ireturn, 1) := by decide +kernel
theorem dX10_cough_14 : decode cX10_cough 14 = .ok (.aload_n 0, 1) := by decide +kernel
theorem dX10_cough_15 : decode cX10_cough 15 = .ok (.getfield 26, 3) := by decide +kernel
theorem dX10_cough_18 : decode cX10_cough 18 = .ok (.getfield 144, 3) := by decide +kernel
theorem dX10_cough_21 : decode cX10_cough 21 = .ok (.iload_n 1, 1) := by decide +kernel
theorem dX10_cough_22 : decode cX10_cough 22 = .ok (.invokestatic 194, 3) := by decide +kernel
theorem dX10_cough_25 : decode cX10_cough 25 = .ok (.ifCond .eq 6, 3) := by decide +kernel
theorem dX10_cough_28 : decode cX10_cough 28 = .ok (.ldc 227, 2) := by decide +kernel
theorem dX10_cough_30 : decode cX10_cough 30 = .ok (.ireturn, 1) := by decide +kernel
theorem dX10_cough_31 : decode cX10_cough 31 = .ok (.aload_n 0, 1) := by decide +kernel
theorem dX10_cough_32 : decode cX10_cough 32 = .ok (.getfield 51, 3) := by decide +kernel
theorem dX10_cough_35 : decode cX10_cough 35 = .ok (.aload_n 0, 1) := by decide +kernel
theorem dX10_cough_36 : decode cX10_cough 36 = .ok (.getfield 26, 3) := by decide +kernel
theorem dX10_cough_39 : decode cX10_cough 39 = .ok (.invokevirtual 217, 3) := by decide +kernel
theorem dX10_cough_42 : decode cX10_cough 42 = .ok (.aload_n 0, 1) := by decide +kernel
theorem dX10_cough_43 : decode cX10_cough 43 = .ok (.getfield 26, 3) := by decide +kernel
theorem dX10_cough_46 : decode cX10_cough 46 = .ok (.dup, 1) := by decide +kernel
theorem dX10_cough_47 : decode cX10_cough 47 = .ok (.getfield 144, 3) := by decide +kernel
theorem dX10_cough_50 : decode cX10_cough 50 = .ok (.iload_n 1, 1) := by decide +kernel
theorem dX10_cough_51 : decode cX10_cough 51 = .ok (.invokestatic 163, 3) := by decide +kernel
theorem dX10_cough_54 : decode cX10_cough 54 = .ok (.ior, 1) := by decide +kernel
theorem dX10_cough_55 : decode cX10_cough 55 = .ok (.putfield 144, 3) := by decide +kernel
theorem dX10_cough_58 : decode cX10_cough 58 = .ok (.aload_n 0, 1) := by decide +kernel
theorem dX10_cough_59 : decode cX10_cough 59 = .ok (.getfield 26, 3) := by decide +kernel
theorem dX10_cough_62 : decode cX10_cough 62 = .ok (.getfield 144, 3) := by decide +kernel
theorem dX10_cough_65 : decode cX10_cough 65 = .ok (.ireturn, 1) := by decide +kernel
set_option maxRecDepth 20000 in
theorem ggX10_like_X2_isPair : GoodIn wsX10_like wsX2_isPair := goodIn_r _ [11, 12, 13, 14, 10, 15, 16, 80, 81, 82, 83, 84, 85, 86, 87, 88, 89] (by decide +kernel) (by decide +kernel)
set_option maxRecDepth 20000 in
theorem gX10_like_X2_isPair : GoodIn wsX10_like (wsV RX10 198 RX2 yX2_isPair wsX2_isPair) := goodIn_app (goodIn_of _ (by decide +kernel)) ggX10_like_X2_isPair
set_option maxRecDepth 20000 in
theorem ggX10_like_X10_within : GoodIn wsX10_like wsX10_within := goodIn_r _ [20] (by decide +kernel) (by decide +kernel)
set_option maxRecDepth 20000 in
theorem gX10_like_X10_within : GoodIn wsX10_like (va_wsS RX10 83 yX10_within wsX10_within) := goodIn_app (goodIn_of _ (by decide +kernel)) ggX10_like_X10_within
set_option maxRecDepth 20000 in
theorem ggX10_like_X6_remember : GoodIn wsX10_like wsX6_remember := goodIn_r _ [25, 26, 27, 28, 29, 30, 31, 32, 33, 34, 24, 35, 36, 37, 38, 39, 40, 41, 42, 43, 44, 45, 46, 47, 48, 19, 49, 50, 51, 52, 53, 54, 90, 91, 92, 74, 75, 76, 77, 78, 79] (by decide +kernel) (by decide +kernel)
set_option maxRecDepth 20000 in
theorem gX10_like_X6_remember : GoodIn wsX10_like (wsV RX10 217 RX6 yX6_remember wsX6_remember) := goodIn_app (goodIn_of _ (by decide +kernel)) ggX10_like_X6_remember
set_option maxRecDepth 20000 in
theorem ggX10_like_X10_pairIndex : GoodIn wsX10_like wsX10_pairIndex := goodIn_r _ [57] (by decide +kernel) (by decide +kernel)
set_option maxRecDepth 20000 in
theorem gX10_like_X10_pairIndex : GoodIn wsX10_like (va_wsS RX10 204 yX10_pairIndex wsX10_pairIndex) := goodIn_app (goodIn_of _ (by decide +kernel)) ggX10_like_X10_pairIndex
set_option maxRecDepth 20000 in
theorem ggX10_like_X10_at : GoodIn wsX10_like wsX10_at := goodIn_r _ [60] (by decide +kernel) (by decide +kernel)
set_option maxRecDepth 20000 in
theorem gX10_like_X10_at : GoodIn wsX10_like (va_wsS RX10 173 yX10_at wsX10_at) := goodIn_app (goodIn_of _ (by decide +kernel)) ggX10_like_X10_at
set_option maxRecDepth 20000 in
theorem ggX10_like_X10_put : GoodIn wsX10_like wsX10_put := goodIn_r _ [63] (by decide +kernel) (by decide +kernel)
set_option maxRecDepth 20000 in
theorem gX10_like_X10_put : GoodIn wsX10_like (va_wsS RX10 228 yX10_put wsX10_put) := goodIn_app (goodIn_of _ (by decide +kernel)) ggX10_like_X10_put
theorem dX10_like_0 : decode cX10_like 0 = .ok (.aload_n 0, 1) := by decide +kernel
theorem dX10_like_1 : decode cX10_like 1 = .ok (.getfield 19, 3) := by decide +kernel
theorem dX10_like_4 : decode cX10_like 4 = .ok (.iload_n 1, 1) := by decide +kernel
theorem dX10_like_5 : decode cX10_like 5 = .ok (.iload_n 2, 1) := by decide +kernel
theorem dX10_like_6 : decode cX10_like 6 = .ok (.invokevirtual 198, 3) := by decide +kernel
theorem dX10_like_9 : decode cX10_like 9 = .ok (.ifCond .ne 6, 3) := by decide +kernel
theorem dX10_like_12 : decode cX10_like 12 = .ok (.ldc 162, 2) := by decide +kernel
theorem dX10_like_14 : decode cX10_like 14 = .ok (.ireturn, 1) := by decide +kernel
theorem dX10_like_15 : decode cX10_like 15 = .ok (.iload_n 3, 1) := by decide +kernel
theorem dX10_like_16 : decode cX10_like 16 = .ok (.iconst 0, 1) := by decide +kernel
theorem dX10_like_17 : decode cX10_like 17 = .ok (.bipush 9, 2) := by decide +kernel
theorem dX10_like_19 : decode cX10_like 19 = .ok (.invokestatic 83, 3) := by decide +kernel
theorem dX10_like_22 : decode cX10_like 22 = .ok (.ifCond .ne 6, 3) := by decide +kernel
theorem dX10_like_25 : decode cX10_like 25 = .ok (.ldc 87, 2) := by decide +kernel
theorem dX10_like_27 : decode cX10_like 27 = .ok (.ireturn, 1) := by decide +kernel
theorem dX10_like_28 : decode cX10_like 28 = .ok (.aload_n 0, 1) := by decide +kernel
theorem dX10_like_29 : decode cX10_like 29 = .ok (.getfield 51, 3) := by decide +kernel
theorem dX10_like_32 : decode cX10_like 32 = .ok (.aload_n 0, 1) := by decide +kernel
theorem dX10_like_33 : decode cX10_like 33 = .ok (.getfield 26, 3) := by decide +kernel
theorem dX10_like_36 : decode cX10_like 36 = .ok (.invokevirtual 217, 3) := by decide +kernel
theorem dX10_like_39 : decode cX10_like 39 = .ok (.aload_n 0, 1) := by decide +kernel
theorem dX10_like_40 : decode cX10_like 40 = .ok (.getfield 26, 3) := by decide +kernel
theorem dX10_like_43 : decode cX10_like 43 = .ok (.getfield 201, 3) := by decide +kernel
theorem dX10_like_46 : decode cX10_like 46 = .ok (.iload_n 1, 1) := by decide +kernel
theorem dX10_like_47 : decode cX10_like 47 = .ok (.iload_n 2, 1) := by decide +kernel
theorem dX10_like_48 : decode cX10_like 48 = .ok (.invokestatic 204, 3) := by decide +kernel
theorem dX10_like_51 : decode cX10_like 51 = .ok (.invokestatic 173, 3) := by decide +kernel
theorem dX10_like_54 : decode cX10_like 54 = .ok (.istore 4, 2) := by decide +kernel
theorem dX10_like_56 : decode cX10_like 56 = .ok (.aload_n 0, 1) := by decide +kernel
theorem dX10_like_57 : decode cX10_like 57 = .ok (.getfield 26, 3) := by decide +kernel
theorem dX10_like_60 : decode cX10_like 60 = .ok (.getfield 201, 3) := by decide +kernel
theorem dX10_like_63 : decode cX10_like 63 = .ok (.iload_n 1, 1) := by decide +kernel
theorem dX10_like_64 : decode cX10_like 64 = .ok (.iload_n 2, 1) := by decide +kernel
theorem dX10_like_65 : decode cX10_like 65 = .ok (.invokestatic 204, 3) := by decide +kernel
theorem dX10_like_68 : decode cX10_like 68 = .ok (.iload_n 3, 1) := by decide +kernel
theorem dX10_like_69 : decode cX10_like 69 = .ok (.invokestatic 228, 3) := by decide +kernel
theorem dX10_like_72 : decode cX10_like 72 = .ok (.iload 4, 2) := by decide +kernel
theorem dX10_like_74 : decode cX10_like 74 = .ok (.ireturn, 1) := by decide +kernel
set_option maxRecDepth 20000 in
theorem ggX10_drift_X10_refusalOfHours : GoodIn wsX10_drift wsX10_refusalOfHours := goodIn_r _ [9, 10, 11, 12, 2, 4, 13, 14, 15, 8, 16, 17, 18, 19, 20, 21, 22, 144, 145, 146, 147, 148, 149, 150, 151, 152, 153, 154, 155, 156, 157, 158, 159, 160, 161, 162, 163, 164, 165, 166, 167, 168, 169] (by decide +kernel) (by decide +kernel)
set_option maxRecDepth 20000 in
theorem gX10_drift_X10_refusalOfHours : GoodIn wsX10_drift (wsV RX10 214 RX10 yX10_refusalOfHours wsX10_refusalOfHours) := goodIn_app (goodIn_of _ (by decide +kernel)) ggX10_drift_X10_refusalOfHours
set_option maxRecDepth 20000 in
theorem ggX10_drift_X6_remember : GoodIn wsX10_drift wsX6_remember := goodIn_r _ [27, 28, 29, 30, 31, 32, 33, 34, 35, 36, 26, 37, 38, 39, 40, 41, 42, 43, 44, 45, 46, 47, 48, 49, 50, 8, 51, 52, 53, 54, 55, 56, 170, 171, 172, 154, 155, 156, 157, 158, 159] (by decide +kernel) (by decide +kernel)
set_option maxRecDepth 20000 in
theorem gX10_drift_X6_remember : GoodIn wsX10_drift (wsV RX10 217 RX6 yX6_remember wsX6_remember) := goodIn_app (goodIn_of _ (by decide +kernel)) ggX10_drift_X6_remember
set_option maxRecDepth 20000 in
theorem ggX10_drift_X10_drawDeed : GoodIn wsX10_drift wsX10_drawDeed := goodIn_r _ [60, 11, 61, 62, 63, 2, 64, 65, 66, 67, 68, 69, 70, 71, 72, 73, 74, 75, 76, 77, 78, 8, 79, 80, 81, 82, 20, 83, 84, 85, 86, 87, 88, 89, 90, 91, 92, 93, 94, 95, 144, 145, 146, 147, 148, 149, 150, 151, 152, 153, 160, 161, 162, 163, 164, 165, 166, 167, 168, 169, 154, 155, 156, 157, 158, 159, 173] (by decide +kernel) (by decide +kernel)
set_option maxRecDepth 20000 in
theorem gX10_drift_X10_drawDeed : GoodIn wsX10_drift (wsV RX10 232 RX10 yX10_drawDeed wsX10_drawDeed) := goodIn_app (goodIn_of _ (by decide +kernel)) ggX10_drift_X10_drawDeed
set_option maxRecDepth 20000 in
theorem ggX10_drift_X4_passHour : GoodIn wsX10_drift wsX4_passHour := goodIn_r _ [100, 101, 102, 103, 104, 105, 106, 107, 108, 109, 110, 111, 112, 99, 113, 114, 115, 116, 117, 78, 8, 79, 118, 119, 120, 121, 122, 85, 86, 123, 124, 125, 126, 127, 128, 129, 130, 131, 132, 94, 95, 133, 134, 135, 136, 137, 138, 139, 140, 52, 31, 32, 33, 141, 142, 143, 88, 89, 174, 175, 160, 161, 162, 163, 164, 165, 166, 167, 168, 169, 154, 155, 156, 157, 158, 159] (by decide +kernel) (by decide +kernel)
set_option maxRecDepth 20000 in
theorem gX10_drift_X4_passHour : GoodIn wsX10_drift (wsV RX10 221 RX4 yX4_passHour wsX4_passHour) := goodIn_app (goodIn_of _ (by decide +kernel)) ggX10_drift_X4_passHour
theorem dX10_drift_0 : decode cX10_drift 0 = .ok (.aload_n 0, 1) := by decide +kernel
theorem dX10_drift_1 : decode cX10_drift 1 = .ok (.iload_n 1, 1) := by decide +kernel
theorem dX10_drift_2 : decode cX10_drift 2 = .ok (.invokevirtual 214, 3) := by decide +kernel
theorem dX10_drift_5 : decode cX10_drift 5 = .ok (.istore_n 2, 1) := by decide +kernel
theorem dX10_drift_6 : decode cX10_drift 6 = .ok (.iload_n 2, 1) := by decide +kernel
theorem dX10_drift_7 : decode cX10_drift 7 = .ok (.ifCond .eq 5, 3) := by decide +kernel
theorem dX10_drift_10 : decode cX10_drift 10 = .ok (.iload_n 2, 1) := by decide +kernel
theorem dX10_drift_11 : decode cX10_drift 11 = .ok (.ireturn, 1) := by decide +kernel
theorem dX10_drift_12 : decode cX10_drift 12 = .ok (.aload_n 0, 1) := by decide +kernel
theorem dX10_drift_13 : decode cX10_drift 13 = .ok (.getfield 51, 3) := by decide +kernel
theorem dX10_drift_16 : decode cX10_drift 16 = .ok (.aload_n 0, 1) := by decide +kernel
theorem dX10_drift_17 : decode cX10_drift 17 = .ok (.getfield 26, 3) := by decide +kernel
theorem dX10_drift_20 : decode cX10_drift 20 = .ok (.invokevirtual 217, 3) := by decide +kernel
theorem dX10_drift_23 : decode cX10_drift 23 = .ok (.iconst 0, 1) := by decide +kernel
theorem dX10_drift_24 : decode cX10_drift 24 = .ok (.istore_n 3, 1) := by decide +kernel
theorem dX10_drift_25 : decode cX10_drift 25 = .ok (.iload_n 3, 1) := by decide +kernel
theorem dX10_drift_26 : decode cX10_drift 26 = .ok (.iload_n 1, 1) := by decide +kernel
theorem dX10_drift_27 : decode cX10_drift 27 = .ok (.if_icmp .ge 20, 3) := by decide +kernel
theorem dX10_drift_30 : decode cX10_drift 30 = .ok (.aload_n 0, 1) := by decide +kernel
theorem dX10_drift_31 : decode cX10_drift 31 = .ok (.invokevirtual 232, 3) := by decide +kernel
theorem dX10_drift_34 : decode cX10_drift 34 = .ok (.aload_n 0, 1) := by decide +kernel
theorem dX10_drift_35 : decode cX10_drift 35 = .ok (.getfield 35, 3) := by decide +kernel
theorem dX10_drift_38 : decode cX10_drift 38 = .ok (.invokevirtual 221, 3) := by decide +kernel
theorem dX10_drift_41 : decode cX10_drift 41 = .ok (.iinc 3 1, 3) := by decide +kernel
theorem dX10_drift_44 : decode cX10_drift 44 = .ok (.goto (-19), 3) := by decide +kernel
theorem dX10_drift_47 : decode cX10_drift 47 = .ok (.aload_n 0, 1) := by decide +kernel
theorem dX10_drift_48 : decode cX10_drift 48 = .ok (.getfield 26, 3) := by decide +kernel
theorem dX10_drift_51 : decode cX10_drift 51 = .ok (.getfield 141, 3) := by decide +kernel
theorem dX10_drift_54 : decode cX10_drift 54 = .ok (.ireturn, 1) := by decide +kernel
set_option maxRecDepth 20000 in
theorem ggX10_undo_X6_recall : GoodIn wsX10_undo wsX6_recall := goodIn_r _ [9, 10, 11, 12, 13, 14, 8, 15, 16, 17, 18, 19, 20, 21, 22, 23, 24, 25, 26, 27, 28, 29, 30, 31, 32, 33, 34, 35, 36, 37, 38, 49, 50, 51, 52, 53, 54, 55, 56, 57] (by decide +kernel) (by decide +kernel)
set_option maxRecDepth 20000 in
theorem gX10_undo_X6_recall : GoodIn wsX10_undo (wsV RX10 235 RX6 yX6_recall wsX6_recall) := goodIn_app (goodIn_of _ (by decide +kernel)) ggX10_undo_X6_recall
theorem dX10_undo_0 : decode cX10_undo 0 = .ok (.aload_n 0, 1) := by decide +kernel
theorem dX10_undo_1 : decode cX10_undo 1 = .ok (.getfield 51, 3) := by decide +kernel
theorem dX10_undo_4 : decode cX10_undo 4 = .ok (.aload_n 0, 1) := by decide +kernel
theorem dX10_undo_5 : decode cX10_undo 5 = .ok (.getfield 26, 3) := by decide +kernel
theorem dX10_undo_8 : decode cX10_undo 8 = .ok (.invokevirtual 235, 3) := by decide +kernel
theorem dX10_undo_11 : decode cX10_undo 11 = .ok (.ifCond .eq 13, 3) := by decide +kernel
theorem dX10_undo_14 : decode cX10_undo 14 = .ok (.aload_n 0, 1) := by decide +kernel
theorem dX10_undo_15 : decode cX10_undo 15 = .ok (.getfield 51, 3) := by decide +kernel
theorem dX10_undo_18 : decode cX10_undo 18 = .ok (.getfield 157, 3) := by decide +kernel
theorem dX10_undo_21 : decode cX10_undo 21 = .ok (.goto 5, 3) := by decide +kernel
theorem dX10_undo_24 : decode cX10_undo 24 = .ok (.ldc 227, 2) := by decide +kernel
theorem dX10_undo_26 : decode cX10_undo 26 = .ok (.ireturn, 1) := by decide +kernel
set_option maxRecDepth 20000 in
theorem ggX10_warm_X2_isPerson : GoodIn wsX10_warm wsX2_isPerson := goodIn_r _ [11, 12, 94, 95, 96, 97, 98, 99, 100, 101, 102, 103] (by decide +kernel) (by decide +kernel)
set_option maxRecDepth 20000 in
theorem gX10_warm_X2_isPerson : GoodIn wsX10_warm (wsV RX10 180 RX2 yX2_isPerson wsX2_isPerson) := goodIn_app (goodIn_of _ (by decide +kernel)) ggX10_warm_X2_isPerson
set_option maxRecDepth 20000 in
theorem ggX10_warm_X10_within : GoodIn wsX10_warm wsX10_within := goodIn_r _ [16] (by decide +kernel) (by decide +kernel)
set_option maxRecDepth 20000 in
theorem gX10_warm_X10_within : GoodIn wsX10_warm (va_wsS RX10 83 yX10_within wsX10_within) := goodIn_app (goodIn_of _ (by decide +kernel)) ggX10_warm_X10_within
set_option maxRecDepth 20000 in
theorem ggX10_warm_X10_at : GoodIn wsX10_warm wsX10_at := goodIn_r _ [19] (by decide +kernel) (by decide +kernel)
set_option maxRecDepth 20000 in
theorem gX10_warm_X10_at : GoodIn wsX10_warm (va_wsS RX10 173 yX10_at wsX10_at) := goodIn_app (goodIn_of _ (by decide +kernel)) ggX10_warm_X10_at
set_option maxRecDepth 20000 in
theorem ggX10_warm_X9_warmBehind : GoodIn wsX10_warm wsX9_warmBehind := goodIn_r _ [24, 25, 26, 27, 18, 15, 19, 28, 29, 30, 23, 31, 32, 33, 34, 35, 36, 37, 38, 39, 40, 41, 42, 43, 44, 45, 46, 47, 48, 49, 50, 51, 52, 53, 54, 55, 56, 57, 58, 59, 60, 61, 62, 63, 64, 65, 66, 67, 68, 69, 70, 71, 72, 73, 74, 75, 76, 77, 104, 105, 106, 107, 108, 88, 89, 90, 91, 92, 93, 109, 110, 94, 95, 96, 97, 98, 99, 100, 101, 102, 103] (by decide +kernel) (by decide +kernel)
set_option maxRecDepth 20000 in
theorem gX10_warm_X9_warmBehind : GoodIn wsX10_warm (wsV RX10 239 RX9 yX9_warmBehind wsX9_warmBehind) := goodIn_app (goodIn_of _ (by decide +kernel)) ggX10_warm_X9_warmBehind
theorem dX10_warm_0 : decode cX10_warm 0 = .ok (.aload_n 0, 1) := by decide +kernel
theorem dX10_warm_1 : decode cX10_warm 1 = .ok (.getfield 19, 3) := by decide +kernel
theorem dX10_warm_4 : decode cX10_warm 4 = .ok (.iload_n 1, 1) := by decide +kernel
theorem dX10_warm_5 : decode cX10_warm 5 = .ok (.invokevirtual 180, 3) := by decide +kernel
theorem dX10_warm_8 : decode cX10_warm 8 = .ok (.ifCond .ne 6, 3) := by decide +kernel
