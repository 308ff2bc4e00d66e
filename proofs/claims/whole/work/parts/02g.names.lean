theorem dX11_cover_8 : decode cX11_cover 8 = .ok (.istore_n 1, 1) := by decide +kernel
theorem dX11_cover_9 : decode cX11_cover 9 = .ok (.iconst 1, 1) := by decide +kernel
theorem dX11_cover_10 : decode cX11_cover 10 = .ok (.aload_n 0, 1) := by decide +kernel
theorem dX11_cover_11 : decode cX11_cover 11 = .ok (.getfield 75, 3) := by decide +kernel
theorem dX11_cover_14 : decode cX11_cover 14 = .ok (.ishl, 1) := by decide +kernel
theorem dX11_cover_15 : decode cX11_cover 15 = .ok (.iconst 1, 1) := by decide +kernel
theorem dX11_cover_16 : decode cX11_cover 16 = .ok (.isub, 1) := by decide +kernel
theorem dX11_cover_17 : decode cX11_cover 17 = .ok (.istore_n 2, 1) := by decide +kernel
theorem dX11_cover_18 : decode cX11_cover 18 = .ok (.iload_n 2, 1) := by decide +kernel
theorem dX11_cover_19 : decode cX11_cover 19 = .ok (.ifCond .lt 77, 3) := by decide +kernel
theorem dX11_cover_22 : decode cX11_cover 22 = .ok (.iconst 1, 1) := by decide +kernel
theorem dX11_cover_23 : decode cX11_cover 23 = .ok (.istore_n 3, 1) := by decide +kernel
theorem dX11_cover_24 : decode cX11_cover 24 = .ok (.iconst 0, 1) := by decide +kernel
theorem dX11_cover_25 : decode cX11_cover 25 = .ok (.istore 4, 2) := by decide +kernel
theorem dX11_cover_27 : decode cX11_cover 27 = .ok (.iload 4, 2) := by decide +kernel
theorem dX11_cover_29 : decode cX11_cover 29 = .ok (.aload_n 0, 1) := by decide +kernel
theorem dX11_cover_30 : decode cX11_cover 30 = .ok (.getfield 75, 3) := by decide +kernel
theorem dX11_cover_33 : decode cX11_cover 33 = .ok (.if_icmp .ge 36, 3) := by decide +kernel
theorem dX11_cover_36 : decode cX11_cover 36 = .ok (.iload_n 3, 1) := by decide +kernel
theorem dX11_cover_37 : decode cX11_cover 37 = .ok (.ifCond .eq 24, 3) := by decide +kernel
theorem dX11_cover_40 : decode cX11_cover 40 = .ok (.aload_n 0, 1) := by decide +kernel
theorem dX11_cover_41 : decode cX11_cover 41 = .ok (.getfield 7, 3) := by decide +kernel
theorem dX11_cover_44 : decode cX11_cover 44 = .ok (.iload 4, 2) := by decide +kernel
theorem dX11_cover_46 : decode cX11_cover 46 = .ok (.iaload, 1) := by decide +kernel
theorem dX11_cover_47 : decode cX11_cover 47 = .ok (.iconst 1, 1) := by decide +kernel
theorem dX11_cover_48 : decode cX11_cover 48 = .ok (.iload 4, 2) := by decide +kernel
theorem dX11_cover_50 : decode cX11_cover 50 = .ok (.ishl, 1) := by decide +kernel
theorem dX11_cover_51 : decode cX11_cover 51 = .ok (.ior, 1) := by decide +kernel
theorem dX11_cover_52 : decode cX11_cover 52 = .ok (.iload_n 2, 1) := by decide +kernel
theorem dX11_cover_53 : decode cX11_cover 53 = .ok (.iand, 1) := by decide +kernel
theorem dX11_cover_54 : decode cX11_cover 54 = .ok (.ifCond .eq 7, 3) := by decide +kernel
theorem dX11_cover_57 : decode cX11_cover 57 = .ok (.iconst 1, 1) := by decide +kernel
theorem dX11_cover_58 : decode cX11_cover 58 = .ok (.goto 4, 3) := by decide +kernel
theorem dX11_cover_61 : decode cX11_cover 61 = .ok (.iconst 0, 1) := by decide +kernel
theorem dX11_cover_62 : decode cX11_cover 62 = .ok (.istore_n 3, 1) := by decide +kernel
theorem dX11_cover_63 : decode cX11_cover 63 = .ok (.iinc 4 1, 3) := by decide +kernel
theorem dX11_cover_66 : decode cX11_cover 66 = .ok (.goto (-39), 3) := by decide +kernel
theorem dX11_cover_69 : decode cX11_cover 69 = .ok (.iload_n 3, 1) := by decide +kernel
theorem dX11_cover_70 : decode cX11_cover 70 = .ok (.ifCond .eq 18, 3) := by decide +kernel
theorem dX11_cover_73 : decode cX11_cover 73 = .ok (.iload_n 2, 1) := by decide +kernel
theorem dX11_cover_74 : decode cX11_cover 74 = .ok (.invokestatic 215, 3) := by decide +kernel
theorem dX11_cover_77 : decode cX11_cover 77 = .ok (.iload_n 1, 1) := by decide +kernel
theorem dX11_cover_78 : decode cX11_cover 78 = .ok (.invokestatic 215, 3) := by decide +kernel
theorem dX11_cover_81 : decode cX11_cover 81 = .ok (.if_icmp .gt 7, 3) := by decide +kernel
theorem dX11_cover_84 : decode cX11_cover 84 = .ok (.iload_n 2, 1) := by decide +kernel
theorem dX11_cover_85 : decode cX11_cover 85 = .ok (.goto 4, 3) := by decide +kernel
theorem dX11_cover_88 : decode cX11_cover 88 = .ok (.iload_n 1, 1) := by decide +kernel
theorem dX11_cover_89 : decode cX11_cover 89 = .ok (.istore_n 1, 1) := by decide +kernel
theorem dX11_cover_90 : decode cX11_cover 90 = .ok (.iinc 2 (-1), 3) := by decide +kernel
theorem dX11_cover_93 : decode cX11_cover 93 = .ok (.goto (-75), 3) := by decide +kernel
theorem dX11_cover_96 : decode cX11_cover 96 = .ok (.iload_n 1, 1) := by decide +kernel
theorem dX11_cover_97 : decode cX11_cover 97 = .ok (.ireturn, 1) := by decide +kernel
set_option maxRecDepth 20000 in
theorem ggX11_told_X11_praised : GoodIn wsX11_told wsX11_praised := goodIn_r _ [16, 17, 5, 7, 18, 19, 20, 15, 21, 22, 23, 24, 25, 26, 27, 28, 29, 30, 31, 32, 33, 45, 46, 47, 48, 49, 50, 51, 52, 53, 54, 55, 56, 57, 58, 59, 60, 61, 62, 63, 64, 65, 66, 67, 68, 69, 70, 71, 72, 73, 74, 75, 76, 77, 78, 79, 80, 81, 82, 83, 84, 85] (by decide +kernel) (by decide +kernel)
set_option maxRecDepth 20000 in
theorem gX11_told_X11_praised : GoodIn wsX11_told (wsV RX11 218 RX11 yX11_praised wsX11_praised) := goodIn_app (goodIn_of _ (by decide +kernel)) ggX11_told_X11_praised
set_option maxRecDepth 20000 in
theorem ggX11_told_X11_silentBy : GoodIn wsX11_told wsX11_silentBy := goodIn_r _ [37, 5, 7, 18, 19, 20, 15, 21, 22, 23, 24, 25, 26, 27, 28, 29, 30, 31, 32, 33, 45, 46, 47, 48, 49, 50, 51, 52, 53, 54, 55, 56, 57, 58, 59, 60, 61, 62, 63, 64, 65, 66, 67, 68, 69, 70, 71, 72, 73, 74, 75, 76, 77, 78, 79, 80, 81, 82, 83, 84, 85] (by decide +kernel) (by decide +kernel)
set_option maxRecDepth 20000 in
theorem gX11_told_X11_silentBy : GoodIn wsX11_told (wsV RX11 221 RX11 yX11_silentBy wsX11_silentBy) := goodIn_app (goodIn_of _ (by decide +kernel)) ggX11_told_X11_silentBy
set_option maxRecDepth 20000 in
theorem ggX11_told_X11_cover : GoodIn wsX11_told wsX11_cover := goodIn_r _ [41, 1, 30, 42, 43, 15, 44, 45, 46, 47, 48, 49, 50, 51, 52, 53, 54, 55, 56, 57, 58, 59, 60, 61, 62, 63, 64, 65, 66, 67, 68, 69, 70, 71, 72, 73, 74, 75, 76, 77, 78, 79, 80, 81, 82, 83, 84, 85] (by decide +kernel) (by decide +kernel)
set_option maxRecDepth 20000 in
theorem gX11_told_X11_cover : GoodIn wsX11_told (wsV RX11 224 RX11 yX11_cover wsX11_cover) := goodIn_app (goodIn_of _ (by decide +kernel)) ggX11_told_X11_cover
theorem dX11_told_0 : decode cX11_told 0 = .ok (.iload_n 1, 1) := by decide +kernel
theorem dX11_told_1 : decode cX11_told 1 = .ok (.tableswitch 146 0 13 #[71, 76, 81, 86, 91, 96, 101, 108, 115, 120, 126, 131, 136, 141], 71) := by decide +kernel
theorem dX11_told_72 : decode cX11_told 72 = .ok (.aload_n 0, 1) := by decide +kernel
theorem dX11_told_73 : decode cX11_told 73 = .ok (.getfield 75, 3) := by decide +kernel
theorem dX11_told_76 : decode cX11_told 76 = .ok (.ireturn, 1) := by decide +kernel
theorem dX11_told_77 : decode cX11_told 77 = .ok (.aload_n 0, 1) := by decide +kernel
theorem dX11_told_78 : decode cX11_told 78 = .ok (.getfield 171, 3) := by decide +kernel
theorem dX11_told_81 : decode cX11_told 81 = .ok (.ireturn, 1) := by decide +kernel
theorem dX11_told_82 : decode cX11_told 82 = .ok (.aload_n 0, 1) := by decide +kernel
theorem dX11_told_83 : decode cX11_told 83 = .ok (.getfield 174, 3) := by decide +kernel
theorem dX11_told_86 : decode cX11_told 86 = .ok (.ireturn, 1) := by decide +kernel
theorem dX11_told_87 : decode cX11_told 87 = .ok (.aload_n 0, 1) := by decide +kernel
theorem dX11_told_88 : decode cX11_told 88 = .ok (.getfield 177, 3) := by decide +kernel
theorem dX11_told_91 : decode cX11_told 91 = .ok (.ireturn, 1) := by decide +kernel
theorem dX11_told_92 : decode cX11_told 92 = .ok (.aload_n 0, 1) := by decide +kernel
theorem dX11_told_93 : decode cX11_told 93 = .ok (.getfield 82, 3) := by decide +kernel
theorem dX11_told_96 : decode cX11_told 96 = .ok (.ireturn, 1) := by decide +kernel
theorem dX11_told_97 : decode cX11_told 97 = .ok (.aload_n 0, 1) := by decide +kernel
theorem dX11_told_98 : decode cX11_told 98 = .ok (.getfield 92, 3) := by decide +kernel
theorem dX11_told_101 : decode cX11_told 101 = .ok (.ireturn, 1) := by decide +kernel
theorem dX11_told_102 : decode cX11_told 102 = .ok (.aload_n 0, 1) := by decide +kernel
theorem dX11_told_103 : decode cX11_told 103 = .ok (.getfield 19, 3) := by decide +kernel
theorem dX11_told_106 : decode cX11_told 106 = .ok (.iconst 0, 1) := by decide +kernel
theorem dX11_told_107 : decode cX11_told 107 = .ok (.iaload, 1) := by decide +kernel
theorem dX11_told_108 : decode cX11_told 108 = .ok (.ireturn, 1) := by decide +kernel
theorem dX11_told_109 : decode cX11_told 109 = .ok (.aload_n 0, 1) := by decide +kernel
theorem dX11_told_110 : decode cX11_told 110 = .ok (.getfield 19, 3) := by decide +kernel
theorem dX11_told_113 : decode cX11_told 113 = .ok (.iconst 1, 1) := by decide +kernel
theorem dX11_told_114 : decode cX11_told 114 = .ok (.iaload, 1) := by decide +kernel
theorem dX11_told_115 : decode cX11_told 115 = .ok (.ireturn, 1) := by decide +kernel
theorem dX11_told_116 : decode cX11_told 116 = .ok (.aload_n 0, 1) := by decide +kernel
theorem dX11_told_117 : decode cX11_told 117 = .ok (.invokevirtual 218, 3) := by decide +kernel
theorem dX11_told_120 : decode cX11_told 120 = .ok (.ireturn, 1) := by decide +kernel
theorem dX11_told_121 : decode cX11_told 121 = .ok (.aload_n 0, 1) := by decide +kernel
theorem dX11_told_122 : decode cX11_told 122 = .ok (.iconst (-1), 1) := by decide +kernel
theorem dX11_told_123 : decode cX11_told 123 = .ok (.invokevirtual 221, 3) := by decide +kernel
theorem dX11_told_126 : decode cX11_told 126 = .ok (.ireturn, 1) := by decide +kernel
theorem dX11_told_127 : decode cX11_told 127 = .ok (.aload_n 0, 1) := by decide +kernel
theorem dX11_told_128 : decode cX11_told 128 = .ok (.invokevirtual 224, 3) := by decide +kernel
theorem dX11_told_131 : decode cX11_told 131 = .ok (.ireturn, 1) := by decide +kernel
theorem dX11_told_132 : decode cX11_told 132 = .ok (.aload_n 0, 1) := by decide +kernel
theorem dX11_told_133 : decode cX11_told 133 = .ok (.getfield 186, 3) := by decide +kernel
theorem dX11_told_136 : decode cX11_told 136 = .ok (.ireturn, 1) := by decide +kernel
theorem dX11_told_137 : decode cX11_told 137 = .ok (.aload_n 0, 1) := by decide +kernel
theorem dX11_told_138 : decode cX11_told 138 = .ok (.getfield 189, 3) := by decide +kernel
theorem dX11_told_141 : decode cX11_told 141 = .ok (.ireturn, 1) := by decide +kernel
theorem dX11_told_142 : decode cX11_told 142 = .ok (.aload_n 0, 1) := by decide +kernel
theorem dX11_told_143 : decode cX11_told 143 = .ok (.getfield 192, 3) := by decide +kernel
theorem dX11_told_146 : decode cX11_told 146 = .ok (.ireturn, 1) := by decide +kernel
theorem dX11_told_147 : decode cX11_told 147 = .ok (.ldc 91, 2) := by decide +kernel
theorem dX11_told_149 : decode cX11_told 149 = .ok (.ireturn, 1) := by decide +kernel
theorem dX11_whoIsIn_0 : decode cX11_whoIsIn 0 = .ok (.iconst 0, 1) := by decide +kernel
theorem dX11_whoIsIn_1 : decode cX11_whoIsIn 1 = .ok (.istore_n 2, 1) := by decide +kernel
theorem dX11_whoIsIn_2 : decode cX11_whoIsIn 2 = .ok (.iconst 0, 1) := by decide +kernel
theorem dX11_whoIsIn_3 : decode cX11_whoIsIn 3 = .ok (.istore_n 3, 1) := by decide +kernel
theorem dX11_whoIsIn_4 : decode cX11_whoIsIn 4 = .ok (.iload_n 3, 1) := by decide +kernel
theorem dX11_whoIsIn_5 : decode cX11_whoIsIn 5 = .ok (.aload_n 0, 1) := by decide +kernel
theorem dX11_whoIsIn_6 : decode cX11_whoIsIn 6 = .ok (.getfield 82, 3) := by decide +kernel
theorem dX11_whoIsIn_9 : decode cX11_whoIsIn 9 = .ok (.if_icmp .ge 31, 3) := by decide +kernel
theorem dX11_whoIsIn_12 : decode cX11_whoIsIn 12 = .ok (.iload_n 2, 1) := by decide +kernel
theorem dX11_whoIsIn_13 : decode cX11_whoIsIn 13 = .ok (.aload_n 0, 1) := by decide +kernel
theorem dX11_whoIsIn_14 : decode cX11_whoIsIn 14 = .ok (.getfield 19, 3) := by decide +kernel
theorem dX11_whoIsIn_17 : decode cX11_whoIsIn 17 = .ok (.iconst 2, 1) := by decide +kernel
theorem dX11_whoIsIn_18 : decode cX11_whoIsIn 18 = .ok (.iload_n 3, 1) := by decide +kernel
theorem dX11_whoIsIn_19 : decode cX11_whoIsIn 19 = .ok (.iadd, 1) := by decide +kernel
theorem dX11_whoIsIn_20 : decode cX11_whoIsIn 20 = .ok (.iaload, 1) := by decide +kernel
theorem dX11_whoIsIn_21 : decode cX11_whoIsIn 21 = .ok (.iload_n 1, 1) := by decide +kernel
theorem dX11_whoIsIn_22 : decode cX11_whoIsIn 22 = .ok (.if_icmp .ne 9, 3) := by decide +kernel
theorem dX11_whoIsIn_25 : decode cX11_whoIsIn 25 = .ok (.iconst 1, 1) := by decide +kernel
theorem dX11_whoIsIn_26 : decode cX11_whoIsIn 26 = .ok (.iload_n 3, 1) := by decide +kernel
theorem dX11_whoIsIn_27 : decode cX11_whoIsIn 27 = .ok (.ishl, 1) := by decide +kernel
theorem dX11_whoIsIn_28 : decode cX11_whoIsIn 28 = .ok (.goto 4, 3) := by decide +kernel
theorem dX11_whoIsIn_31 : decode cX11_whoIsIn 31 = .ok (.iconst 0, 1) := by decide +kernel
theorem dX11_whoIsIn_32 : decode cX11_whoIsIn 32 = .ok (.ior, 1) := by decide +kernel
theorem dX11_whoIsIn_33 : decode cX11_whoIsIn 33 = .ok (.istore_n 2, 1) := by decide +kernel
theorem dX11_whoIsIn_34 : decode cX11_whoIsIn 34 = .ok (.iinc 3 1, 3) := by decide +kernel
theorem dX11_whoIsIn_37 : decode cX11_whoIsIn 37 = .ok (.goto (-33), 3) := by decide +kernel
theorem dX11_whoIsIn_40 : decode cX11_whoIsIn 40 = .ok (.iload_n 2, 1) := by decide +kernel
theorem dX11_whoIsIn_41 : decode cX11_whoIsIn 41 = .ok (.ireturn, 1) := by decide +kernel
set_option maxRecDepth 20000 in
theorem ggX11_room_X11_isRoom : GoodIn wsX11_room wsX11_isRoom := goodIn_r _ [9, 10, 11, 12, 8, 13, 20, 21, 22, 23, 24, 25, 26, 27, 28, 29, 30, 31, 32, 33, 34, 35, 36, 37, 38, 39, 40, 41, 42, 43, 44, 45, 46, 47, 48, 49, 50, 51, 52, 53, 54, 55, 56, 57, 58, 59, 60] (by decide +kernel) (by decide +kernel)
set_option maxRecDepth 20000 in
theorem gX11_room_X11_isRoom : GoodIn wsX11_room (wsV RX11 227 RX11 yX11_isRoom wsX11_isRoom) := goodIn_app (goodIn_of _ (by decide +kernel)) ggX11_room_X11_isRoom
set_option maxRecDepth 20000 in
theorem ggX11_room_X11_whoIsIn : GoodIn wsX11_room wsX11_whoIsIn := goodIn_r _ [17, 18, 19, 20, 21, 22, 23, 24, 25, 26, 27, 28, 29, 30, 31, 32, 33, 34, 35, 36, 37, 38, 39, 40, 41, 42, 43, 44, 45, 46, 47, 48, 49, 50, 51, 52, 53, 54, 55, 56, 57, 58, 59, 60] (by decide +kernel) (by decide +kernel)
set_option maxRecDepth 20000 in
theorem gX11_room_X11_whoIsIn : GoodIn wsX11_room (wsV RX11 231 RX11 yX11_whoIsIn wsX11_whoIsIn) := goodIn_app (goodIn_of _ (by decide +kernel)) ggX11_room_X11_whoIsIn
theorem dX11_room_0 : decode cX11_room 0 = .ok (.aload_n 0, 1) := by decide +kernel
theorem dX11_room_1 : decode cX11_room 1 = .ok (.iload_n 1, 1) := by decide +kernel
theorem dX11_room_2 : decode cX11_room 2 = .ok (.invokevirtual 227, 3) := by decide +kernel
theorem dX11_room_5 : decode cX11_room 5 = .ok (.ifCond .ne 6, 3) := by decide +kernel
theorem dX11_room_8 : decode cX11_room 8 = .ok (.ldc 230, 2) := by decide +kernel
theorem dX11_room_10 : decode cX11_room 10 = .ok (.ireturn, 1) := by decide +kernel
theorem dX11_room_11 : decode cX11_room 11 = .ok (.iload_n 2, 1) := by decide +kernel
theorem dX11_room_12 : decode cX11_room 12 = .ok (.ifCond .ne 11, 3) := by decide +kernel
theorem dX11_room_15 : decode cX11_room 15 = .ok (.aload_n 0, 1) := by decide +kernel
theorem dX11_room_16 : decode cX11_room 16 = .ok (.iload_n 1, 1) := by decide +kernel
theorem dX11_room_17 : decode cX11_room 17 = .ok (.invokevirtual 231, 3) := by decide +kernel
theorem dX11_room_20 : decode cX11_room 20 = .ok (.goto 33, 3) := by decide +kernel
theorem dX11_room_23 : decode cX11_room 23 = .ok (.iload_n 2, 1) := by decide +kernel
theorem dX11_room_24 : decode cX11_room 24 = .ok (.iconst 1, 1) := by decide +kernel
theorem dX11_room_25 : decode cX11_room 25 = .ok (.if_icmp .ne 12, 3) := by decide +kernel
theorem dX11_room_28 : decode cX11_room 28 = .ok (.aload_n 0, 1) := by decide +kernel
theorem dX11_room_29 : decode cX11_room 29 = .ok (.getfield 7, 3) := by decide +kernel
theorem dX11_room_32 : decode cX11_room 32 = .ok (.iload_n 1, 1) := by decide +kernel
theorem dX11_room_33 : decode cX11_room 33 = .ok (.iaload, 1) := by decide +kernel
theorem dX11_room_34 : decode cX11_room 34 = .ok (.goto 19, 3) := by decide +kernel
theorem dX11_room_37 : decode cX11_room 37 = .ok (.iload_n 2, 1) := by decide +kernel
theorem dX11_room_38 : decode cX11_room 38 = .ok (.iconst 2, 1) := by decide +kernel
theorem dX11_room_39 : decode cX11_room 39 = .ok (.if_icmp .ne 12, 3) := by decide +kernel
theorem dX11_room_42 : decode cX11_room 42 = .ok (.aload_n 0, 1) := by decide +kernel
theorem dX11_room_43 : decode cX11_room 43 = .ok (.getfield 13, 3) := by decide +kernel
theorem dX11_room_46 : decode cX11_room 46 = .ok (.iload_n 1, 1) := by decide +kernel
theorem dX11_room_47 : decode cX11_room 47 = .ok (.iaload, 1) := by decide +kernel
theorem dX11_room_48 : decode cX11_room 48 = .ok (.goto 5, 3) := by decide +kernel
theorem dX11_room_51 : decode cX11_room 51 = .ok (.ldc 91, 2) := by decide +kernel
theorem dX11_room_53 : decode cX11_room 53 = .ok (.ireturn, 1) := by decide +kernel
set_option maxRecDepth 20000 in
theorem ggX11_person_X11_isPerson : GoodIn wsX11_person wsX11_isPerson := goodIn_r _ [9, 10, 11, 12, 8, 13, 14, 15, 16, 17, 18, 19, 20, 21, 22, 23, 24, 25, 26, 27, 28, 29, 30, 31, 32, 33, 34, 35, 36, 37, 38, 39, 40, 41, 42, 43, 44, 45, 46, 47, 48, 49, 50, 51, 52, 53, 54] (by decide +kernel) (by decide +kernel)
set_option maxRecDepth 20000 in
theorem gX11_person_X11_isPerson : GoodIn wsX11_person (wsV RX11 85 RX11 yX11_isPerson wsX11_isPerson) := goodIn_app (goodIn_of _ (by decide +kernel)) ggX11_person_X11_isPerson
theorem dX11_person_0 : decode cX11_person 0 = .ok (.aload_n 0, 1) := by decide +kernel
theorem dX11_person_1 : decode cX11_person 1 = .ok (.iload_n 1, 1) := by decide +kernel
theorem dX11_person_2 : decode cX11_person 2 = .ok (.invokevirtual 85, 3) := by decide +kernel
theorem dX11_person_5 : decode cX11_person 5 = .ok (.ifCond .ne 6, 3) := by decide +kernel
theorem dX11_person_8 : decode cX11_person 8 = .ok (.ldc 230, 2) := by decide +kernel
theorem dX11_person_10 : decode cX11_person 10 = .ok (.ireturn, 1) := by decide +kernel
theorem dX11_person_11 : decode cX11_person 11 = .ok (.iload_n 2, 1) := by decide +kernel
theorem dX11_person_12 : decode cX11_person 12 = .ok (.tableswitch 87 0 4 #[36, 43, 52, 66, 76], 36) := by decide +kernel
theorem dX11_person_48 : decode cX11_person 48 = .ok (.aload_n 0, 1) := by decide +kernel
theorem dX11_person_49 : decode cX11_person 49 = .ok (.getfield 16, 3) := by decide +kernel
theorem dX11_person_52 : decode cX11_person 52 = .ok (.iload_n 1, 1) := by decide +kernel
theorem dX11_person_53 : decode cX11_person 53 = .ok (.iaload, 1) := by decide +kernel
theorem dX11_person_54 : decode cX11_person 54 = .ok (.ireturn, 1) := by decide +kernel
theorem dX11_person_55 : decode cX11_person 55 = .ok (.aload_n 0, 1) := by decide +kernel
theorem dX11_person_56 : decode cX11_person 56 = .ok (.getfield 19, 3) := by decide +kernel
theorem dX11_person_59 : decode cX11_person 59 = .ok (.iconst 2, 1) := by decide +kernel
theorem dX11_person_60 : decode cX11_person 60 = .ok (.iload_n 1, 1) := by decide +kernel
theorem dX11_person_61 : decode cX11_person 61 = .ok (.iadd, 1) := by decide +kernel
theorem dX11_person_62 : decode cX11_person 62 = .ok (.iaload, 1) := by decide +kernel
theorem dX11_person_63 : decode cX11_person 63 = .ok (.ireturn, 1) := by decide +kernel
theorem dX11_person_64 : decode cX11_person 64 = .ok (.aload_n 0, 1) := by decide +kernel
theorem dX11_person_65 : decode cX11_person 65 = .ok (.getfield 19, 3) := by decide +kernel
theorem dX11_person_68 : decode cX11_person 68 = .ok (.bipush 9, 2) := by decide +kernel
theorem dX11_person_70 : decode cX11_person 70 = .ok (.iload_n 1, 1) := by decide +kernel
theorem dX11_person_71 : decode cX11_person 71 = .ok (.iadd, 1) := by decide +kernel
theorem dX11_person_72 : decode cX11_person 72 = .ok (.iaload, 1) := by decide +kernel
theorem dX11_person_73 : decode cX11_person 73 = .ok (.sipush 10000, 3) := by decide +kernel
theorem dX11_person_76 : decode cX11_person 76 = .ok (.iadd, 1) := by decide +kernel
theorem dX11_person_77 : decode cX11_person 77 = .ok (.ireturn, 1) := by decide +kernel
theorem dX11_person_78 : decode cX11_person 78 = .ok (.aload_n 0, 1) := by decide +kernel
theorem dX11_person_79 : decode cX11_person 79 = .ok (.getfield 19, 3) := by decide +kernel
theorem dX11_person_82 : decode cX11_person 82 = .ok (.bipush 16, 2) := by decide +kernel
theorem dX11_person_84 : decode cX11_person 84 = .ok (.iload_n 1, 1) := by decide +kernel
theorem dX11_person_85 : decode cX11_person 85 = .ok (.iadd, 1) := by decide +kernel
theorem dX11_person_86 : decode cX11_person 86 = .ok (.iaload, 1) := by decide +kernel
theorem dX11_person_87 : decode cX11_person 87 = .ok (.ireturn, 1) := by decide +kernel
theorem dX11_person_88 : decode cX11_person 88 = .ok (.aload_n 0, 1) := by decide +kernel
theorem dX11_person_89 : decode cX11_person 89 = .ok (.getfield 19, 3) := by decide +kernel
theorem dX11_person_92 : decode cX11_person 92 = .ok (.iconst 1, 1) := by decide +kernel
theorem dX11_person_93 : decode cX11_person 93 = .ok (.iaload, 1) := by decide +kernel
theorem dX11_person_94 : decode cX11_person 94 = .ok (.iload_n 1, 1) := by decide +kernel
theorem dX11_person_95 : decode cX11_person 95 = .ok (.ishr, 1) := by decide +kernel
theorem dX11_person_96 : decode cX11_person 96 = .ok (.iconst 1, 1) := by decide +kernel
theorem dX11_person_97 : decode cX11_person 97 = .ok (.iand, 1) := by decide +kernel
theorem dX11_person_98 : decode cX11_person 98 = .ok (.ireturn, 1) := by decide +kernel
theorem dX11_person_99 : decode cX11_person 99 = .ok (.ldc 91, 2) := by decide +kernel
theorem dX11_person_101 : decode cX11_person 101 = .ok (.ireturn, 1) := by decide +kernel
set_option maxRecDepth 20000 in
theorem ggX11_liking_X11_areTwo : GoodIn wsX11_liking wsX11_areTwo := goodIn_r _ [7, 8, 9, 10, 6, 11, 12, 13, 14, 15, 16, 17, 18, 19, 20, 21, 22, 23, 24, 25, 26, 27, 28, 29, 30, 31, 32, 33, 34, 35, 36, 37, 38, 39, 40, 41, 42, 43, 44, 45, 46, 47, 48, 49, 50, 51, 52, 53, 54, 55, 56] (by decide +kernel) (by decide +kernel)
set_option maxRecDepth 20000 in
theorem gX11_liking_X11_areTwo : GoodIn wsX11_liking (wsV RX11 234 RX11 yX11_areTwo wsX11_areTwo) := goodIn_app (goodIn_of _ (by decide +kernel)) ggX11_liking_X11_areTwo
theorem dX11_liking_0 : decode cX11_liking 0 = .ok (.aload_n 0, 1) := by decide +kernel
theorem dX11_liking_1 : decode cX11_liking 1 = .ok (.iload_n 1, 1) := by decide +kernel
theorem dX11_liking_2 : decode cX11_liking 2 = .ok (.iload_n 2, 1) := by decide +kernel
theorem dX11_liking_3 : decode cX11_liking 3 = .ok (.invokevirtual 234, 3) := by decide +kernel
theorem dX11_liking_6 : decode cX11_liking 6 = .ok (.ifCond .eq 20, 3) := by decide +kernel
theorem dX11_liking_9 : decode cX11_liking 9 = .ok (.aload_n 0, 1) := by decide +kernel
theorem dX11_liking_10 : decode cX11_liking 10 = .ok (.getfield 19, 3) := by decide +kernel
theorem dX11_liking_13 : decode cX11_liking 13 = .ok (.bipush 23, 2) := by decide +kernel
theorem dX11_liking_15 : decode cX11_liking 15 = .ok (.bipush 7, 2) := by decide +kernel
theorem dX11_liking_17 : decode cX11_liking 17 = .ok (.iload_n 1, 1) := by decide +kernel
theorem dX11_liking_18 : decode cX11_liking 18 = .ok (.imul, 1) := by decide +kernel
theorem dX11_liking_19 : decode cX11_liking 19 = .ok (.iadd, 1) := by decide +kernel
theorem dX11_liking_20 : decode cX11_liking 20 = .ok (.iload_n 2, 1) := by decide +kernel
theorem dX11_liking_21 : decode cX11_liking 21 = .ok (.iadd, 1) := by decide +kernel
theorem dX11_liking_22 : decode cX11_liking 22 = .ok (.iaload, 1) := by decide +kernel
theorem dX11_liking_23 : decode cX11_liking 23 = .ok (.goto 5, 3) := by decide +kernel
theorem dX11_liking_26 : decode cX11_liking 26 = .ok (.ldc 230, 2) := by decide +kernel
theorem dX11_liking_28 : decode cX11_liking 28 = .ok (.ireturn, 1) := by decide +kernel
set_option maxRecDepth 20000 in
theorem ggX11_said_X11_areTwo : GoodIn wsX11_said wsX11_areTwo := goodIn_r _ [8, 9, 10, 11, 7, 12, 13, 14, 15, 16, 37, 38, 39, 40, 41, 42, 43, 44, 45, 46, 47, 48, 49, 50, 51, 52, 53, 54, 55, 56, 57, 58, 59, 60, 61, 62, 63, 64, 65, 66, 67, 68, 69, 70, 71, 72, 73, 74, 75, 76, 77] (by decide +kernel) (by decide +kernel)
set_option maxRecDepth 20000 in
theorem gX11_said_X11_areTwo : GoodIn wsX11_said (wsV RX11 234 RX11 yX11_areTwo wsX11_areTwo) := goodIn_app (goodIn_of _ (by decide +kernel)) ggX11_said_X11_areTwo
set_option maxRecDepth 20000 in
theorem ggX11_said_X11_says : GoodIn wsX11_said wsX11_says := goodIn_r _ [20, 21, 22, 23, 7, 24, 25, 26, 27, 28, 29, 30, 31, 32, 37, 38, 39, 40, 41, 42, 43, 44, 45, 46, 47, 48, 49, 50, 51, 52, 53, 54, 55, 56, 57, 58, 59, 60, 61, 62, 63, 64, 65, 66, 67, 68, 69, 70, 71, 72, 73, 74, 75, 76, 77] (by decide +kernel) (by decide +kernel)
set_option maxRecDepth 20000 in
theorem gX11_said_X11_says : GoodIn wsX11_said (wsV RX11 206 RX11 yX11_says wsX11_says) := goodIn_app (goodIn_of _ (by decide +kernel)) ggX11_said_X11_says
set_option maxRecDepth 20000 in
theorem ggX11_said_X11_hears : GoodIn wsX11_said wsX11_hears := goodIn_r _ [36, 29, 22, 23, 7, 24, 37, 38, 39, 40, 41, 42, 43, 44, 45, 46, 47, 48, 49, 50, 51, 52, 53, 54, 55, 56, 57, 58, 59, 60, 61, 62, 63, 64, 65, 66, 67, 68, 69, 70, 71, 72, 73, 74, 75, 76, 77] (by decide +kernel) (by decide +kernel)
set_option maxRecDepth 20000 in
theorem gX11_said_X11_hears : GoodIn wsX11_said (wsV RX11 210 RX11 yX11_hears wsX11_hears) := goodIn_app (goodIn_of _ (by decide +kernel)) ggX11_said_X11_hears
theorem dX11_said_0 : decode cX11_said 0 = .ok (.aload_n 0, 1) := by decide +kernel
theorem dX11_said_1 : decode cX11_said 1 = .ok (.iload_n 1, 1) := by decide +kernel
theorem dX11_said_2 : decode cX11_said 2 = .ok (.iload_n 2, 1) := by decide +kernel
theorem dX11_said_3 : decode cX11_said 3 = .ok (.invokevirtual 234, 3) := by decide +kernel
theorem dX11_said_6 : decode cX11_said 6 = .ok (.ifCond .ne 6, 3) := by decide +kernel
theorem dX11_said_9 : decode cX11_said 9 = .ok (.ldc 230, 2) := by decide +kernel
theorem dX11_said_11 : decode cX11_said 11 = .ok (.ireturn, 1) := by decide +kernel
theorem dX11_said_12 : decode cX11_said 12 = .ok (.iload_n 3, 1) := by decide +kernel
theorem dX11_said_13 : decode cX11_said 13 = .ok (.ifCond .ne 19, 3) := by decide +kernel
theorem dX11_said_16 : decode cX11_said 16 = .ok (.aload_n 0, 1) := by decide +kernel
theorem dX11_said_17 : decode cX11_said 17 = .ok (.aload_n 0, 1) := by decide +kernel
theorem dX11_said_18 : decode cX11_said 18 = .ok (.getfield 19, 3) := by decide +kernel
theorem dX11_said_21 : decode cX11_said 21 = .ok (.iload_n 1, 1) := by decide +kernel
theorem dX11_said_22 : decode cX11_said 22 = .ok (.iload_n 2, 1) := by decide +kernel
theorem dX11_said_23 : decode cX11_said 23 = .ok (.invokevirtual 206, 3) := by decide +kernel
theorem dX11_said_26 : decode cX11_said 26 = .ok (.bipush 100, 2) := by decide +kernel
theorem dX11_said_28 : decode cX11_said 28 = .ok (.iadd, 1) := by decide +kernel
theorem dX11_said_29 : decode cX11_said 29 = .ok (.goto 31, 3) := by decide +kernel
theorem dX11_said_32 : decode cX11_said 32 = .ok (.iload_n 3, 1) := by decide +kernel
theorem dX11_said_33 : decode cX11_said 33 = .ok (.iconst 1, 1) := by decide +kernel
theorem dX11_said_34 : decode cX11_said 34 = .ok (.if_icmp .ne 24, 3) := by decide +kernel
theorem dX11_said_37 : decode cX11_said 37 = .ok (.aload_n 0, 1) := by decide +kernel
theorem dX11_said_38 : decode cX11_said 38 = .ok (.aload_n 0, 1) := by decide +kernel
theorem dX11_said_39 : decode cX11_said 39 = .ok (.getfield 19, 3) := by decide +kernel
theorem dX11_said_42 : decode cX11_said 42 = .ok (.iload_n 1, 1) := by decide +kernel
theorem dX11_said_43 : decode cX11_said 43 = .ok (.iload_n 2, 1) := by decide +kernel
theorem dX11_said_44 : decode cX11_said 44 = .ok (.invokevirtual 210, 3) := by decide +kernel
theorem dX11_said_47 : decode cX11_said 47 = .ok (.ifCond .eq 7, 3) := by decide +kernel
theorem dX11_said_50 : decode cX11_said 50 = .ok (.iconst 1, 1) := by decide +kernel
theorem dX11_said_51 : decode cX11_said 51 = .ok (.goto 9, 3) := by decide +kernel
theorem dX11_said_54 : decode cX11_said 54 = .ok (.iconst 0, 1) := by decide +kernel
theorem dX11_said_55 : decode cX11_said 55 = .ok (.goto 5, 3) := by decide +kernel
theorem dX11_said_58 : decode cX11_said 58 = .ok (.ldc 91, 2) := by decide +kernel
theorem dX11_said_60 : decode cX11_said 60 = .ok (.ireturn, 1) := by decide +kernel
theorem dX11_remember_0 : decode cX11_remember 0 = .ok (.aload_n 0, 1) := by decide +kernel
theorem dX11_remember_1 : decode cX11_remember 1 = .ok (.getfield 192, 3) := by decide +kernel
theorem dX11_remember_4 : decode cX11_remember 4 = .ok (.bipush 16, 2) := by decide +kernel
theorem dX11_remember_6 : decode cX11_remember 6 = .ok (.if_icmp .ne 44, 3) := by decide +kernel
theorem dX11_remember_9 : decode cX11_remember 9 = .ok (.bipush 72, 2) := by decide +kernel
theorem dX11_remember_11 : decode cX11_remember 11 = .ok (.istore_n 1, 1) := by decide +kernel
theorem dX11_remember_12 : decode cX11_remember 12 = .ok (.iload_n 1, 1) := by decide +kernel
theorem dX11_remember_13 : decode cX11_remember 13 = .ok (.sipush 1152, 3) := by decide +kernel
theorem dX11_remember_16 : decode cX11_remember 16 = .ok (.if_icmp .ge 24, 3) := by decide +kernel
theorem dX11_remember_19 : decode cX11_remember 19 = .ok (.aload_n 0, 1) := by decide +kernel
theorem dX11_remember_20 : decode cX11_remember 20 = .ok (.getfield 62, 3) := by decide +kernel
theorem dX11_remember_23 : decode cX11_remember 23 = .ok (.iload_n 1, 1) := by decide +kernel
theorem dX11_remember_24 : decode cX11_remember 24 = .ok (.bipush 72, 2) := by decide +kernel
theorem dX11_remember_26 : decode cX11_remember 26 = .ok (.isub, 1) := by decide +kernel
theorem dX11_remember_27 : decode cX11_remember 27 = .ok (.aload_n 0, 1) := by decide +kernel
theorem dX11_remember_28 : decode cX11_remember 28 = .ok (.getfield 62, 3) := by decide +kernel
theorem dX11_remember_31 : decode cX11_remember 31 = .ok (.iload_n 1, 1) := by decide +kernel
theorem dX11_remember_32 : decode cX11_remember 32 = .ok (.iaload, 1) := by decide +kernel
theorem dX11_remember_33 : decode cX11_remember 33 = .ok (.iastore, 1) := by decide +kernel
theorem dX11_remember_34 : decode cX11_remember 34 = .ok (.iinc 1 1, 3) := by decide +kernel
theorem dX11_remember_37 : decode cX11_remember 37 = .ok (.goto (-25), 3) := by decide +kernel
theorem dX11_remember_40 : decode cX11_remember 40 = .ok (.aload_n 0, 1) := by decide +kernel
theorem dX11_remember_41 : decode cX11_remember 41 = .ok (.dup, 1) := by decide +kernel
theorem dX11_remember_42 : decode cX11_remember 42 = .ok (.getfield 192, 3) := by decide +kernel
theorem dX11_remember_45 : decode cX11_remember 45 = .ok (.iconst 1, 1) := by decide +kernel
theorem dX11_remember_46 : decode cX11_remember 46 = .ok (.isub, 1) := by decide +kernel
theorem dX11_remember_47 : decode cX11_remember 47 = .ok (.putfield 192, 3) := by decide +kernel
theorem dX11_remember_50 : decode cX11_remember 50 = .ok (.iconst 0, 1) := by decide +kernel
theorem dX11_remember_51 : decode cX11_remember 51 = .ok (.istore_n 1, 1) := by decide +kernel
theorem dX11_remember_52 : decode cX11_remember 52 = .ok (.iload_n 1, 1) := by decide +kernel
theorem dX11_remember_53 : decode cX11_remember 53 = .ok (.bipush 72, 2) := by decide +kernel
theorem dX11_remember_55 : decode cX11_remember 55 = .ok (.if_icmp .ge 29, 3) := by decide +kernel
theorem dX11_remember_58 : decode cX11_remember 58 = .ok (.aload_n 0, 1) := by decide +kernel
theorem dX11_remember_59 : decode cX11_remember 59 = .ok (.getfield 62, 3) := by decide +kernel
theorem dX11_remember_62 : decode cX11_remember 62 = .ok (.bipush 72, 2) := by decide +kernel
theorem dX11_remember_64 : decode cX11_remember 64 = .ok (.aload_n 0, 1) := by decide +kernel
theorem dX11_remember_65 : decode cX11_remember 65 = .ok (.getfield 192, 3) := by decide +kernel
theorem dX11_remember_68 : decode cX11_remember 68 = .ok (.imul, 1) := by decide +kernel
theorem dX11_remember_69 : decode cX11_remember 69 = .ok (.iload_n 1, 1) := by decide +kernel
theorem dX11_remember_70 : decode cX11_remember 70 = .ok (.iadd, 1) := by decide +kernel
theorem dX11_remember_71 : decode cX11_remember 71 = .ok (.aload_n 0, 1) := by decide +kernel
theorem dX11_remember_72 : decode cX11_remember 72 = .ok (.getfield 19, 3) := by decide +kernel
theorem dX11_remember_75 : decode cX11_remember 75 = .ok (.iload_n 1, 1) := by decide +kernel
theorem dX11_remember_76 : decode cX11_remember 76 = .ok (.iaload, 1) := by decide +kernel
theorem dX11_remember_77 : decode cX11_remember 77 = .ok (.iastore, 1) := by decide +kernel
theorem dX11_remember_78 : decode cX11_remember 78 = .ok (.iinc 1 1, 3) := by decide +kernel
theorem dX11_remember_81 : decode cX11_remember 81 = .ok (.goto (-29), 3) := by decide +kernel
theorem dX11_remember_84 : decode cX11_remember 84 = .ok (.aload_n 0, 1) := by decide +kernel
theorem dX11_remember_85 : decode cX11_remember 85 = .ok (.dup, 1) := by decide +kernel
theorem dX11_remember_86 : decode cX11_remember 86 = .ok (.getfield 192, 3) := by decide +kernel
theorem dX11_remember_89 : decode cX11_remember 89 = .ok (.iconst 1, 1) := by decide +kernel
theorem dX11_remember_90 : decode cX11_remember 90 = .ok (.iadd, 1) := by decide +kernel
theorem dX11_remember_91 : decode cX11_remember 91 = .ok (.putfield 192, 3) := by decide +kernel
theorem dX11_remember_94 : decode cX11_remember 94 = .ok (.return_, 1) := by decide +kernel
set_option maxRecDepth 20000 in
theorem ggX11_hoursRefused_X11_in : GoodIn wsX11_hoursRefused wsX11_in := goodIn_r _ [10] (by decide +kernel) (by decide +kernel)
set_option maxRecDepth 20000 in
theorem gX11_hoursRefused_X11_in : GoodIn wsX11_hoursRefused (va_wsS RX11 78 yX11_in wsX11_in) := goodIn_app (goodIn_of _ (by decide +kernel)) ggX11_hoursRefused_X11_in
theorem dX11_hoursRefused_0 : decode cX11_hoursRefused 0 = .ok (.iload_n 1, 1) := by decide +kernel
theorem dX11_hoursRefused_1 : decode cX11_hoursRefused 1 = .ok (.i2l, 1) := by decide +kernel
theorem dX11_hoursRefused_2 : decode cX11_hoursRefused 2 = .ok (.lconst 1, 1) := by decide +kernel
theorem dX11_hoursRefused_3 : decode cX11_hoursRefused 3 = .ok (.ldc2_w 237, 3) := by decide +kernel
theorem dX11_hoursRefused_6 : decode cX11_hoursRefused 6 = .ok (.invokestatic 78, 3) := by decide +kernel
theorem dX11_hoursRefused_9 : decode cX11_hoursRefused 9 = .ok (.ifCond .ne 6, 3) := by decide +kernel
theorem dX11_hoursRefused_12 : decode cX11_hoursRefused 12 = .ok (.ldc 91, 2) := by decide +kernel
theorem dX11_hoursRefused_14 : decode cX11_hoursRefused 14 = .ok (.ireturn, 1) := by decide +kernel
theorem dX11_hoursRefused_15 : decode cX11_hoursRefused 15 = .ok (.aload_n 0, 1) := by decide +kernel
theorem dX11_hoursRefused_16 : decode cX11_hoursRefused 16 = .ok (.getfield 75, 3) := by decide +kernel
theorem dX11_hoursRefused_19 : decode cX11_hoursRefused 19 = .ok (.ifCond .ne 8, 3) := by decide +kernel
theorem dX11_hoursRefused_22 : decode cX11_hoursRefused 22 = .ok (.ldc 239, 2) := by decide +kernel
theorem dX11_hoursRefused_24 : decode cX11_hoursRefused 24 = .ok (.goto 21, 3) := by decide +kernel
theorem dX11_hoursRefused_27 : decode cX11_hoursRefused 27 = .ok (.aload_n 0, 1) := by decide +kernel
theorem dX11_hoursRefused_28 : decode cX11_hoursRefused 28 = .ok (.getfield 19, 3) := by decide +kernel
theorem dX11_hoursRefused_31 : decode cX11_hoursRefused 31 = .ok (.iconst 0, 1) := by decide +kernel
theorem dX11_hoursRefused_32 : decode cX11_hoursRefused 32 = .ok (.iaload, 1) := by decide +kernel
theorem dX11_hoursRefused_33 : decode cX11_hoursRefused 33 = .ok (.sipush 9000, 3) := by decide +kernel
theorem dX11_hoursRefused_36 : decode cX11_hoursRefused 36 = .ok (.if_icmp .le 8, 3) := by decide +kernel
theorem dX11_hoursRefused_39 : decode cX11_hoursRefused 39 = .ok (.ldc 95, 2) := by decide +kernel
theorem dX11_hoursRefused_41 : decode cX11_hoursRefused 41 = .ok (.goto 4, 3) := by decide +kernel
theorem dX11_hoursRefused_44 : decode cX11_hoursRefused 44 = .ok (.iconst 0, 1) := by decide +kernel
theorem dX11_hoursRefused_45 : decode cX11_hoursRefused 45 = .ok (.ireturn, 1) := by decide +kernel
set_option maxRecDepth 20000 in
theorem ggX11_hour_X11_hoursRefused : GoodIn wsX11_hour wsX11_hoursRefused := goodIn_r _ [6, 7, 8, 9, 10, 1, 11, 12, 13, 5, 14, 51, 52, 53, 54, 55, 56, 57, 58, 59, 60, 61, 62, 63, 64, 65, 66, 67, 68, 69, 70, 71, 72, 73, 74, 75, 76, 77, 78, 79, 80, 81, 82, 83, 84, 85, 86, 87, 88, 89, 90, 91] (by decide +kernel) (by decide +kernel)
set_option maxRecDepth 20000 in
theorem gX11_hour_X11_hoursRefused : GoodIn wsX11_hour (wsV RX11 240 RX11 yX11_hoursRefused wsX11_hoursRefused) := goodIn_app (goodIn_of _ (by decide +kernel)) ggX11_hour_X11_hoursRefused
set_option maxRecDepth 20000 in
theorem ggX11_hour_X11_remember : GoodIn wsX11_hour wsX11_remember := goodIn_r _ [18, 19, 20, 1, 51, 52, 53, 54, 55, 56, 57, 58, 59, 60, 61, 62, 63, 64, 65, 66, 67, 68, 69, 70, 71, 72, 73, 74, 75, 76, 77, 78, 79, 80, 81, 82, 83, 84, 85, 86, 87, 88, 89, 90, 91] (by decide +kernel) (by decide +kernel)
set_option maxRecDepth 20000 in
theorem gX11_hour_X11_remember : GoodIn wsX11_hour (wsV RX11 243 RX11 yX11_remember wsX11_remember) := goodIn_app (goodIn_of _ (by decide +kernel)) ggX11_hour_X11_remember
set_option maxRecDepth 20000 in
theorem ggX11_hour_X11_passes : GoodIn wsX11_hour wsX11_passes := goodIn_r _ [24, 25, 26, 27, 28, 29, 5, 30, 31, 32, 33, 34, 35, 36, 37, 38, 39, 40, 41, 42, 43, 44, 45, 46, 47, 48, 49, 50, 51, 52, 53, 54, 55, 56, 57, 58, 59, 60, 61, 62, 63, 64, 65, 66, 67, 68, 69, 70, 71, 72, 73, 74, 75, 76, 77, 78, 79, 80, 81, 82, 83, 84, 85, 86, 87, 88, 89, 90, 91] (by decide +kernel) (by decide +kernel)
set_option maxRecDepth 20000 in
theorem gX11_hour_X11_passes : GoodIn wsX11_hour (wsV RX11 246 RX11 yX11_passes wsX11_passes) := goodIn_app (goodIn_of _ (by decide +kernel)) ggX11_hour_X11_passes
theorem dX11_hour_0 : decode cX11_hour 0 = .ok (.aload_n 0, 1) := by decide +kernel
theorem dX11_hour_1 : decode cX11_hour 1 = .ok (.iload_n 1, 1) := by decide +kernel
theorem dX11_hour_2 : decode cX11_hour 2 = .ok (.invokevirtual 240, 3) := by decide +kernel
theorem dX11_hour_5 : decode cX11_hour 5 = .ok (.istore_n 2, 1) := by decide +kernel
theorem dX11_hour_6 : decode cX11_hour 6 = .ok (.iload_n 2, 1) := by decide +kernel
theorem dX11_hour_7 : decode cX11_hour 7 = .ok (.ifCond .eq 5, 3) := by decide +kernel
theorem dX11_hour_10 : decode cX11_hour 10 = .ok (.iload_n 2, 1) := by decide +kernel
theorem dX11_hour_11 : decode cX11_hour 11 = .ok (.ireturn, 1) := by decide +kernel
theorem dX11_hour_12 : decode cX11_hour 12 = .ok (.aload_n 0, 1) := by decide +kernel
theorem dX11_hour_13 : decode cX11_hour 13 = .ok (.invokevirtual 243, 3) := by decide +kernel
theorem dX11_hour_16 : decode cX11_hour 16 = .ok (.iconst 0, 1) := by decide +kernel
theorem dX11_hour_17 : decode cX11_hour 17 = .ok (.istore_n 3, 1) := by decide +kernel
theorem dX11_hour_18 : decode cX11_hour 18 = .ok (.iload_n 3, 1) := by decide +kernel
theorem dX11_hour_19 : decode cX11_hour 19 = .ok (.iload_n 1, 1) := by decide +kernel
theorem dX11_hour_20 : decode cX11_hour 20 = .ok (.if_icmp .ge 17, 3) := by decide +kernel
theorem dX11_hour_23 : decode cX11_hour 23 = .ok (.aload_n 0, 1) := by decide +kernel
theorem dX11_hour_24 : decode cX11_hour 24 = .ok (.aload_n 0, 1) := by decide +kernel
theorem dX11_hour_25 : decode cX11_hour 25 = .ok (.getfield 19, 3) := by decide +kernel
theorem dX11_hour_28 : decode cX11_hour 28 = .ok (.invokevirtual 246, 3) := by decide +kernel
theorem dX11_hour_31 : decode cX11_hour 31 = .ok (.iinc 3 1, 3) := by decide +kernel
theorem dX11_hour_34 : decode cX11_hour 34 = .ok (.goto (-16), 3) := by decide +kernel
theorem dX11_hour_37 : decode cX11_hour 37 = .ok (.aload_n 0, 1) := by decide +kernel
theorem dX11_hour_38 : decode cX11_hour 38 = .ok (.getfield 19, 3) := by decide +kernel
theorem dX11_hour_41 : decode cX11_hour 41 = .ok (.iconst 0, 1) := by decide +kernel
theorem dX11_hour_42 : decode cX11_hour 42 = .ok (.iaload, 1) := by decide +kernel
theorem dX11_hour_43 : decode cX11_hour 43 = .ok (.ireturn, 1) := by decide +kernel
set_option maxRecDepth 20000 in
theorem ggX11_go_X11_isPerson : GoodIn wsX11_go wsX11_isPerson := goodIn_r _ [9, 10, 11, 12, 8, 13, 28, 29, 30, 31, 32, 33, 34, 35, 36, 37, 38, 39, 40, 41, 42, 43, 44, 45, 46, 47, 48, 49, 50, 51, 52, 53, 54, 55, 56, 57, 58, 59, 60, 61, 62, 63, 64, 65, 66, 67, 68] (by decide +kernel) (by decide +kernel)
set_option maxRecDepth 20000 in
theorem gX11_go_X11_isPerson : GoodIn wsX11_go (wsV RX11 85 RX11 yX11_isPerson wsX11_isPerson) := goodIn_app (goodIn_of _ (by decide +kernel)) ggX11_go_X11_isPerson
set_option maxRecDepth 20000 in
theorem ggX11_go_X11_isRoom : GoodIn wsX11_go wsX11_isRoom := goodIn_r _ [17, 18, 11, 12, 8, 13, 28, 29, 30, 31, 32, 33, 34, 35, 36, 37, 38, 39, 40, 41, 42, 43, 44, 45, 46, 47, 48, 49, 50, 51, 52, 53, 54, 55, 56, 57, 58, 59, 60, 61, 62, 63, 64, 65, 66, 67, 68] (by decide +kernel) (by decide +kernel)
set_option maxRecDepth 20000 in
theorem gX11_go_X11_isRoom : GoodIn wsX11_go (wsV RX11 227 RX11 yX11_isRoom wsX11_isRoom) := goodIn_app (goodIn_of _ (by decide +kernel)) ggX11_go_X11_isRoom
set_option maxRecDepth 20000 in
theorem ggX11_go_X11_has : GoodIn wsX11_go wsX11_has := goodIn_r _ [21] (by decide +kernel) (by decide +kernel)
set_option maxRecDepth 20000 in
theorem gX11_go_X11_has : GoodIn wsX11_go (va_wsS RX11 129 yX11_has wsX11_has) := goodIn_app (goodIn_of _ (by decide +kernel)) ggX11_go_X11_has
set_option maxRecDepth 20000 in
theorem ggX11_go_X11_remember : GoodIn wsX11_go wsX11_remember := goodIn_r _ [25, 26, 27, 2, 28, 29, 30, 31, 32, 33, 34, 35, 36, 37, 38, 39, 40, 41, 42, 43, 44, 45, 46, 47, 48, 49, 50, 51, 52, 53, 54, 55, 56, 57, 58, 59, 60, 61, 62, 63, 64, 65, 66, 67, 68] (by decide +kernel) (by decide +kernel)
set_option maxRecDepth 20000 in
theorem gX11_go_X11_remember : GoodIn wsX11_go (wsV RX11 243 RX11 yX11_remember wsX11_remember) := goodIn_app (goodIn_of _ (by decide +kernel)) ggX11_go_X11_remember
theorem dX11_go_0 : decode cX11_go 0 = .ok (.aload_n 0, 1) := by decide +kernel
theorem dX11_go_1 : decode cX11_go 1 = .ok (.iload_n 1, 1) := by decide +kernel
theorem dX11_go_2 : decode cX11_go 2 = .ok (.invokevirtual 85, 3) := by decide +kernel
theorem dX11_go_5 : decode cX11_go 5 = .ok (.ifCond .eq 11, 3) := by decide +kernel
theorem dX11_go_8 : decode cX11_go 8 = .ok (.aload_n 0, 1) := by decide +kernel
theorem dX11_go_9 : decode cX11_go 9 = .ok (.iload_n 2, 1) := by decide +kernel
theorem dX11_go_10 : decode cX11_go 10 = .ok (.invokevirtual 227, 3) := by decide +kernel
theorem dX11_go_13 : decode cX11_go 13 = .ok (.ifCond .ne 6, 3) := by decide +kernel
theorem dX11_go_16 : decode cX11_go 16 = .ok (.ldc 230, 2) := by decide +kernel
theorem dX11_go_18 : decode cX11_go 18 = .ok (.ireturn, 1) := by decide +kernel
theorem dX11_go_19 : decode cX11_go 19 = .ok (.aload_n 0, 1) := by decide +kernel
theorem dX11_go_20 : decode cX11_go 20 = .ok (.getfield 19, 3) := by decide +kernel
theorem dX11_go_23 : decode cX11_go 23 = .ok (.iconst 2, 1) := by decide +kernel
theorem dX11_go_24 : decode cX11_go 24 = .ok (.iload_n 1, 1) := by decide +kernel
theorem dX11_go_25 : decode cX11_go 25 = .ok (.iadd, 1) := by decide +kernel
theorem dX11_go_26 : decode cX11_go 26 = .ok (.iaload, 1) := by decide +kernel
theorem dX11_go_27 : decode cX11_go 27 = .ok (.istore_n 3, 1) := by decide +kernel
theorem dX11_go_28 : decode cX11_go 28 = .ok (.aload_n 0, 1) := by decide +kernel
theorem dX11_go_29 : decode cX11_go 29 = .ok (.getfield 13, 3) := by decide +kernel
theorem dX11_go_32 : decode cX11_go 32 = .ok (.iload_n 3, 1) := by decide +kernel
theorem dX11_go_33 : decode cX11_go 33 = .ok (.iaload, 1) := by decide +kernel
theorem dX11_go_34 : decode cX11_go 34 = .ok (.iload_n 2, 1) := by decide +kernel
theorem dX11_go_35 : decode cX11_go 35 = .ok (.invokestatic 129, 3) := by decide +kernel
theorem dX11_go_38 : decode cX11_go 38 = .ok (.ifCond .ne 6, 3) := by decide +kernel
theorem dX11_go_41 : decode cX11_go 41 = .ok (.ldc 239, 2) := by decide +kernel
theorem dX11_go_43 : decode cX11_go 43 = .ok (.ireturn, 1) := by decide +kernel
theorem dX11_go_44 : decode cX11_go 44 = .ok (.aload_n 0, 1) := by decide +kernel
theorem dX11_go_45 : decode cX11_go 45 = .ok (.invokevirtual 243, 3) := by decide +kernel
theorem dX11_go_48 : decode cX11_go 48 = .ok (.aload_n 0, 1) := by decide +kernel
theorem dX11_go_49 : decode cX11_go 49 = .ok (.getfield 19, 3) := by decide +kernel
theorem dX11_go_52 : decode cX11_go 52 = .ok (.iconst 2, 1) := by decide +kernel
theorem dX11_go_53 : decode cX11_go 53 = .ok (.iload_n 1, 1) := by decide +kernel
theorem dX11_go_54 : decode cX11_go 54 = .ok (.iadd, 1) := by decide +kernel
theorem dX11_go_55 : decode cX11_go 55 = .ok (.iload_n 2, 1) := by decide +kernel
theorem dX11_go_56 : decode cX11_go 56 = .ok (.iastore, 1) := by decide +kernel
theorem dX11_go_57 : decode cX11_go 57 = .ok (.iload_n 3, 1) := by decide +kernel
theorem dX11_go_58 : decode cX11_go 58 = .ok (.ireturn, 1) := by decide +kernel
set_option maxRecDepth 20000 in
theorem ggX11_cough_X11_isPerson : GoodIn wsX11_cough wsX11_isPerson := goodIn_r _ [8, 9, 10, 11, 7, 12, 22, 23, 24, 25, 26, 27, 28, 29, 30, 31, 32, 33, 34, 35, 36, 37, 38, 39, 40, 41, 42, 43, 44, 45, 46, 47, 48, 49, 50, 51, 52, 53, 54, 55, 56, 57, 58, 59, 60, 61, 62] (by decide +kernel) (by decide +kernel)
set_option maxRecDepth 20000 in
theorem gX11_cough_X11_isPerson : GoodIn wsX11_cough (wsV RX11 85 RX11 yX11_isPerson wsX11_isPerson) := goodIn_app (goodIn_of _ (by decide +kernel)) ggX11_cough_X11_isPerson
set_option maxRecDepth 20000 in
theorem ggX11_cough_X11_has : GoodIn wsX11_cough wsX11_has := goodIn_r _ [15] (by decide +kernel) (by decide +kernel)
set_option maxRecDepth 20000 in
theorem gX11_cough_X11_has : GoodIn wsX11_cough (va_wsS RX11 129 yX11_has wsX11_has) := goodIn_app (goodIn_of _ (by decide +kernel)) ggX11_cough_X11_has
set_option maxRecDepth 20000 in
theorem ggX11_cough_X11_remember : GoodIn wsX11_cough wsX11_remember := goodIn_r _ [19, 20, 21, 2, 22, 23, 24, 25, 26, 27, 28, 29, 30, 31, 32, 33, 34, 35, 36, 37, 38, 39, 40, 41, 42, 43, 44, 45, 46, 47, 48, 49, 50, 51, 52, 53, 54, 55, 56, 57, 58, 59, 60, 61, 62] (by decide +kernel) (by decide +kernel)
set_option maxRecDepth 20000 in
theorem gX11_cough_X11_remember : GoodIn wsX11_cough (wsV RX11 243 RX11 yX11_remember wsX11_remember) := goodIn_app (goodIn_of _ (by decide +kernel)) ggX11_cough_X11_remember
theorem dX11_cough_0 : decode cX11_cough 0 = .ok (.aload_n 0, 1) := by decide +kernel
theorem dX11_cough_1 : decode cX11_cough 1 = .ok (.iload_n 1, 1) := by decide +kernel
theorem dX11_cough_2 : decode cX11_cough 2 = .ok (.invokevirtual 85, 3) := by decide +kernel
theorem dX11_cough_5 : decode cX11_cough 5 = .ok (.ifCond .ne 6, 3) := by decide +kernel
theorem dX11_cough_8 : decode cX11_cough 8 = .ok (.ldc 230, 2) := by decide +kernel
theorem dX11_cough_10 : decode cX11_cough 10 = .ok (.ireturn, 1) := by decide +kernel
theorem dX11_cough_11 : decode cX11_cough 11 = .ok (.aload_n 0, 1) := by decide +kernel
theorem dX11_cough_12 : decode cX11_cough 12 = .ok (.getfield 19, 3) := by decide +kernel
theorem dX11_cough_15 : decode cX11_cough 15 = .ok (.iconst 1, 1) := by decide +kernel
theorem dX11_cough_16 : decode cX11_cough 16 = .ok (.iaload, 1) := by decide +kernel
theorem dX11_cough_17 : decode cX11_cough 17 = .ok (.iload_n 1, 1) := by decide +kernel
theorem dX11_cough_18 : decode cX11_cough 18 = .ok (.invokestatic 129, 3) := by decide +kernel
theorem dX11_cough_21 : decode cX11_cough 21 = .ok (.ifCond .eq 6, 3) := by decide +kernel
theorem dX11_cough_24 : decode cX11_cough 24 = .ok (.ldc 239, 2) := by decide +kernel
theorem dX11_cough_26 : decode cX11_cough 26 = .ok (.ireturn, 1) := by decide +kernel
theorem dX11_cough_27 : decode cX11_cough 27 = .ok (.aload_n 0, 1) := by decide +kernel
theorem dX11_cough_28 : decode cX11_cough 28 = .ok (.invokevirtual 243, 3) := by decide +kernel
theorem dX11_cough_31 : decode cX11_cough 31 = .ok (.aload_n 0, 1) := by decide +kernel
theorem dX11_cough_32 : decode cX11_cough 32 = .ok (.getfield 19, 3) := by decide +kernel
theorem dX11_cough_35 : decode cX11_cough 35 = .ok (.iconst 1, 1) := by decide +kernel
theorem dX11_cough_36 : decode cX11_cough 36 = .ok (.dup2, 1) := by decide +kernel
theorem dX11_cough_37 : decode cX11_cough 37 = .ok (.iaload, 1) := by decide +kernel
theorem dX11_cough_38 : decode cX11_cough 38 = .ok (.iconst 1, 1) := by decide +kernel
theorem dX11_cough_39 : decode cX11_cough 39 = .ok (.iload_n 1, 1) := by decide +kernel
theorem dX11_cough_40 : decode cX11_cough 40 = .ok (.ishl, 1) := by decide +kernel
theorem dX11_cough_41 : decode cX11_cough 41 = .ok (.ior, 1) := by decide +kernel
theorem dX11_cough_42 : decode cX11_cough 42 = .ok (.iastore, 1) := by decide +kernel
theorem dX11_cough_43 : decode cX11_cough 43 = .ok (.aload_n 0, 1) := by decide +kernel
theorem dX11_cough_44 : decode cX11_cough 44 = .ok (.getfield 19, 3) := by decide +kernel
theorem dX11_cough_47 : decode cX11_cough 47 = .ok (.iconst 1, 1) := by decide +kernel
theorem dX11_cough_48 : decode cX11_cough 48 = .ok (.iaload, 1) := by decide +kernel
theorem dX11_cough_49 : decode cX11_cough 49 = .ok (.ireturn, 1) := by decide +kernel
set_option maxRecDepth 20000 in
theorem ggX11_like_X11_areTwo : GoodIn wsX11_like wsX11_areTwo := goodIn_r _ [9, 10, 11, 12, 8, 13, 14, 15, 16, 17, 24, 25, 26, 27, 28, 29, 30, 31, 32, 33, 34, 35, 36, 37, 38, 39, 40, 41, 42, 43, 44, 45, 46, 47, 48, 49, 50, 51, 52, 53, 54, 55, 56, 57, 58, 59, 60, 61, 62, 63, 64] (by decide +kernel) (by decide +kernel)
set_option maxRecDepth 20000 in
theorem gX11_like_X11_areTwo : GoodIn wsX11_like (wsV RX11 234 RX11 yX11_areTwo wsX11_areTwo) := goodIn_app (goodIn_of _ (by decide +kernel)) ggX11_like_X11_areTwo
set_option maxRecDepth 20000 in
theorem ggX11_like_X11_in : GoodIn wsX11_like wsX11_in := goodIn_r _ [17] (by decide +kernel) (by decide +kernel)
set_option maxRecDepth 20000 in
theorem gX11_like_X11_in : GoodIn wsX11_like (va_wsS RX11 78 yX11_in wsX11_in) := goodIn_app (goodIn_of _ (by decide +kernel)) ggX11_like_X11_in
set_option maxRecDepth 20000 in
theorem ggX11_like_X11_remember : GoodIn wsX11_like wsX11_remember := goodIn_r _ [21, 22, 23, 4, 24, 25, 26, 27, 28, 29, 30, 31, 32, 33, 34, 35, 36, 37, 38, 39, 40, 41, 42, 43, 44, 45, 46, 47, 48, 49, 50, 51, 52, 53, 54, 55, 56, 57, 58, 59, 60, 61, 62, 63, 64] (by decide +kernel) (by decide +kernel)
set_option maxRecDepth 20000 in
theorem gX11_like_X11_remember : GoodIn wsX11_like (wsV RX11 243 RX11 yX11_remember wsX11_remember) := goodIn_app (goodIn_of _ (by decide +kernel)) ggX11_like_X11_remember
theorem dX11_like_0 : decode cX11_like 0 = .ok (.aload_n 0, 1) := by decide +kernel
theorem dX11_like_1 : decode cX11_like 1 = .ok (.iload_n 1, 1) := by decide +kernel
theorem dX11_like_2 : decode cX11_like 2 = .ok (.iload_n 2, 1) := by decide +kernel
theorem dX11_like_3 : decode cX11_like 3 = .ok (.invokevirtual 234, 3) := by decide +kernel
theorem dX11_like_6 : decode cX11_like 6 = .ok (.ifCond .ne 6, 3) := by decide +kernel
theorem dX11_like_9 : decode cX11_like 9 = .ok (.ldc 230, 2) := by decide +kernel
theorem dX11_like_11 : decode cX11_like 11 = .ok (.ireturn, 1) := by decide +kernel
theorem dX11_like_12 : decode cX11_like 12 = .ok (.iload_n 3, 1) := by decide +kernel
theorem dX11_like_13 : decode cX11_like 13 = .ok (.i2l, 1) := by decide +kernel
theorem dX11_like_14 : decode cX11_like 14 = .ok (.lconst 0, 1) := by decide +kernel
theorem dX11_like_15 : decode cX11_like 15 = .ok (.ldc2_w 250, 3) := by decide +kernel
theorem dX11_like_18 : decode cX11_like 18 = .ok (.invokestatic 78, 3) := by decide +kernel
theorem dX11_like_21 : decode cX11_like 21 = .ok (.ifCond .ne 6, 3) := by decide +kernel
theorem dX11_like_24 : decode cX11_like 24 = .ok (.ldc 91, 2) := by decide +kernel
theorem dX11_like_26 : decode cX11_like 26 = .ok (.ireturn, 1) := by decide +kernel
theorem dX11_like_27 : decode cX11_like 27 = .ok (.aload_n 0, 1) := by decide +kernel
theorem dX11_like_28 : decode cX11_like 28 = .ok (.invokevirtual 243, 3) := by decide +kernel
theorem dX11_like_31 : decode cX11_like 31 = .ok (.aload_n 0, 1) := by decide +kernel
theorem dX11_like_32 : decode cX11_like 32 = .ok (.getfield 19, 3) := by decide +kernel
theorem dX11_like_35 : decode cX11_like 35 = .ok (.bipush 23, 2) := by decide +kernel
theorem dX11_like_37 : decode cX11_like 37 = .ok (.bipush 7, 2) := by decide +kernel
theorem dX11_like_39 : decode cX11_like 39 = .ok (.iload_n 1, 1) := by decide +kernel
theorem dX11_like_40 : decode cX11_like 40 = .ok (.imul, 1) := by decide +kernel
theorem dX11_like_41 : decode cX11_like 41 = .ok (.iadd, 1) := by decide +kernel
theorem dX11_like_42 : decode cX11_like 42 = .ok (.iload_n 2, 1) := by decide +kernel
theorem dX11_like_43 : decode cX11_like 43 = .ok (.iadd, 1) := by decide +kernel
theorem dX11_like_44 : decode cX11_like 44 = .ok (.iaload, 1) := by decide +kernel
theorem dX11_like_45 : decode cX11_like 45 = .ok (.istore 4, 2) := by decide +kernel
theorem dX11_like_47 : decode cX11_like 47 = .ok (.aload_n 0, 1) := by decide +kernel
theorem dX11_like_48 : decode cX11_like 48 = .ok (.getfield 19, 3) := by decide +kernel
theorem dX11_like_51 : decode cX11_like 51 = .ok (.bipush 23, 2) := by decide +kernel
theorem dX11_like_53 : decode cX11_like 53 = .ok (.bipush 7, 2) := by decide +kernel
theorem dX11_like_55 : decode cX11_like 55 = .ok (.iload_n 1, 1) := by decide +kernel
theorem dX11_like_56 : decode cX11_like 56 = .ok (.imul, 1) := by decide +kernel
theorem dX11_like_57 : decode cX11_like 57 = .ok (.iadd, 1) := by decide +kernel
theorem dX11_like_58 : decode cX11_like 58 = .ok (.iload_n 2, 1) := by decide +kernel
theorem dX11_like_59 : decode cX11_like 59 = .ok (.iadd, 1) := by decide +kernel
theorem dX11_like_60 : decode cX11_like 60 = .ok (.iload_n 3, 1) := by decide +kernel
theorem dX11_like_61 : decode cX11_like 61 = .ok (.iastore, 1) := by decide +kernel
theorem dX11_like_62 : decode cX11_like 62 = .ok (.iload 4, 2) := by decide +kernel
theorem dX11_like_64 : decode cX11_like 64 = .ok (.ireturn, 1) := by decide +kernel
theorem dX11_draw_0 : decode cX11_draw 0 = .ok (.aload_n 0, 1) := by decide +kernel
theorem dX11_draw_1 : decode cX11_draw 1 = .ok (.aload_n 0, 1) := by decide +kernel
theorem dX11_draw_2 : decode cX11_draw 2 = .ok (.getfield 252, 3) := by decide +kernel
theorem dX11_draw_5 : decode cX11_draw 5 = .ok (.i2l, 1) := by decide +kernel
theorem dX11_draw_6 : decode cX11_draw 6 = .ok (.ldc2_w 255, 3) := by decide +kernel
theorem dX11_draw_9 : decode cX11_draw 9 = .ok (.lmul, 1) := by decide +kernel
theorem dX11_draw_10 : decode cX11_draw 10 = .ok (.ldc2_w 257, 3) := by decide +kernel
theorem dX11_draw_13 : decode cX11_draw 13 = .ok (.ladd, 1) := by decide +kernel
theorem dX11_draw_14 : decode cX11_draw 14 = .ok (.ldc2_w 259, 3) := by decide +kernel
theorem dX11_draw_17 : decode cX11_draw 17 = .ok (.lrem, 1) := by decide +kernel
theorem dX11_draw_18 : decode cX11_draw 18 = .ok (.l2i, 1) := by decide +kernel
theorem dX11_draw_19 : decode cX11_draw 19 = .ok (.putfield 252, 3) := by decide +kernel
theorem dX11_draw_22 : decode cX11_draw 22 = .ok (.aload_n 0, 1) := by decide +kernel
theorem dX11_draw_23 : decode cX11_draw 23 = .ok (.getfield 252, 3) := by decide +kernel
theorem dX11_draw_26 : decode cX11_draw 26 = .ok (.ldc_w 261, 3) := by decide +kernel
theorem dX11_draw_29 : decode cX11_draw 29 = .ok (.idiv, 1) := by decide +kernel
theorem dX11_draw_30 : decode cX11_draw 30 = .ok (.iload_n 1, 1) := by decide +kernel
theorem dX11_draw_31 : decode cX11_draw 31 = .ok (.irem, 1) := by decide +kernel
theorem dX11_draw_32 : decode cX11_draw 32 = .ok (.ireturn, 1) := by decide +kernel
set_option maxRecDepth 20000 in
theorem ggX11_chance_X11_draw : GoodIn wsX11_chance wsX11_draw := goodIn_r _ [9, 10, 11, 12, 13, 14, 18, 19, 20, 21, 22, 23, 24, 25, 26, 27, 28, 29, 30, 31, 32, 33, 34, 35, 36, 37, 38, 39, 40, 41, 42, 43, 44, 45, 46, 47, 48, 49, 50, 51, 52, 53, 54, 55, 56, 57, 58] (by decide +kernel) (by decide +kernel)
set_option maxRecDepth 20000 in
theorem gX11_chance_X11_draw : GoodIn wsX11_chance (wsV RX11 262 RX11 yX11_draw wsX11_draw) := goodIn_app (goodIn_of _ (by decide +kernel)) ggX11_chance_X11_draw
set_option maxRecDepth 20000 in
theorem ggX11_chance_X11_has : GoodIn wsX11_chance wsX11_has := goodIn_r _ [17] (by decide +kernel) (by decide +kernel)
set_option maxRecDepth 20000 in
theorem gX11_chance_X11_has : GoodIn wsX11_chance (va_wsS RX11 129 yX11_has wsX11_has) := goodIn_app (goodIn_of _ (by decide +kernel)) ggX11_chance_X11_has
theorem dX11_chance_0 : decode cX11_chance 0 = .ok (.aload_n 0, 1) := by decide +kernel
theorem dX11_chance_1 : decode cX11_chance 1 = .ok (.iconst 4, 1) := by decide +kernel
theorem dX11_chance_2 : decode cX11_chance 2 = .ok (.invokevirtual 262, 3) := by decide +kernel
theorem dX11_chance_5 : decode cX11_chance 5 = .ok (.istore_n 1, 1) := by decide +kernel
theorem dX11_chance_6 : decode cX11_chance 6 = .ok (.aload_n 0, 1) := by decide +kernel
theorem dX11_chance_7 : decode cX11_chance 7 = .ok (.aload_n 0, 1) := by decide +kernel
theorem dX11_chance_8 : decode cX11_chance 8 = .ok (.getfield 82, 3) := by decide +kernel
theorem dX11_chance_11 : decode cX11_chance 11 = .ok (.invokevirtual 262, 3) := by decide +kernel
theorem dX11_chance_14 : decode cX11_chance 14 = .ok (.istore_n 2, 1) := by decide +kernel
theorem dX11_chance_15 : decode cX11_chance 15 = .ok (.iload_n 1, 1) := by decide +kernel
theorem dX11_chance_16 : decode cX11_chance 16 = .ok (.ifCond .ne 55, 3) := by decide +kernel
theorem dX11_chance_19 : decode cX11_chance 19 = .ok (.aload_n 0, 1) := by decide +kernel
theorem dX11_chance_20 : decode cX11_chance 20 = .ok (.aload_n 0, 1) := by decide +kernel
theorem dX11_chance_21 : decode cX11_chance 21 = .ok (.getfield 75, 3) := by decide +kernel
theorem dX11_chance_24 : decode cX11_chance 24 = .ok (.invokevirtual 262, 3) := by decide +kernel
theorem dX11_chance_27 : decode cX11_chance 27 = .ok (.istore_n 3, 1) := by decide +kernel
theorem dX11_chance_28 : decode cX11_chance 28 = .ok (.aload_n 0, 1) := by decide +kernel
theorem dX11_chance_29 : decode cX11_chance 29 = .ok (.getfield 19, 3) := by decide +kernel
theorem dX11_chance_32 : decode cX11_chance 32 = .ok (.iconst 2, 1) := by decide +kernel
theorem dX11_chance_33 : decode cX11_chance 33 = .ok (.iload_n 2, 1) := by decide +kernel
theorem dX11_chance_34 : decode cX11_chance 34 = .ok (.iadd, 1) := by decide +kernel
theorem dX11_chance_35 : decode cX11_chance 35 = .ok (.aload_n 0, 1) := by decide +kernel
theorem dX11_chance_36 : decode cX11_chance 36 = .ok (.getfield 13, 3) := by decide +kernel
theorem dX11_chance_39 : decode cX11_chance 39 = .ok (.aload_n 0, 1) := by decide +kernel
theorem dX11_chance_40 : decode cX11_chance 40 = .ok (.getfield 19, 3) := by decide +kernel
theorem dX11_chance_43 : decode cX11_chance 43 = .ok (.iconst 2, 1) := by decide +kernel
theorem dX11_chance_44 : decode cX11_chance 44 = .ok (.iload_n 2, 1) := by decide +kernel
theorem dX11_chance_45 : decode cX11_chance 45 = .ok (.iadd, 1) := by decide +kernel
theorem dX11_chance_46 : decode cX11_chance 46 = .ok (.iaload, 1) := by decide +kernel
theorem dX11_chance_47 : decode cX11_chance 47 = .ok (.iaload, 1) := by decide +kernel
theorem dX11_chance_48 : decode cX11_chance 48 = .ok (.iload_n 3, 1) := by decide +kernel
theorem dX11_chance_49 : decode cX11_chance 49 = .ok (.invokestatic 129, 3) := by decide +kernel
theorem dX11_chance_52 : decode cX11_chance 52 = .ok (.ifCond .eq 7, 3) := by decide +kernel
theorem dX11_chance_55 : decode cX11_chance 55 = .ok (.iload_n 3, 1) := by decide +kernel
theorem dX11_chance_56 : decode cX11_chance 56 = .ok (.goto 11, 3) := by decide +kernel
theorem dX11_chance_59 : decode cX11_chance 59 = .ok (.aload_n 0, 1) := by decide +kernel
theorem dX11_chance_60 : decode cX11_chance 60 = .ok (.getfield 19, 3) := by decide +kernel
theorem dX11_chance_63 : decode cX11_chance 63 = .ok (.iconst 2, 1) := by decide +kernel
theorem dX11_chance_64 : decode cX11_chance 64 = .ok (.iload_n 2, 1) := by decide +kernel
theorem dX11_chance_65 : decode cX11_chance 65 = .ok (.iadd, 1) := by decide +kernel
theorem dX11_chance_66 : decode cX11_chance 66 = .ok (.iaload, 1) := by decide +kernel
theorem dX11_chance_67 : decode cX11_chance 67 = .ok (.iastore, 1) := by decide +kernel
theorem dX11_chance_68 : decode cX11_chance 68 = .ok (.goto 83, 3) := by decide +kernel
theorem dX11_chance_71 : decode cX11_chance 71 = .ok (.iload_n 1, 1) := by decide +kernel
theorem dX11_chance_72 : decode cX11_chance 72 = .ok (.iconst 1, 1) := by decide +kernel
theorem dX11_chance_73 : decode cX11_chance 73 = .ok (.if_icmp .ne 18, 3) := by decide +kernel
theorem dX11_chance_76 : decode cX11_chance 76 = .ok (.aload_n 0, 1) := by decide +kernel
theorem dX11_chance_77 : decode cX11_chance 77 = .ok (.getfield 19, 3) := by decide +kernel
theorem dX11_chance_80 : decode cX11_chance 80 = .ok (.iconst 1, 1) := by decide +kernel
theorem dX11_chance_81 : decode cX11_chance 81 = .ok (.dup2, 1) := by decide +kernel
theorem dX11_chance_82 : decode cX11_chance 82 = .ok (.iaload, 1) := by decide +kernel
theorem dX11_chance_83 : decode cX11_chance 83 = .ok (.iconst 1, 1) := by decide +kernel
theorem dX11_chance_84 : decode cX11_chance 84 = .ok (.iload_n 2, 1) := by decide +kernel
theorem dX11_chance_85 : decode cX11_chance 85 = .ok (.ishl, 1) := by decide +kernel
theorem dX11_chance_86 : decode cX11_chance 86 = .ok (.ior, 1) := by decide +kernel
theorem dX11_chance_87 : decode cX11_chance 87 = .ok (.iastore, 1) := by decide +kernel
theorem dX11_chance_88 : decode cX11_chance 88 = .ok (.goto 63, 3) := by decide +kernel
theorem dX11_chance_91 : decode cX11_chance 91 = .ok (.iload_n 1, 1) := by decide +kernel
theorem dX11_chance_92 : decode cX11_chance 92 = .ok (.iconst 2, 1) := by decide +kernel
theorem dX11_chance_93 : decode cX11_chance 93 = .ok (.if_icmp .ne 58, 3) := by decide +kernel
theorem dX11_chance_96 : decode cX11_chance 96 = .ok (.aload_n 0, 1) := by decide +kernel
theorem dX11_chance_97 : decode cX11_chance 97 = .ok (.aload_n 0, 1) := by decide +kernel
theorem dX11_chance_98 : decode cX11_chance 98 = .ok (.getfield 82, 3) := by decide +kernel
theorem dX11_chance_101 : decode cX11_chance 101 = .ok (.invokevirtual 262, 3) := by decide +kernel
theorem dX11_chance_104 : decode cX11_chance 104 = .ok (.istore_n 3, 1) := by decide +kernel
theorem dX11_chance_105 : decode cX11_chance 105 = .ok (.aload_n 0, 1) := by decide +kernel
theorem dX11_chance_106 : decode cX11_chance 106 = .ok (.bipush 10, 2) := by decide +kernel
theorem dX11_chance_108 : decode cX11_chance 108 = .ok (.invokevirtual 262, 3) := by decide +kernel
theorem dX11_chance_111 : decode cX11_chance 111 = .ok (.istore 4, 2) := by decide +kernel
theorem dX11_chance_113 : decode cX11_chance 113 = .ok (.aload_n 0, 1) := by decide +kernel
theorem dX11_chance_114 : decode cX11_chance 114 = .ok (.getfield 19, 3) := by decide +kernel
theorem dX11_chance_117 : decode cX11_chance 117 = .ok (.bipush 23, 2) := by decide +kernel
theorem dX11_chance_119 : decode cX11_chance 119 = .ok (.bipush 7, 2) := by decide +kernel
theorem dX11_chance_121 : decode cX11_chance 121 = .ok (.iload_n 2, 1) := by decide +kernel
theorem dX11_chance_122 : decode cX11_chance 122 = .ok (.imul, 1) := by decide +kernel
theorem dX11_chance_123 : decode cX11_chance 123 = .ok (.iadd, 1) := by decide +kernel
theorem dX11_chance_124 : decode cX11_chance 124 = .ok (.iload_n 3, 1) := by decide +kernel
theorem dX11_chance_125 : decode cX11_chance 125 = .ok (.iadd, 1) := by decide +kernel
theorem dX11_chance_126 : decode cX11_chance 126 = .ok (.iload_n 3, 1) := by decide +kernel
theorem dX11_chance_127 : decode cX11_chance 127 = .ok (.iload_n 2, 1) := by decide +kernel
theorem dX11_chance_128 : decode cX11_chance 128 = .ok (.if_icmp .ne 20, 3) := by decide +kernel
theorem dX11_chance_131 : decode cX11_chance 131 = .ok (.aload_n 0, 1) := by decide +kernel
theorem dX11_chance_132 : decode cX11_chance 132 = .ok (.getfield 19, 3) := by decide +kernel
theorem dX11_chance_135 : decode cX11_chance 135 = .ok (.bipush 23, 2) := by decide +kernel
theorem dX11_chance_137 : decode cX11_chance 137 = .ok (.bipush 7, 2) := by decide +kernel
theorem dX11_chance_139 : decode cX11_chance 139 = .ok (.iload_n 2, 1) := by decide +kernel
theorem dX11_chance_140 : decode cX11_chance 140 = .ok (.imul, 1) := by decide +kernel
theorem dX11_chance_141 : decode cX11_chance 141 = .ok (.iadd, 1) := by decide +kernel
theorem dX11_chance_142 : decode cX11_chance 142 = .ok (.iload_n 3, 1) := by decide +kernel
theorem dX11_chance_143 : decode cX11_chance 143 = .ok (.iadd, 1) := by decide +kernel
theorem dX11_chance_144 : decode cX11_chance 144 = .ok (.iaload, 1) := by decide +kernel
theorem dX11_chance_145 : decode cX11_chance 145 = .ok (.goto 5, 3) := by decide +kernel
theorem dX11_chance_148 : decode cX11_chance 148 = .ok (.iload 4, 2) := by decide +kernel
theorem dX11_chance_150 : decode cX11_chance 150 = .ok (.iastore, 1) := by decide +kernel
theorem dX11_chance_151 : decode cX11_chance 151 = .ok (.return_, 1) := by decide +kernel
set_option maxRecDepth 20000 in
theorem ggX11_drift_X11_hoursRefused : GoodIn wsX11_drift wsX11_hoursRefused := goodIn_r _ [7, 8, 9, 10, 11, 2, 12, 13, 14, 6, 15, 65, 66, 67, 68, 69, 70, 71, 72, 73, 74, 75, 76, 77, 78, 79, 80, 81, 82, 83, 84, 85, 86, 87, 88, 89, 90, 91, 92, 93, 94, 95, 96, 97, 98, 99, 100, 101, 102, 103, 104, 105] (by decide +kernel) (by decide +kernel)
set_option maxRecDepth 20000 in
theorem gX11_drift_X11_hoursRefused : GoodIn wsX11_drift (wsV RX11 240 RX11 yX11_hoursRefused wsX11_hoursRefused) := goodIn_app (goodIn_of _ (by decide +kernel)) ggX11_drift_X11_hoursRefused
set_option maxRecDepth 20000 in
theorem ggX11_drift_X11_remember : GoodIn wsX11_drift wsX11_remember := goodIn_r _ [19, 20, 21, 2, 65, 66, 67, 68, 69, 70, 71, 72, 73, 74, 75, 76, 77, 78, 79, 80, 81, 82, 83, 84, 85, 86, 87, 88, 89, 90, 91, 92, 93, 94, 95, 96, 97, 98, 99, 100, 101, 102, 103, 104, 105] (by decide +kernel) (by decide +kernel)
set_option maxRecDepth 20000 in
theorem gX11_drift_X11_remember : GoodIn wsX11_drift (wsV RX11 243 RX11 yX11_remember wsX11_remember) := goodIn_app (goodIn_of _ (by decide +kernel)) ggX11_drift_X11_remember
set_option maxRecDepth 20000 in
theorem ggX11_drift_X11_chance : GoodIn wsX11_drift wsX11_chance := goodIn_r _ [25, 1, 10, 2, 26, 27, 28, 29, 6, 30, 31, 32, 33, 34, 35, 36, 37, 38, 65, 66, 67, 68, 69, 70, 71, 72, 73, 74, 75, 76, 77, 78, 79, 80, 81, 82, 83, 84, 85, 86, 87, 88, 89, 90, 91, 92, 93, 94, 95, 96, 97, 98, 99, 100, 101, 102, 103, 104, 105] (by decide +kernel) (by decide +kernel)
set_option maxRecDepth 20000 in
theorem gX11_drift_X11_chance : GoodIn wsX11_drift (wsV RX11 265 RX11 yX11_chance wsX11_chance) := goodIn_app (goodIn_of _ (by decide +kernel)) ggX11_drift_X11_chance
set_option maxRecDepth 20000 in
theorem ggX11_drift_X11_passes : GoodIn wsX11_drift wsX11_passes := goodIn_r _ [42, 1, 43, 44, 45, 46, 6, 47, 48, 49, 50, 51, 52, 36, 37, 38, 53, 54, 55, 56, 57, 58, 59, 60, 61, 62, 63, 64, 65, 66, 67, 68, 69, 70, 71, 72, 73, 74, 75, 76, 77, 78, 79, 80, 81, 82, 83, 84, 85, 86, 87, 88, 89, 90, 91, 92, 93, 94, 95, 96, 97, 98, 99, 100, 101, 102, 103, 104, 105] (by decide +kernel) (by decide +kernel)
set_option maxRecDepth 20000 in
theorem gX11_drift_X11_passes : GoodIn wsX11_drift (wsV RX11 246 RX11 yX11_passes wsX11_passes) := goodIn_app (goodIn_of _ (by decide +kernel)) ggX11_drift_X11_passes
theorem dX11_drift_0 : decode cX11_drift 0 = .ok (.aload_n 0, 1) := by decide +kernel
theorem dX11_drift_1 : decode cX11_drift 1 = .ok (.iload_n 1, 1) := by decide +kernel
theorem dX11_drift_2 : decode cX11_drift 2 = .ok (.invokevirtual 240, 3) := by decide +kernel
theorem dX11_drift_5 : decode cX11_drift 5 = .ok (.istore_n 2, 1) := by decide +kernel
theorem dX11_drift_6 : decode cX11_drift 6 = .ok (.iload_n 2, 1) := by decide +kernel
theorem dX11_drift_7 : decode cX11_drift 7 = .ok (.ifCond .eq 5, 3) := by decide +kernel
theorem dX11_drift_10 : decode cX11_drift 10 = .ok (.iload_n 2, 1) := by decide +kernel
theorem dX11_drift_11 : decode cX11_drift 11 = .ok (.ireturn, 1) := by decide +kernel
theorem dX11_drift_12 : decode cX11_drift 12 = .ok (.aload_n 0, 1) := by decide +kernel
theorem dX11_drift_13 : decode cX11_drift 13 = .ok (.invokevirtual 243, 3) := by decide +kernel
theorem dX11_drift_16 : decode cX11_drift 16 = .ok (.iconst 0, 1) := by decide +kernel
theorem dX11_drift_17 : decode cX11_drift 17 = .ok (.istore_n 3, 1) := by decide +kernel
theorem dX11_drift_18 : decode cX11_drift 18 = .ok (.iload_n 3, 1) := by decide +kernel
theorem dX11_drift_19 : decode cX11_drift 19 = .ok (.iload_n 1, 1) := by decide +kernel
theorem dX11_drift_20 : decode cX11_drift 20 = .ok (.if_icmp .ge 28, 3) := by decide +kernel
theorem dX11_drift_23 : decode cX11_drift 23 = .ok (.aload_n 0, 1) := by decide +kernel
theorem dX11_drift_24 : decode cX11_drift 24 = .ok (.getfield 82, 3) := by decide +kernel
theorem dX11_drift_27 : decode cX11_drift 27 = .ok (.ifCond .le 7, 3) := by decide +kernel
theorem dX11_drift_30 : decode cX11_drift 30 = .ok (.aload_n 0, 1) := by decide +kernel
theorem dX11_drift_31 : decode cX11_drift 31 = .ok (.invokevirtual 265, 3) := by decide +kernel
theorem dX11_drift_34 : decode cX11_drift 34 = .ok (.aload_n 0, 1) := by decide +kernel
theorem dX11_drift_35 : decode cX11_drift 35 = .ok (.aload_n 0, 1) := by decide +kernel
theorem dX11_drift_36 : decode cX11_drift 36 = .ok (.getfield 19, 3) := by decide +kernel
theorem dX11_drift_39 : decode cX11_drift 39 = .ok (.invokevirtual 246, 3) := by decide +kernel
theorem dX11_drift_42 : decode cX11_drift 42 = .ok (.iinc 3 1, 3) := by decide +kernel
theorem dX11_drift_45 : decode cX11_drift 45 = .ok (.goto (-27), 3) := by decide +kernel
theorem dX11_drift_48 : decode cX11_drift 48 = .ok (.aload_n 0, 1) := by decide +kernel
theorem dX11_drift_49 : decode cX11_drift 49 = .ok (.getfield 19, 3) := by decide +kernel
theorem dX11_drift_52 : decode cX11_drift 52 = .ok (.iconst 0, 1) := by decide +kernel
theorem dX11_drift_53 : decode cX11_drift 53 = .ok (.iaload, 1) := by decide +kernel
theorem dX11_drift_54 : decode cX11_drift 54 = .ok (.ireturn, 1) := by decide +kernel
theorem dX11_undo_0 : decode cX11_undo 0 = .ok (.aload_n 0, 1) := by decide +kernel
theorem dX11_undo_1 : decode cX11_undo 1 = .ok (.getfield 192, 3) := by decide +kernel
theorem dX11_undo_4 : decode cX11_undo 4 = .ok (.ifCond .ne 6, 3) := by decide +kernel
theorem dX11_undo_7 : decode cX11_undo 7 = .ok (.ldc 239, 2) := by decide +kernel
theorem dX11_undo_9 : decode cX11_undo 9 = .ok (.ireturn, 1) := by decide +kernel
theorem dX11_undo_10 : decode cX11_undo 10 = .ok (.aload_n 0, 1) := by decide +kernel
theorem dX11_undo_11 : decode cX11_undo 11 = .ok (.dup, 1) := by decide +kernel
theorem dX11_undo_12 : decode cX11_undo 12 = .ok (.getfield 192, 3) := by decide +kernel
theorem dX11_undo_15 : decode cX11_undo 15 = .ok (.iconst 1, 1) := by decide +kernel
theorem dX11_undo_16 : decode cX11_undo 16 = .ok (.isub, 1) := by decide +kernel
theorem dX11_undo_17 : decode cX11_undo 17 = .ok (.putfield 192, 3) := by decide +kernel
theorem dX11_undo_20 : decode cX11_undo 20 = .ok (.iconst 0, 1) := by decide +kernel
theorem dX11_undo_21 : decode cX11_undo 21 = .ok (.istore_n 1, 1) := by decide +kernel
theorem dX11_undo_22 : decode cX11_undo 22 = .ok (.iload_n 1, 1) := by decide +kernel
theorem dX11_undo_23 : decode cX11_undo 23 = .ok (.bipush 72, 2) := by decide +kernel
theorem dX11_undo_25 : decode cX11_undo 25 = .ok (.if_icmp .ge 29, 3) := by decide +kernel
theorem dX11_undo_28 : decode cX11_undo 28 = .ok (.aload_n 0, 1) := by decide +kernel
theorem dX11_undo_29 : decode cX11_undo 29 = .ok (.getfield 19, 3) := by decide +kernel
theorem dX11_undo_32 : decode cX11_undo 32 = .ok (.iload_n 1, 1) := by decide +kernel
theorem dX11_undo_33 : decode cX11_undo 33 = .ok (.aload_n 0, 1) := by decide +kernel
theorem dX11_undo_34 : decode cX11_undo 34 = .ok (.getfield 62, 3) := by decide +kernel
theorem dX11_undo_37 : decode cX11_undo 37 = .ok (.bipush 72, 2) := by decide +kernel
theorem dX11_undo_39 : decode cX11_undo 39 = .ok (.aload_n 0, 1) := by decide +kernel
theorem dX11_undo_40 : decode cX11_undo 40 = .ok (.getfield 192, 3) := by decide +kernel
theorem dX11_undo_43 : decode cX11_undo 43 = .ok (.imul, 1) := by decide +kernel
theorem dX11_undo_44 : decode cX11_undo 44 = .ok (.iload_n 1, 1) := by decide +kernel
theorem dX11_undo_45 : decode cX11_undo 45 = .ok (.iadd, 1) := by decide +kernel
theorem dX11_undo_46 : decode cX11_undo 46 = .ok (.iaload, 1) := by decide +kernel
theorem dX11_undo_47 : decode cX11_undo 47 = .ok (.iastore, 1) := by decide +kernel
theorem dX11_undo_48 : decode cX11_undo 48 = .ok (.iinc 1 1, 3) := by decide +kernel
theorem dX11_undo_51 : decode cX11_undo 51 = .ok (.goto (-29), 3) := by decide +kernel
theorem dX11_undo_54 : decode cX11_undo 54 = .ok (.aload_n 0, 1) := by decide +kernel
theorem dX11_undo_55 : decode cX11_undo 55 = .ok (.getfield 192, 3) := by decide +kernel
theorem dX11_undo_58 : decode cX11_undo 58 = .ok (.ireturn, 1) := by decide +kernel
theorem dX11_tries_0 : decode cX11_tries 0 = .ok (.iconst 0, 1) := by decide +kernel
theorem dX11_tries_1 : decode cX11_tries 1 = .ok (.istore_n 1, 1) := by decide +kernel
theorem dX11_tries_2 : decode cX11_tries 2 = .ok (.iload_n 1, 1) := by decide +kernel
theorem dX11_tries_3 : decode cX11_tries 3 = .ok (.bipush 72, 2) := by decide +kernel
theorem dX11_tries_5 : decode cX11_tries 5 = .ok (.if_icmp .ge 21, 3) := by decide +kernel
theorem dX11_tries_8 : decode cX11_tries 8 = .ok (.aload_n 0, 1) := by decide +kernel
theorem dX11_tries_9 : decode cX11_tries 9 = .ok (.getfield 22, 3) := by decide +kernel
theorem dX11_tries_12 : decode cX11_tries 12 = .ok (.iload_n 1, 1) := by decide +kernel
theorem dX11_tries_13 : decode cX11_tries 13 = .ok (.aload_n 0, 1) := by decide +kernel
theorem dX11_tries_14 : decode cX11_tries 14 = .ok (.getfield 19, 3) := by decide +kernel
theorem dX11_tries_17 : decode cX11_tries 17 = .ok (.iload_n 1, 1) := by decide +kernel
theorem dX11_tries_18 : decode cX11_tries 18 = .ok (.iaload, 1) := by decide +kernel
theorem dX11_tries_19 : decode cX11_tries 19 = .ok (.iastore, 1) := by decide +kernel
theorem dX11_tries_20 : decode cX11_tries 20 = .ok (.iinc 1 1, 3) := by decide +kernel
theorem dX11_tries_23 : decode cX11_tries 23 = .ok (.goto (-21), 3) := by decide +kernel
theorem dX11_tries_26 : decode cX11_tries 26 = .ok (.return_, 1) := by decide +kernel
set_option maxRecDepth 20000 in
theorem ggX11_warm_X11_isPerson : GoodIn wsX11_warm wsX11_isPerson := goodIn_r _ [9, 10, 11, 12, 8, 13, 48, 49, 50, 51, 52, 53, 54, 55, 56, 57, 58, 59, 60, 61, 62, 63, 64, 65, 66, 67, 68, 69, 70, 71, 72, 73, 74, 75, 76, 77, 78, 79, 80, 81, 82, 83, 84, 85, 86, 87, 88] (by decide +kernel) (by decide +kernel)
set_option maxRecDepth 20000 in
theorem gX11_warm_X11_isPerson : GoodIn wsX11_warm (wsV RX11 85 RX11 yX11_isPerson wsX11_isPerson) := goodIn_app (goodIn_of _ (by decide +kernel)) ggX11_warm_X11_isPerson
set_option maxRecDepth 20000 in
theorem ggX11_warm_X11_in : GoodIn wsX11_warm wsX11_in := goodIn_r _ [13] (by decide +kernel) (by decide +kernel)
set_option maxRecDepth 20000 in
theorem gX11_warm_X11_in : GoodIn wsX11_warm (va_wsS RX11 78 yX11_in wsX11_in) := goodIn_app (goodIn_of _ (by decide +kernel)) ggX11_warm_X11_in
set_option maxRecDepth 20000 in
theorem ggX11_warm_X11_tries : GoodIn wsX11_warm wsX11_tries := goodIn_r _ [17, 4, 18, 48, 49, 50, 51, 52, 53, 54, 55, 56, 57, 58, 59, 60, 61, 62, 63, 64, 65, 66, 67, 68, 69, 70, 71, 72, 73, 74, 75, 76, 77, 78, 79, 80, 81, 82, 83, 84, 85, 86, 87, 88] (by decide +kernel) (by decide +kernel)
set_option maxRecDepth 20000 in
theorem gX11_warm_X11_tries : GoodIn wsX11_warm (wsV RX11 270 RX11 yX11_tries wsX11_tries) := goodIn_app (goodIn_of _ (by decide +kernel)) ggX11_warm_X11_tries
set_option maxRecDepth 20000 in
theorem ggX11_warm_X11_passes : GoodIn wsX11_warm wsX11_passes := goodIn_r _ [22, 10, 23, 24, 25, 26, 8, 27, 28, 29, 30, 31, 32, 33, 34, 35, 36, 37, 38, 39, 40, 41, 42, 43, 44, 45, 46, 47, 48, 49, 50, 51, 52, 53, 54, 55, 56, 57, 58, 59, 60, 61, 62, 63, 64, 65, 66, 67, 68, 69, 70, 71, 72, 73, 74, 75, 76, 77, 78, 79, 80, 81, 82, 83, 84, 85, 86, 87, 88] (by decide +kernel) (by decide +kernel)
set_option maxRecDepth 20000 in
theorem gX11_warm_X11_passes : GoodIn wsX11_warm (wsV RX11 246 RX11 yX11_passes wsX11_passes) := goodIn_app (goodIn_of _ (by decide +kernel)) ggX11_warm_X11_passes
theorem dX11_warm_0 : decode cX11_warm 0 = .ok (.aload_n 0, 1) := by decide +kernel
theorem dX11_warm_1 : decode cX11_warm 1 = .ok (.iload_n 1, 1) := by decide +kernel
theorem dX11_warm_2 : decode cX11_warm 2 = .ok (.invokevirtual 85, 3) := by decide +kernel
theorem dX11_warm_5 : decode cX11_warm 5 = .ok (.ifCond .ne 6, 3) := by decide +kernel
theorem dX11_warm_8 : decode cX11_warm 8 = .ok (.ldc 230, 2) := by decide +kernel
theorem dX11_warm_10 : decode cX11_warm 10 = .ok (.ireturn, 1) := by decide +kernel
theorem dX11_warm_11 : decode cX11_warm 11 = .ok (.iload_n 2, 1) := by decide +kernel
theorem dX11_warm_12 : decode cX11_warm 12 = .ok (.i2l, 1) := by decide +kernel
theorem dX11_warm_13 : decode cX11_warm 13 = .ok (.lconst 0, 1) := by decide +kernel
theorem dX11_warm_14 : decode cX11_warm 14 = .ok (.ldc2_w 268, 3) := by decide +kernel
theorem dX11_warm_17 : decode cX11_warm 17 = .ok (.invokestatic 78, 3) := by decide +kernel
theorem dX11_warm_20 : decode cX11_warm 20 = .ok (.ifCond .ne 6, 3) := by decide +kernel
theorem dX11_warm_23 : decode cX11_warm 23 = .ok (.ldc 91, 2) := by decide +kernel
theorem dX11_warm_25 : decode cX11_warm 25 = .ok (.ireturn, 1) := by decide +kernel
theorem dX11_warm_26 : decode cX11_warm 26 = .ok (.aload_n 0, 1) := by decide +kernel
theorem dX11_warm_27 : decode cX11_warm 27 = .ok (.invokevirtual 270, 3) := by decide +kernel
theorem dX11_warm_30 : decode cX11_warm 30 = .ok (.iconst 0, 1) := by decide +kernel
theorem dX11_warm_31 : decode cX11_warm 31 = .ok (.istore_n 3, 1) := by decide +kernel
theorem dX11_warm_32 : decode cX11_warm 32 = .ok (.iload_n 3, 1) := by decide +kernel
theorem dX11_warm_33 : decode cX11_warm 33 = .ok (.iload_n 2, 1) := by decide +kernel
theorem dX11_warm_34 : decode cX11_warm 34 = .ok (.if_icmp .ge 17, 3) := by decide +kernel
theorem dX11_warm_37 : decode cX11_warm 37 = .ok (.aload_n 0, 1) := by decide +kernel
theorem dX11_warm_38 : decode cX11_warm 38 = .ok (.aload_n 0, 1) := by decide +kernel
theorem dX11_warm_39 : decode cX11_warm 39 = .ok (.getfield 22, 3) := by decide +kernel
theorem dX11_warm_42 : decode cX11_warm 42 = .ok (.invokevirtual 246, 3) := by decide +kernel
theorem dX11_warm_45 : decode cX11_warm 45 = .ok (.iinc 3 1, 3) := by decide +kernel
theorem dX11_warm_48 : decode cX11_warm 48 = .ok (.goto (-16), 3) := by decide +kernel
theorem dX11_warm_51 : decode cX11_warm 51 = .ok (.aload_n 0, 1) := by decide +kernel
theorem dX11_warm_52 : decode cX11_warm 52 = .ok (.getfield 22, 3) := by decide +kernel
theorem dX11_warm_55 : decode cX11_warm 55 = .ok (.bipush 9, 2) := by decide +kernel
theorem dX11_warm_57 : decode cX11_warm 57 = .ok (.iload_n 1, 1) := by decide +kernel
theorem dX11_warm_58 : decode cX11_warm 58 = .ok (.iadd, 1) := by decide +kernel
theorem dX11_warm_59 : decode cX11_warm 59 = .ok (.iaload, 1) := by decide +kernel
theorem dX11_warm_60 : decode cX11_warm 60 = .ok (.sipush 10000, 3) := by decide +kernel
theorem dX11_warm_63 : decode cX11_warm 63 = .ok (.iadd, 1) := by decide +kernel
theorem dX11_warm_64 : decode cX11_warm 64 = .ok (.ireturn, 1) := by decide +kernel
set_option maxRecDepth 20000 in
theorem ggX11_bestRoom_X11_isPerson : GoodIn wsX11_bestRoom wsX11_isPerson := goodIn_r _ [11, 12, 13, 14, 10, 15, 50, 51, 52, 53, 54, 55, 56, 57, 58, 59, 60, 61, 62, 63, 64, 65, 66, 67, 68, 69, 70, 71, 72, 73, 74, 75, 76, 77, 78, 79, 80, 81, 82, 83, 84, 85, 86, 87, 88, 89, 90] (by decide +kernel) (by decide +kernel)
set_option maxRecDepth 20000 in
theorem gX11_bestRoom_X11_isPerson : GoodIn wsX11_bestRoom (wsV RX11 85 RX11 yX11_isPerson wsX11_isPerson) := goodIn_app (goodIn_of _ (by decide +kernel)) ggX11_bestRoom_X11_isPerson
set_option maxRecDepth 20000 in
theorem ggX11_bestRoom_X11_in : GoodIn wsX11_bestRoom wsX11_in := goodIn_r _ [15] (by decide +kernel) (by decide +kernel)
set_option maxRecDepth 20000 in
theorem gX11_bestRoom_X11_in : GoodIn wsX11_bestRoom (va_wsS RX11 78 yX11_in wsX11_in) := goodIn_app (goodIn_of _ (by decide +kernel)) ggX11_bestRoom_X11_in
set_option maxRecDepth 20000 in
theorem ggX11_bestRoom_X11_tries : GoodIn wsX11_bestRoom wsX11_tries := goodIn_r _ [19, 6, 20, 50, 51, 52, 53, 54, 55, 56, 57, 58, 59, 60, 61, 62, 63, 64, 65, 66, 67, 68, 69, 70, 71, 72, 73, 74, 75, 76, 77, 78, 79, 80, 81, 82, 83, 84, 85, 86, 87, 88, 89, 90] (by decide +kernel) (by decide +kernel)
set_option maxRecDepth 20000 in
theorem gX11_bestRoom_X11_tries : GoodIn wsX11_bestRoom (wsV RX11 270 RX11 yX11_tries wsX11_tries) := goodIn_app (goodIn_of _ (by decide +kernel)) ggX11_bestRoom_X11_tries
set_option maxRecDepth 20000 in
theorem ggX11_bestRoom_X11_passes : GoodIn wsX11_bestRoom wsX11_passes := goodIn_r _ [24, 12, 25, 26, 27, 28, 10, 29, 30, 31, 32, 33, 34, 35, 36, 37, 38, 39, 40, 41, 42, 43, 44, 45, 46, 47, 48, 49, 50, 51, 52, 53, 54, 55, 56, 57, 58, 59, 60, 61, 62, 63, 64, 65, 66, 67, 68, 69, 70, 71, 72, 73, 74, 75, 76, 77, 78, 79, 80, 81, 82, 83, 84, 85, 86, 87, 88, 89, 90] (by decide +kernel) (by decide +kernel)
set_option maxRecDepth 20000 in
theorem gX11_bestRoom_X11_passes : GoodIn wsX11_bestRoom (wsV RX11 246 RX11 yX11_passes wsX11_passes) := goodIn_app (goodIn_of _ (by decide +kernel)) ggX11_bestRoom_X11_passes
theorem dX11_bestRoom_0 : decode cX11_bestRoom 0 = .ok (.aload_n 0, 1) := by decide +kernel
theorem dX11_bestRoom_1 : decode cX11_bestRoom 1 = .ok (.iload_n 1, 1) := by decide +kernel
theorem dX11_bestRoom_2 : decode cX11_bestRoom 2 = .ok (.invokevirtual 85, 3) := by decide +kernel
theorem dX11_bestRoom_5 : decode cX11_bestRoom 5 = .ok (.ifCond .ne 6, 3) := by decide +kernel
theorem dX11_bestRoom_8 : decode cX11_bestRoom 8 = .ok (.ldc 230, 2) := by decide +kernel
theorem dX11_bestRoom_10 : decode cX11_bestRoom 10 = .ok (.ireturn, 1) := by decide +kernel
theorem dX11_bestRoom_11 : decode cX11_bestRoom 11 = .ok (.iload_n 2, 1) := by decide +kernel
theorem dX11_bestRoom_12 : decode cX11_bestRoom 12 = .ok (.i2l, 1) := by decide +kernel
theorem dX11_bestRoom_13 : decode cX11_bestRoom 13 = .ok (.lconst 1, 1) := by decide +kernel
theorem dX11_bestRoom_14 : decode cX11_bestRoom 14 = .ok (.ldc2_w 273, 3) := by decide +kernel
theorem dX11_bestRoom_17 : decode cX11_bestRoom 17 = .ok (.invokestatic 78, 3) := by decide +kernel
theorem dX11_bestRoom_20 : decode cX11_bestRoom 20 = .ok (.ifCond .eq 13, 3) := by decide +kernel
theorem dX11_bestRoom_23 : decode cX11_bestRoom 23 = .ok (.iload_n 3, 1) := by decide +kernel
theorem dX11_bestRoom_24 : decode cX11_bestRoom 24 = .ok (.i2l, 1) := by decide +kernel
theorem dX11_bestRoom_25 : decode cX11_bestRoom 25 = .ok (.lconst 0, 1) := by decide +kernel
theorem dX11_bestRoom_26 : decode cX11_bestRoom 26 = .ok (.lconst 1, 1) := by decide +kernel
theorem dX11_bestRoom_27 : decode cX11_bestRoom 27 = .ok (.invokestatic 78, 3) := by decide +kernel
theorem dX11_bestRoom_30 : decode cX11_bestRoom 30 = .ok (.ifCond .ne 6, 3) := by decide +kernel
theorem dX11_bestRoom_33 : decode cX11_bestRoom 33 = .ok (.ldc 91, 2) := by decide +kernel
theorem dX11_bestRoom_35 : decode cX11_bestRoom 35 = .ok (.ireturn, 1) := by decide +kernel
theorem dX11_bestRoom_36 : decode cX11_bestRoom 36 = .ok (.iconst 0, 1) := by decide +kernel
theorem dX11_bestRoom_37 : decode cX11_bestRoom 37 = .ok (.istore 4, 2) := by decide +kernel
theorem dX11_bestRoom_39 : decode cX11_bestRoom 39 = .ok (.ldc 214, 2) := by decide +kernel
theorem dX11_bestRoom_41 : decode cX11_bestRoom 41 = .ok (.istore 5, 2) := by decide +kernel
theorem dX11_bestRoom_43 : decode cX11_bestRoom 43 = .ok (.iconst 0, 1) := by decide +kernel
theorem dX11_bestRoom_44 : decode cX11_bestRoom 44 = .ok (.istore 6, 2) := by decide +kernel
theorem dX11_bestRoom_46 : decode cX11_bestRoom 46 = .ok (.iload 6, 2) := by decide +kernel
theorem dX11_bestRoom_48 : decode cX11_bestRoom 48 = .ok (.aload_n 0, 1) := by decide +kernel
theorem dX11_bestRoom_49 : decode cX11_bestRoom 49 = .ok (.getfield 75, 3) := by decide +kernel
theorem dX11_bestRoom_52 : decode cX11_bestRoom 52 = .ok (.if_icmp .ge 99, 3) := by decide +kernel
theorem dX11_bestRoom_55 : decode cX11_bestRoom 55 = .ok (.aload_n 0, 1) := by decide +kernel
theorem dX11_bestRoom_56 : decode cX11_bestRoom 56 = .ok (.invokevirtual 270, 3) := by decide +kernel
theorem dX11_bestRoom_59 : decode cX11_bestRoom 59 = .ok (.aload_n 0, 1) := by decide +kernel
theorem dX11_bestRoom_60 : decode cX11_bestRoom 60 = .ok (.getfield 22, 3) := by decide +kernel
theorem dX11_bestRoom_63 : decode cX11_bestRoom 63 = .ok (.iconst 2, 1) := by decide +kernel
theorem dX11_bestRoom_64 : decode cX11_bestRoom 64 = .ok (.iload_n 1, 1) := by decide +kernel
theorem dX11_bestRoom_65 : decode cX11_bestRoom 65 = .ok (.iadd, 1) := by decide +kernel
theorem dX11_bestRoom_66 : decode cX11_bestRoom 66 = .ok (.iload 6, 2) := by decide +kernel
theorem dX11_bestRoom_68 : decode cX11_bestRoom 68 = .ok (.iastore, 1) := by decide +kernel
theorem dX11_bestRoom_69 : decode cX11_bestRoom 69 = .ok (.iconst 0, 1) := by decide +kernel
theorem dX11_bestRoom_70 : decode cX11_bestRoom 70 = .ok (.istore 7, 2) := by decide +kernel
theorem dX11_bestRoom_72 : decode cX11_bestRoom 72 = .ok (.iload 7, 2) := by decide +kernel
theorem dX11_bestRoom_74 : decode cX11_bestRoom 74 = .ok (.iload_n 2, 1) := by decide +kernel
theorem dX11_bestRoom_75 : decode cX11_bestRoom 75 = .ok (.if_icmp .ge 17, 3) := by decide +kernel
theorem dX11_bestRoom_78 : decode cX11_bestRoom 78 = .ok (.aload_n 0, 1) := by decide +kernel
theorem dX11_bestRoom_79 : decode cX11_bestRoom 79 = .ok (.aload_n 0, 1) := by decide +kernel
theorem dX11_bestRoom_80 : decode cX11_bestRoom 80 = .ok (.getfield 22, 3) := by decide +kernel
theorem dX11_bestRoom_83 : decode cX11_bestRoom 83 = .ok (.invokevirtual 246, 3) := by decide +kernel
theorem dX11_bestRoom_86 : decode cX11_bestRoom 86 = .ok (.iinc 7 1, 3) := by decide +kernel
theorem dX11_bestRoom_89 : decode cX11_bestRoom 89 = .ok (.goto (-17), 3) := by decide +kernel
theorem dX11_bestRoom_92 : decode cX11_bestRoom 92 = .ok (.aload_n 0, 1) := by decide +kernel
theorem dX11_bestRoom_93 : decode cX11_bestRoom 93 = .ok (.getfield 22, 3) := by decide +kernel
theorem dX11_bestRoom_96 : decode cX11_bestRoom 96 = .ok (.bipush 9, 2) := by decide +kernel
theorem dX11_bestRoom_98 : decode cX11_bestRoom 98 = .ok (.iload_n 1, 1) := by decide +kernel
theorem dX11_bestRoom_99 : decode cX11_bestRoom 99 = .ok (.iadd, 1) := by decide +kernel
theorem dX11_bestRoom_100 : decode cX11_bestRoom 100 = .ok (.iaload, 1) := by decide +kernel
theorem dX11_bestRoom_101 : decode cX11_bestRoom 101 = .ok (.iload 5, 2) := by decide +kernel
theorem dX11_bestRoom_103 : decode cX11_bestRoom 103 = .ok (.if_icmp .le 8, 3) := by decide +kernel
theorem dX11_bestRoom_106 : decode cX11_bestRoom 106 = .ok (.iload 6, 2) := by decide +kernel
theorem dX11_bestRoom_108 : decode cX11_bestRoom 108 = .ok (.goto 5, 3) := by decide +kernel
theorem dX11_bestRoom_111 : decode cX11_bestRoom 111 = .ok (.iload 4, 2) := by decide +kernel
theorem dX11_bestRoom_113 : decode cX11_bestRoom 113 = .ok (.istore 4, 2) := by decide +kernel
theorem dX11_bestRoom_115 : decode cX11_bestRoom 115 = .ok (.aload_n 0, 1) := by decide +kernel
theorem dX11_bestRoom_116 : decode cX11_bestRoom 116 = .ok (.getfield 22, 3) := by decide +kernel
theorem dX11_bestRoom_119 : decode cX11_bestRoom 119 = .ok (.bipush 9, 2) := by decide +kernel
theorem dX11_bestRoom_121 : decode cX11_bestRoom 121 = .ok (.iload_n 1, 1) := by decide +kernel
theorem dX11_bestRoom_122 : decode cX11_bestRoom 122 = .ok (.iadd, 1) := by decide +kernel
theorem dX11_bestRoom_123 : decode cX11_bestRoom 123 = .ok (.iaload, 1) := by decide +kernel
theorem dX11_bestRoom_124 : decode cX11_bestRoom 124 = .ok (.iload 5, 2) := by decide +kernel
theorem dX11_bestRoom_126 : decode cX11_bestRoom 126 = .ok (.if_icmp .le 15, 3) := by decide +kernel
theorem dX11_bestRoom_129 : decode cX11_bestRoom 129 = .ok (.aload_n 0, 1) := by decide +kernel
theorem dX11_bestRoom_130 : decode cX11_bestRoom 130 = .ok (.getfield 22, 3) := by decide +kernel
theorem dX11_bestRoom_133 : decode cX11_bestRoom 133 = .ok (.bipush 9, 2) := by decide +kernel
theorem dX11_bestRoom_135 : decode cX11_bestRoom 135 = .ok (.iload_n 1, 1) := by decide +kernel
theorem dX11_bestRoom_136 : decode cX11_bestRoom 136 = .ok (.iadd, 1) := by decide +kernel
theorem dX11_bestRoom_137 : decode cX11_bestRoom 137 = .ok (.iaload, 1) := by decide +kernel
theorem dX11_bestRoom_138 : decode cX11_bestRoom 138 = .ok (.goto 5, 3) := by decide +kernel
theorem dX11_bestRoom_141 : decode cX11_bestRoom 141 = .ok (.iload 5, 2) := by decide +kernel
theorem dX11_bestRoom_143 : decode cX11_bestRoom 143 = .ok (.istore 5, 2) := by decide +kernel
theorem dX11_bestRoom_145 : decode cX11_bestRoom 145 = .ok (.iinc 6 1, 3) := by decide +kernel
theorem dX11_bestRoom_148 : decode cX11_bestRoom 148 = .ok (.goto (-102), 3) := by decide +kernel
theorem dX11_bestRoom_151 : decode cX11_bestRoom 151 = .ok (.iload_n 3, 1) := by decide +kernel
theorem dX11_bestRoom_152 : decode cX11_bestRoom 152 = .ok (.ifCond .ne 8, 3) := by decide +kernel
theorem dX11_bestRoom_155 : decode cX11_bestRoom 155 = .ok (.iload 4, 2) := by decide +kernel
theorem dX11_bestRoom_157 : decode cX11_bestRoom 157 = .ok (.goto 9, 3) := by decide +kernel
theorem dX11_bestRoom_160 : decode cX11_bestRoom 160 = .ok (.iload 5, 2) := by decide +kernel
theorem dX11_bestRoom_162 : decode cX11_bestRoom 162 = .ok (.sipush 10000, 3) := by decide +kernel
theorem dX11_bestRoom_165 : decode cX11_bestRoom 165 = .ok (.iadd, 1) := by decide +kernel
theorem dX11_bestRoom_166 : decode cX11_bestRoom 166 = .ok (.ireturn, 1) := by decide +kernel
set_option maxRecDepth 20000 in
theorem ggX11_warmer_X11_spokenOf : GoodIn wsX11_warmer wsX11_spokenOf := goodIn_r _ [8, 3, 29, 30, 31, 32, 33, 34, 35, 36, 37, 38, 39, 40, 41, 42, 43, 44, 45, 46, 47, 48, 49, 50, 51, 52, 53, 54, 55, 56, 57, 58, 59, 60, 61, 62, 63, 64, 65, 66, 67, 68, 69] (by decide +kernel) (by decide +kernel)
set_option maxRecDepth 20000 in
theorem gX11_warmer_X11_spokenOf : GoodIn wsX11_warmer (wsV RX11 203 RX11 yX11_spokenOf wsX11_spokenOf) := goodIn_app (goodIn_of _ (by decide +kernel)) ggX11_warmer_X11_spokenOf
set_option maxRecDepth 20000 in
theorem ggX11_warmer_X11_hears : GoodIn wsX11_warmer wsX11_hears := goodIn_r _ [12, 13, 14, 15, 7, 16, 29, 30, 31, 32, 33, 34, 35, 36, 37, 38, 39, 40, 41, 42, 43, 44, 45, 46, 47, 48, 49, 50, 51, 52, 53, 54, 55, 56, 57, 58, 59, 60, 61, 62, 63, 64, 65, 66, 67, 68, 69] (by decide +kernel) (by decide +kernel)
set_option maxRecDepth 20000 in
theorem gX11_warmer_X11_hears : GoodIn wsX11_warmer (wsV RX11 210 RX11 yX11_hears wsX11_hears) := goodIn_app (goodIn_of _ (by decide +kernel)) ggX11_warmer_X11_hears
set_option maxRecDepth 20000 in
theorem ggX11_warmer_X11_says : GoodIn wsX11_warmer wsX11_says := goodIn_r _ [20, 21, 14, 15, 7, 16, 22, 23, 24, 25, 13, 26, 27, 28, 29, 30, 31, 32, 33, 34, 35, 36, 37, 38, 39, 40, 41, 42, 43, 44, 45, 46, 47, 48, 49, 50, 51, 52, 53, 54, 55, 56, 57, 58, 59, 60, 61, 62, 63, 64, 65, 66, 67, 68, 69] (by decide +kernel) (by decide +kernel)
set_option maxRecDepth 20000 in
theorem gX11_warmer_X11_says : GoodIn wsX11_warmer (wsV RX11 206 RX11 yX11_says wsX11_says) := goodIn_app (goodIn_of _ (by decide +kernel)) ggX11_warmer_X11_says
theorem dX11_warmer_0 : decode cX11_warmer 0 = .ok (.aload_n 0, 1) := by decide +kernel
theorem dX11_warmer_1 : decode cX11_warmer 1 = .ok (.getfield 22, 3) := by decide +kernel
theorem dX11_warmer_4 : decode cX11_warmer 4 = .ok (.iconst 2, 1) := by decide +kernel
theorem dX11_warmer_5 : decode cX11_warmer 5 = .ok (.iload_n 1, 1) := by decide +kernel
theorem dX11_warmer_6 : decode cX11_warmer 6 = .ok (.iadd, 1) := by decide +kernel
theorem dX11_warmer_7 : decode cX11_warmer 7 = .ok (.iload_n 2, 1) := by decide +kernel
theorem dX11_warmer_8 : decode cX11_warmer 8 = .ok (.iastore, 1) := by decide +kernel
theorem dX11_warmer_9 : decode cX11_warmer 9 = .ok (.aload_n 0, 1) := by decide +kernel
theorem dX11_warmer_10 : decode cX11_warmer 10 = .ok (.getfield 22, 3) := by decide +kernel
theorem dX11_warmer_13 : decode cX11_warmer 13 = .ok (.iconst 1, 1) := by decide +kernel
theorem dX11_warmer_14 : decode cX11_warmer 14 = .ok (.iload 4, 2) := by decide +kernel
theorem dX11_warmer_16 : decode cX11_warmer 16 = .ok (.ifCond .eq 12, 3) := by decide +kernel
theorem dX11_warmer_19 : decode cX11_warmer 19 = .ok (.aload_n 0, 1) := by decide +kernel
theorem dX11_warmer_20 : decode cX11_warmer 20 = .ok (.getfield 19, 3) := by decide +kernel
theorem dX11_warmer_23 : decode cX11_warmer 23 = .ok (.iconst 1, 1) := by decide +kernel
theorem dX11_warmer_24 : decode cX11_warmer 24 = .ok (.iaload, 1) := by decide +kernel
theorem dX11_warmer_25 : decode cX11_warmer 25 = .ok (.goto 4, 3) := by decide +kernel
theorem dX11_warmer_28 : decode cX11_warmer 28 = .ok (.iconst 0, 1) := by decide +kernel
theorem dX11_warmer_29 : decode cX11_warmer 29 = .ok (.iastore, 1) := by decide +kernel
theorem dX11_warmer_30 : decode cX11_warmer 30 = .ok (.iconst 0, 1) := by decide +kernel
theorem dX11_warmer_31 : decode cX11_warmer 31 = .ok (.istore 5, 2) := by decide +kernel
theorem dX11_warmer_33 : decode cX11_warmer 33 = .ok (.iconst 0, 1) := by decide +kernel
theorem dX11_warmer_34 : decode cX11_warmer 34 = .ok (.istore 6, 2) := by decide +kernel
theorem dX11_warmer_36 : decode cX11_warmer 36 = .ok (.iload 6, 2) := by decide +kernel
theorem dX11_warmer_38 : decode cX11_warmer 38 = .ok (.aload_n 0, 1) := by decide +kernel
theorem dX11_warmer_39 : decode cX11_warmer 39 = .ok (.getfield 82, 3) := by decide +kernel
theorem dX11_warmer_42 : decode cX11_warmer 42 = .ok (.if_icmp .ge 60, 3) := by decide +kernel
theorem dX11_warmer_45 : decode cX11_warmer 45 = .ok (.iload 5, 2) := by decide +kernel
theorem dX11_warmer_47 : decode cX11_warmer 47 = .ok (.iload 6, 2) := by decide +kernel
theorem dX11_warmer_49 : decode cX11_warmer 49 = .ok (.iload_n 1, 1) := by decide +kernel
theorem dX11_warmer_50 : decode cX11_warmer 50 = .ok (.if_icmp .eq 42, 3) := by decide +kernel
theorem dX11_warmer_53 : decode cX11_warmer 53 = .ok (.aload_n 0, 1) := by decide +kernel
theorem dX11_warmer_54 : decode cX11_warmer 54 = .ok (.iload 6, 2) := by decide +kernel
theorem dX11_warmer_56 : decode cX11_warmer 56 = .ok (.iload_n 3, 1) := by decide +kernel
theorem dX11_warmer_57 : decode cX11_warmer 57 = .ok (.invokevirtual 203, 3) := by decide +kernel
theorem dX11_warmer_60 : decode cX11_warmer 60 = .ok (.iload_n 1, 1) := by decide +kernel
theorem dX11_warmer_61 : decode cX11_warmer 61 = .ok (.if_icmp .ne 31, 3) := by decide +kernel
theorem dX11_warmer_64 : decode cX11_warmer 64 = .ok (.aload_n 0, 1) := by decide +kernel
theorem dX11_warmer_65 : decode cX11_warmer 65 = .ok (.aload_n 0, 1) := by decide +kernel
theorem dX11_warmer_66 : decode cX11_warmer 66 = .ok (.getfield 22, 3) := by decide +kernel
theorem dX11_warmer_69 : decode cX11_warmer 69 = .ok (.iload 6, 2) := by decide +kernel
theorem dX11_warmer_71 : decode cX11_warmer 71 = .ok (.iload_n 1, 1) := by decide +kernel
theorem dX11_warmer_72 : decode cX11_warmer 72 = .ok (.invokevirtual 210, 3) := by decide +kernel
theorem dX11_warmer_75 : decode cX11_warmer 75 = .ok (.ifCond .eq 17, 3) := by decide +kernel
theorem dX11_warmer_78 : decode cX11_warmer 78 = .ok (.aload_n 0, 1) := by decide +kernel
theorem dX11_warmer_79 : decode cX11_warmer 79 = .ok (.aload_n 0, 1) := by decide +kernel
theorem dX11_warmer_80 : decode cX11_warmer 80 = .ok (.getfield 22, 3) := by decide +kernel
theorem dX11_warmer_83 : decode cX11_warmer 83 = .ok (.iload 6, 2) := by decide +kernel
theorem dX11_warmer_85 : decode cX11_warmer 85 = .ok (.iload_n 1, 1) := by decide +kernel
theorem dX11_warmer_86 : decode cX11_warmer 86 = .ok (.invokevirtual 206, 3) := by decide +kernel
theorem dX11_warmer_89 : decode cX11_warmer 89 = .ok (.goto 4, 3) := by decide +kernel
theorem dX11_warmer_92 : decode cX11_warmer 92 = .ok (.iconst 0, 1) := by decide +kernel
theorem dX11_warmer_93 : decode cX11_warmer 93 = .ok (.iadd, 1) := by decide +kernel
theorem dX11_warmer_94 : decode cX11_warmer 94 = .ok (.istore 5, 2) := by decide +kernel
theorem dX11_warmer_96 : decode cX11_warmer 96 = .ok (.iinc 6 1, 3) := by decide +kernel
theorem dX11_warmer_99 : decode cX11_warmer 99 = .ok (.goto (-63), 3) := by decide +kernel
theorem dX11_warmer_102 : decode cX11_warmer 102 = .ok (.iload 5, 2) := by decide +kernel
theorem dX11_warmer_104 : decode cX11_warmer 104 = .ok (.ireturn, 1) := by decide +kernel
set_option maxRecDepth 20000 in
theorem ggX11_route_X11_isPerson : GoodIn wsX11_route wsX11_isPerson := goodIn_r _ [13, 14, 15, 16, 12, 17, 51, 52, 53, 54, 55, 56, 57, 58, 59, 60, 61, 62, 63, 64, 65, 66, 67, 68, 69, 70, 71, 72, 73, 74, 75, 76, 77, 78, 79, 80, 81, 82, 83, 84, 85, 86, 87, 88, 89, 90, 91] (by decide +kernel) (by decide +kernel)
set_option maxRecDepth 20000 in
theorem gX11_route_X11_isPerson : GoodIn wsX11_route (wsV RX11 85 RX11 yX11_isPerson wsX11_isPerson) := goodIn_app (goodIn_of _ (by decide +kernel)) ggX11_route_X11_isPerson
set_option maxRecDepth 20000 in
theorem ggX11_route_X11_in : GoodIn wsX11_route wsX11_in := goodIn_r _ [17] (by decide +kernel) (by decide +kernel)
set_option maxRecDepth 20000 in
theorem gX11_route_X11_in : GoodIn wsX11_route (va_wsS RX11 78 yX11_in wsX11_in) := goodIn_app (goodIn_of _ (by decide +kernel)) ggX11_route_X11_in
set_option maxRecDepth 20000 in
theorem ggX11_route_X11_tries : GoodIn wsX11_route wsX11_tries := goodIn_r _ [21, 22, 8, 51, 52, 53, 54, 55, 56, 57, 58, 59, 60, 61, 62, 63, 64, 65, 66, 67, 68, 69, 70, 71, 72, 73, 74, 75, 76, 77, 78, 79, 80, 81, 82, 83, 84, 85, 86, 87, 88, 89, 90, 91] (by decide +kernel) (by decide +kernel)
set_option maxRecDepth 20000 in
theorem gX11_route_X11_tries : GoodIn wsX11_route (wsV RX11 270 RX11 yX11_tries wsX11_tries) := goodIn_app (goodIn_of _ (by decide +kernel)) ggX11_route_X11_tries
set_option maxRecDepth 20000 in
theorem ggX11_route_X11_has : GoodIn wsX11_route wsX11_has := goodIn_r _ [25] (by decide +kernel) (by decide +kernel)
set_option maxRecDepth 20000 in
theorem gX11_route_X11_has : GoodIn wsX11_route (va_wsS RX11 129 yX11_has wsX11_has) := goodIn_app (goodIn_of _ (by decide +kernel)) ggX11_route_X11_has
set_option maxRecDepth 20000 in
theorem ggX11_route_X11_warmer : GoodIn wsX11_route wsX11_warmer := goodIn_r _ [29, 22, 8, 14, 30, 31, 32, 12, 33, 34, 35, 36, 37, 38, 23, 24, 25, 39, 40, 41, 42, 43, 44, 45, 46, 47, 48, 49, 50, 51, 52, 53, 54, 55, 56, 57, 58, 59, 60, 61, 62, 63, 64, 65, 66, 67, 68, 69, 70, 71, 72, 73, 74, 75, 76, 77, 78, 79, 80, 81, 82, 83, 84, 85, 86, 87, 88, 89, 90, 91] (by decide +kernel) (by decide +kernel)
set_option maxRecDepth 20000 in
theorem gX11_route_X11_warmer : GoodIn wsX11_route (wsV RX11 277 RX11 yX11_warmer wsX11_warmer) := goodIn_app (goodIn_of _ (by decide +kernel)) ggX11_route_X11_warmer
theorem dX11_route_0 : decode cX11_route 0 = .ok (.aload_n 0, 1) := by decide +kernel
theorem dX11_route_1 : decode cX11_route 1 = .ok (.iload_n 1, 1) := by decide +kernel
theorem dX11_route_2 : decode cX11_route 2 = .ok (.invokevirtual 85, 3) := by decide +kernel
theorem dX11_route_5 : decode cX11_route 5 = .ok (.ifCond .ne 6, 3) := by decide +kernel
theorem dX11_route_8 : decode cX11_route 8 = .ok (.ldc 230, 2) := by decide +kernel
theorem dX11_route_10 : decode cX11_route 10 = .ok (.ireturn, 1) := by decide +kernel
theorem dX11_route_11 : decode cX11_route 11 = .ok (.iload_n 2, 1) := by decide +kernel
theorem dX11_route_12 : decode cX11_route 12 = .ok (.i2l, 1) := by decide +kernel
theorem dX11_route_13 : decode cX11_route 13 = .ok (.lconst 1, 1) := by decide +kernel
theorem dX11_route_14 : decode cX11_route 14 = .ok (.ldc2_w 275, 3) := by decide +kernel
theorem dX11_route_17 : decode cX11_route 17 = .ok (.invokestatic 78, 3) := by decide +kernel
theorem dX11_route_20 : decode cX11_route 20 = .ok (.ifCond .eq 13, 3) := by decide +kernel
theorem dX11_route_23 : decode cX11_route 23 = .ok (.iload_n 3, 1) := by decide +kernel
theorem dX11_route_24 : decode cX11_route 24 = .ok (.i2l, 1) := by decide +kernel
theorem dX11_route_25 : decode cX11_route 25 = .ok (.lconst 0, 1) := by decide +kernel
theorem dX11_route_26 : decode cX11_route 26 = .ok (.lconst 1, 1) := by decide +kernel
theorem dX11_route_27 : decode cX11_route 27 = .ok (.invokestatic 78, 3) := by decide +kernel
theorem dX11_route_30 : decode cX11_route 30 = .ok (.ifCond .ne 6, 3) := by decide +kernel
theorem dX11_route_33 : decode cX11_route 33 = .ok (.ldc 91, 2) := by decide +kernel
theorem dX11_route_35 : decode cX11_route 35 = .ok (.ireturn, 1) := by decide +kernel
theorem dX11_route_36 : decode cX11_route 36 = .ok (.aload_n 0, 1) := by decide +kernel
theorem dX11_route_37 : decode cX11_route 37 = .ok (.invokevirtual 270, 3) := by decide +kernel
theorem dX11_route_40 : decode cX11_route 40 = .ok (.iconst 0, 1) := by decide +kernel
theorem dX11_route_41 : decode cX11_route 41 = .ok (.istore 4, 2) := by decide +kernel
theorem dX11_route_43 : decode cX11_route 43 = .ok (.iload 4, 2) := by decide +kernel
theorem dX11_route_45 : decode cX11_route 45 = .ok (.bipush 6, 2) := by decide +kernel
theorem dX11_route_47 : decode cX11_route 47 = .ok (.if_icmp .ge 22, 3) := by decide +kernel
theorem dX11_route_50 : decode cX11_route 50 = .ok (.aload_n 0, 1) := by decide +kernel
theorem dX11_route_51 : decode cX11_route 51 = .ok (.getfield 65, 3) := by decide +kernel
theorem dX11_route_54 : decode cX11_route 54 = .ok (.bipush 6, 2) := by decide +kernel
theorem dX11_route_56 : decode cX11_route 56 = .ok (.iload_n 2, 1) := by decide +kernel
theorem dX11_route_57 : decode cX11_route 57 = .ok (.imul, 1) := by decide +kernel
theorem dX11_route_58 : decode cX11_route 58 = .ok (.iload 4, 2) := by decide +kernel
theorem dX11_route_60 : decode cX11_route 60 = .ok (.iadd, 1) := by decide +kernel
theorem dX11_route_61 : decode cX11_route 61 = .ok (.iconst 0, 1) := by decide +kernel
theorem dX11_route_62 : decode cX11_route 62 = .ok (.iastore, 1) := by decide +kernel
theorem dX11_route_63 : decode cX11_route 63 = .ok (.iinc 4 1, 3) := by decide +kernel
theorem dX11_route_66 : decode cX11_route 66 = .ok (.goto (-23), 3) := by decide +kernel
theorem dX11_route_69 : decode cX11_route 69 = .ok (.iconst 0, 1) := by decide +kernel
theorem dX11_route_70 : decode cX11_route 70 = .ok (.istore 4, 2) := by decide +kernel
theorem dX11_route_72 : decode cX11_route 72 = .ok (.ldc 214, 2) := by decide +kernel
theorem dX11_route_74 : decode cX11_route 74 = .ok (.istore 5, 2) := by decide +kernel
theorem dX11_route_76 : decode cX11_route 76 = .ok (.iload_n 2, 1) := by decide +kernel
theorem dX11_route_77 : decode cX11_route 77 = .ok (.iconst 1, 1) := by decide +kernel
theorem dX11_route_78 : decode cX11_route 78 = .ok (.isub, 1) := by decide +kernel
theorem dX11_route_79 : decode cX11_route 79 = .ok (.istore 6, 2) := by decide +kernel
theorem dX11_route_81 : decode cX11_route 81 = .ok (.iload 6, 2) := by decide +kernel
theorem dX11_route_83 : decode cX11_route 83 = .ok (.ifCond .lt 219, 3) := by decide +kernel
theorem dX11_route_86 : decode cX11_route 86 = .ok (.iconst 0, 1) := by decide +kernel
theorem dX11_route_87 : decode cX11_route 87 = .ok (.istore 7, 2) := by decide +kernel
theorem dX11_route_89 : decode cX11_route 89 = .ok (.iload 7, 2) := by decide +kernel
theorem dX11_route_91 : decode cX11_route 91 = .ok (.aload_n 0, 1) := by decide +kernel
theorem dX11_route_92 : decode cX11_route 92 = .ok (.getfield 75, 3) := by decide +kernel
theorem dX11_route_95 : decode cX11_route 95 = .ok (.if_icmp .ge 201, 3) := by decide +kernel
theorem dX11_route_98 : decode cX11_route 98 = .ok (.ldc 214, 2) := by decide +kernel
theorem dX11_route_100 : decode cX11_route 100 = .ok (.istore 8, 2) := by decide +kernel
theorem dX11_route_102 : decode cX11_route 102 = .ok (.iconst 0, 1) := by decide +kernel
theorem dX11_route_103 : decode cX11_route 103 = .ok (.istore 9, 2) := by decide +kernel
theorem dX11_route_105 : decode cX11_route 105 = .ok (.iconst 0, 1) := by decide +kernel
theorem dX11_route_106 : decode cX11_route 106 = .ok (.istore 10, 2) := by decide +kernel
theorem dX11_route_108 : decode cX11_route 108 = .ok (.iload 10, 2) := by decide +kernel
theorem dX11_route_110 : decode cX11_route 110 = .ok (.aload_n 0, 1) := by decide +kernel
theorem dX11_route_111 : decode cX11_route 111 = .ok (.getfield 75, 3) := by decide +kernel
theorem dX11_route_114 : decode cX11_route 114 = .ok (.if_icmp .ge 107, 3) := by decide +kernel
theorem dX11_route_117 : decode cX11_route 117 = .ok (.iload 10, 2) := by decide +kernel
theorem dX11_route_119 : decode cX11_route 119 = .ok (.iload 7, 2) := by decide +kernel
theorem dX11_route_121 : decode cX11_route 121 = .ok (.if_icmp .eq 18, 3) := by decide +kernel
theorem dX11_route_124 : decode cX11_route 124 = .ok (.aload_n 0, 1) := by decide +kernel
theorem dX11_route_125 : decode cX11_route 125 = .ok (.getfield 13, 3) := by decide +kernel
theorem dX11_route_128 : decode cX11_route 128 = .ok (.iload 7, 2) := by decide +kernel
theorem dX11_route_130 : decode cX11_route 130 = .ok (.iaload, 1) := by decide +kernel
theorem dX11_route_131 : decode cX11_route 131 = .ok (.iload 10, 2) := by decide +kernel
theorem dX11_route_133 : decode cX11_route 133 = .ok (.invokestatic 129, 3) := by decide +kernel
theorem dX11_route_136 : decode cX11_route 136 = .ok (.ifCond .eq 79, 3) := by decide +kernel
theorem dX11_route_139 : decode cX11_route 139 = .ok (.aload_n 0, 1) := by decide +kernel
theorem dX11_route_140 : decode cX11_route 140 = .ok (.iload_n 1, 1) := by decide +kernel
theorem dX11_route_141 : decode cX11_route 141 = .ok (.iload 10, 2) := by decide +kernel
theorem dX11_route_143 : decode cX11_route 143 = .ok (.aload_n 0, 1) := by decide +kernel
theorem dX11_route_144 : decode cX11_route 144 = .ok (.getfield 19, 3) := by decide +kernel
theorem dX11_route_147 : decode cX11_route 147 = .ok (.iconst 0, 1) := by decide +kernel
theorem dX11_route_148 : decode cX11_route 148 = .ok (.iaload, 1) := by decide +kernel
theorem dX11_route_149 : decode cX11_route 149 = .ok (.iload 6, 2) := by decide +kernel
theorem dX11_route_151 : decode cX11_route 151 = .ok (.iadd, 1) := by decide +kernel
theorem dX11_route_152 : decode cX11_route 152 = .ok (.iload 6, 2) := by decide +kernel
theorem dX11_route_154 : decode cX11_route 154 = .ok (.ifCond .ne 7, 3) := by decide +kernel
theorem dX11_route_157 : decode cX11_route 157 = .ok (.iconst 1, 1) := by decide +kernel
theorem dX11_route_158 : decode cX11_route 158 = .ok (.goto 4, 3) := by decide +kernel
theorem dX11_route_161 : decode cX11_route 161 = .ok (.iconst 0, 1) := by decide +kernel
theorem dX11_route_162 : decode cX11_route 162 = .ok (.invokevirtual 277, 3) := by decide +kernel
theorem dX11_route_165 : decode cX11_route 165 = .ok (.aload_n 0, 1) := by decide +kernel
theorem dX11_route_166 : decode cX11_route 166 = .ok (.getfield 65, 3) := by decide +kernel
theorem dX11_route_169 : decode cX11_route 169 = .ok (.bipush 6, 2) := by decide +kernel
theorem dX11_route_171 : decode cX11_route 171 = .ok (.iload 6, 2) := by decide +kernel
theorem dX11_route_173 : decode cX11_route 173 = .ok (.iconst 1, 1) := by decide +kernel
theorem dX11_route_174 : decode cX11_route 174 = .ok (.iadd, 1) := by decide +kernel
theorem dX11_route_175 : decode cX11_route 175 = .ok (.imul, 1) := by decide +kernel
theorem dX11_route_176 : decode cX11_route 176 = .ok (.iload 10, 2) := by decide +kernel
theorem dX11_route_178 : decode cX11_route 178 = .ok (.iadd, 1) := by decide +kernel
theorem dX11_route_179 : decode cX11_route 179 = .ok (.iaload, 1) := by decide +kernel
theorem dX11_route_180 : decode cX11_route 180 = .ok (.iadd, 1) := by decide +kernel
theorem dX11_route_181 : decode cX11_route 181 = .ok (.istore 11, 2) := by decide +kernel
theorem dX11_route_183 : decode cX11_route 183 = .ok (.iload 11, 2) := by decide +kernel
theorem dX11_route_185 : decode cX11_route 185 = .ok (.iload 8, 2) := by decide +kernel
theorem dX11_route_187 : decode cX11_route 187 = .ok (.if_icmp .le 8, 3) := by decide +kernel
theorem dX11_route_190 : decode cX11_route 190 = .ok (.iload 10, 2) := by decide +kernel
theorem dX11_route_192 : decode cX11_route 192 = .ok (.goto 5, 3) := by decide +kernel
theorem dX11_route_195 : decode cX11_route 195 = .ok (.iload 9, 2) := by decide +kernel
theorem dX11_route_197 : decode cX11_route 197 = .ok (.istore 9, 2) := by decide +kernel
theorem dX11_route_199 : decode cX11_route 199 = .ok (.iload 11, 2) := by decide +kernel
theorem dX11_route_201 : decode cX11_route 201 = .ok (.iload 8, 2) := by decide +kernel
theorem dX11_route_203 : decode cX11_route 203 = .ok (.if_icmp .le 8, 3) := by decide +kernel
theorem dX11_route_206 : decode cX11_route 206 = .ok (.iload 11, 2) := by decide +kernel
theorem dX11_route_208 : decode cX11_route 208 = .ok (.goto 5, 3) := by decide +kernel
theorem dX11_route_211 : decode cX11_route 211 = .ok (.iload 8, 2) := by decide +kernel
theorem dX11_route_213 : decode cX11_route 213 = .ok (.istore 8, 2) := by decide +kernel
