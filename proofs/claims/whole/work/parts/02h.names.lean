theorem dX11_route_215 : decode cX11_route 215 = .ok (.iinc 10 1, 3) := by decide +kernel
theorem dX11_route_218 : decode cX11_route 218 = .ok (.goto (-110), 3) := by decide +kernel
theorem dX11_route_221 : decode cX11_route 221 = .ok (.aload_n 0, 1) := by decide +kernel
theorem dX11_route_222 : decode cX11_route 222 = .ok (.getfield 65, 3) := by decide +kernel
theorem dX11_route_225 : decode cX11_route 225 = .ok (.bipush 6, 2) := by decide +kernel
theorem dX11_route_227 : decode cX11_route 227 = .ok (.iload 6, 2) := by decide +kernel
theorem dX11_route_229 : decode cX11_route 229 = .ok (.imul, 1) := by decide +kernel
theorem dX11_route_230 : decode cX11_route 230 = .ok (.iload 7, 2) := by decide +kernel
theorem dX11_route_232 : decode cX11_route 232 = .ok (.iadd, 1) := by decide +kernel
theorem dX11_route_233 : decode cX11_route 233 = .ok (.iload 8, 2) := by decide +kernel
theorem dX11_route_235 : decode cX11_route 235 = .ok (.iastore, 1) := by decide +kernel
theorem dX11_route_236 : decode cX11_route 236 = .ok (.iload 6, 2) := by decide +kernel
theorem dX11_route_238 : decode cX11_route 238 = .ok (.ifCond .ne 21, 3) := by decide +kernel
theorem dX11_route_241 : decode cX11_route 241 = .ok (.iload 7, 2) := by decide +kernel
theorem dX11_route_243 : decode cX11_route 243 = .ok (.aload_n 0, 1) := by decide +kernel
theorem dX11_route_244 : decode cX11_route 244 = .ok (.getfield 19, 3) := by decide +kernel
theorem dX11_route_247 : decode cX11_route 247 = .ok (.iconst 2, 1) := by decide +kernel
theorem dX11_route_248 : decode cX11_route 248 = .ok (.iload_n 1, 1) := by decide +kernel
theorem dX11_route_249 : decode cX11_route 249 = .ok (.iadd, 1) := by decide +kernel
theorem dX11_route_250 : decode cX11_route 250 = .ok (.iaload, 1) := by decide +kernel
theorem dX11_route_251 : decode cX11_route 251 = .ok (.if_icmp .ne 8, 3) := by decide +kernel
theorem dX11_route_254 : decode cX11_route 254 = .ok (.iload 9, 2) := by decide +kernel
theorem dX11_route_256 : decode cX11_route 256 = .ok (.goto 5, 3) := by decide +kernel
theorem dX11_route_259 : decode cX11_route 259 = .ok (.iload 4, 2) := by decide +kernel
theorem dX11_route_261 : decode cX11_route 261 = .ok (.istore 4, 2) := by decide +kernel
theorem dX11_route_263 : decode cX11_route 263 = .ok (.iload 6, 2) := by decide +kernel
theorem dX11_route_265 : decode cX11_route 265 = .ok (.ifCond .ne 21, 3) := by decide +kernel
theorem dX11_route_268 : decode cX11_route 268 = .ok (.iload 7, 2) := by decide +kernel
theorem dX11_route_270 : decode cX11_route 270 = .ok (.aload_n 0, 1) := by decide +kernel
theorem dX11_route_271 : decode cX11_route 271 = .ok (.getfield 19, 3) := by decide +kernel
theorem dX11_route_274 : decode cX11_route 274 = .ok (.iconst 2, 1) := by decide +kernel
theorem dX11_route_275 : decode cX11_route 275 = .ok (.iload_n 1, 1) := by decide +kernel
theorem dX11_route_276 : decode cX11_route 276 = .ok (.iadd, 1) := by decide +kernel
theorem dX11_route_277 : decode cX11_route 277 = .ok (.iaload, 1) := by decide +kernel
theorem dX11_route_278 : decode cX11_route 278 = .ok (.if_icmp .ne 8, 3) := by decide +kernel
theorem dX11_route_281 : decode cX11_route 281 = .ok (.iload 8, 2) := by decide +kernel
theorem dX11_route_283 : decode cX11_route 283 = .ok (.goto 5, 3) := by decide +kernel
theorem dX11_route_286 : decode cX11_route 286 = .ok (.iload 5, 2) := by decide +kernel
theorem dX11_route_288 : decode cX11_route 288 = .ok (.istore 5, 2) := by decide +kernel
theorem dX11_route_290 : decode cX11_route 290 = .ok (.iinc 7 1, 3) := by decide +kernel
theorem dX11_route_293 : decode cX11_route 293 = .ok (.goto (-204), 3) := by decide +kernel
theorem dX11_route_296 : decode cX11_route 296 = .ok (.iinc 6 (-1), 3) := by decide +kernel
theorem dX11_route_299 : decode cX11_route 299 = .ok (.goto (-218), 3) := by decide +kernel
theorem dX11_route_302 : decode cX11_route 302 = .ok (.iload_n 3, 1) := by decide +kernel
theorem dX11_route_303 : decode cX11_route 303 = .ok (.ifCond .ne 12, 3) := by decide +kernel
theorem dX11_route_306 : decode cX11_route 306 = .ok (.iload 5, 2) := by decide +kernel
theorem dX11_route_308 : decode cX11_route 308 = .ok (.sipush 10000, 3) := by decide +kernel
theorem dX11_route_311 : decode cX11_route 311 = .ok (.iadd, 1) := by decide +kernel
theorem dX11_route_312 : decode cX11_route 312 = .ok (.goto 5, 3) := by decide +kernel
theorem dX11_route_315 : decode cX11_route 315 = .ok (.iload 4, 2) := by decide +kernel
theorem dX11_route_317 : decode cX11_route 317 = .ok (.ireturn, 1) := by decide +kernel
set_option maxRecDepth 20000 in
theorem ggX11_leavers_X11_isRoom : GoodIn wsX11_leavers wsX11_isRoom := goodIn_r _ [11, 12, 13, 14, 10, 15, 47, 48, 49, 50, 51, 52, 53, 54, 55, 56, 57, 58, 59, 60, 61, 62, 63, 64, 65, 66, 67, 68, 69, 70, 71, 72, 73, 74, 75, 76, 77, 78, 79, 80, 81, 82, 83, 84, 85, 86, 87] (by decide +kernel) (by decide +kernel)
set_option maxRecDepth 20000 in
theorem gX11_leavers_X11_isRoom : GoodIn wsX11_leavers (wsV RX11 227 RX11 yX11_isRoom wsX11_isRoom) := goodIn_app (goodIn_of _ (by decide +kernel)) ggX11_leavers_X11_isRoom
set_option maxRecDepth 20000 in
theorem ggX11_leavers_X11_in : GoodIn wsX11_leavers wsX11_in := goodIn_r _ [15] (by decide +kernel) (by decide +kernel)
set_option maxRecDepth 20000 in
theorem gX11_leavers_X11_in : GoodIn wsX11_leavers (va_wsS RX11 78 yX11_in wsX11_in) := goodIn_app (goodIn_of _ (by decide +kernel)) ggX11_leavers_X11_in
set_option maxRecDepth 20000 in
theorem ggX11_leavers_X11_tries : GoodIn wsX11_leavers wsX11_tries := goodIn_r _ [19, 5, 6, 47, 48, 49, 50, 51, 52, 53, 54, 55, 56, 57, 58, 59, 60, 61, 62, 63, 64, 65, 66, 67, 68, 69, 70, 71, 72, 73, 74, 75, 76, 77, 78, 79, 80, 81, 82, 83, 84, 85, 86, 87] (by decide +kernel) (by decide +kernel)
set_option maxRecDepth 20000 in
theorem gX11_leavers_X11_tries : GoodIn wsX11_leavers (wsV RX11 270 RX11 yX11_tries wsX11_tries) := goodIn_app (goodIn_of _ (by decide +kernel)) ggX11_leavers_X11_tries
set_option maxRecDepth 20000 in
theorem ggX11_leavers_X11_has : GoodIn wsX11_leavers wsX11_has := goodIn_r _ [22] (by decide +kernel) (by decide +kernel)
set_option maxRecDepth 20000 in
theorem gX11_leavers_X11_has : GoodIn wsX11_leavers (va_wsS RX11 129 yX11_has wsX11_has) := goodIn_app (goodIn_of _ (by decide +kernel)) ggX11_leavers_X11_has
set_option maxRecDepth 20000 in
theorem ggX11_leavers_X11_saidAll : GoodIn wsX11_leavers wsX11_saidAll := goodIn_r _ [26, 4, 27, 28, 29, 10, 30, 31, 32, 33, 34, 35, 20, 21, 22, 36, 37, 38, 39, 40, 41, 42, 43, 47, 48, 49, 50, 51, 52, 53, 54, 55, 56, 57, 58, 59, 60, 61, 62, 63, 64, 65, 66, 67, 68, 69, 70, 71, 72, 73, 74, 75, 76, 77, 78, 79, 80, 81, 82, 83, 84, 85, 86, 87] (by decide +kernel) (by decide +kernel)
set_option maxRecDepth 20000 in
theorem gX11_leavers_X11_saidAll : GoodIn wsX11_leavers (wsV RX11 281 RX11 yX11_saidAll wsX11_saidAll) := goodIn_app (goodIn_of _ (by decide +kernel)) ggX11_leavers_X11_saidAll
set_option maxRecDepth 20000 in
theorem ggX11_leavers_X11_ones : GoodIn wsX11_leavers wsX11_ones := goodIn_r _ [46] (by decide +kernel) (by decide +kernel)
set_option maxRecDepth 20000 in
theorem gX11_leavers_X11_ones : GoodIn wsX11_leavers (va_wsS RX11 215 yX11_ones wsX11_ones) := goodIn_app (goodIn_of _ (by decide +kernel)) ggX11_leavers_X11_ones
theorem dX11_leavers_0 : decode cX11_leavers 0 = .ok (.aload_n 0, 1) := by decide +kernel
theorem dX11_leavers_1 : decode cX11_leavers 1 = .ok (.iload_n 1, 1) := by decide +kernel
theorem dX11_leavers_2 : decode cX11_leavers 2 = .ok (.invokevirtual 227, 3) := by decide +kernel
theorem dX11_leavers_5 : decode cX11_leavers 5 = .ok (.ifCond .ne 6, 3) := by decide +kernel
theorem dX11_leavers_8 : decode cX11_leavers 8 = .ok (.ldc 230, 2) := by decide +kernel
theorem dX11_leavers_10 : decode cX11_leavers 10 = .ok (.ireturn, 1) := by decide +kernel
theorem dX11_leavers_11 : decode cX11_leavers 11 = .ok (.iload_n 2, 1) := by decide +kernel
theorem dX11_leavers_12 : decode cX11_leavers 12 = .ok (.i2l, 1) := by decide +kernel
theorem dX11_leavers_13 : decode cX11_leavers 13 = .ok (.lconst 0, 1) := by decide +kernel
theorem dX11_leavers_14 : decode cX11_leavers 14 = .ok (.lconst 1, 1) := by decide +kernel
theorem dX11_leavers_15 : decode cX11_leavers 15 = .ok (.invokestatic 78, 3) := by decide +kernel
theorem dX11_leavers_18 : decode cX11_leavers 18 = .ok (.ifCond .ne 6, 3) := by decide +kernel
theorem dX11_leavers_21 : decode cX11_leavers 21 = .ok (.ldc 91, 2) := by decide +kernel
theorem dX11_leavers_23 : decode cX11_leavers 23 = .ok (.ireturn, 1) := by decide +kernel
theorem dX11_leavers_24 : decode cX11_leavers 24 = .ok (.iconst 0, 1) := by decide +kernel
theorem dX11_leavers_25 : decode cX11_leavers 25 = .ok (.istore_n 3, 1) := by decide +kernel
theorem dX11_leavers_26 : decode cX11_leavers 26 = .ok (.ldc 214, 2) := by decide +kernel
theorem dX11_leavers_28 : decode cX11_leavers 28 = .ok (.istore 4, 2) := by decide +kernel
theorem dX11_leavers_30 : decode cX11_leavers 30 = .ok (.iconst 0, 1) := by decide +kernel
theorem dX11_leavers_31 : decode cX11_leavers 31 = .ok (.istore 5, 2) := by decide +kernel
theorem dX11_leavers_33 : decode cX11_leavers 33 = .ok (.iload 5, 2) := by decide +kernel
theorem dX11_leavers_35 : decode cX11_leavers 35 = .ok (.iconst 1, 1) := by decide +kernel
theorem dX11_leavers_36 : decode cX11_leavers 36 = .ok (.aload_n 0, 1) := by decide +kernel
theorem dX11_leavers_37 : decode cX11_leavers 37 = .ok (.getfield 82, 3) := by decide +kernel
theorem dX11_leavers_40 : decode cX11_leavers 40 = .ok (.ishl, 1) := by decide +kernel
theorem dX11_leavers_41 : decode cX11_leavers 41 = .ok (.if_icmp .ge 132, 3) := by decide +kernel
theorem dX11_leavers_44 : decode cX11_leavers 44 = .ok (.aload_n 0, 1) := by decide +kernel
theorem dX11_leavers_45 : decode cX11_leavers 45 = .ok (.invokevirtual 270, 3) := by decide +kernel
theorem dX11_leavers_48 : decode cX11_leavers 48 = .ok (.iconst 0, 1) := by decide +kernel
theorem dX11_leavers_49 : decode cX11_leavers 49 = .ok (.istore 6, 2) := by decide +kernel
theorem dX11_leavers_51 : decode cX11_leavers 51 = .ok (.iload 6, 2) := by decide +kernel
theorem dX11_leavers_53 : decode cX11_leavers 53 = .ok (.aload_n 0, 1) := by decide +kernel
theorem dX11_leavers_54 : decode cX11_leavers 54 = .ok (.getfield 82, 3) := by decide +kernel
theorem dX11_leavers_57 : decode cX11_leavers 57 = .ok (.if_icmp .ge 41, 3) := by decide +kernel
theorem dX11_leavers_60 : decode cX11_leavers 60 = .ok (.aload_n 0, 1) := by decide +kernel
theorem dX11_leavers_61 : decode cX11_leavers 61 = .ok (.getfield 22, 3) := by decide +kernel
theorem dX11_leavers_64 : decode cX11_leavers 64 = .ok (.iconst 2, 1) := by decide +kernel
theorem dX11_leavers_65 : decode cX11_leavers 65 = .ok (.iload 6, 2) := by decide +kernel
theorem dX11_leavers_67 : decode cX11_leavers 67 = .ok (.iadd, 1) := by decide +kernel
theorem dX11_leavers_68 : decode cX11_leavers 68 = .ok (.iload 5, 2) := by decide +kernel
theorem dX11_leavers_70 : decode cX11_leavers 70 = .ok (.iload 6, 2) := by decide +kernel
theorem dX11_leavers_72 : decode cX11_leavers 72 = .ok (.invokestatic 129, 3) := by decide +kernel
theorem dX11_leavers_75 : decode cX11_leavers 75 = .ok (.ifCond .eq 7, 3) := by decide +kernel
theorem dX11_leavers_78 : decode cX11_leavers 78 = .ok (.iload_n 1, 1) := by decide +kernel
theorem dX11_leavers_79 : decode cX11_leavers 79 = .ok (.goto 12, 3) := by decide +kernel
theorem dX11_leavers_82 : decode cX11_leavers 82 = .ok (.aload_n 0, 1) := by decide +kernel
theorem dX11_leavers_83 : decode cX11_leavers 83 = .ok (.getfield 19, 3) := by decide +kernel
theorem dX11_leavers_86 : decode cX11_leavers 86 = .ok (.iconst 2, 1) := by decide +kernel
theorem dX11_leavers_87 : decode cX11_leavers 87 = .ok (.iload 6, 2) := by decide +kernel
theorem dX11_leavers_89 : decode cX11_leavers 89 = .ok (.iadd, 1) := by decide +kernel
theorem dX11_leavers_90 : decode cX11_leavers 90 = .ok (.iaload, 1) := by decide +kernel
theorem dX11_leavers_91 : decode cX11_leavers 91 = .ok (.iastore, 1) := by decide +kernel
theorem dX11_leavers_92 : decode cX11_leavers 92 = .ok (.iinc 6 1, 3) := by decide +kernel
theorem dX11_leavers_95 : decode cX11_leavers 95 = .ok (.goto (-44), 3) := by decide +kernel
theorem dX11_leavers_98 : decode cX11_leavers 98 = .ok (.aload_n 0, 1) := by decide +kernel
theorem dX11_leavers_99 : decode cX11_leavers 99 = .ok (.aload_n 0, 1) := by decide +kernel
theorem dX11_leavers_100 : decode cX11_leavers 100 = .ok (.getfield 22, 3) := by decide +kernel
theorem dX11_leavers_103 : decode cX11_leavers 103 = .ok (.invokevirtual 281, 3) := by decide +kernel
theorem dX11_leavers_106 : decode cX11_leavers 106 = .ok (.istore 6, 2) := by decide +kernel
theorem dX11_leavers_108 : decode cX11_leavers 108 = .ok (.iload 6, 2) := by decide +kernel
theorem dX11_leavers_110 : decode cX11_leavers 110 = .ok (.iload 4, 2) := by decide +kernel
theorem dX11_leavers_112 : decode cX11_leavers 112 = .ok (.if_icmp .gt 22, 3) := by decide +kernel
theorem dX11_leavers_115 : decode cX11_leavers 115 = .ok (.iload 6, 2) := by decide +kernel
theorem dX11_leavers_117 : decode cX11_leavers 117 = .ok (.iload 4, 2) := by decide +kernel
theorem dX11_leavers_119 : decode cX11_leavers 119 = .ok (.if_icmp .ne 19, 3) := by decide +kernel
theorem dX11_leavers_122 : decode cX11_leavers 122 = .ok (.iload 5, 2) := by decide +kernel
theorem dX11_leavers_124 : decode cX11_leavers 124 = .ok (.invokestatic 215, 3) := by decide +kernel
theorem dX11_leavers_127 : decode cX11_leavers 127 = .ok (.iload_n 3, 1) := by decide +kernel
theorem dX11_leavers_128 : decode cX11_leavers 128 = .ok (.invokestatic 215, 3) := by decide +kernel
theorem dX11_leavers_131 : decode cX11_leavers 131 = .ok (.if_icmp .ge 7, 3) := by decide +kernel
theorem dX11_leavers_134 : decode cX11_leavers 134 = .ok (.iconst 1, 1) := by decide +kernel
theorem dX11_leavers_135 : decode cX11_leavers 135 = .ok (.goto 4, 3) := by decide +kernel
theorem dX11_leavers_138 : decode cX11_leavers 138 = .ok (.iconst 0, 1) := by decide +kernel
theorem dX11_leavers_139 : decode cX11_leavers 139 = .ok (.istore 7, 2) := by decide +kernel
theorem dX11_leavers_141 : decode cX11_leavers 141 = .ok (.iload 7, 2) := by decide +kernel
theorem dX11_leavers_143 : decode cX11_leavers 143 = .ok (.ifCond .eq 8, 3) := by decide +kernel
theorem dX11_leavers_146 : decode cX11_leavers 146 = .ok (.iload 5, 2) := by decide +kernel
theorem dX11_leavers_148 : decode cX11_leavers 148 = .ok (.goto 4, 3) := by decide +kernel
theorem dX11_leavers_151 : decode cX11_leavers 151 = .ok (.iload_n 3, 1) := by decide +kernel
theorem dX11_leavers_152 : decode cX11_leavers 152 = .ok (.istore_n 3, 1) := by decide +kernel
theorem dX11_leavers_153 : decode cX11_leavers 153 = .ok (.iload 7, 2) := by decide +kernel
theorem dX11_leavers_155 : decode cX11_leavers 155 = .ok (.ifCond .eq 8, 3) := by decide +kernel
theorem dX11_leavers_158 : decode cX11_leavers 158 = .ok (.iload 6, 2) := by decide +kernel
theorem dX11_leavers_160 : decode cX11_leavers 160 = .ok (.goto 5, 3) := by decide +kernel
theorem dX11_leavers_163 : decode cX11_leavers 163 = .ok (.iload 4, 2) := by decide +kernel
theorem dX11_leavers_165 : decode cX11_leavers 165 = .ok (.istore 4, 2) := by decide +kernel
theorem dX11_leavers_167 : decode cX11_leavers 167 = .ok (.iinc 5 1, 3) := by decide +kernel
theorem dX11_leavers_170 : decode cX11_leavers 170 = .ok (.goto (-137), 3) := by decide +kernel
theorem dX11_leavers_173 : decode cX11_leavers 173 = .ok (.iload_n 2, 1) := by decide +kernel
theorem dX11_leavers_174 : decode cX11_leavers 174 = .ok (.ifCond .ne 7, 3) := by decide +kernel
theorem dX11_leavers_177 : decode cX11_leavers 177 = .ok (.iload_n 3, 1) := by decide +kernel
theorem dX11_leavers_178 : decode cX11_leavers 178 = .ok (.goto 9, 3) := by decide +kernel
theorem dX11_leavers_181 : decode cX11_leavers 181 = .ok (.iload 4, 2) := by decide +kernel
theorem dX11_leavers_183 : decode cX11_leavers 183 = .ok (.sipush 10000, 3) := by decide +kernel
theorem dX11_leavers_186 : decode cX11_leavers 186 = .ok (.iadd, 1) := by decide +kernel
theorem dX11_leavers_187 : decode cX11_leavers 187 = .ok (.ireturn, 1) := by decide +kernel
set_option maxRecDepth 20000 in
theorem ggX11_silent_X11_silentBy : GoodIn wsX11_silent wsX11_silentBy := goodIn_r _ [5, 6, 7, 8, 9, 10, 4, 11, 12, 13, 14, 15, 16, 17, 18, 19, 20, 21, 22, 23, 24, 25, 26, 27, 28, 29, 30, 31, 32, 33, 34, 35, 36, 37, 38, 39, 40, 41, 42, 43, 44, 45, 46, 47, 48, 49, 50, 51, 52, 53, 54, 55, 56, 57, 58, 59, 60, 61, 62, 63, 64] (by decide +kernel) (by decide +kernel)
set_option maxRecDepth 20000 in
theorem gX11_silent_X11_silentBy : GoodIn wsX11_silent (wsV RX11 221 RX11 yX11_silentBy wsX11_silentBy) := goodIn_app (goodIn_of _ (by decide +kernel)) ggX11_silent_X11_silentBy
theorem dX11_silent_0 : decode cX11_silent 0 = .ok (.iload_n 1, 1) := by decide +kernel
theorem dX11_silent_1 : decode cX11_silent 1 = .ok (.ifCond .ge 7, 3) := by decide +kernel
theorem dX11_silent_4 : decode cX11_silent 4 = .ok (.iconst (-1), 1) := by decide +kernel
theorem dX11_silent_5 : decode cX11_silent 5 = .ok (.goto 8, 3) := by decide +kernel
theorem dX11_silent_8 : decode cX11_silent 8 = .ok (.aload_n 0, 1) := by decide +kernel
theorem dX11_silent_9 : decode cX11_silent 9 = .ok (.iload_n 1, 1) := by decide +kernel
theorem dX11_silent_10 : decode cX11_silent 10 = .ok (.invokevirtual 221, 3) := by decide +kernel
theorem dX11_silent_13 : decode cX11_silent 13 = .ok (.ireturn, 1) := by decide +kernel
set_option maxRecDepth 20000 in
theorem ggX11_knowThen_X11_has : GoodIn wsX11_knowThen wsX11_has := goodIn_r _ [6] (by decide +kernel) (by decide +kernel)
set_option maxRecDepth 20000 in
theorem gX11_knowThen_X11_has : GoodIn wsX11_knowThen (va_wsS RX11 129 yX11_has wsX11_has) := goodIn_app (goodIn_of _ (by decide +kernel)) ggX11_knowThen_X11_has
set_option maxRecDepth 20000 in
theorem ggX11_knowThen_X11_hears : GoodIn wsX11_knowThen wsX11_hears := goodIn_r _ [10, 11, 3, 4, 5, 6, 12, 13, 14, 15, 16, 17, 18, 19, 20, 21, 22, 23, 24, 25, 26, 27, 28, 29, 30, 31, 32, 33, 34, 35, 36, 37, 38, 39, 40, 41, 42, 43, 44, 45, 46, 47, 48, 49, 50, 51, 52] (by decide +kernel) (by decide +kernel)
set_option maxRecDepth 20000 in
theorem gX11_knowThen_X11_hears : GoodIn wsX11_knowThen (wsV RX11 210 RX11 yX11_hears wsX11_hears) := goodIn_app (goodIn_of _ (by decide +kernel)) ggX11_knowThen_X11_hears
theorem dX11_knowThen_0 : decode cX11_knowThen 0 = .ok (.iload_n 1, 1) := by decide +kernel
theorem dX11_knowThen_1 : decode cX11_knowThen 1 = .ok (.istore_n 2, 1) := by decide +kernel
theorem dX11_knowThen_2 : decode cX11_knowThen 2 = .ok (.iconst 0, 1) := by decide +kernel
theorem dX11_knowThen_3 : decode cX11_knowThen 3 = .ok (.istore_n 3, 1) := by decide +kernel
theorem dX11_knowThen_4 : decode cX11_knowThen 4 = .ok (.iload_n 3, 1) := by decide +kernel
theorem dX11_knowThen_5 : decode cX11_knowThen 5 = .ok (.aload_n 0, 1) := by decide +kernel
theorem dX11_knowThen_6 : decode cX11_knowThen 6 = .ok (.getfield 82, 3) := by decide +kernel
theorem dX11_knowThen_9 : decode cX11_knowThen 9 = .ok (.if_icmp .ge 60, 3) := by decide +kernel
theorem dX11_knowThen_12 : decode cX11_knowThen 12 = .ok (.iconst 0, 1) := by decide +kernel
theorem dX11_knowThen_13 : decode cX11_knowThen 13 = .ok (.istore 4, 2) := by decide +kernel
theorem dX11_knowThen_15 : decode cX11_knowThen 15 = .ok (.iload 4, 2) := by decide +kernel
theorem dX11_knowThen_17 : decode cX11_knowThen 17 = .ok (.aload_n 0, 1) := by decide +kernel
theorem dX11_knowThen_18 : decode cX11_knowThen 18 = .ok (.getfield 82, 3) := by decide +kernel
theorem dX11_knowThen_21 : decode cX11_knowThen 21 = .ok (.if_icmp .ge 42, 3) := by decide +kernel
theorem dX11_knowThen_24 : decode cX11_knowThen 24 = .ok (.iload_n 2, 1) := by decide +kernel
theorem dX11_knowThen_25 : decode cX11_knowThen 25 = .ok (.iload_n 1, 1) := by decide +kernel
theorem dX11_knowThen_26 : decode cX11_knowThen 26 = .ok (.iload_n 3, 1) := by decide +kernel
theorem dX11_knowThen_27 : decode cX11_knowThen 27 = .ok (.invokestatic 129, 3) := by decide +kernel
theorem dX11_knowThen_30 : decode cX11_knowThen 30 = .ok (.ifCond .eq 24, 3) := by decide +kernel
theorem dX11_knowThen_33 : decode cX11_knowThen 33 = .ok (.aload_n 0, 1) := by decide +kernel
theorem dX11_knowThen_34 : decode cX11_knowThen 34 = .ok (.aload_n 0, 1) := by decide +kernel
theorem dX11_knowThen_35 : decode cX11_knowThen 35 = .ok (.getfield 19, 3) := by decide +kernel
theorem dX11_knowThen_38 : decode cX11_knowThen 38 = .ok (.iload_n 3, 1) := by decide +kernel
theorem dX11_knowThen_39 : decode cX11_knowThen 39 = .ok (.iload 4, 2) := by decide +kernel
theorem dX11_knowThen_41 : decode cX11_knowThen 41 = .ok (.invokevirtual 210, 3) := by decide +kernel
theorem dX11_knowThen_44 : decode cX11_knowThen 44 = .ok (.ifCond .eq 10, 3) := by decide +kernel
theorem dX11_knowThen_47 : decode cX11_knowThen 47 = .ok (.iconst 1, 1) := by decide +kernel
theorem dX11_knowThen_48 : decode cX11_knowThen 48 = .ok (.iload 4, 2) := by decide +kernel
theorem dX11_knowThen_50 : decode cX11_knowThen 50 = .ok (.ishl, 1) := by decide +kernel
theorem dX11_knowThen_51 : decode cX11_knowThen 51 = .ok (.goto 4, 3) := by decide +kernel
theorem dX11_knowThen_54 : decode cX11_knowThen 54 = .ok (.iconst 0, 1) := by decide +kernel
theorem dX11_knowThen_55 : decode cX11_knowThen 55 = .ok (.ior, 1) := by decide +kernel
theorem dX11_knowThen_56 : decode cX11_knowThen 56 = .ok (.istore_n 2, 1) := by decide +kernel
theorem dX11_knowThen_57 : decode cX11_knowThen 57 = .ok (.iinc 4 1, 3) := by decide +kernel
theorem dX11_knowThen_60 : decode cX11_knowThen 60 = .ok (.goto (-45), 3) := by decide +kernel
theorem dX11_knowThen_63 : decode cX11_knowThen 63 = .ok (.iinc 3 1, 3) := by decide +kernel
theorem dX11_knowThen_66 : decode cX11_knowThen 66 = .ok (.goto (-62), 3) := by decide +kernel
theorem dX11_knowThen_69 : decode cX11_knowThen 69 = .ok (.iload_n 2, 1) := by decide +kernel
theorem dX11_knowThen_70 : decode cX11_knowThen 70 = .ok (.ireturn, 1) := by decide +kernel
set_option maxRecDepth 20000 in
theorem ggX11_carried_X11_isPerson : GoodIn wsX11_carried wsX11_isPerson := goodIn_r _ [10, 5, 11, 12, 9, 13, 30, 31, 32, 33, 34, 35, 36, 37, 38, 39, 40, 41, 42, 43, 44, 45, 46, 47, 48, 49, 50, 51, 52, 53, 54, 55, 56, 57, 58, 59, 60, 61, 62, 63, 64, 65, 66, 67, 68, 69, 70] (by decide +kernel) (by decide +kernel)
set_option maxRecDepth 20000 in
theorem gX11_carried_X11_isPerson : GoodIn wsX11_carried (wsV RX11 85 RX11 yX11_isPerson wsX11_isPerson) := goodIn_app (goodIn_of _ (by decide +kernel)) ggX11_carried_X11_isPerson
set_option maxRecDepth 20000 in
theorem ggX11_carried_X11_in : GoodIn wsX11_carried wsX11_in := goodIn_r _ [13] (by decide +kernel) (by decide +kernel)
set_option maxRecDepth 20000 in
theorem gX11_carried_X11_in : GoodIn wsX11_carried (va_wsS RX11 78 yX11_in wsX11_in) := goodIn_app (goodIn_of _ (by decide +kernel)) ggX11_carried_X11_in
set_option maxRecDepth 20000 in
theorem ggX11_carried_X11_knowThen : GoodIn wsX11_carried wsX11_knowThen := goodIn_r _ [17, 5, 18, 19, 20, 9, 21, 22, 23, 24, 25, 26, 30, 31, 32, 33, 34, 35, 36, 37, 38, 39, 40, 41, 42, 43, 44, 45, 46, 47, 48, 49, 50, 51, 52, 53, 54, 55, 56, 57, 58, 59, 60, 61, 62, 63, 64, 65, 66, 67, 68, 69, 70] (by decide +kernel) (by decide +kernel)
set_option maxRecDepth 20000 in
theorem gX11_carried_X11_knowThen : GoodIn wsX11_carried (wsV RX11 288 RX11 yX11_knowThen wsX11_knowThen) := goodIn_app (goodIn_of _ (by decide +kernel)) ggX11_carried_X11_knowThen
set_option maxRecDepth 20000 in
theorem ggX11_carried_X11_ones : GoodIn wsX11_carried wsX11_ones := goodIn_r _ [29] (by decide +kernel) (by decide +kernel)
set_option maxRecDepth 20000 in
theorem gX11_carried_X11_ones : GoodIn wsX11_carried (va_wsS RX11 215 yX11_ones wsX11_ones) := goodIn_app (goodIn_of _ (by decide +kernel)) ggX11_carried_X11_ones
theorem dX11_carried_0 : decode cX11_carried 0 = .ok (.aload_n 0, 1) := by decide +kernel
theorem dX11_carried_1 : decode cX11_carried 1 = .ok (.iload_n 1, 1) := by decide +kernel
theorem dX11_carried_2 : decode cX11_carried 2 = .ok (.invokevirtual 85, 3) := by decide +kernel
theorem dX11_carried_5 : decode cX11_carried 5 = .ok (.ifCond .ne 6, 3) := by decide +kernel
theorem dX11_carried_8 : decode cX11_carried 8 = .ok (.ldc 230, 2) := by decide +kernel
theorem dX11_carried_10 : decode cX11_carried 10 = .ok (.ireturn, 1) := by decide +kernel
theorem dX11_carried_11 : decode cX11_carried 11 = .ok (.iload_n 2, 1) := by decide +kernel
theorem dX11_carried_12 : decode cX11_carried 12 = .ok (.i2l, 1) := by decide +kernel
theorem dX11_carried_13 : decode cX11_carried 13 = .ok (.ldc2_w 284, 3) := by decide +kernel
theorem dX11_carried_16 : decode cX11_carried 16 = .ok (.ldc2_w 286, 3) := by decide +kernel
theorem dX11_carried_19 : decode cX11_carried 19 = .ok (.invokestatic 78, 3) := by decide +kernel
theorem dX11_carried_22 : decode cX11_carried 22 = .ok (.ifCond .ne 6, 3) := by decide +kernel
theorem dX11_carried_25 : decode cX11_carried 25 = .ok (.ldc 91, 2) := by decide +kernel
theorem dX11_carried_27 : decode cX11_carried 27 = .ok (.ireturn, 1) := by decide +kernel
theorem dX11_carried_28 : decode cX11_carried 28 = .ok (.iconst 1, 1) := by decide +kernel
theorem dX11_carried_29 : decode cX11_carried 29 = .ok (.iload_n 1, 1) := by decide +kernel
theorem dX11_carried_30 : decode cX11_carried 30 = .ok (.ishl, 1) := by decide +kernel
theorem dX11_carried_31 : decode cX11_carried 31 = .ok (.istore_n 3, 1) := by decide +kernel
theorem dX11_carried_32 : decode cX11_carried 32 = .ok (.iload_n 2, 1) := by decide +kernel
theorem dX11_carried_33 : decode cX11_carried 33 = .ok (.ifCond .lt 26, 3) := by decide +kernel
theorem dX11_carried_36 : decode cX11_carried 36 = .ok (.iconst 0, 1) := by decide +kernel
theorem dX11_carried_37 : decode cX11_carried 37 = .ok (.istore 4, 2) := by decide +kernel
theorem dX11_carried_39 : decode cX11_carried 39 = .ok (.iload 4, 2) := by decide +kernel
theorem dX11_carried_41 : decode cX11_carried 41 = .ok (.iload_n 2, 1) := by decide +kernel
theorem dX11_carried_42 : decode cX11_carried 42 = .ok (.if_icmp .ge 15, 3) := by decide +kernel
theorem dX11_carried_45 : decode cX11_carried 45 = .ok (.aload_n 0, 1) := by decide +kernel
theorem dX11_carried_46 : decode cX11_carried 46 = .ok (.iload_n 3, 1) := by decide +kernel
theorem dX11_carried_47 : decode cX11_carried 47 = .ok (.invokevirtual 288, 3) := by decide +kernel
theorem dX11_carried_50 : decode cX11_carried 50 = .ok (.istore_n 3, 1) := by decide +kernel
theorem dX11_carried_51 : decode cX11_carried 51 = .ok (.iinc 4 1, 3) := by decide +kernel
theorem dX11_carried_54 : decode cX11_carried 54 = .ok (.goto (-15), 3) := by decide +kernel
theorem dX11_carried_57 : decode cX11_carried 57 = .ok (.iload_n 3, 1) := by decide +kernel
theorem dX11_carried_58 : decode cX11_carried 58 = .ok (.ireturn, 1) := by decide +kernel
theorem dX11_carried_59 : decode cX11_carried 59 = .ok (.iconst 0, 1) := by decide +kernel
theorem dX11_carried_60 : decode cX11_carried 60 = .ok (.istore 4, 2) := by decide +kernel
theorem dX11_carried_62 : decode cX11_carried 62 = .ok (.iload 4, 2) := by decide +kernel
theorem dX11_carried_64 : decode cX11_carried 64 = .ok (.bipush 7, 2) := by decide +kernel
theorem dX11_carried_66 : decode cX11_carried 66 = .ok (.if_icmp .gt 29, 3) := by decide +kernel
theorem dX11_carried_69 : decode cX11_carried 69 = .ok (.iload_n 3, 1) := by decide +kernel
theorem dX11_carried_70 : decode cX11_carried 70 = .ok (.invokestatic 215, 3) := by decide +kernel
theorem dX11_carried_73 : decode cX11_carried 73 = .ok (.aload_n 0, 1) := by decide +kernel
theorem dX11_carried_74 : decode cX11_carried 74 = .ok (.getfield 82, 3) := by decide +kernel
theorem dX11_carried_77 : decode cX11_carried 77 = .ok (.if_icmp .ne 6, 3) := by decide +kernel
theorem dX11_carried_80 : decode cX11_carried 80 = .ok (.iload 4, 2) := by decide +kernel
theorem dX11_carried_82 : decode cX11_carried 82 = .ok (.ireturn, 1) := by decide +kernel
theorem dX11_carried_83 : decode cX11_carried 83 = .ok (.aload_n 0, 1) := by decide +kernel
theorem dX11_carried_84 : decode cX11_carried 84 = .ok (.iload_n 3, 1) := by decide +kernel
theorem dX11_carried_85 : decode cX11_carried 85 = .ok (.invokevirtual 288, 3) := by decide +kernel
theorem dX11_carried_88 : decode cX11_carried 88 = .ok (.istore_n 3, 1) := by decide +kernel
theorem dX11_carried_89 : decode cX11_carried 89 = .ok (.iinc 4 1, 3) := by decide +kernel
theorem dX11_carried_92 : decode cX11_carried 92 = .ok (.goto (-30), 3) := by decide +kernel
theorem dX11_carried_95 : decode cX11_carried 95 = .ok (.iconst (-1), 1) := by decide +kernel
theorem dX11_carried_96 : decode cX11_carried 96 = .ok (.ireturn, 1) := by decide +kernel
set_option maxRecDepth 20000 in
theorem ggX11_hale_X11_in : GoodIn wsX11_hale wsX11_in := goodIn_r _ [8] (by decide +kernel) (by decide +kernel)
set_option maxRecDepth 20000 in
theorem gX11_hale_X11_in : GoodIn wsX11_hale (va_wsS RX11 78 yX11_in wsX11_in) := goodIn_app (goodIn_of _ (by decide +kernel)) ggX11_hale_X11_in
theorem dX11_hale_0 : decode cX11_hale 0 = .ok (.iload_n 1, 1) := by decide +kernel
theorem dX11_hale_1 : decode cX11_hale 1 = .ok (.i2l, 1) := by decide +kernel
theorem dX11_hale_2 : decode cX11_hale 2 = .ok (.lconst 0, 1) := by decide +kernel
theorem dX11_hale_3 : decode cX11_hale 3 = .ok (.ldc2_w 237, 3) := by decide +kernel
theorem dX11_hale_6 : decode cX11_hale 6 = .ok (.invokestatic 78, 3) := by decide +kernel
theorem dX11_hale_9 : decode cX11_hale 9 = .ok (.ifCond .eq 15, 3) := by decide +kernel
theorem dX11_hale_12 : decode cX11_hale 12 = .ok (.iload_n 2, 1) := by decide +kernel
theorem dX11_hale_13 : decode cX11_hale 13 = .ok (.i2l, 1) := by decide +kernel
theorem dX11_hale_14 : decode cX11_hale 14 = .ok (.lconst 0, 1) := by decide +kernel
theorem dX11_hale_15 : decode cX11_hale 15 = .ok (.ldc2_w 268, 3) := by decide +kernel
theorem dX11_hale_18 : decode cX11_hale 18 = .ok (.invokestatic 78, 3) := by decide +kernel
theorem dX11_hale_21 : decode cX11_hale 21 = .ok (.ifCond .ne 6, 3) := by decide +kernel
theorem dX11_hale_24 : decode cX11_hale 24 = .ok (.ldc 91, 2) := by decide +kernel
theorem dX11_hale_26 : decode cX11_hale 26 = .ok (.ireturn, 1) := by decide +kernel
theorem dX11_hale_27 : decode cX11_hale 27 = .ok (.ldc2_w 291, 3) := by decide +kernel
theorem dX11_hale_30 : decode cX11_hale 30 = .ok (.lstore_n 3, 1) := by decide +kernel
theorem dX11_hale_31 : decode cX11_hale 31 = .ok (.iconst 0, 1) := by decide +kernel
theorem dX11_hale_32 : decode cX11_hale 32 = .ok (.istore 5, 2) := by decide +kernel
theorem dX11_hale_34 : decode cX11_hale 34 = .ok (.iload 5, 2) := by decide +kernel
theorem dX11_hale_36 : decode cX11_hale 36 = .ok (.iload_n 1, 1) := by decide +kernel
theorem dX11_hale_37 : decode cX11_hale 37 = .ok (.if_icmp .ge 18, 3) := by decide +kernel
theorem dX11_hale_40 : decode cX11_hale 40 = .ok (.lload_n 3, 1) := by decide +kernel
theorem dX11_hale_41 : decode cX11_hale 41 = .ok (.iload_n 2, 1) := by decide +kernel
theorem dX11_hale_42 : decode cX11_hale 42 = .ok (.i2l, 1) := by decide +kernel
theorem dX11_hale_43 : decode cX11_hale 43 = .ok (.lmul, 1) := by decide +kernel
theorem dX11_hale_44 : decode cX11_hale 44 = .ok (.ldc2_w 268, 3) := by decide +kernel
theorem dX11_hale_47 : decode cX11_hale 47 = .ok (.ldiv, 1) := by decide +kernel
theorem dX11_hale_48 : decode cX11_hale 48 = .ok (.lstore_n 3, 1) := by decide +kernel
theorem dX11_hale_49 : decode cX11_hale 49 = .ok (.iinc 5 1, 3) := by decide +kernel
theorem dX11_hale_52 : decode cX11_hale 52 = .ok (.goto (-18), 3) := by decide +kernel
theorem dX11_hale_55 : decode cX11_hale 55 = .ok (.lload_n 3, 1) := by decide +kernel
theorem dX11_hale_56 : decode cX11_hale 56 = .ok (.l2i, 1) := by decide +kernel
theorem dX11_hale_57 : decode cX11_hale 57 = .ok (.ireturn, 1) := by decide +kernel
set_option maxRecDepth 20000 in
theorem ggX11_note_X11_in : GoodIn wsX11_note wsX11_in := goodIn_r _ [13] (by decide +kernel) (by decide +kernel)
set_option maxRecDepth 20000 in
theorem gX11_note_X11_in : GoodIn wsX11_note (va_wsS RX11 78 yX11_in wsX11_in) := goodIn_app (goodIn_of _ (by decide +kernel)) ggX11_note_X11_in
theorem dX11_note_0 : decode cX11_note 0 = .ok (.iload_n 1, 1) := by decide +kernel
theorem dX11_note_1 : decode cX11_note 1 = .ok (.i2l, 1) := by decide +kernel
theorem dX11_note_2 : decode cX11_note 2 = .ok (.lconst 0, 1) := by decide +kernel
theorem dX11_note_3 : decode cX11_note 3 = .ok (.ldc2_w 293, 3) := by decide +kernel
theorem dX11_note_6 : decode cX11_note 6 = .ok (.invokestatic 78, 3) := by decide +kernel
theorem dX11_note_9 : decode cX11_note 9 = .ok (.ifCond .eq 17, 3) := by decide +kernel
theorem dX11_note_12 : decode cX11_note 12 = .ok (.iload_n 2, 1) := by decide +kernel
theorem dX11_note_13 : decode cX11_note 13 = .ok (.i2l, 1) := by decide +kernel
theorem dX11_note_14 : decode cX11_note 14 = .ok (.ldc2_w 295, 3) := by decide +kernel
theorem dX11_note_17 : decode cX11_note 17 = .ok (.ldc2_w 250, 3) := by decide +kernel
theorem dX11_note_20 : decode cX11_note 20 = .ok (.invokestatic 78, 3) := by decide +kernel
theorem dX11_note_23 : decode cX11_note 23 = .ok (.ifCond .ne 6, 3) := by decide +kernel
theorem dX11_note_26 : decode cX11_note 26 = .ok (.ldc 91, 2) := by decide +kernel
theorem dX11_note_28 : decode cX11_note 28 = .ok (.ireturn, 1) := by decide +kernel
theorem dX11_note_29 : decode cX11_note 29 = .ok (.aload_n 0, 1) := by decide +kernel
theorem dX11_note_30 : decode cX11_note 30 = .ok (.getfield 186, 3) := by decide +kernel
theorem dX11_note_33 : decode cX11_note 33 = .ok (.bipush 6, 2) := by decide +kernel
theorem dX11_note_35 : decode cX11_note 35 = .ok (.if_icmp .ne 6, 3) := by decide +kernel
theorem dX11_note_38 : decode cX11_note 38 = .ok (.ldc 95, 2) := by decide +kernel
theorem dX11_note_40 : decode cX11_note 40 = .ok (.ireturn, 1) := by decide +kernel
theorem dX11_note_41 : decode cX11_note 41 = .ok (.aload_n 0, 1) := by decide +kernel
theorem dX11_note_42 : decode cX11_note 42 = .ok (.getfield 25, 3) := by decide +kernel
theorem dX11_note_45 : decode cX11_note 45 = .ok (.aload_n 0, 1) := by decide +kernel
theorem dX11_note_46 : decode cX11_note 46 = .ok (.getfield 186, 3) := by decide +kernel
theorem dX11_note_49 : decode cX11_note 49 = .ok (.iload_n 1, 1) := by decide +kernel
theorem dX11_note_50 : decode cX11_note 50 = .ok (.iastore, 1) := by decide +kernel
theorem dX11_note_51 : decode cX11_note 51 = .ok (.aload_n 0, 1) := by decide +kernel
theorem dX11_note_52 : decode cX11_note 52 = .ok (.getfield 28, 3) := by decide +kernel
theorem dX11_note_55 : decode cX11_note 55 = .ok (.aload_n 0, 1) := by decide +kernel
theorem dX11_note_56 : decode cX11_note 56 = .ok (.getfield 186, 3) := by decide +kernel
theorem dX11_note_59 : decode cX11_note 59 = .ok (.iload_n 2, 1) := by decide +kernel
theorem dX11_note_60 : decode cX11_note 60 = .ok (.iastore, 1) := by decide +kernel
theorem dX11_note_61 : decode cX11_note 61 = .ok (.aload_n 0, 1) := by decide +kernel
theorem dX11_note_62 : decode cX11_note 62 = .ok (.getfield 31, 3) := by decide +kernel
theorem dX11_note_65 : decode cX11_note 65 = .ok (.aload_n 0, 1) := by decide +kernel
theorem dX11_note_66 : decode cX11_note 66 = .ok (.getfield 186, 3) := by decide +kernel
theorem dX11_note_69 : decode cX11_note 69 = .ok (.iload_n 3, 1) := by decide +kernel
theorem dX11_note_70 : decode cX11_note 70 = .ok (.ifCond .eq 7, 3) := by decide +kernel
theorem dX11_note_73 : decode cX11_note 73 = .ok (.iconst 1, 1) := by decide +kernel
theorem dX11_note_74 : decode cX11_note 74 = .ok (.goto 4, 3) := by decide +kernel
theorem dX11_note_77 : decode cX11_note 77 = .ok (.iconst 0, 1) := by decide +kernel
theorem dX11_note_78 : decode cX11_note 78 = .ok (.iastore, 1) := by decide +kernel
theorem dX11_note_79 : decode cX11_note 79 = .ok (.aload_n 0, 1) := by decide +kernel
theorem dX11_note_80 : decode cX11_note 80 = .ok (.dup, 1) := by decide +kernel
theorem dX11_note_81 : decode cX11_note 81 = .ok (.getfield 186, 3) := by decide +kernel
theorem dX11_note_84 : decode cX11_note 84 = .ok (.iconst 1, 1) := by decide +kernel
theorem dX11_note_85 : decode cX11_note 85 = .ok (.iadd, 1) := by decide +kernel
theorem dX11_note_86 : decode cX11_note 86 = .ok (.putfield 186, 3) := by decide +kernel
theorem dX11_note_89 : decode cX11_note 89 = .ok (.aload_n 0, 1) := by decide +kernel
theorem dX11_note_90 : decode cX11_note 90 = .ok (.getfield 186, 3) := by decide +kernel
theorem dX11_note_93 : decode cX11_note 93 = .ok (.ireturn, 1) := by decide +kernel
set_option maxRecDepth 20000 in
theorem ggX11_isSo_X11_sayBy : GoodIn wsX11_isSo wsX11_sayBy := goodIn_r _ [8] (by decide +kernel) (by decide +kernel)
set_option maxRecDepth 20000 in
theorem gX11_isSo_X11_sayBy : GoodIn wsX11_isSo (va_wsS RX11 199 yX11_sayBy wsX11_sayBy) := goodIn_app (goodIn_of _ (by decide +kernel)) ggX11_isSo_X11_sayBy
theorem dX11_isSo_0 : decode cX11_isSo 0 = .ok (.iconst 1, 1) := by decide +kernel
theorem dX11_isSo_1 : decode cX11_isSo 1 = .ok (.istore_n 2, 1) := by decide +kernel
theorem dX11_isSo_2 : decode cX11_isSo 2 = .ok (.iconst 0, 1) := by decide +kernel
theorem dX11_isSo_3 : decode cX11_isSo 3 = .ok (.istore_n 3, 1) := by decide +kernel
theorem dX11_isSo_4 : decode cX11_isSo 4 = .ok (.iload_n 3, 1) := by decide +kernel
theorem dX11_isSo_5 : decode cX11_isSo 5 = .ok (.aload_n 0, 1) := by decide +kernel
theorem dX11_isSo_6 : decode cX11_isSo 6 = .ok (.getfield 186, 3) := by decide +kernel
theorem dX11_isSo_9 : decode cX11_isSo 9 = .ok (.if_icmp .ge 53, 3) := by decide +kernel
theorem dX11_isSo_12 : decode cX11_isSo 12 = .ok (.iload_n 2, 1) := by decide +kernel
theorem dX11_isSo_13 : decode cX11_isSo 13 = .ok (.ifCond .eq 41, 3) := by decide +kernel
theorem dX11_isSo_16 : decode cX11_isSo 16 = .ok (.aload_n 0, 1) := by decide +kernel
theorem dX11_isSo_17 : decode cX11_isSo 17 = .ok (.getfield 25, 3) := by decide +kernel
theorem dX11_isSo_20 : decode cX11_isSo 20 = .ok (.iload_n 3, 1) := by decide +kernel
theorem dX11_isSo_21 : decode cX11_isSo 21 = .ok (.iaload, 1) := by decide +kernel
theorem dX11_isSo_22 : decode cX11_isSo 22 = .ok (.iload_n 1, 1) := by decide +kernel
theorem dX11_isSo_23 : decode cX11_isSo 23 = .ok (.aload_n 0, 1) := by decide +kernel
theorem dX11_isSo_24 : decode cX11_isSo 24 = .ok (.getfield 31, 3) := by decide +kernel
theorem dX11_isSo_27 : decode cX11_isSo 27 = .ok (.iload_n 3, 1) := by decide +kernel
theorem dX11_isSo_28 : decode cX11_isSo 28 = .ok (.iaload, 1) := by decide +kernel
theorem dX11_isSo_29 : decode cX11_isSo 29 = .ok (.iconst 1, 1) := by decide +kernel
theorem dX11_isSo_30 : decode cX11_isSo 30 = .ok (.if_icmp .ne 7, 3) := by decide +kernel
theorem dX11_isSo_33 : decode cX11_isSo 33 = .ok (.iconst 1, 1) := by decide +kernel
theorem dX11_isSo_34 : decode cX11_isSo 34 = .ok (.goto 4, 3) := by decide +kernel
theorem dX11_isSo_37 : decode cX11_isSo 37 = .ok (.iconst 0, 1) := by decide +kernel
theorem dX11_isSo_38 : decode cX11_isSo 38 = .ok (.invokestatic 199, 3) := by decide +kernel
theorem dX11_isSo_41 : decode cX11_isSo 41 = .ok (.aload_n 0, 1) := by decide +kernel
theorem dX11_isSo_42 : decode cX11_isSo 42 = .ok (.getfield 28, 3) := by decide +kernel
theorem dX11_isSo_45 : decode cX11_isSo 45 = .ok (.iload_n 3, 1) := by decide +kernel
theorem dX11_isSo_46 : decode cX11_isSo 46 = .ok (.iaload, 1) := by decide +kernel
theorem dX11_isSo_47 : decode cX11_isSo 47 = .ok (.if_icmp .ne 7, 3) := by decide +kernel
theorem dX11_isSo_50 : decode cX11_isSo 50 = .ok (.iconst 1, 1) := by decide +kernel
theorem dX11_isSo_51 : decode cX11_isSo 51 = .ok (.goto 4, 3) := by decide +kernel
theorem dX11_isSo_54 : decode cX11_isSo 54 = .ok (.iconst 0, 1) := by decide +kernel
theorem dX11_isSo_55 : decode cX11_isSo 55 = .ok (.istore_n 2, 1) := by decide +kernel
theorem dX11_isSo_56 : decode cX11_isSo 56 = .ok (.iinc 3 1, 3) := by decide +kernel
theorem dX11_isSo_59 : decode cX11_isSo 59 = .ok (.goto (-55), 3) := by decide +kernel
theorem dX11_isSo_62 : decode cX11_isSo 62 = .ok (.iload_n 2, 1) := by decide +kernel
theorem dX11_isSo_63 : decode cX11_isSo 63 = .ok (.ireturn, 1) := by decide +kernel
set_option maxRecDepth 20000 in
theorem ggX11_thinks_X11_in : GoodIn wsX11_thinks wsX11_in := goodIn_r _ [6] (by decide +kernel) (by decide +kernel)
set_option maxRecDepth 20000 in
theorem gX11_thinks_X11_in : GoodIn wsX11_thinks (va_wsS RX11 78 yX11_in wsX11_in) := goodIn_app (goodIn_of _ (by decide +kernel)) ggX11_thinks_X11_in
set_option maxRecDepth 20000 in
theorem ggX11_thinks_X11_isSo : GoodIn wsX11_thinks wsX11_isSo := goodIn_r _ [10, 11, 12, 13, 14, 15, 16, 5, 17, 18, 19, 20, 21, 22, 23, 24, 25, 26, 27, 28, 29, 30, 31, 32, 33, 34, 35, 36, 37, 38, 39, 40, 41, 42, 43, 44, 45, 46, 47, 48, 49, 50, 51, 52, 53, 54, 55, 56, 57, 58] (by decide +kernel) (by decide +kernel)
set_option maxRecDepth 20000 in
theorem gX11_thinks_X11_isSo : GoodIn wsX11_thinks (wsV RX11 297 RX11 yX11_isSo wsX11_isSo) := goodIn_app (goodIn_of _ (by decide +kernel)) ggX11_thinks_X11_isSo
theorem dX11_thinks_0 : decode cX11_thinks 0 = .ok (.iload_n 1, 1) := by decide +kernel
theorem dX11_thinks_1 : decode cX11_thinks 1 = .ok (.i2l, 1) := by decide +kernel
theorem dX11_thinks_2 : decode cX11_thinks 2 = .ok (.lconst 0, 1) := by decide +kernel
theorem dX11_thinks_3 : decode cX11_thinks 3 = .ok (.ldc2_w 293, 3) := by decide +kernel
theorem dX11_thinks_6 : decode cX11_thinks 6 = .ok (.invokestatic 78, 3) := by decide +kernel
theorem dX11_thinks_9 : decode cX11_thinks 9 = .ok (.ifCond .ne 6, 3) := by decide +kernel
theorem dX11_thinks_12 : decode cX11_thinks 12 = .ok (.ldc 91, 2) := by decide +kernel
theorem dX11_thinks_14 : decode cX11_thinks 14 = .ok (.ireturn, 1) := by decide +kernel
theorem dX11_thinks_15 : decode cX11_thinks 15 = .ok (.iconst 0, 1) := by decide +kernel
theorem dX11_thinks_16 : decode cX11_thinks 16 = .ok (.istore_n 2, 1) := by decide +kernel
theorem dX11_thinks_17 : decode cX11_thinks 17 = .ok (.iconst (-1), 1) := by decide +kernel
theorem dX11_thinks_18 : decode cX11_thinks 18 = .ok (.istore_n 3, 1) := by decide +kernel
theorem dX11_thinks_19 : decode cX11_thinks 19 = .ok (.iconst (-1), 1) := by decide +kernel
theorem dX11_thinks_20 : decode cX11_thinks 20 = .ok (.istore 4, 2) := by decide +kernel
theorem dX11_thinks_22 : decode cX11_thinks 22 = .ok (.iconst 0, 1) := by decide +kernel
theorem dX11_thinks_23 : decode cX11_thinks 23 = .ok (.istore 5, 2) := by decide +kernel
theorem dX11_thinks_25 : decode cX11_thinks 25 = .ok (.iload 5, 2) := by decide +kernel
theorem dX11_thinks_27 : decode cX11_thinks 27 = .ok (.bipush 10, 2) := by decide +kernel
theorem dX11_thinks_29 : decode cX11_thinks 29 = .ok (.if_icmp .ge 36, 3) := by decide +kernel
theorem dX11_thinks_32 : decode cX11_thinks 32 = .ok (.aload_n 0, 1) := by decide +kernel
theorem dX11_thinks_33 : decode cX11_thinks 33 = .ok (.iload 5, 2) := by decide +kernel
theorem dX11_thinks_35 : decode cX11_thinks 35 = .ok (.invokevirtual 297, 3) := by decide +kernel
theorem dX11_thinks_38 : decode cX11_thinks 38 = .ok (.ifCond .eq 21, 3) := by decide +kernel
theorem dX11_thinks_41 : decode cX11_thinks 41 = .ok (.iload_n 2, 1) := by decide +kernel
theorem dX11_thinks_42 : decode cX11_thinks 42 = .ok (.ifCond .ne 8, 3) := by decide +kernel
theorem dX11_thinks_45 : decode cX11_thinks 45 = .ok (.iload 5, 2) := by decide +kernel
theorem dX11_thinks_47 : decode cX11_thinks 47 = .ok (.goto 4, 3) := by decide +kernel
theorem dX11_thinks_50 : decode cX11_thinks 50 = .ok (.iload_n 3, 1) := by decide +kernel
theorem dX11_thinks_51 : decode cX11_thinks 51 = .ok (.istore_n 3, 1) := by decide +kernel
theorem dX11_thinks_52 : decode cX11_thinks 52 = .ok (.iload 5, 2) := by decide +kernel
theorem dX11_thinks_54 : decode cX11_thinks 54 = .ok (.istore 4, 2) := by decide +kernel
theorem dX11_thinks_56 : decode cX11_thinks 56 = .ok (.iinc 2 1, 3) := by decide +kernel
theorem dX11_thinks_59 : decode cX11_thinks 59 = .ok (.iinc 5 1, 3) := by decide +kernel
theorem dX11_thinks_62 : decode cX11_thinks 62 = .ok (.goto (-37), 3) := by decide +kernel
theorem dX11_thinks_65 : decode cX11_thinks 65 = .ok (.iload_n 1, 1) := by decide +kernel
theorem dX11_thinks_66 : decode cX11_thinks 66 = .ok (.ifCond .ne 7, 3) := by decide +kernel
theorem dX11_thinks_69 : decode cX11_thinks 69 = .ok (.iload_n 2, 1) := by decide +kernel
theorem dX11_thinks_70 : decode cX11_thinks 70 = .ok (.goto 14, 3) := by decide +kernel
theorem dX11_thinks_73 : decode cX11_thinks 73 = .ok (.iload_n 1, 1) := by decide +kernel
theorem dX11_thinks_74 : decode cX11_thinks 74 = .ok (.iconst 1, 1) := by decide +kernel
theorem dX11_thinks_75 : decode cX11_thinks 75 = .ok (.if_icmp .ne 7, 3) := by decide +kernel
theorem dX11_thinks_78 : decode cX11_thinks 78 = .ok (.iload_n 3, 1) := by decide +kernel
theorem dX11_thinks_79 : decode cX11_thinks 79 = .ok (.goto 5, 3) := by decide +kernel
theorem dX11_thinks_82 : decode cX11_thinks 82 = .ok (.iload 4, 2) := by decide +kernel
theorem dX11_thinks_84 : decode cX11_thinks 84 = .ok (.ireturn, 1) := by decide +kernel
set_option maxRecDepth 20000 in
theorem ggX11_ask_X11_in : GoodIn wsX11_ask wsX11_in := goodIn_r _ [6] (by decide +kernel) (by decide +kernel)
set_option maxRecDepth 20000 in
theorem gX11_ask_X11_in : GoodIn wsX11_ask (va_wsS RX11 78 yX11_in wsX11_in) := goodIn_app (goodIn_of _ (by decide +kernel)) ggX11_ask_X11_in
set_option maxRecDepth 20000 in
theorem ggX11_ask_X11_thinks : GoodIn wsX11_ask wsX11_thinks := goodIn_r _ [10, 1, 2, 3, 4, 5, 6, 11, 12, 13, 14, 15, 16, 17, 18, 19, 20, 21, 22, 23, 24, 25, 26, 27, 28, 29, 30, 31, 32, 33, 34, 35, 36, 37, 38, 39, 40, 41, 42, 43, 44, 45, 46, 47, 48, 49, 50, 51, 52, 53, 54, 55, 56, 57, 58, 59, 60, 61, 62] (by decide +kernel) (by decide +kernel)
set_option maxRecDepth 20000 in
theorem gX11_ask_X11_thinks : GoodIn wsX11_ask (wsV RX11 300 RX11 yX11_thinks wsX11_thinks) := goodIn_app (goodIn_of _ (by decide +kernel)) ggX11_ask_X11_thinks
set_option maxRecDepth 20000 in
theorem ggX11_ask_X11_isSo : GoodIn wsX11_ask wsX11_isSo := goodIn_r _ [14, 15, 16, 17, 18, 19, 20, 5, 21, 22, 23, 24, 25, 26, 27, 28, 29, 30, 31, 32, 33, 34, 35, 36, 37, 38, 39, 40, 41, 42, 43, 44, 45, 46, 47, 48, 49, 50, 51, 52, 53, 54, 55, 56, 57, 58, 59, 60, 61, 62] (by decide +kernel) (by decide +kernel)
set_option maxRecDepth 20000 in
theorem gX11_ask_X11_isSo : GoodIn wsX11_ask (wsV RX11 297 RX11 yX11_isSo wsX11_isSo) := goodIn_app (goodIn_of _ (by decide +kernel)) ggX11_ask_X11_isSo
set_option maxRecDepth 20000 in
theorem ggX11_ask_X11_sayBy : GoodIn wsX11_ask wsX11_sayBy := goodIn_r _ [21] (by decide +kernel) (by decide +kernel)
set_option maxRecDepth 20000 in
theorem gX11_ask_X11_sayBy : GoodIn wsX11_ask (va_wsS RX11 199 yX11_sayBy wsX11_sayBy) := goodIn_app (goodIn_of _ (by decide +kernel)) ggX11_ask_X11_sayBy
theorem dX11_ask_0 : decode cX11_ask 0 = .ok (.iload_n 1, 1) := by decide +kernel
theorem dX11_ask_1 : decode cX11_ask 1 = .ok (.i2l, 1) := by decide +kernel
theorem dX11_ask_2 : decode cX11_ask 2 = .ok (.lconst 0, 1) := by decide +kernel
theorem dX11_ask_3 : decode cX11_ask 3 = .ok (.ldc2_w 293, 3) := by decide +kernel
theorem dX11_ask_6 : decode cX11_ask 6 = .ok (.invokestatic 78, 3) := by decide +kernel
theorem dX11_ask_9 : decode cX11_ask 9 = .ok (.ifCond .ne 6, 3) := by decide +kernel
theorem dX11_ask_12 : decode cX11_ask 12 = .ok (.ldc 91, 2) := by decide +kernel
theorem dX11_ask_14 : decode cX11_ask 14 = .ok (.ireturn, 1) := by decide +kernel
theorem dX11_ask_15 : decode cX11_ask 15 = .ok (.iconst (-1), 1) := by decide +kernel
theorem dX11_ask_16 : decode cX11_ask 16 = .ok (.istore_n 2, 1) := by decide +kernel
theorem dX11_ask_17 : decode cX11_ask 17 = .ok (.aload_n 0, 1) := by decide +kernel
theorem dX11_ask_18 : decode cX11_ask 18 = .ok (.iconst 0, 1) := by decide +kernel
theorem dX11_ask_19 : decode cX11_ask 19 = .ok (.invokevirtual 300, 3) := by decide +kernel
theorem dX11_ask_22 : decode cX11_ask 22 = .ok (.istore_n 3, 1) := by decide +kernel
theorem dX11_ask_23 : decode cX11_ask 23 = .ok (.iconst 0, 1) := by decide +kernel
theorem dX11_ask_24 : decode cX11_ask 24 = .ok (.istore 4, 2) := by decide +kernel
theorem dX11_ask_26 : decode cX11_ask 26 = .ok (.iload 4, 2) := by decide +kernel
theorem dX11_ask_28 : decode cX11_ask 28 = .ok (.iconst 2, 1) := by decide +kernel
theorem dX11_ask_29 : decode cX11_ask 29 = .ok (.if_icmp .ge 154, 3) := by decide +kernel
theorem dX11_ask_32 : decode cX11_ask 32 = .ok (.iconst 0, 1) := by decide +kernel
theorem dX11_ask_33 : decode cX11_ask 33 = .ok (.istore 5, 2) := by decide +kernel
theorem dX11_ask_35 : decode cX11_ask 35 = .ok (.iconst 0, 1) := by decide +kernel
theorem dX11_ask_36 : decode cX11_ask 36 = .ok (.istore 6, 2) := by decide +kernel
theorem dX11_ask_38 : decode cX11_ask 38 = .ok (.iload 6, 2) := by decide +kernel
theorem dX11_ask_40 : decode cX11_ask 40 = .ok (.bipush 10, 2) := by decide +kernel
theorem dX11_ask_42 : decode cX11_ask 42 = .ok (.if_icmp .ge 109, 3) := by decide +kernel
theorem dX11_ask_45 : decode cX11_ask 45 = .ok (.iconst 0, 1) := by decide +kernel
theorem dX11_ask_46 : decode cX11_ask 46 = .ok (.istore 7, 2) := by decide +kernel
theorem dX11_ask_48 : decode cX11_ask 48 = .ok (.iconst 0, 1) := by decide +kernel
theorem dX11_ask_49 : decode cX11_ask 49 = .ok (.istore 8, 2) := by decide +kernel
theorem dX11_ask_51 : decode cX11_ask 51 = .ok (.iload 8, 2) := by decide +kernel
theorem dX11_ask_53 : decode cX11_ask 53 = .ok (.bipush 10, 2) := by decide +kernel
theorem dX11_ask_55 : decode cX11_ask 55 = .ok (.if_icmp .ge 74, 3) := by decide +kernel
theorem dX11_ask_58 : decode cX11_ask 58 = .ok (.iload 7, 2) := by decide +kernel
theorem dX11_ask_60 : decode cX11_ask 60 = .ok (.aload_n 0, 1) := by decide +kernel
theorem dX11_ask_61 : decode cX11_ask 61 = .ok (.iload 6, 2) := by decide +kernel
theorem dX11_ask_63 : decode cX11_ask 63 = .ok (.invokevirtual 297, 3) := by decide +kernel
theorem dX11_ask_66 : decode cX11_ask 66 = .ok (.ifCond .eq 53, 3) := by decide +kernel
theorem dX11_ask_69 : decode cX11_ask 69 = .ok (.aload_n 0, 1) := by decide +kernel
theorem dX11_ask_70 : decode cX11_ask 70 = .ok (.iload 8, 2) := by decide +kernel
theorem dX11_ask_72 : decode cX11_ask 72 = .ok (.invokevirtual 297, 3) := by decide +kernel
theorem dX11_ask_75 : decode cX11_ask 75 = .ok (.ifCond .eq 44, 3) := by decide +kernel
theorem dX11_ask_78 : decode cX11_ask 78 = .ok (.iload_n 1, 1) := by decide +kernel
theorem dX11_ask_79 : decode cX11_ask 79 = .ok (.iload 6, 2) := by decide +kernel
theorem dX11_ask_81 : decode cX11_ask 81 = .ok (.iload 4, 2) := by decide +kernel
theorem dX11_ask_83 : decode cX11_ask 83 = .ok (.iconst 1, 1) := by decide +kernel
theorem dX11_ask_84 : decode cX11_ask 84 = .ok (.if_icmp .ne 7, 3) := by decide +kernel
theorem dX11_ask_87 : decode cX11_ask 87 = .ok (.iconst 1, 1) := by decide +kernel
theorem dX11_ask_88 : decode cX11_ask 88 = .ok (.goto 4, 3) := by decide +kernel
theorem dX11_ask_91 : decode cX11_ask 91 = .ok (.iconst 0, 1) := by decide +kernel
theorem dX11_ask_92 : decode cX11_ask 92 = .ok (.invokestatic 199, 3) := by decide +kernel
theorem dX11_ask_95 : decode cX11_ask 95 = .ok (.iload_n 1, 1) := by decide +kernel
theorem dX11_ask_96 : decode cX11_ask 96 = .ok (.iload 8, 2) := by decide +kernel
theorem dX11_ask_98 : decode cX11_ask 98 = .ok (.iload 4, 2) := by decide +kernel
theorem dX11_ask_100 : decode cX11_ask 100 = .ok (.iconst 1, 1) := by decide +kernel
theorem dX11_ask_101 : decode cX11_ask 101 = .ok (.if_icmp .ne 7, 3) := by decide +kernel
theorem dX11_ask_104 : decode cX11_ask 104 = .ok (.iconst 1, 1) := by decide +kernel
theorem dX11_ask_105 : decode cX11_ask 105 = .ok (.goto 4, 3) := by decide +kernel
theorem dX11_ask_108 : decode cX11_ask 108 = .ok (.iconst 0, 1) := by decide +kernel
theorem dX11_ask_109 : decode cX11_ask 109 = .ok (.invokestatic 199, 3) := by decide +kernel
theorem dX11_ask_112 : decode cX11_ask 112 = .ok (.if_icmp .ne 7, 3) := by decide +kernel
theorem dX11_ask_115 : decode cX11_ask 115 = .ok (.iconst 1, 1) := by decide +kernel
theorem dX11_ask_116 : decode cX11_ask 116 = .ok (.goto 4, 3) := by decide +kernel
theorem dX11_ask_119 : decode cX11_ask 119 = .ok (.iconst 0, 1) := by decide +kernel
theorem dX11_ask_120 : decode cX11_ask 120 = .ok (.iadd, 1) := by decide +kernel
theorem dX11_ask_121 : decode cX11_ask 121 = .ok (.istore 7, 2) := by decide +kernel
theorem dX11_ask_123 : decode cX11_ask 123 = .ok (.iinc 8 1, 3) := by decide +kernel
theorem dX11_ask_126 : decode cX11_ask 126 = .ok (.goto (-75), 3) := by decide +kernel
theorem dX11_ask_129 : decode cX11_ask 129 = .ok (.iload 7, 2) := by decide +kernel
theorem dX11_ask_131 : decode cX11_ask 131 = .ok (.iload 5, 2) := by decide +kernel
theorem dX11_ask_133 : decode cX11_ask 133 = .ok (.if_icmp .le 8, 3) := by decide +kernel
theorem dX11_ask_136 : decode cX11_ask 136 = .ok (.iload 7, 2) := by decide +kernel
theorem dX11_ask_138 : decode cX11_ask 138 = .ok (.goto 5, 3) := by decide +kernel
theorem dX11_ask_141 : decode cX11_ask 141 = .ok (.iload 5, 2) := by decide +kernel
theorem dX11_ask_143 : decode cX11_ask 143 = .ok (.istore 5, 2) := by decide +kernel
theorem dX11_ask_145 : decode cX11_ask 145 = .ok (.iinc 6 1, 3) := by decide +kernel
theorem dX11_ask_148 : decode cX11_ask 148 = .ok (.goto (-110), 3) := by decide +kernel
theorem dX11_ask_151 : decode cX11_ask 151 = .ok (.iload 5, 2) := by decide +kernel
theorem dX11_ask_153 : decode cX11_ask 153 = .ok (.iload_n 3, 1) := by decide +kernel
theorem dX11_ask_154 : decode cX11_ask 154 = .ok (.if_icmp .ge 8, 3) := by decide +kernel
theorem dX11_ask_157 : decode cX11_ask 157 = .ok (.iload 4, 2) := by decide +kernel
theorem dX11_ask_159 : decode cX11_ask 159 = .ok (.goto 4, 3) := by decide +kernel
theorem dX11_ask_162 : decode cX11_ask 162 = .ok (.iload_n 2, 1) := by decide +kernel
theorem dX11_ask_163 : decode cX11_ask 163 = .ok (.istore_n 2, 1) := by decide +kernel
theorem dX11_ask_164 : decode cX11_ask 164 = .ok (.iload 5, 2) := by decide +kernel
theorem dX11_ask_166 : decode cX11_ask 166 = .ok (.iload_n 3, 1) := by decide +kernel
theorem dX11_ask_167 : decode cX11_ask 167 = .ok (.if_icmp .ge 8, 3) := by decide +kernel
theorem dX11_ask_170 : decode cX11_ask 170 = .ok (.iload 5, 2) := by decide +kernel
theorem dX11_ask_172 : decode cX11_ask 172 = .ok (.goto 4, 3) := by decide +kernel
theorem dX11_ask_175 : decode cX11_ask 175 = .ok (.iload_n 3, 1) := by decide +kernel
theorem dX11_ask_176 : decode cX11_ask 176 = .ok (.istore_n 3, 1) := by decide +kernel
theorem dX11_ask_177 : decode cX11_ask 177 = .ok (.iinc 4 1, 3) := by decide +kernel
theorem dX11_ask_180 : decode cX11_ask 180 = .ok (.goto (-154), 3) := by decide +kernel
theorem dX11_ask_183 : decode cX11_ask 183 = .ok (.iload_n 2, 1) := by decide +kernel
theorem dX11_ask_184 : decode cX11_ask 184 = .ok (.ireturn, 1) := by decide +kernel
set_option maxRecDepth 20000 in
theorem ggX11_listens_X11_areTwo : GoodIn wsX11_listens wsX11_areTwo := goodIn_r _ [11, 12, 13, 14, 10, 15, 16, 17, 18, 19, 41, 42, 43, 44, 45, 46, 47, 48, 49, 50, 51, 52, 53, 54, 55, 56, 57, 58, 59, 60, 61, 62, 63, 64, 65, 66, 67, 68, 69, 70, 71, 72, 73, 74, 75, 76, 77, 78, 79, 80, 81] (by decide +kernel) (by decide +kernel)
set_option maxRecDepth 20000 in
theorem gX11_listens_X11_areTwo : GoodIn wsX11_listens (wsV RX11 234 RX11 yX11_areTwo wsX11_areTwo) := goodIn_app (goodIn_of _ (by decide +kernel)) ggX11_listens_X11_areTwo
set_option maxRecDepth 20000 in
theorem ggX11_listens_X11_in : GoodIn wsX11_listens wsX11_in := goodIn_r _ [19] (by decide +kernel) (by decide +kernel)
set_option maxRecDepth 20000 in
theorem gX11_listens_X11_in : GoodIn wsX11_listens (va_wsS RX11 78 yX11_in wsX11_in) := goodIn_app (goodIn_of _ (by decide +kernel)) ggX11_listens_X11_in
set_option maxRecDepth 20000 in
theorem ggX11_listens_X11_tries : GoodIn wsX11_listens wsX11_tries := goodIn_r _ [23, 6, 24, 41, 42, 43, 44, 45, 46, 47, 48, 49, 50, 51, 52, 53, 54, 55, 56, 57, 58, 59, 60, 61, 62, 63, 64, 65, 66, 67, 68, 69, 70, 71, 72, 73, 74, 75, 76, 77, 78, 79, 80, 81] (by decide +kernel) (by decide +kernel)
set_option maxRecDepth 20000 in
theorem gX11_listens_X11_tries : GoodIn wsX11_listens (wsV RX11 270 RX11 yX11_tries wsX11_tries) := goodIn_app (goodIn_of _ (by decide +kernel)) ggX11_listens_X11_tries
set_option maxRecDepth 20000 in
theorem ggX11_listens_X11_says : GoodIn wsX11_listens wsX11_says := goodIn_r _ [28, 29, 30, 31, 10, 32, 33, 34, 35, 36, 37, 38, 39, 40, 41, 42, 43, 44, 45, 46, 47, 48, 49, 50, 51, 52, 53, 54, 55, 56, 57, 58, 59, 60, 61, 62, 63, 64, 65, 66, 67, 68, 69, 70, 71, 72, 73, 74, 75, 76, 77, 78, 79, 80, 81] (by decide +kernel) (by decide +kernel)
set_option maxRecDepth 20000 in
theorem gX11_listens_X11_says : GoodIn wsX11_listens (wsV RX11 206 RX11 yX11_says wsX11_says) := goodIn_app (goodIn_of _ (by decide +kernel)) ggX11_listens_X11_says
theorem dX11_listens_0 : decode cX11_listens 0 = .ok (.aload_n 0, 1) := by decide +kernel
theorem dX11_listens_1 : decode cX11_listens 1 = .ok (.iload_n 1, 1) := by decide +kernel
theorem dX11_listens_2 : decode cX11_listens 2 = .ok (.iload_n 2, 1) := by decide +kernel
theorem dX11_listens_3 : decode cX11_listens 3 = .ok (.invokevirtual 234, 3) := by decide +kernel
theorem dX11_listens_6 : decode cX11_listens 6 = .ok (.ifCond .ne 6, 3) := by decide +kernel
theorem dX11_listens_9 : decode cX11_listens 9 = .ok (.ldc 230, 2) := by decide +kernel
theorem dX11_listens_11 : decode cX11_listens 11 = .ok (.ireturn, 1) := by decide +kernel
theorem dX11_listens_12 : decode cX11_listens 12 = .ok (.iload_n 3, 1) := by decide +kernel
theorem dX11_listens_13 : decode cX11_listens 13 = .ok (.i2l, 1) := by decide +kernel
theorem dX11_listens_14 : decode cX11_listens 14 = .ok (.ldc2_w 295, 3) := by decide +kernel
theorem dX11_listens_17 : decode cX11_listens 17 = .ok (.ldc2_w 250, 3) := by decide +kernel
theorem dX11_listens_20 : decode cX11_listens 20 = .ok (.invokestatic 78, 3) := by decide +kernel
theorem dX11_listens_23 : decode cX11_listens 23 = .ok (.ifCond .ne 6, 3) := by decide +kernel
theorem dX11_listens_26 : decode cX11_listens 26 = .ok (.ldc 91, 2) := by decide +kernel
theorem dX11_listens_28 : decode cX11_listens 28 = .ok (.ireturn, 1) := by decide +kernel
theorem dX11_listens_29 : decode cX11_listens 29 = .ok (.iconst 0, 1) := by decide +kernel
theorem dX11_listens_30 : decode cX11_listens 30 = .ok (.istore 4, 2) := by decide +kernel
theorem dX11_listens_32 : decode cX11_listens 32 = .ok (.aload_n 0, 1) := by decide +kernel
theorem dX11_listens_33 : decode cX11_listens 33 = .ok (.invokevirtual 270, 3) := by decide +kernel
theorem dX11_listens_36 : decode cX11_listens 36 = .ok (.iconst 0, 1) := by decide +kernel
theorem dX11_listens_37 : decode cX11_listens 37 = .ok (.istore 5, 2) := by decide +kernel
theorem dX11_listens_39 : decode cX11_listens 39 = .ok (.iload 5, 2) := by decide +kernel
theorem dX11_listens_41 : decode cX11_listens 41 = .ok (.aload_n 0, 1) := by decide +kernel
theorem dX11_listens_42 : decode cX11_listens 42 = .ok (.getfield 75, 3) := by decide +kernel
theorem dX11_listens_45 : decode cX11_listens 45 = .ok (.if_icmp .ge 46, 3) := by decide +kernel
theorem dX11_listens_48 : decode cX11_listens 48 = .ok (.aload_n 0, 1) := by decide +kernel
theorem dX11_listens_49 : decode cX11_listens 49 = .ok (.getfield 22, 3) := by decide +kernel
theorem dX11_listens_52 : decode cX11_listens 52 = .ok (.iconst 2, 1) := by decide +kernel
theorem dX11_listens_53 : decode cX11_listens 53 = .ok (.iload_n 2, 1) := by decide +kernel
theorem dX11_listens_54 : decode cX11_listens 54 = .ok (.iadd, 1) := by decide +kernel
theorem dX11_listens_55 : decode cX11_listens 55 = .ok (.iload 5, 2) := by decide +kernel
theorem dX11_listens_57 : decode cX11_listens 57 = .ok (.iastore, 1) := by decide +kernel
theorem dX11_listens_58 : decode cX11_listens 58 = .ok (.iload 4, 2) := by decide +kernel
theorem dX11_listens_60 : decode cX11_listens 60 = .ok (.aload_n 0, 1) := by decide +kernel
theorem dX11_listens_61 : decode cX11_listens 61 = .ok (.aload_n 0, 1) := by decide +kernel
theorem dX11_listens_62 : decode cX11_listens 62 = .ok (.getfield 22, 3) := by decide +kernel
theorem dX11_listens_65 : decode cX11_listens 65 = .ok (.iload_n 1, 1) := by decide +kernel
theorem dX11_listens_66 : decode cX11_listens 66 = .ok (.iload_n 2, 1) := by decide +kernel
theorem dX11_listens_67 : decode cX11_listens 67 = .ok (.invokevirtual 206, 3) := by decide +kernel
theorem dX11_listens_70 : decode cX11_listens 70 = .ok (.iload_n 3, 1) := by decide +kernel
theorem dX11_listens_71 : decode cX11_listens 71 = .ok (.if_icmp .ne 10, 3) := by decide +kernel
theorem dX11_listens_74 : decode cX11_listens 74 = .ok (.iconst 1, 1) := by decide +kernel
theorem dX11_listens_75 : decode cX11_listens 75 = .ok (.iload 5, 2) := by decide +kernel
theorem dX11_listens_77 : decode cX11_listens 77 = .ok (.ishl, 1) := by decide +kernel
theorem dX11_listens_78 : decode cX11_listens 78 = .ok (.goto 4, 3) := by decide +kernel
theorem dX11_listens_81 : decode cX11_listens 81 = .ok (.iconst 0, 1) := by decide +kernel
theorem dX11_listens_82 : decode cX11_listens 82 = .ok (.ior, 1) := by decide +kernel
theorem dX11_listens_83 : decode cX11_listens 83 = .ok (.istore 4, 2) := by decide +kernel
theorem dX11_listens_85 : decode cX11_listens 85 = .ok (.iinc 5 1, 3) := by decide +kernel
theorem dX11_listens_88 : decode cX11_listens 88 = .ok (.goto (-49), 3) := by decide +kernel
theorem dX11_listens_91 : decode cX11_listens 91 = .ok (.iload 4, 2) := by decide +kernel
theorem dX11_listens_93 : decode cX11_listens 93 = .ok (.ireturn, 1) := by decide +kernel
set_option maxRecDepth 20000 in
theorem ggX11_write_X11_isPerson : GoodIn wsX11_write wsX11_isPerson := goodIn_r _ [13, 14, 15, 16, 12, 17, 18, 19, 20, 21, 22, 23, 24, 25, 26, 27, 28, 29, 30, 31, 32, 33, 34, 35, 36, 37, 38, 39, 40, 41, 42, 43, 44, 45, 46, 47, 48, 49, 50, 51, 52, 53, 54, 55, 56, 57, 58] (by decide +kernel) (by decide +kernel)
set_option maxRecDepth 20000 in
theorem gX11_write_X11_isPerson : GoodIn wsX11_write (wsV RX11 85 RX11 yX11_isPerson wsX11_isPerson) := goodIn_app (goodIn_of _ (by decide +kernel)) ggX11_write_X11_isPerson
set_option maxRecDepth 20000 in
theorem ggX11_write_X11_in : GoodIn wsX11_write wsX11_in := goodIn_r _ [17] (by decide +kernel) (by decide +kernel)
set_option maxRecDepth 20000 in
theorem gX11_write_X11_in : GoodIn wsX11_write (va_wsS RX11 78 yX11_in wsX11_in) := goodIn_app (goodIn_of _ (by decide +kernel)) ggX11_write_X11_in
theorem dX11_write_0 : decode cX11_write 0 = .ok (.aload_n 0, 1) := by decide +kernel
theorem dX11_write_1 : decode cX11_write 1 = .ok (.iload_n 1, 1) := by decide +kernel
theorem dX11_write_2 : decode cX11_write 2 = .ok (.invokevirtual 85, 3) := by decide +kernel
theorem dX11_write_5 : decode cX11_write 5 = .ok (.ifCond .ne 6, 3) := by decide +kernel
theorem dX11_write_8 : decode cX11_write 8 = .ok (.ldc 230, 2) := by decide +kernel
theorem dX11_write_10 : decode cX11_write 10 = .ok (.ireturn, 1) := by decide +kernel
theorem dX11_write_11 : decode cX11_write 11 = .ok (.iload_n 2, 1) := by decide +kernel
theorem dX11_write_12 : decode cX11_write 12 = .ok (.i2l, 1) := by decide +kernel
theorem dX11_write_13 : decode cX11_write 13 = .ok (.ldc2_w 303, 3) := by decide +kernel
theorem dX11_write_16 : decode cX11_write 16 = .ok (.ldc2_w 305, 3) := by decide +kernel
theorem dX11_write_19 : decode cX11_write 19 = .ok (.invokestatic 78, 3) := by decide +kernel
theorem dX11_write_22 : decode cX11_write 22 = .ok (.ifCond .ne 6, 3) := by decide +kernel
theorem dX11_write_25 : decode cX11_write 25 = .ok (.ldc 91, 2) := by decide +kernel
theorem dX11_write_27 : decode cX11_write 27 = .ok (.ireturn, 1) := by decide +kernel
theorem dX11_write_28 : decode cX11_write 28 = .ok (.aload_n 0, 1) := by decide +kernel
theorem dX11_write_29 : decode cX11_write 29 = .ok (.getfield 189, 3) := by decide +kernel
theorem dX11_write_32 : decode cX11_write 32 = .ok (.bipush 15, 2) := by decide +kernel
theorem dX11_write_34 : decode cX11_write 34 = .ok (.if_icmp .ne 6, 3) := by decide +kernel
theorem dX11_write_37 : decode cX11_write 37 = .ok (.ldc 95, 2) := by decide +kernel
theorem dX11_write_39 : decode cX11_write 39 = .ok (.ireturn, 1) := by decide +kernel
theorem dX11_write_40 : decode cX11_write 40 = .ok (.aload_n 0, 1) := by decide +kernel
theorem dX11_write_41 : decode cX11_write 41 = .ok (.getfield 34, 3) := by decide +kernel
theorem dX11_write_44 : decode cX11_write 44 = .ok (.aload_n 0, 1) := by decide +kernel
theorem dX11_write_45 : decode cX11_write 45 = .ok (.getfield 189, 3) := by decide +kernel
theorem dX11_write_48 : decode cX11_write 48 = .ok (.iload_n 1, 1) := by decide +kernel
theorem dX11_write_49 : decode cX11_write 49 = .ok (.iastore, 1) := by decide +kernel
theorem dX11_write_50 : decode cX11_write 50 = .ok (.aload_n 0, 1) := by decide +kernel
theorem dX11_write_51 : decode cX11_write 51 = .ok (.getfield 37, 3) := by decide +kernel
theorem dX11_write_54 : decode cX11_write 54 = .ok (.aload_n 0, 1) := by decide +kernel
theorem dX11_write_55 : decode cX11_write 55 = .ok (.getfield 189, 3) := by decide +kernel
theorem dX11_write_58 : decode cX11_write 58 = .ok (.iload_n 2, 1) := by decide +kernel
theorem dX11_write_59 : decode cX11_write 59 = .ok (.iastore, 1) := by decide +kernel
theorem dX11_write_60 : decode cX11_write 60 = .ok (.aload_n 0, 1) := by decide +kernel
theorem dX11_write_61 : decode cX11_write 61 = .ok (.dup, 1) := by decide +kernel
theorem dX11_write_62 : decode cX11_write 62 = .ok (.getfield 189, 3) := by decide +kernel
theorem dX11_write_65 : decode cX11_write 65 = .ok (.iconst 1, 1) := by decide +kernel
theorem dX11_write_66 : decode cX11_write 66 = .ok (.iadd, 1) := by decide +kernel
theorem dX11_write_67 : decode cX11_write 67 = .ok (.putfield 189, 3) := by decide +kernel
theorem dX11_write_70 : decode cX11_write 70 = .ok (.aload_n 0, 1) := by decide +kernel
theorem dX11_write_71 : decode cX11_write 71 = .ok (.getfield 189, 3) := by decide +kernel
theorem dX11_write_74 : decode cX11_write 74 = .ok (.ireturn, 1) := by decide +kernel
theorem dX11_tear_0 : decode cX11_tear 0 = .ok (.aload_n 0, 1) := by decide +kernel
theorem dX11_tear_1 : decode cX11_tear 1 = .ok (.getfield 186, 3) := by decide +kernel
theorem dX11_tear_4 : decode cX11_tear 4 = .ok (.aload_n 0, 1) := by decide +kernel
theorem dX11_tear_5 : decode cX11_tear 5 = .ok (.getfield 189, 3) := by decide +kernel
theorem dX11_tear_8 : decode cX11_tear 8 = .ok (.iadd, 1) := by decide +kernel
theorem dX11_tear_9 : decode cX11_tear 9 = .ok (.istore_n 1, 1) := by decide +kernel
theorem dX11_tear_10 : decode cX11_tear 10 = .ok (.aload_n 0, 1) := by decide +kernel
theorem dX11_tear_11 : decode cX11_tear 11 = .ok (.iconst 0, 1) := by decide +kernel
theorem dX11_tear_12 : decode cX11_tear 12 = .ok (.putfield 186, 3) := by decide +kernel
theorem dX11_tear_15 : decode cX11_tear 15 = .ok (.aload_n 0, 1) := by decide +kernel
theorem dX11_tear_16 : decode cX11_tear 16 = .ok (.iconst 0, 1) := by decide +kernel
theorem dX11_tear_17 : decode cX11_tear 17 = .ok (.putfield 189, 3) := by decide +kernel
theorem dX11_tear_20 : decode cX11_tear 20 = .ok (.iload_n 1, 1) := by decide +kernel
theorem dX11_tear_21 : decode cX11_tear 21 = .ok (.ireturn, 1) := by decide +kernel
theorem dX11_judge_0 : decode cX11_judge 0 = .ok (.iconst 0, 1) := by decide +kernel
theorem dX11_judge_1 : decode cX11_judge 1 = .ok (.istore_n 1, 1) := by decide +kernel
theorem dX11_judge_2 : decode cX11_judge 2 = .ok (.iload_n 1, 1) := by decide +kernel
theorem dX11_judge_3 : decode cX11_judge 3 = .ok (.aload_n 0, 1) := by decide +kernel
theorem dX11_judge_4 : decode cX11_judge 4 = .ok (.getfield 189, 3) := by decide +kernel
theorem dX11_judge_7 : decode cX11_judge 7 = .ok (.if_icmp .ge 34, 3) := by decide +kernel
theorem dX11_judge_10 : decode cX11_judge 10 = .ok (.aload_n 0, 1) := by decide +kernel
theorem dX11_judge_11 : decode cX11_judge 11 = .ok (.getfield 19, 3) := by decide +kernel
theorem dX11_judge_14 : decode cX11_judge 14 = .ok (.bipush 9, 2) := by decide +kernel
theorem dX11_judge_16 : decode cX11_judge 16 = .ok (.aload_n 0, 1) := by decide +kernel
theorem dX11_judge_17 : decode cX11_judge 17 = .ok (.getfield 34, 3) := by decide +kernel
theorem dX11_judge_20 : decode cX11_judge 20 = .ok (.iload_n 1, 1) := by decide +kernel
theorem dX11_judge_21 : decode cX11_judge 21 = .ok (.iaload, 1) := by decide +kernel
theorem dX11_judge_22 : decode cX11_judge 22 = .ok (.iadd, 1) := by decide +kernel
theorem dX11_judge_23 : decode cX11_judge 23 = .ok (.iaload, 1) := by decide +kernel
theorem dX11_judge_24 : decode cX11_judge 24 = .ok (.aload_n 0, 1) := by decide +kernel
theorem dX11_judge_25 : decode cX11_judge 25 = .ok (.getfield 37, 3) := by decide +kernel
theorem dX11_judge_28 : decode cX11_judge 28 = .ok (.iload_n 1, 1) := by decide +kernel
theorem dX11_judge_29 : decode cX11_judge 29 = .ok (.iaload, 1) := by decide +kernel
theorem dX11_judge_30 : decode cX11_judge 30 = .ok (.if_icmp .eq 5, 3) := by decide +kernel
theorem dX11_judge_33 : decode cX11_judge 33 = .ok (.iload_n 1, 1) := by decide +kernel
theorem dX11_judge_34 : decode cX11_judge 34 = .ok (.ireturn, 1) := by decide +kernel
theorem dX11_judge_35 : decode cX11_judge 35 = .ok (.iinc 1 1, 3) := by decide +kernel
theorem dX11_judge_38 : decode cX11_judge 38 = .ok (.goto (-36), 3) := by decide +kernel
theorem dX11_judge_41 : decode cX11_judge 41 = .ok (.iconst (-1), 1) := by decide +kernel
theorem dX11_judge_42 : decode cX11_judge 42 = .ok (.ireturn, 1) := by decide +kernel
theorem dX11_seed_0 : decode cX11_seed 0 = .ok (.iload_n 1, 1) := by decide +kernel
theorem dX11_seed_1 : decode cX11_seed 1 = .ok (.ifCond .ge 6, 3) := by decide +kernel
theorem dX11_seed_4 : decode cX11_seed 4 = .ok (.ldc 91, 2) := by decide +kernel
theorem dX11_seed_6 : decode cX11_seed 6 = .ok (.ireturn, 1) := by decide +kernel
theorem dX11_seed_7 : decode cX11_seed 7 = .ok (.aload_n 0, 1) := by decide +kernel
theorem dX11_seed_8 : decode cX11_seed 8 = .ok (.getfield 252, 3) := by decide +kernel
theorem dX11_seed_11 : decode cX11_seed 11 = .ok (.istore_n 2, 1) := by decide +kernel
theorem dX11_seed_12 : decode cX11_seed 12 = .ok (.aload_n 0, 1) := by decide +kernel
theorem dX11_seed_13 : decode cX11_seed 13 = .ok (.iload_n 1, 1) := by decide +kernel
theorem dX11_seed_14 : decode cX11_seed 14 = .ok (.putfield 252, 3) := by decide +kernel
theorem dX11_seed_17 : decode cX11_seed 17 = .ok (.iload_n 2, 1) := by decide +kernel
theorem dX11_seed_18 : decode cX11_seed 18 = .ok (.ireturn, 1) := by decide +kernel
set_option maxRecDepth 20000 in
theorem ggX11_keep_X11_in : GoodIn wsX11_keep wsX11_in := goodIn_r _ [10] (by decide +kernel) (by decide +kernel)
set_option maxRecDepth 20000 in
theorem gX11_keep_X11_in : GoodIn wsX11_keep (va_wsS RX11 78 yX11_in wsX11_in) := goodIn_app (goodIn_of _ (by decide +kernel)) ggX11_keep_X11_in
theorem dX11_keep_0 : decode cX11_keep 0 = .ok (.iload_n 1, 1) := by decide +kernel
theorem dX11_keep_1 : decode cX11_keep 1 = .ok (.i2l, 1) := by decide +kernel
theorem dX11_keep_2 : decode cX11_keep 2 = .ok (.lconst 0, 1) := by decide +kernel
theorem dX11_keep_3 : decode cX11_keep 3 = .ok (.lconst 1, 1) := by decide +kernel
theorem dX11_keep_4 : decode cX11_keep 4 = .ok (.invokestatic 78, 3) := by decide +kernel
theorem dX11_keep_7 : decode cX11_keep 7 = .ok (.ifCond .ne 6, 3) := by decide +kernel
theorem dX11_keep_10 : decode cX11_keep 10 = .ok (.ldc 230, 2) := by decide +kernel
theorem dX11_keep_12 : decode cX11_keep 12 = .ok (.ireturn, 1) := by decide +kernel
theorem dX11_keep_13 : decode cX11_keep 13 = .ok (.iconst 0, 1) := by decide +kernel
theorem dX11_keep_14 : decode cX11_keep 14 = .ok (.istore_n 2, 1) := by decide +kernel
theorem dX11_keep_15 : decode cX11_keep 15 = .ok (.iload_n 2, 1) := by decide +kernel
theorem dX11_keep_16 : decode cX11_keep 16 = .ok (.bipush 72, 2) := by decide +kernel
theorem dX11_keep_18 : decode cX11_keep 18 = .ok (.if_icmp .ge 26, 3) := by decide +kernel
theorem dX11_keep_21 : decode cX11_keep 21 = .ok (.aload_n 0, 1) := by decide +kernel
theorem dX11_keep_22 : decode cX11_keep 22 = .ok (.getfield 68, 3) := by decide +kernel
theorem dX11_keep_25 : decode cX11_keep 25 = .ok (.bipush 73, 2) := by decide +kernel
theorem dX11_keep_27 : decode cX11_keep 27 = .ok (.iload_n 1, 1) := by decide +kernel
theorem dX11_keep_28 : decode cX11_keep 28 = .ok (.imul, 1) := by decide +kernel
theorem dX11_keep_29 : decode cX11_keep 29 = .ok (.iload_n 2, 1) := by decide +kernel
theorem dX11_keep_30 : decode cX11_keep 30 = .ok (.iadd, 1) := by decide +kernel
theorem dX11_keep_31 : decode cX11_keep 31 = .ok (.aload_n 0, 1) := by decide +kernel
theorem dX11_keep_32 : decode cX11_keep 32 = .ok (.getfield 19, 3) := by decide +kernel
theorem dX11_keep_35 : decode cX11_keep 35 = .ok (.iload_n 2, 1) := by decide +kernel
theorem dX11_keep_36 : decode cX11_keep 36 = .ok (.iaload, 1) := by decide +kernel
theorem dX11_keep_37 : decode cX11_keep 37 = .ok (.iastore, 1) := by decide +kernel
theorem dX11_keep_38 : decode cX11_keep 38 = .ok (.iinc 2 1, 3) := by decide +kernel
theorem dX11_keep_41 : decode cX11_keep 41 = .ok (.goto (-26), 3) := by decide +kernel
theorem dX11_keep_44 : decode cX11_keep 44 = .ok (.aload_n 0, 1) := by decide +kernel
theorem dX11_keep_45 : decode cX11_keep 45 = .ok (.getfield 68, 3) := by decide +kernel
theorem dX11_keep_48 : decode cX11_keep 48 = .ok (.bipush 73, 2) := by decide +kernel
theorem dX11_keep_50 : decode cX11_keep 50 = .ok (.iload_n 1, 1) := by decide +kernel
theorem dX11_keep_51 : decode cX11_keep 51 = .ok (.imul, 1) := by decide +kernel
theorem dX11_keep_52 : decode cX11_keep 52 = .ok (.bipush 72, 2) := by decide +kernel
theorem dX11_keep_54 : decode cX11_keep 54 = .ok (.iadd, 1) := by decide +kernel
theorem dX11_keep_55 : decode cX11_keep 55 = .ok (.aload_n 0, 1) := by decide +kernel
theorem dX11_keep_56 : decode cX11_keep 56 = .ok (.getfield 252, 3) := by decide +kernel
theorem dX11_keep_59 : decode cX11_keep 59 = .ok (.iastore, 1) := by decide +kernel
theorem dX11_keep_60 : decode cX11_keep 60 = .ok (.aload_n 0, 1) := by decide +kernel
theorem dX11_keep_61 : decode cX11_keep 61 = .ok (.getfield 71, 3) := by decide +kernel
theorem dX11_keep_64 : decode cX11_keep 64 = .ok (.iload_n 1, 1) := by decide +kernel
theorem dX11_keep_65 : decode cX11_keep 65 = .ok (.iconst 1, 1) := by decide +kernel
theorem dX11_keep_66 : decode cX11_keep 66 = .ok (.bastore, 1) := by decide +kernel
theorem dX11_keep_67 : decode cX11_keep 67 = .ok (.aload_n 0, 1) := by decide +kernel
theorem dX11_keep_68 : decode cX11_keep 68 = .ok (.iconst 0, 1) := by decide +kernel
theorem dX11_keep_69 : decode cX11_keep 69 = .ok (.putfield 192, 3) := by decide +kernel
theorem dX11_keep_72 : decode cX11_keep 72 = .ok (.iconst 1, 1) := by decide +kernel
theorem dX11_keep_73 : decode cX11_keep 73 = .ok (.ireturn, 1) := by decide +kernel
set_option maxRecDepth 20000 in
theorem ggX11_goBack_X11_in : GoodIn wsX11_goBack wsX11_in := goodIn_r _ [11] (by decide +kernel) (by decide +kernel)
set_option maxRecDepth 20000 in
theorem gX11_goBack_X11_in : GoodIn wsX11_goBack (va_wsS RX11 78 yX11_in wsX11_in) := goodIn_app (goodIn_of _ (by decide +kernel)) ggX11_goBack_X11_in
theorem dX11_goBack_0 : decode cX11_goBack 0 = .ok (.iload_n 1, 1) := by decide +kernel
theorem dX11_goBack_1 : decode cX11_goBack 1 = .ok (.i2l, 1) := by decide +kernel
theorem dX11_goBack_2 : decode cX11_goBack 2 = .ok (.lconst 0, 1) := by decide +kernel
theorem dX11_goBack_3 : decode cX11_goBack 3 = .ok (.lconst 1, 1) := by decide +kernel
theorem dX11_goBack_4 : decode cX11_goBack 4 = .ok (.invokestatic 78, 3) := by decide +kernel
theorem dX11_goBack_7 : decode cX11_goBack 7 = .ok (.ifCond .ne 6, 3) := by decide +kernel
theorem dX11_goBack_10 : decode cX11_goBack 10 = .ok (.ldc 230, 2) := by decide +kernel
theorem dX11_goBack_12 : decode cX11_goBack 12 = .ok (.ireturn, 1) := by decide +kernel
theorem dX11_goBack_13 : decode cX11_goBack 13 = .ok (.aload_n 0, 1) := by decide +kernel
theorem dX11_goBack_14 : decode cX11_goBack 14 = .ok (.getfield 71, 3) := by decide +kernel
theorem dX11_goBack_17 : decode cX11_goBack 17 = .ok (.iload_n 1, 1) := by decide +kernel
theorem dX11_goBack_18 : decode cX11_goBack 18 = .ok (.baload, 1) := by decide +kernel
theorem dX11_goBack_19 : decode cX11_goBack 19 = .ok (.ifCond .ne 6, 3) := by decide +kernel
theorem dX11_goBack_22 : decode cX11_goBack 22 = .ok (.ldc 239, 2) := by decide +kernel
theorem dX11_goBack_24 : decode cX11_goBack 24 = .ok (.ireturn, 1) := by decide +kernel
theorem dX11_goBack_25 : decode cX11_goBack 25 = .ok (.iconst 0, 1) := by decide +kernel
theorem dX11_goBack_26 : decode cX11_goBack 26 = .ok (.istore_n 2, 1) := by decide +kernel
theorem dX11_goBack_27 : decode cX11_goBack 27 = .ok (.iload_n 2, 1) := by decide +kernel
theorem dX11_goBack_28 : decode cX11_goBack 28 = .ok (.bipush 72, 2) := by decide +kernel
theorem dX11_goBack_30 : decode cX11_goBack 30 = .ok (.if_icmp .ge 26, 3) := by decide +kernel
theorem dX11_goBack_33 : decode cX11_goBack 33 = .ok (.aload_n 0, 1) := by decide +kernel
theorem dX11_goBack_34 : decode cX11_goBack 34 = .ok (.getfield 19, 3) := by decide +kernel
theorem dX11_goBack_37 : decode cX11_goBack 37 = .ok (.iload_n 2, 1) := by decide +kernel
theorem dX11_goBack_38 : decode cX11_goBack 38 = .ok (.aload_n 0, 1) := by decide +kernel
theorem dX11_goBack_39 : decode cX11_goBack 39 = .ok (.getfield 68, 3) := by decide +kernel
theorem dX11_goBack_42 : decode cX11_goBack 42 = .ok (.bipush 73, 2) := by decide +kernel
theorem dX11_goBack_44 : decode cX11_goBack 44 = .ok (.iload_n 1, 1) := by decide +kernel
theorem dX11_goBack_45 : decode cX11_goBack 45 = .ok (.imul, 1) := by decide +kernel
theorem dX11_goBack_46 : decode cX11_goBack 46 = .ok (.iload_n 2, 1) := by decide +kernel
theorem dX11_goBack_47 : decode cX11_goBack 47 = .ok (.iadd, 1) := by decide +kernel
theorem dX11_goBack_48 : decode cX11_goBack 48 = .ok (.iaload, 1) := by decide +kernel
theorem dX11_goBack_49 : decode cX11_goBack 49 = .ok (.iastore, 1) := by decide +kernel
theorem dX11_goBack_50 : decode cX11_goBack 50 = .ok (.iinc 2 1, 3) := by decide +kernel
theorem dX11_goBack_53 : decode cX11_goBack 53 = .ok (.goto (-26), 3) := by decide +kernel
theorem dX11_goBack_56 : decode cX11_goBack 56 = .ok (.aload_n 0, 1) := by decide +kernel
theorem dX11_goBack_57 : decode cX11_goBack 57 = .ok (.aload_n 0, 1) := by decide +kernel
theorem dX11_goBack_58 : decode cX11_goBack 58 = .ok (.getfield 68, 3) := by decide +kernel
theorem dX11_goBack_61 : decode cX11_goBack 61 = .ok (.bipush 73, 2) := by decide +kernel
theorem dX11_goBack_63 : decode cX11_goBack 63 = .ok (.iload_n 1, 1) := by decide +kernel
theorem dX11_goBack_64 : decode cX11_goBack 64 = .ok (.imul, 1) := by decide +kernel
theorem dX11_goBack_65 : decode cX11_goBack 65 = .ok (.bipush 72, 2) := by decide +kernel
theorem dX11_goBack_67 : decode cX11_goBack 67 = .ok (.iadd, 1) := by decide +kernel
theorem dX11_goBack_68 : decode cX11_goBack 68 = .ok (.iaload, 1) := by decide +kernel
theorem dX11_goBack_69 : decode cX11_goBack 69 = .ok (.putfield 252, 3) := by decide +kernel
theorem dX11_goBack_72 : decode cX11_goBack 72 = .ok (.aload_n 0, 1) := by decide +kernel
theorem dX11_goBack_73 : decode cX11_goBack 73 = .ok (.iconst 0, 1) := by decide +kernel
theorem dX11_goBack_74 : decode cX11_goBack 74 = .ok (.putfield 192, 3) := by decide +kernel
theorem dX11_goBack_77 : decode cX11_goBack 77 = .ok (.iconst 1, 1) := by decide +kernel
theorem dX11_goBack_78 : decode cX11_goBack 78 = .ok (.ireturn, 1) := by decide +kernel
theorem dJ6_bitCount_0f7a4_0 : decode cJ6_bitCount_0f7a4 0 = .ok (.iload_n 0, 1) := by decide +kernel
theorem dJ6_bitCount_0f7a4_1 : decode cJ6_bitCount_0f7a4 1 = .ok (.iload_n 0, 1) := by decide +kernel
theorem dJ6_bitCount_0f7a4_2 : decode cJ6_bitCount_0f7a4 2 = .ok (.iconst 1, 1) := by decide +kernel
theorem dJ6_bitCount_0f7a4_3 : decode cJ6_bitCount_0f7a4 3 = .ok (.iushr, 1) := by decide +kernel
theorem dJ6_bitCount_0f7a4_4 : decode cJ6_bitCount_0f7a4 4 = .ok (.ldc_w 265, 3) := by decide +kernel
theorem dJ6_bitCount_0f7a4_7 : decode cJ6_bitCount_0f7a4 7 = .ok (.iand, 1) := by decide +kernel
theorem dJ6_bitCount_0f7a4_8 : decode cJ6_bitCount_0f7a4 8 = .ok (.isub, 1) := by decide +kernel
theorem dJ6_bitCount_0f7a4_9 : decode cJ6_bitCount_0f7a4 9 = .ok (.istore_n 0, 1) := by decide +kernel
theorem dJ6_bitCount_0f7a4_10 : decode cJ6_bitCount_0f7a4 10 = .ok (.iload_n 0, 1) := by decide +kernel
theorem dJ6_bitCount_0f7a4_11 : decode cJ6_bitCount_0f7a4 11 = .ok (.ldc_w 266, 3) := by decide +kernel
theorem dJ6_bitCount_0f7a4_14 : decode cJ6_bitCount_0f7a4 14 = .ok (.iand, 1) := by decide +kernel
theorem dJ6_bitCount_0f7a4_15 : decode cJ6_bitCount_0f7a4 15 = .ok (.iload_n 0, 1) := by decide +kernel
theorem dJ6_bitCount_0f7a4_16 : decode cJ6_bitCount_0f7a4 16 = .ok (.iconst 2, 1) := by decide +kernel
theorem dJ6_bitCount_0f7a4_17 : decode cJ6_bitCount_0f7a4 17 = .ok (.iushr, 1) := by decide +kernel
theorem dJ6_bitCount_0f7a4_18 : decode cJ6_bitCount_0f7a4 18 = .ok (.ldc_w 266, 3) := by decide +kernel
theorem dJ6_bitCount_0f7a4_21 : decode cJ6_bitCount_0f7a4 21 = .ok (.iand, 1) := by decide +kernel
theorem dJ6_bitCount_0f7a4_22 : decode cJ6_bitCount_0f7a4 22 = .ok (.iadd, 1) := by decide +kernel
theorem dJ6_bitCount_0f7a4_23 : decode cJ6_bitCount_0f7a4 23 = .ok (.istore_n 0, 1) := by decide +kernel
theorem dJ6_bitCount_0f7a4_24 : decode cJ6_bitCount_0f7a4 24 = .ok (.iload_n 0, 1) := by decide +kernel
theorem dJ6_bitCount_0f7a4_25 : decode cJ6_bitCount_0f7a4 25 = .ok (.iload_n 0, 1) := by decide +kernel
theorem dJ6_bitCount_0f7a4_26 : decode cJ6_bitCount_0f7a4 26 = .ok (.iconst 4, 1) := by decide +kernel
theorem dJ6_bitCount_0f7a4_27 : decode cJ6_bitCount_0f7a4 27 = .ok (.iushr, 1) := by decide +kernel
theorem dJ6_bitCount_0f7a4_28 : decode cJ6_bitCount_0f7a4 28 = .ok (.iadd, 1) := by decide +kernel
theorem dJ6_bitCount_0f7a4_29 : decode cJ6_bitCount_0f7a4 29 = .ok (.ldc_w 267, 3) := by decide +kernel
theorem dJ6_bitCount_0f7a4_32 : decode cJ6_bitCount_0f7a4 32 = .ok (.iand, 1) := by decide +kernel
theorem dJ6_bitCount_0f7a4_33 : decode cJ6_bitCount_0f7a4 33 = .ok (.istore_n 0, 1) := by decide +kernel
theorem dJ6_bitCount_0f7a4_34 : decode cJ6_bitCount_0f7a4 34 = .ok (.iload_n 0, 1) := by decide +kernel
theorem dJ6_bitCount_0f7a4_35 : decode cJ6_bitCount_0f7a4 35 = .ok (.iload_n 0, 1) := by decide +kernel
theorem dJ6_bitCount_0f7a4_36 : decode cJ6_bitCount_0f7a4 36 = .ok (.bipush 8, 2) := by decide +kernel
theorem dJ6_bitCount_0f7a4_38 : decode cJ6_bitCount_0f7a4 38 = .ok (.iushr, 1) := by decide +kernel
theorem dJ6_bitCount_0f7a4_39 : decode cJ6_bitCount_0f7a4 39 = .ok (.iadd, 1) := by decide +kernel
theorem dJ6_bitCount_0f7a4_40 : decode cJ6_bitCount_0f7a4 40 = .ok (.istore_n 0, 1) := by decide +kernel
theorem dJ6_bitCount_0f7a4_41 : decode cJ6_bitCount_0f7a4 41 = .ok (.iload_n 0, 1) := by decide +kernel
theorem dJ6_bitCount_0f7a4_42 : decode cJ6_bitCount_0f7a4 42 = .ok (.iload_n 0, 1) := by decide +kernel
theorem dJ6_bitCount_0f7a4_43 : decode cJ6_bitCount_0f7a4 43 = .ok (.bipush 16, 2) := by decide +kernel
theorem dJ6_bitCount_0f7a4_45 : decode cJ6_bitCount_0f7a4 45 = .ok (.iushr, 1) := by decide +kernel
theorem dJ6_bitCount_0f7a4_46 : decode cJ6_bitCount_0f7a4 46 = .ok (.iadd, 1) := by decide +kernel
theorem dJ6_bitCount_0f7a4_47 : decode cJ6_bitCount_0f7a4 47 = .ok (.istore_n 0, 1) := by decide +kernel
theorem dJ6_bitCount_0f7a4_48 : decode cJ6_bitCount_0f7a4 48 = .ok (.iload_n 0, 1) := by decide +kernel
theorem dJ6_bitCount_0f7a4_49 : decode cJ6_bitCount_0f7a4 49 = .ok (.bipush 63, 2) := by decide +kernel
theorem dJ6_bitCount_0f7a4_51 : decode cJ6_bitCount_0f7a4 51 = .ok (.iand, 1) := by decide +kernel
theorem dJ6_bitCount_0f7a4_52 : decode cJ6_bitCount_0f7a4 52 = .ok (.ireturn, 1) := by decide +kernel
theorem dJ9_floorMod_7cf53_0 : decode cJ9_floorMod_7cf53 0 = .ok (.iload_n 0, 1) := by decide +kernel
theorem dJ9_floorMod_7cf53_1 : decode cJ9_floorMod_7cf53 1 = .ok (.iload_n 1, 1) := by decide +kernel
theorem dJ9_floorMod_7cf53_2 : decode cJ9_floorMod_7cf53 2 = .ok (.irem, 1) := by decide +kernel
theorem dJ9_floorMod_7cf53_3 : decode cJ9_floorMod_7cf53 3 = .ok (.istore_n 2, 1) := by decide +kernel
theorem dJ9_floorMod_7cf53_4 : decode cJ9_floorMod_7cf53 4 = .ok (.iload_n 0, 1) := by decide +kernel
theorem dJ9_floorMod_7cf53_5 : decode cJ9_floorMod_7cf53 5 = .ok (.iload_n 1, 1) := by decide +kernel
theorem dJ9_floorMod_7cf53_6 : decode cJ9_floorMod_7cf53 6 = .ok (.ixor, 1) := by decide +kernel
theorem dJ9_floorMod_7cf53_7 : decode cJ9_floorMod_7cf53 7 = .ok (.ifCond .ge 11, 3) := by decide +kernel
theorem dJ9_floorMod_7cf53_10 : decode cJ9_floorMod_7cf53 10 = .ok (.iload_n 2, 1) := by decide +kernel
theorem dJ9_floorMod_7cf53_11 : decode cJ9_floorMod_7cf53 11 = .ok (.ifCond .eq 7, 3) := by decide +kernel
theorem dJ9_floorMod_7cf53_14 : decode cJ9_floorMod_7cf53 14 = .ok (.iload_n 2, 1) := by decide +kernel
theorem dJ9_floorMod_7cf53_15 : decode cJ9_floorMod_7cf53 15 = .ok (.iload_n 1, 1) := by decide +kernel
theorem dJ9_floorMod_7cf53_16 : decode cJ9_floorMod_7cf53 16 = .ok (.iadd, 1) := by decide +kernel
theorem dJ9_floorMod_7cf53_17 : decode cJ9_floorMod_7cf53 17 = .ok (.ireturn, 1) := by decide +kernel
theorem dJ9_floorMod_7cf53_18 : decode cJ9_floorMod_7cf53 18 = .ok (.iload_n 2, 1) := by decide +kernel
theorem dJ9_floorMod_7cf53_19 : decode cJ9_floorMod_7cf53 19 = .ok (.ireturn, 1) := by decide +kernel
theorem dJ9_max_7cf53_0 : decode cJ9_max_7cf53 0 = .ok (.iload_n 0, 1) := by decide +kernel
theorem dJ9_max_7cf53_1 : decode cJ9_max_7cf53 1 = .ok (.iload_n 1, 1) := by decide +kernel
theorem dJ9_max_7cf53_2 : decode cJ9_max_7cf53 2 = .ok (.if_icmp .lt 7, 3) := by decide +kernel
theorem dJ9_max_7cf53_5 : decode cJ9_max_7cf53 5 = .ok (.iload_n 0, 1) := by decide +kernel
theorem dJ9_max_7cf53_6 : decode cJ9_max_7cf53 6 = .ok (.goto 4, 3) := by decide +kernel
theorem dJ9_max_7cf53_9 : decode cJ9_max_7cf53 9 = .ok (.iload_n 1, 1) := by decide +kernel
theorem dJ9_max_7cf53_10 : decode cJ9_max_7cf53 10 = .ok (.ireturn, 1) := by decide +kernel
theorem dJ9_min_7cf53_0 : decode cJ9_min_7cf53 0 = .ok (.iload_n 0, 1) := by decide +kernel
theorem dJ9_min_7cf53_1 : decode cJ9_min_7cf53 1 = .ok (.iload_n 1, 1) := by decide +kernel
theorem dJ9_min_7cf53_2 : decode cJ9_min_7cf53 2 = .ok (.if_icmp .gt 7, 3) := by decide +kernel
theorem dJ9_min_7cf53_5 : decode cJ9_min_7cf53 5 = .ok (.iload_n 0, 1) := by decide +kernel
theorem dJ9_min_7cf53_6 : decode cJ9_min_7cf53 6 = .ok (.goto 4, 3) := by decide +kernel
theorem dJ9_min_7cf53_9 : decode cJ9_min_7cf53 9 = .ok (.iload_n 1, 1) := by decide +kernel
theorem dJ9_min_7cf53_10 : decode cJ9_min_7cf53 10 = .ok (.ireturn, 1) := by decide +kernel
theorem dJ7_fill_53178_0 : decode cJ7_fill_53178 0 = .ok (.iconst 0, 1) := by decide +kernel
theorem dJ7_fill_53178_1 : decode cJ7_fill_53178 1 = .ok (.istore_n 2, 1) := by decide +kernel
theorem dJ7_fill_53178_2 : decode cJ7_fill_53178 2 = .ok (.aload_n 0, 1) := by decide +kernel
theorem dJ7_fill_53178_3 : decode cJ7_fill_53178 3 = .ok (.arraylength, 1) := by decide +kernel
theorem dJ7_fill_53178_4 : decode cJ7_fill_53178 4 = .ok (.istore_n 3, 1) := by decide +kernel
theorem dJ7_fill_53178_5 : decode cJ7_fill_53178 5 = .ok (.iload_n 2, 1) := by decide +kernel
theorem dJ7_fill_53178_6 : decode cJ7_fill_53178 6 = .ok (.iload_n 3, 1) := by decide +kernel
theorem dJ7_fill_53178_7 : decode cJ7_fill_53178 7 = .ok (.if_icmp .ge 13, 3) := by decide +kernel
theorem dJ7_fill_53178_10 : decode cJ7_fill_53178 10 = .ok (.aload_n 0, 1) := by decide +kernel
theorem dJ7_fill_53178_11 : decode cJ7_fill_53178 11 = .ok (.iload_n 2, 1) := by decide +kernel
theorem dJ7_fill_53178_12 : decode cJ7_fill_53178 12 = .ok (.iload_n 1, 1) := by decide +kernel
theorem dJ7_fill_53178_13 : decode cJ7_fill_53178 13 = .ok (.iastore, 1) := by decide +kernel
theorem dJ7_fill_53178_14 : decode cJ7_fill_53178 14 = .ok (.iinc 2 1, 3) := by decide +kernel
theorem dJ7_fill_53178_17 : decode cJ7_fill_53178 17 = .ok (.goto (-12), 3) := by decide +kernel
theorem dJ7_fill_53178_20 : decode cJ7_fill_53178 20 = .ok (.return_, 1) := by decide +kernel
