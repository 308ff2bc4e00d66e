noncomputable def wsL_law_r1 : List Cond := [Cond.classLink RL 7 RX10, Cond.instantiable RX10 10, Cond.initialized RX10, Cond.classLink RL 10 RX11, Cond.instantiable RX11 41, Cond.initialized RX11, Cond.methodLink RL 9 yX10_init, Cond.instanceMethod yX10_init, Cond.code yX10_init cX10_init 2 none, Cond.methodLink RX10 3 objectInit, Cond.instanceMethod objectInit, Cond.code objectInit ⟨#[0xb1]⟩ 1 none, Cond.classLink RX10 9 RX8, Cond.instantiable RX8 7, Cond.initialized RX8, Cond.fieldLink RX10 12 "AbsentPraise" "telling" "LAbsentPraise$Telling;", Cond.classLink RX10 16 RX2, Cond.instantiable RX2 11, Cond.initialized RX2, Cond.fieldLink RX10 19 "AbsentPraise" "hill" "LAbsentPraise$Hill;", Cond.classLink RX10 23 RX7, Cond.instantiable RX7 6, Cond.initialized RX7, Cond.fieldLink RX10 26 "AbsentPraise" "talk" "LAbsentPraise$Talk;"]
noncomputable def wsL_law_r2 : List Cond := [Cond.classLink RX10 30 RX4, Cond.instantiable RX4 2, Cond.initialized RX4, Cond.fieldLink RX10 35 "AbsentPraise" "life" "LAbsentPraise$Life;", Cond.classLink RX10 39 RX9, Cond.instantiable RX9 5, Cond.initialized RX9, Cond.fieldLink RX10 44 "AbsentPraise" "trials" "LAbsentPraise$Trials;", Cond.classLink RX10 48 RX6, Cond.instantiable RX6 3, Cond.initialized RX6, Cond.fieldLink RX10 51 "AbsentPraise" "past" "LAbsentPraise$Past;", Cond.classLink RX10 55 RX5, Cond.instantiable RX5 4, Cond.initialized RX5, Cond.fieldLink RX10 58 "AbsentPraise" "notes" "LAbsentPraise$Notes;", Cond.classLink RX10 62 RX0, Cond.instantiable RX0 3, Cond.initialized RX0, Cond.fieldLink RX10 65 "AbsentPraise" "book" "LAbsentPraise$Book;", Cond.classLink RX10 69 RX1, Cond.instantiable RX1 1, Cond.initialized RX1, Cond.fieldLink RX10 72 "AbsentPraise" "draws" "LAbsentPraise$Draws;"]
noncomputable def wsL_law_r3 : List Cond := [Cond.classLink RX10 76 RX3, Cond.fieldLink RX10 78 "AbsentPraise" "images" "[LAbsentPraise$Image;", Cond.instantiable RX3 3, Cond.initialized RX3, Cond.instanceMethod yX8_init, Cond.code yX8_init cX8_init 1 none, Cond.methodLink RX8 3 objectInit, Cond.arrayClass .int, Cond.fieldLink RX8 9 "AbsentPraise$Telling" "letters" "[I", Cond.classLink RX8 15 RX2, Cond.fieldLink RX8 18 "AbsentPraise$Telling" "draft" "LAbsentPraise$Hill;", Cond.fieldLink RX8 22 "AbsentPraise$Telling" "faultPlace" "I", Cond.instanceMethod yX2_init, Cond.code yX2_init cX2_init 1 none, Cond.methodLink RX2 3 objectInit, Cond.fieldLink RX2 9 "AbsentPraise$Hill" "heard" "[I", Cond.fieldLink RX2 15 "AbsentPraise$Hill" "ways" "[I", Cond.fieldLink RX2 18 "AbsentPraise$Hill" "kinds" "[I", Cond.fieldLink RX2 21 "AbsentPraise$Hill" "homes" "[I", Cond.fieldLink RX2 24 "AbsentPraise$Hill" "likings" "[I", Cond.instanceMethod yX7_init, Cond.code yX7_init cX7_init 1 none, Cond.methodLink RX7 3 objectInit, Cond.fieldLink RX7 9 "AbsentPraise$Talk" "rooms" "[I"]
noncomputable def wsL_law_r4 : List Cond := [Cond.fieldLink RX7 15 "AbsentPraise$Talk" "warms" "[I", Cond.fieldLink RX7 18 "AbsentPraise$Talk" "chills" "[I", Cond.fieldLink RX7 21 "AbsentPraise$Talk" "likings" "[I", Cond.methodLink RX10 32 yX4_init, Cond.instanceMethod yX4_init, Cond.code yX4_init cX4_init 3 none, Cond.methodLink RX4 3 objectInit, Cond.fieldLink RX4 9 "AbsentPraise$Life" "hill" "LAbsentPraise$Hill;", Cond.fieldLink RX4 15 "AbsentPraise$Life" "talk" "LAbsentPraise$Talk;", Cond.methodLink RX10 41 yX9_init, Cond.instanceMethod yX9_init, Cond.code yX9_init cX9_init 4 none, Cond.methodLink RX9 3 objectInit, Cond.fieldLink RX9 9 "AbsentPraise$Trials" "worths" "[I", Cond.fieldLink RX9 15 "AbsentPraise$Trials" "laters" "[I", Cond.fieldLink RX9 18 "AbsentPraise$Trials" "hill" "LAbsentPraise$Hill;", Cond.fieldLink RX9 22 "AbsentPraise$Trials" "talk" "LAbsentPraise$Talk;", Cond.fieldLink RX9 26 "AbsentPraise$Trials" "life" "LAbsentPraise$Life;", Cond.methodLink RX10 50 yX6_init, Cond.instanceMethod yX6_init, Cond.code yX6_init cX6_init 2 none, Cond.methodLink RX6 3 objectInit, Cond.classLink RX6 9 RX7, Cond.fieldLink RX6 11 "AbsentPraise$Past" "kept" "[LAbsentPraise$Talk;"]
noncomputable def wsL_law_r5 : List Cond := [Cond.instanceMethod yX5_init, Cond.code yX5_init cX5_init 1 none, Cond.methodLink RX5 3 objectInit, Cond.fieldLink RX5 9 "AbsentPraise$Notes" "kinds" "[I", Cond.fieldLink RX5 15 "AbsentPraise$Notes" "values" "[I", Cond.fieldLink RX5 18 "AbsentPraise$Notes" "theres" "[I", Cond.instanceMethod yX0_init, Cond.code yX0_init cX0_init 1 none, Cond.methodLink RX0 3 objectInit, Cond.fieldLink RX0 9 "AbsentPraise$Book" "persons" "[I", Cond.fieldLink RX0 15 "AbsentPraise$Book" "warms" "[I", Cond.instanceMethod yX1_init, Cond.code yX1_init cX1_init 1 none, Cond.methodLink RX1 1 objectInit, Cond.instanceMethod yX3_init, Cond.code yX3_init cX3_init 1 none, Cond.methodLink RX3 1 objectInit, Cond.classLink RX3 7 RX7, Cond.fieldLink RX3 10 "AbsentPraise$Image" "talk" "LAbsentPraise$Talk;", Cond.methodLink RL 12 yX11_init, Cond.instanceMethod yX11_init, Cond.code yX11_init cX11_init 1 none, Cond.methodLink RX11 1 objectInit, Cond.fieldLink RX11 7 "AbsentPraiseModel" "heard" "[I"]
noncomputable def wsL_law_r6 : List Cond := [Cond.fieldLink RX11 13 "AbsentPraiseModel" "leads" "[I", Cond.fieldLink RX11 16 "AbsentPraiseModel" "kind" "[I", Cond.fieldLink RX11 19 "AbsentPraiseModel" "now" "[I", Cond.fieldLink RX11 22 "AbsentPraiseModel" "tried" "[I", Cond.fieldLink RX11 25 "AbsentPraiseModel" "noteKind" "[I", Cond.fieldLink RX11 28 "AbsentPraiseModel" "noteSaid" "[I", Cond.fieldLink RX11 31 "AbsentPraiseModel" "noteThere" "[I", Cond.fieldLink RX11 34 "AbsentPraiseModel" "bookOf" "[I", Cond.fieldLink RX11 37 "AbsentPraiseModel" "bookWarm" "[I", Cond.fieldLink RX11 40 "AbsentPraiseModel" "text" "[I", Cond.fieldLink RX11 43 "AbsentPraiseModel" "faultPlace" "I", Cond.fieldLink RX11 47 "AbsentPraiseModel" "readHeard" "[I", Cond.fieldLink RX11 50 "AbsentPraiseModel" "readLeads" "[I", Cond.fieldLink RX11 53 "AbsentPraiseModel" "readKind" "[I", Cond.fieldLink RX11 56 "AbsentPraiseModel" "readRoom" "[I", Cond.fieldLink RX11 59 "AbsentPraiseModel" "readLike" "[I", Cond.fieldLink RX11 62 "AbsentPraiseModel" "past" "[I", Cond.fieldLink RX11 65 "AbsentPraiseModel" "gain" "[I", Cond.fieldLink RX11 68 "AbsentPraiseModel" "images" "[I", Cond.arrayClass .boolean, Cond.fieldLink RX11 71 "AbsentPraiseModel" "isKept" "[Z", Cond.fieldLink RX11 75 "AbsentPraiseModel" "rooms" "I", Cond.methodLink RL 13 yX10_feed, Cond.instanceMethod yX10_feed]
noncomputable def wsL_law_r7 : List Cond := [Cond.selects RX10 yX10_feed yX10_feed, Cond.code yX10_feed cX10_feed 2 (some .int), Cond.constant RX10 87 (-1000000002), Cond.fieldLink RX10 88 "AbsentPraise$Telling" "count" "I", Cond.constant RX10 92 (-1000000004), Cond.methodLink RX10 83 yX10_within, Cond.static yX10_within, Cond.code yX10_within cX10_within 3 (some .boolean), Cond.methodLink RX10 93 yX8_add, Cond.instanceMethod yX8_add, Cond.selects RX8 yX8_add yX8_add, Cond.code yX8_add cX8_add 2 (some .int), Cond.fieldLink RX8 26 "AbsentPraise$Telling" "count" "I", Cond.static yX10_put, Cond.code yX10_put cX10_put 3 none, Cond.methodLink RL 17 yX11_feed, Cond.instanceMethod yX11_feed, Cond.selects RX11 yX11_feed yX11_feed, Cond.code yX11_feed cX11_feed 2 (some .int), Cond.constantLong RX11 89 (255), Cond.constant RX11 91 (-1000000002), Cond.fieldLink RX11 92 "AbsentPraiseModel" "texted" "I", Cond.constant RX11 95 (-1000000004), Cond.methodLink RX11 78 yX11_in]
noncomputable def wsL_law_r8 : List Cond := [Cond.static yX11_in, Cond.code yX11_in cX11_in 6 (some .boolean), Cond.methodLink RL 18 yX10_hill, Cond.instanceMethod yX10_hill, Cond.selects RX10 yX10_hill yX10_hill, Cond.code yX10_hill cX10_hill 3 (some .int), Cond.fieldLink RX10 101 "AbsentPraise$Telling" "fault" "I", Cond.fieldLink RX10 104 "AbsentPraise$Telling" "draft" "LAbsentPraise$Hill;", Cond.fieldLink RX10 114 "AbsentPraise$Notes" "count" "I", Cond.fieldLink RX10 115 "AbsentPraise$Book" "count" "I", Cond.fieldLink RX10 119 "AbsentPraise$Image" "kept" "Z", Cond.fieldLink RX10 123 "AbsentPraise$Hill" "persons" "I", Cond.methodLink RX10 97 yX8_read, Cond.instanceMethod yX8_read, Cond.selects RX8 yX8_read yX8_read, Cond.code yX8_read cX8_read 2 (some .boolean), Cond.fieldLink RX8 36 "AbsentPraise$Telling" "fault" "I", Cond.fieldLink RX8 39 "AbsentPraise$Telling" "place" "I", Cond.methodLink RX8 33 yX2_clear, Cond.instanceMethod yX2_clear, Cond.selects RX2 yX2_clear yX2_clear, Cond.code yX2_clear cX2_clear 1 none, Cond.fieldLink RX2 33 "AbsentPraise$Hill" "rooms" "I", Cond.fieldLink RX2 37 "AbsentPraise$Hill" "cold" "I"]
noncomputable def wsL_law_r9 : List Cond := [Cond.fieldLink RX2 40 "AbsentPraise$Hill" "benches" "I", Cond.fieldLink RX2 43 "AbsentPraise$Hill" "wayCount" "I", Cond.fieldLink RX2 46 "AbsentPraise$Hill" "persons" "I", Cond.fieldLink RX2 49 "AbsentPraise$Hill" "likingCount" "I", Cond.methodLink RX2 27 yJ7_fill_53178, Cond.static yJ7_fill_53178, Cond.initialized RJ7, Cond.code yJ7_fill_53178 cJ7_fill_53178 4 none, Cond.methodLink RX8 42 yX8_skipBlanks, Cond.instanceMethod yX8_skipBlanks, Cond.selects RX8 yX8_skipBlanks yX8_skipBlanks, Cond.code yX8_skipBlanks cX8_skipBlanks 1 none, Cond.methodLink RX8 48 yX8_letter, Cond.instanceMethod yX8_letter, Cond.selects RX8 yX8_letter yX8_letter, Cond.code yX8_letter cX8_letter 1 (some .int), Cond.methodLink RX8 45 yX8_readClause, Cond.instanceMethod yX8_readClause, Cond.selects RX8 yX8_readClause yX8_readClause, Cond.code yX8_readClause cX8_readClause 2 none, Cond.methodLink RX8 52 yX8_faultOfWord, Cond.instanceMethod yX8_faultOfWord, Cond.selects RX8 yX8_faultOfWord yX8_faultOfWord, Cond.code yX8_faultOfWord cX8_faultOfWord 2 (some .int)]
noncomputable def wsL_law_r10 : List Cond := [Cond.fieldLink RX8 82 "AbsentPraise$Hill" "benches" "I", Cond.fieldLink RX8 85 "AbsentPraise$Hill" "wayCount" "I", Cond.fieldLink RX8 88 "AbsentPraise$Hill" "persons" "I", Cond.fieldLink RX8 91 "AbsentPraise$Hill" "likingCount" "I", Cond.methodLink RX8 78 yX2_isTold, Cond.instanceMethod yX2_isTold, Cond.selects RX2 yX2_isTold yX2_isTold, Cond.code yX2_isTold cX2_isTold 1 (some .boolean), Cond.methodLink RX8 56 yX8_blame, Cond.instanceMethod yX8_blame, Cond.selects RX8 yX8_blame yX8_blame, Cond.code yX8_blame cX8_blame 3 none, Cond.methodLink RX8 60 yX8_readRooms, Cond.instanceMethod yX8_readRooms, Cond.selects RX8 yX8_readRooms yX8_readRooms, Cond.code yX8_readRooms cX8_readRooms 3 none, Cond.fieldLink RX8 101 "AbsentPraise$Hill" "rooms" "I", Cond.fieldLink RX8 104 "AbsentPraise$Hill" "cold" "I", Cond.methodLink RX8 94 yX8_readNumber, Cond.instanceMethod yX8_readNumber, Cond.selects RX8 yX8_readNumber yX8_readNumber, Cond.code yX8_readNumber cX8_readNumber 5 (some .int), Cond.fieldLink RX8 111 "AbsentPraise$Telling" "numberPlace" "I", Cond.static yX10_bit]
noncomputable def wsL_law_r11 : List Cond := [Cond.code yX10_bit cX10_bit 1 (some .int), Cond.methodLink RX8 63 yX8_readBench, Cond.instanceMethod yX8_readBench, Cond.selects RX8 yX8_readBench yX8_readBench, Cond.code yX8_readBench cX8_readBench 3 none, Cond.methodLink RX8 107 yX2_isBench, Cond.instanceMethod yX2_isBench, Cond.selects RX2 yX2_isBench yX2_isBench, Cond.code yX2_isBench cX2_isBench 3 (some .boolean), Cond.static yX10_at, Cond.code yX10_at cX10_at 2 (some .int), Cond.static yX10_has, Cond.code yX10_has cX10_has 2 (some .boolean), Cond.methodLink RX8 114 yX2_addBench, Cond.instanceMethod yX2_addBench, Cond.selects RX2 yX2_addBench yX2_addBench, Cond.code yX2_addBench cX2_addBench 3 none, Cond.methodLink RX8 66 yX8_readWay, Cond.instanceMethod yX8_readWay, Cond.selects RX8 yX8_readWay yX8_readWay, Cond.code yX8_readWay cX8_readWay 3 none, Cond.methodLink RX8 117 yX2_isWay, Cond.instanceMethod yX2_isWay, Cond.selects RX2 yX2_isWay yX2_isWay]
noncomputable def wsL_law_r12 : List Cond := [Cond.code yX2_isWay cX2_isWay 3 (some .boolean), Cond.methodLink RX8 120 yX2_addWay, Cond.instanceMethod yX2_addWay, Cond.selects RX2 yX2_addWay yX2_addWay, Cond.code yX2_addWay cX2_addWay 3 none, Cond.methodLink RX8 69 yX8_readPerson, Cond.instanceMethod yX8_readPerson, Cond.selects RX8 yX8_readPerson yX8_readPerson, Cond.code yX8_readPerson cX8_readPerson 3 none, Cond.methodLink RX8 123 yX2_addPerson, Cond.instanceMethod yX2_addPerson, Cond.selects RX2 yX2_addPerson yX2_addPerson, Cond.code yX2_addPerson cX2_addPerson 3 none, Cond.methodLink RX8 72 yX8_readLiking, Cond.instanceMethod yX8_readLiking, Cond.selects RX8 yX8_readLiking yX8_readLiking, Cond.code yX8_readLiking cX8_readLiking 4 none, Cond.methodLink RX8 126 yX2_addLiking, Cond.instanceMethod yX2_addLiking, Cond.selects RX2 yX2_addLiking yX2_addLiking, Cond.code yX2_addLiking cX2_addLiking 4 none, Cond.static yX10_pairIndex, Cond.code yX10_pairIndex cX10_pairIndex 2 (some .int), Cond.methodLink RX8 75 yX8_readEnd]
noncomputable def wsL_law_r13 : List Cond := [Cond.instanceMethod yX8_readEnd, Cond.selects RX8 yX8_readEnd yX8_readEnd, Cond.code yX8_readEnd cX8_readEnd 1 none, Cond.methodLink RX10 107 yX2_copyFrom, Cond.instanceMethod yX2_copyFrom, Cond.selects RX2 yX2_copyFrom yX2_copyFrom, Cond.code yX2_copyFrom cX2_copyFrom 2 none, Cond.static yX10_copy, Cond.code yX10_copy cX10_copy 2 none, Cond.methodLink RX10 319 Lib.Math.min.name, Cond.static Lib.Math.min.name, Cond.initialized "java/lang/Math", Cond.code Lib.Math.min.name Lib.Math.min.code 2 (some .int), Cond.methodLink RX10 324 arraycopyName, Cond.native arraycopyName, Cond.static arraycopyName, Cond.initialized "java/lang/System", Cond.methodLink RX10 111 yX7_begin, Cond.instanceMethod yX7_begin, Cond.selects RX7 yX7_begin yX7_begin, Cond.code yX7_begin cX7_begin 2 none, Cond.fieldLink RX7 24 "AbsentPraise$Hill" "homes" "[I", Cond.fieldLink RX7 39 "AbsentPraise$Hill" "likings" "[I", Cond.fieldLink RX7 40 "AbsentPraise$Talk" "coughers" "I"]
noncomputable def wsL_law_r14 : List Cond := [Cond.fieldLink RX7 44 "AbsentPraise$Talk" "hours" "I", Cond.methodLink RX7 33 yJ7_fill_53178, Cond.methodLink RX10 116 yX6_forget, Cond.instanceMethod yX6_forget, Cond.selects RX6 yX6_forget yX6_forget, Cond.code yX6_forget cX6_forget 1 none, Cond.fieldLink RX6 30 "AbsentPraise$Past" "count" "I", Cond.methodLink RL 22 yX11_hill, Cond.instanceMethod yX11_hill, Cond.selects RX11 yX11_hill yX11_hill, Cond.code yX11_hill cX11_hill 2 (some .int), Cond.fieldLink RX11 96 "AbsentPraiseModel" "at0" "I", Cond.fieldLink RX11 120 "AbsentPraiseModel" "readRooms" "I", Cond.fieldLink RX11 123 "AbsentPraiseModel" "readCold" "I", Cond.fieldLink RX11 137 "AbsentPraiseModel" "readBenches" "I", Cond.fieldLink RX11 140 "AbsentPraiseModel" "readWays" "I", Cond.fieldLink RX11 143 "AbsentPraiseModel" "readPersons" "I", Cond.fieldLink RX11 146 "AbsentPraiseModel" "readLikings" "I", Cond.fieldLink RX11 186 "AbsentPraiseModel" "noted" "I", Cond.fieldLink RX11 189 "AbsentPraiseModel" "written" "I", Cond.fieldLink RX11 192 "AbsentPraiseModel" "undos" "I", Cond.fieldLink RX11 82 "AbsentPraiseModel" "persons" "I", Cond.methodLink RX11 99 yX11_here, Cond.instanceMethod yX11_here]
noncomputable def wsL_law_r15 : List Cond := [Cond.selects RX11 yX11_here yX11_here, Cond.code yX11_here cX11_here 1 (some .int), Cond.methodLink RX11 180 yX11_takeClause, Cond.instanceMethod yX11_takeClause, Cond.selects RX11 yX11_takeClause yX11_takeClause, Cond.code yX11_takeClause cX11_takeClause 4 (some .int), Cond.methodLink RX11 107 yX11_fails, Cond.instanceMethod yX11_fails, Cond.selects RX11 yX11_fails yX11_fails, Cond.code yX11_fails cX11_fails 3 (some .int), Cond.methodLink RX11 164 yX11_isFull, Cond.instanceMethod yX11_isFull, Cond.selects RX11 yX11_isFull yX11_isFull, Cond.code yX11_isFull cX11_isFull 2 (some .boolean), Cond.methodLink RX11 167 yX11_takeBody, Cond.instanceMethod yX11_takeBody, Cond.selects RX11 yX11_takeBody yX11_takeBody, Cond.code yX11_takeBody cX11_takeBody 2 (some .int), Cond.methodLink RX11 149 yX11_takeRooms, Cond.instanceMethod yX11_takeRooms, Cond.selects RX11 yX11_takeRooms yX11_takeRooms, Cond.code yX11_takeRooms cX11_takeRooms 3 (some .int), Cond.fieldLink RX11 114 "AbsentPraiseModel" "number" "I", Cond.methodLink RX11 117 yX11_takeNumber]
noncomputable def wsL_law_r16 : List Cond := [Cond.instanceMethod yX11_takeNumber, Cond.selects RX11 yX11_takeNumber yX11_takeNumber, Cond.code yX11_takeNumber cX11_takeNumber 4 (some .int), Cond.constantLong RX11 103 (48), Cond.constantLong RX11 105 (57), Cond.fieldLink RX11 111 "AbsentPraiseModel" "numberAt" "I", Cond.methodLink RX11 152 yX11_takeBench, Cond.instanceMethod yX11_takeBench, Cond.selects RX11 yX11_takeBench yX11_takeBench, Cond.code yX11_takeBench cX11_takeBench 2 (some .int), Cond.fieldLink RX11 126 "AbsentPraiseModel" "first" "I", Cond.methodLink RX11 133 yX11_takePair, Cond.instanceMethod yX11_takePair, Cond.selects RX11 yX11_takePair yX11_takePair, Cond.code yX11_takePair cX11_takePair 3 (some .int), Cond.methodLink RX11 129 yX11_has, Cond.static yX11_has, Cond.code yX11_has cX11_has 2 (some .boolean), Cond.methodLink RX11 155 yX11_takeWay, Cond.instanceMethod yX11_takeWay, Cond.selects RX11 yX11_takeWay yX11_takeWay, Cond.code yX11_takeWay cX11_takeWay 2 (some .int), Cond.methodLink RX11 158 yX11_takePerson, Cond.instanceMethod yX11_takePerson]
noncomputable def wsL_law_r17 : List Cond := [Cond.selects RX11 yX11_takePerson yX11_takePerson, Cond.code yX11_takePerson cX11_takePerson 2 (some .int), Cond.methodLink RX11 161 yX11_takeLiking, Cond.instanceMethod yX11_takeLiking, Cond.selects RX11 yX11_takeLiking yX11_takeLiking, Cond.code yX11_takeLiking cX11_takeLiking 4 (some .int), Cond.methodLink RX11 183 yX11_takeRead, Cond.instanceMethod yX11_takeRead, Cond.selects RX11 yX11_takeRead yX11_takeRead, Cond.code yX11_takeRead cX11_takeRead 2 none, Cond.fieldLink RX11 171 "AbsentPraiseModel" "cold" "I", Cond.fieldLink RX11 174 "AbsentPraiseModel" "benches" "I", Cond.fieldLink RX11 177 "AbsentPraiseModel" "ways" "I", Cond.methodLink RL 23 yX10_fault, Cond.instanceMethod yX10_fault, Cond.selects RX10 yX10_fault yX10_fault, Cond.code yX10_fault cX10_fault 1 (some .int), Cond.fieldLink RX10 126 "AbsentPraise$Telling" "faultPlace" "I", Cond.methodLink RL 26 yX11_fault, Cond.instanceMethod yX11_fault, Cond.selects RX11 yX11_fault yX11_fault, Cond.code yX11_fault cX11_fault 1 (some .int), Cond.methodLink RL 27 yX10_told, Cond.instanceMethod yX10_told]
noncomputable def wsL_law_r18 : List Cond := [Cond.selects RX10 yX10_told yX10_told, Cond.code yX10_told cX10_told 2 (some .int), Cond.fieldLink RX10 129 "AbsentPraise$Hill" "rooms" "I", Cond.fieldLink RX10 132 "AbsentPraise$Hill" "cold" "I", Cond.fieldLink RX10 135 "AbsentPraise$Hill" "benches" "I", Cond.fieldLink RX10 138 "AbsentPraise$Hill" "wayCount" "I", Cond.fieldLink RX10 141 "AbsentPraise$Talk" "hours" "I", Cond.fieldLink RX10 144 "AbsentPraise$Talk" "coughers" "I", Cond.fieldLink RX10 157 "AbsentPraise$Past" "count" "I", Cond.methodLink RX10 147 yX9_praised, Cond.instanceMethod yX9_praised, Cond.selects RX9 yX9_praised yX9_praised, Cond.code yX9_praised cX9_praised 5 (some .int), Cond.fieldLink RX9 103 "AbsentPraise$Hill" "persons" "I", Cond.methodLink RX9 115 yX9_saidOf, Cond.instanceMethod yX9_saidOf, Cond.selects RX9 yX9_saidOf yX9_saidOf, Cond.code yX9_saidOf cX9_saidOf 4 (some .int), Cond.methodLink RX9 118 yX4_saysNow, Cond.instanceMethod yX4_saysNow, Cond.selects RX4 yX4_saysNow yX4_saysNow, Cond.code yX4_saysNow cX4_saysNow 3 (some .int), Cond.fieldLink RX4 25 "AbsentPraise$Talk" "rooms" "[I", Cond.fieldLink RX4 63 "AbsentPraise$Talk" "coughers" "I"]
noncomputable def wsL_law_r19 : List Cond := [Cond.methodLink RX4 66 yX4_says, Cond.instanceMethod yX4_says, Cond.selects RX4 yX4_says yX4_says, Cond.code yX4_says cX4_says 8 (some .int), Cond.fieldLink RX4 46 "AbsentPraise$Hill" "kinds" "[I", Cond.fieldLink RX4 52 "AbsentPraise$Talk" "likings" "[I", Cond.methodLink RX4 49 yX4_reaches, Cond.instanceMethod yX4_reaches, Cond.selects RX4 yX4_reaches yX4_reaches, Cond.code yX4_reaches cX4_reaches 3 (some .boolean), Cond.fieldLink RX4 43 "AbsentPraise$Hill" "heard" "[I", Cond.static yX10_words, Cond.code yX10_words cX10_words 4 (some .int), Cond.methodLink RX10 151 yX9_silentPairs, Cond.instanceMethod yX9_silentPairs, Cond.selects RX9 yX9_silentPairs yX9_silentPairs, Cond.code yX9_silentPairs cX9_silentPairs 4 (some .int), Cond.methodLink RX9 121 yX9_isSilent, Cond.instanceMethod yX9_isSilent, Cond.selects RX9 yX9_isSilent yX9_isSilent, Cond.code yX9_isSilent cX9_isSilent 3 (some .boolean), Cond.methodLink RX10 154 yX9_cover, Cond.instanceMethod yX9_cover, Cond.selects RX9 yX9_cover yX9_cover]
noncomputable def wsL_law_r20 : List Cond := [Cond.code yX9_cover cX9_cover 3 (some .int), Cond.fieldLink RX9 76 "AbsentPraise$Hill" "rooms" "I", Cond.methodLink RX9 124 yX9_covers, Cond.instanceMethod yX9_covers, Cond.selects RX9 yX9_covers yX9_covers, Cond.code yX9_covers cX9_covers 3 (some .boolean), Cond.fieldLink RX9 128 "AbsentPraise$Hill" "heard" "[I", Cond.static yX10_isSmaller, Cond.code yX10_isSmaller cX10_isSmaller 3 (some .boolean), Cond.methodLink RX10 277 yJ6_bitCount_0f7a4, Cond.static yJ6_bitCount_0f7a4, Cond.initialized RJ6, Cond.code yJ6_bitCount_0f7a4 cJ6_bitCount_0f7a4 1 (some .int), Cond.constant RJ6 265 (1431655765), Cond.constant RJ6 266 (858993459), Cond.constant RJ6 267 (252645135), Cond.methodLink RL 30 yX11_told, Cond.instanceMethod yX11_told, Cond.selects RX11 yX11_told yX11_told, Cond.code yX11_told cX11_told 2 (some .int), Cond.methodLink RX11 218 yX11_praised, Cond.instanceMethod yX11_praised, Cond.selects RX11 yX11_praised yX11_praised, Cond.code yX11_praised cX11_praised 6 (some .int)]
noncomputable def wsL_law_r21 : List Cond := [Cond.constant RX11 214 (-1000000), Cond.methodLink RX11 206 yX11_says, Cond.instanceMethod yX11_says, Cond.selects RX11 yX11_says yX11_says, Cond.code yX11_says cX11_says 5 (some .int), Cond.methodLink RX11 195 yX11_isThere, Cond.instanceMethod yX11_isThere, Cond.selects RX11 yX11_isThere yX11_isThere, Cond.code yX11_isThere cX11_isThere 4 (some .boolean), Cond.methodLink RX11 199 yX11_sayBy, Cond.static yX11_sayBy, Cond.code yX11_sayBy cX11_sayBy 4 (some .int), Cond.methodLink RX11 221 yX11_silentBy, Cond.instanceMethod yX11_silentBy, Cond.selects RX11 yX11_silentBy yX11_silentBy, Cond.code yX11_silentBy cX11_silentBy 5 (some .int), Cond.methodLink RX11 224 yX11_cover, Cond.instanceMethod yX11_cover, Cond.selects RX11 yX11_cover yX11_cover, Cond.code yX11_cover cX11_cover 5 (some .int), Cond.methodLink RX11 215 yX11_ones, Cond.static yX11_ones, Cond.code yX11_ones cX11_ones 3 (some .int), Cond.methodLink RL 31 yX10_room]
noncomputable def wsL_law_r22 : List Cond := [Cond.instanceMethod yX10_room, Cond.selects RX10 yX10_room yX10_room, Cond.code yX10_room cX10_room 3 (some .int), Cond.constant RX10 162 (-1000000001), Cond.fieldLink RX10 169 "AbsentPraise$Hill" "heard" "[I", Cond.fieldLink RX10 177 "AbsentPraise$Hill" "ways" "[I", Cond.methodLink RX10 158 yX2_isRoom, Cond.instanceMethod yX2_isRoom, Cond.selects RX2 yX2_isRoom yX2_isRoom, Cond.code yX2_isRoom cX2_isRoom 2 (some .boolean), Cond.methodLink RX10 163 yX10_bit, Cond.methodLink RX10 166 yX4_personsIn, Cond.instanceMethod yX4_personsIn, Cond.selects RX4 yX4_personsIn yX4_personsIn, Cond.code yX4_personsIn cX4_personsIn 4 (some .int), Cond.fieldLink RX4 19 "AbsentPraise$Hill" "persons" "I", Cond.methodLink RX10 173 yX10_at, Cond.methodLink RL 35 yX11_room, Cond.instanceMethod yX11_room, Cond.selects RX11 yX11_room yX11_room, Cond.code yX11_room cX11_room 3 (some .int), Cond.constant RX11 230 (-1000000001), Cond.methodLink RX11 227 yX11_isRoom, Cond.instanceMethod yX11_isRoom]
noncomputable def wsL_law_r23 : List Cond := [Cond.selects RX11 yX11_isRoom yX11_isRoom, Cond.code yX11_isRoom cX11_isRoom 2 (some .boolean), Cond.methodLink RX11 231 yX11_whoIsIn, Cond.instanceMethod yX11_whoIsIn, Cond.selects RX11 yX11_whoIsIn yX11_whoIsIn, Cond.code yX11_whoIsIn cX11_whoIsIn 4 (some .int), Cond.methodLink RL 36 yX10_person, Cond.instanceMethod yX10_person, Cond.selects RX10 yX10_person yX10_person, Cond.code yX10_person cX10_person 3 (some .int), Cond.fieldLink RX10 183 "AbsentPraise$Hill" "kinds" "[I", Cond.fieldLink RX10 186 "AbsentPraise$Talk" "rooms" "[I", Cond.fieldLink RX10 188 "AbsentPraise$Talk" "warms" "[I", Cond.fieldLink RX10 191 "AbsentPraise$Talk" "chills" "[I", Cond.methodLink RX10 180 yX2_isPerson, Cond.instanceMethod yX2_isPerson, Cond.selects RX2 yX2_isPerson yX2_isPerson, Cond.code yX2_isPerson cX2_isPerson 2 (some .boolean), Cond.methodLink RX10 194 yX10_has, Cond.methodLink RL 39 yX11_person, Cond.instanceMethod yX11_person, Cond.selects RX11 yX11_person yX11_person, Cond.code yX11_person cX11_person 3 (some .int), Cond.methodLink RX11 85 yX11_isPerson]
noncomputable def wsL_law_r24 : List Cond := [Cond.instanceMethod yX11_isPerson, Cond.selects RX11 yX11_isPerson yX11_isPerson, Cond.code yX11_isPerson cX11_isPerson 2 (some .boolean), Cond.methodLink RL 40 yX10_liking, Cond.instanceMethod yX10_liking, Cond.selects RX10 yX10_liking yX10_liking, Cond.code yX10_liking cX10_liking 3 (some .int), Cond.fieldLink RX10 201 "AbsentPraise$Talk" "likings" "[I", Cond.methodLink RX10 198 yX2_isPair, Cond.instanceMethod yX2_isPair, Cond.selects RX2 yX2_isPair yX2_isPair, Cond.code yX2_isPair cX2_isPair 3 (some .boolean), Cond.methodLink RX2 56 yX2_isPerson, Cond.methodLink RX10 204 yX10_pairIndex, Cond.methodLink RL 43 yX11_liking, Cond.instanceMethod yX11_liking, Cond.selects RX11 yX11_liking yX11_liking, Cond.code yX11_liking cX11_liking 3 (some .int), Cond.methodLink RX11 234 yX11_areTwo, Cond.instanceMethod yX11_areTwo, Cond.selects RX11 yX11_areTwo yX11_areTwo, Cond.code yX11_areTwo cX11_areTwo 3 (some .boolean), Cond.methodLink RL 44 yX10_said, Cond.instanceMethod yX10_said]
noncomputable def wsL_law_r25 : List Cond := [Cond.selects RX10 yX10_said yX10_said, Cond.code yX10_said cX10_said 4 (some .int), Cond.methodLink RX10 208 yX4_saysNow, Cond.methodLink RX10 211 yX4_reaches, Cond.methodLink RL 48 yX11_said, Cond.instanceMethod yX11_said, Cond.selects RX11 yX11_said yX11_said, Cond.code yX11_said cX11_said 4 (some .int), Cond.methodLink RX11 210 yX11_hears, Cond.instanceMethod yX11_hears, Cond.selects RX11 yX11_hears yX11_hears, Cond.code yX11_hears cX11_hears 4 (some .boolean), Cond.methodLink RL 49 yX10_hour, Cond.instanceMethod yX10_hour, Cond.selects RX10 yX10_hour yX10_hour, Cond.code yX10_hour cX10_hour 4 (some .int), Cond.methodLink RX10 214 yX10_refusalOfHours, Cond.instanceMethod yX10_refusalOfHours, Cond.selects RX10 yX10_refusalOfHours yX10_refusalOfHours, Cond.code yX10_refusalOfHours cX10_refusalOfHours 2 (some .int), Cond.constant RX10 227 (-1000000003), Cond.methodLink RX10 313 yX2_isTold, Cond.methodLink RX10 217 yX6_remember, Cond.instanceMethod yX6_remember]
noncomputable def wsL_law_r26 : List Cond := [Cond.selects RX6 yX6_remember yX6_remember, Cond.code yX6_remember cX6_remember 3 none, Cond.fieldLink RX6 18 "AbsentPraise$Past" "next" "I", Cond.methodLink RX6 33 Lib.Math.min.name, Cond.methodLink RX6 22 yX6_slotAt, Cond.instanceMethod yX6_slotAt, Cond.selects RX6 yX6_slotAt yX6_slotAt, Cond.code yX6_slotAt cX6_slotAt 2 (some (.object "AbsentPraise$Talk")), Cond.methodLink RX6 26 yX7_copyFrom, Cond.instanceMethod yX7_copyFrom, Cond.selects RX7 yX7_copyFrom yX7_copyFrom, Cond.code yX7_copyFrom cX7_copyFrom 2 none, Cond.methodLink RX10 221 yX4_passHour, Cond.instanceMethod yX4_passHour, Cond.selects RX4 yX4_passHour yX4_passHour, Cond.code yX4_passHour cX4_passHour 3 none, Cond.fieldLink RX4 75 "AbsentPraise$Talk" "hours" "I", Cond.fieldLink RX4 81 "AbsentPraise$Talk" "warms" "[I", Cond.fieldLink RX4 94 "AbsentPraise$Hill" "cold" "I", Cond.fieldLink RX4 97 "AbsentPraise$Talk" "chills" "[I", Cond.methodLink RX4 78 yX4_spokenOfBy, Cond.instanceMethod yX4_spokenOfBy, Cond.selects RX4 yX4_spokenOfBy yX4_spokenOfBy, Cond.code yX4_spokenOfBy cX4_spokenOfBy 3 (some .int)]
noncomputable def wsL_law_r27 : List Cond := [Cond.methodLink RX4 70 yJ9_floorMod_7cf53, Cond.static yJ9_floorMod_7cf53, Cond.initialized RJ9, Cond.code yJ9_floorMod_7cf53 cJ9_floorMod_7cf53 3 (some .int), Cond.methodLink RX4 84 yX4_saysNow, Cond.methodLink RX4 87 yX4_warmer, Cond.instanceMethod yX4_warmer, Cond.selects RX4 yX4_warmer yX4_warmer, Cond.code yX4_warmer cX4_warmer 3 (some .int), Cond.static yX10_bounded, Cond.code yX10_bounded cX10_bounded 3 (some .int), Cond.methodLink RX10 330 Lib.Math.max.name, Cond.static Lib.Math.max.name, Cond.code Lib.Math.max.name Lib.Math.max.code 2 (some .int), Cond.methodLink RL 52 yX11_hour, Cond.instanceMethod yX11_hour, Cond.selects RX11 yX11_hour yX11_hour, Cond.code yX11_hour cX11_hour 4 (some .int), Cond.methodLink RX11 240 yX11_hoursRefused, Cond.instanceMethod yX11_hoursRefused, Cond.selects RX11 yX11_hoursRefused yX11_hoursRefused, Cond.code yX11_hoursRefused cX11_hoursRefused 2 (some .int), Cond.constantLong RX11 237 (60), Cond.constant RX11 239 (-1000000003)]
noncomputable def wsL_law_r28 : List Cond := [Cond.methodLink RX11 243 yX11_remember, Cond.instanceMethod yX11_remember, Cond.selects RX11 yX11_remember yX11_remember, Cond.code yX11_remember cX11_remember 2 none, Cond.methodLink RX11 246 yX11_passes, Cond.instanceMethod yX11_passes, Cond.selects RX11 yX11_passes yX11_passes, Cond.code yX11_passes cX11_passes 5 none, Cond.methodLink RX11 203 yX11_spokenOf, Cond.instanceMethod yX11_spokenOf, Cond.selects RX11 yX11_spokenOf yX11_spokenOf, Cond.code yX11_spokenOf cX11_spokenOf 3 (some .int), Cond.methodLink RL 53 yX10_go, Cond.instanceMethod yX10_go, Cond.selects RX10 yX10_go yX10_go, Cond.code yX10_go cX10_go 4 (some .int), Cond.methodLink RX10 224 yX2_isWay, Cond.methodLink RX10 228 yX10_put, Cond.methodLink RL 56 yX11_go, Cond.instanceMethod yX11_go, Cond.selects RX11 yX11_go yX11_go, Cond.code yX11_go cX11_go 4 (some .int), Cond.methodLink RL 57 yX10_cough, Cond.instanceMethod yX10_cough]
noncomputable def wsL_law_r29 : List Cond := [Cond.selects RX10 yX10_cough yX10_cough, Cond.code yX10_cough cX10_cough 2 (some .int), Cond.methodLink RL 60 yX11_cough, Cond.instanceMethod yX11_cough, Cond.selects RX11 yX11_cough yX11_cough, Cond.code yX11_cough cX11_cough 2 (some .int), Cond.methodLink RL 61 yX10_like, Cond.instanceMethod yX10_like, Cond.selects RX10 yX10_like yX10_like, Cond.code yX10_like cX10_like 5 (some .int), Cond.methodLink RL 64 yX11_like, Cond.instanceMethod yX11_like, Cond.selects RX11 yX11_like yX11_like, Cond.code yX11_like cX11_like 5 (some .int), Cond.constantLong RX11 250 (9), Cond.methodLink RL 65 yX10_drift, Cond.instanceMethod yX10_drift, Cond.selects RX10 yX10_drift yX10_drift, Cond.code yX10_drift cX10_drift 4 (some .int), Cond.methodLink RX10 232 yX10_drawDeed, Cond.instanceMethod yX10_drawDeed, Cond.selects RX10 yX10_drawDeed yX10_drawDeed, Cond.code yX10_drawDeed cX10_drawDeed 6 none, Cond.methodLink RX10 316 yX1_next]
noncomputable def wsL_law_r30 : List Cond := [Cond.instanceMethod yX1_next, Cond.selects RX1 yX1_next yX1_next, Cond.code yX1_next cX1_next 2 (some .int), Cond.fieldLink RX1 7 "AbsentPraise$Draws" "state" "I", Cond.constantLong RX1 13 (1103515245), Cond.constantLong RX1 15 (12345), Cond.constantLong RX1 17 (2147483647), Cond.constant RX1 19 (65536), Cond.methodLink RL 68 yX11_drift, Cond.instanceMethod yX11_drift, Cond.selects RX11 yX11_drift yX11_drift, Cond.code yX11_drift cX11_drift 4 (some .int), Cond.methodLink RX11 265 yX11_chance, Cond.instanceMethod yX11_chance, Cond.selects RX11 yX11_chance yX11_chance, Cond.code yX11_chance cX11_chance 5 none, Cond.methodLink RX11 262 yX11_draw, Cond.instanceMethod yX11_draw, Cond.selects RX11 yX11_draw yX11_draw, Cond.code yX11_draw cX11_draw 2 (some .int), Cond.fieldLink RX11 252 "AbsentPraiseModel" "seed" "I", Cond.constantLong RX11 255 (1103515245), Cond.constantLong RX11 257 (12345), Cond.constantLong RX11 259 (2147483648)]
noncomputable def wsL_law_r31 : List Cond := [Cond.constant RX11 261 (65536), Cond.methodLink RL 69 yX10_undo, Cond.instanceMethod yX10_undo, Cond.selects RX10 yX10_undo yX10_undo, Cond.code yX10_undo cX10_undo 1 (some .int), Cond.methodLink RX10 235 yX6_recall, Cond.instanceMethod yX6_recall, Cond.selects RX6 yX6_recall yX6_recall, Cond.code yX6_recall cX6_recall 4 (some .boolean), Cond.methodLink RL 72 yX11_undo, Cond.instanceMethod yX11_undo, Cond.selects RX11 yX11_undo yX11_undo, Cond.code yX11_undo cX11_undo 2 (some .int), Cond.methodLink RL 73 yX10_warm, Cond.instanceMethod yX10_warm, Cond.selects RX10 yX10_warm yX10_warm, Cond.code yX10_warm cX10_warm 3 (some .int), Cond.methodLink RX10 239 yX9_warmBehind, Cond.instanceMethod yX9_warmBehind, Cond.selects RX9 yX9_warmBehind yX9_warmBehind, Cond.code yX9_warmBehind cX9_warmBehind 6 (some .int), Cond.fieldLink RX9 63 "AbsentPraise$Talk" "warms" "[I", Cond.methodLink RX9 66 yX9_heardIn, Cond.instanceMethod yX9_heardIn]
noncomputable def wsL_law_r32 : List Cond := [Cond.selects RX9 yX9_heardIn yX9_heardIn, Cond.code yX9_heardIn cX9_heardIn 6 (some .int), Cond.fieldLink RX9 30 "AbsentPraise$Talk" "hours" "I", Cond.fieldLink RX9 42 "AbsentPraise$Talk" "rooms" "[I", Cond.fieldLink RX9 53 "AbsentPraise$Talk" "coughers" "I", Cond.methodLink RX9 36 yX4_speakerOf, Cond.instanceMethod yX4_speakerOf, Cond.selects RX4 yX4_speakerOf yX4_speakerOf, Cond.code yX4_speakerOf cX4_speakerOf 3 (some .int), Cond.methodLink RX9 49 yX4_reaches, Cond.methodLink RX9 59 yX4_says, Cond.methodLink RX9 70 yX4_warmer, Cond.methodLink RL 76 yX11_warm, Cond.instanceMethod yX11_warm, Cond.selects RX11 yX11_warm yX11_warm, Cond.code yX11_warm cX11_warm 4 (some .int), Cond.constantLong RX11 268 (100), Cond.methodLink RX11 270 yX11_tries, Cond.instanceMethod yX11_tries, Cond.selects RX11 yX11_tries yX11_tries, Cond.code yX11_tries cX11_tries 2 none, Cond.methodLink RL 77 yX10_bestRoom, Cond.instanceMethod yX10_bestRoom, Cond.selects RX10 yX10_bestRoom yX10_bestRoom]
noncomputable def wsL_law_r33 : List Cond := [Cond.code yX10_bestRoom cX10_bestRoom 5 (some .int), Cond.methodLink RX10 243 yX9_warmestRoom, Cond.instanceMethod yX9_warmestRoom, Cond.selects RX9 yX9_warmestRoom yX9_warmestRoom, Cond.code yX9_warmestRoom cX9_warmestRoom 7 (some .int), Cond.methodLink RX9 73 yX9_warmBehind, Cond.methodLink RL 80 yX11_bestRoom, Cond.instanceMethod yX11_bestRoom, Cond.selects RX11 yX11_bestRoom yX11_bestRoom, Cond.code yX11_bestRoom cX11_bestRoom 8 (some .int), Cond.constantLong RX11 273 (30), Cond.methodLink RL 81 yX10_route, Cond.instanceMethod yX10_route, Cond.selects RX10 yX10_route yX10_route, Cond.code yX10_route cX10_route 5 (some .int), Cond.methodLink RX10 246 yX9_firstOfRoute, Cond.instanceMethod yX9_firstOfRoute, Cond.selects RX9 yX9_firstOfRoute yX9_firstOfRoute, Cond.code yX9_firstOfRoute cX9_firstOfRoute 5 (some .int), Cond.methodLink RX9 80 yJ7_fill_53178, Cond.methodLink RX9 90 yX9_bestStep, Cond.instanceMethod yX9_bestStep, Cond.selects RX9 yX9_bestStep yX9_bestStep, Cond.code yX9_bestStep cX9_bestStep 5 (some .int)]
noncomputable def wsL_law_r34 : List Cond := [Cond.methodLink RX9 97 yX2_isWay, Cond.methodLink RX9 94 yX9_worthOf, Cond.instanceMethod yX9_worthOf, Cond.selects RX9 yX9_worthOf yX9_worthOf, Cond.code yX9_worthOf cX9_worthOf 2 (some .int), Cond.methodLink RX10 249 yX9_worthOf, Cond.methodLink RL 84 yX11_route, Cond.instanceMethod yX11_route, Cond.selects RX11 yX11_route yX11_route, Cond.code yX11_route cX11_route 12 (some .int), Cond.constantLong RX11 275 (8), Cond.methodLink RX11 277 yX11_warmer, Cond.instanceMethod yX11_warmer, Cond.selects RX11 yX11_warmer yX11_warmer, Cond.code yX11_warmer cX11_warmer 7 (some .int), Cond.methodLink RL 85 yX10_leavers, Cond.instanceMethod yX10_leavers, Cond.selects RX10 yX10_leavers yX10_leavers, Cond.code yX10_leavers cX10_leavers 4 (some .int), Cond.methodLink RX10 252 yX9_bestLeavers, Cond.instanceMethod yX9_bestLeavers, Cond.selects RX9 yX9_bestLeavers yX9_bestLeavers, Cond.code yX9_bestLeavers cX9_bestLeavers 6 (some .int), Cond.methodLink RX9 100 yX9_saidTogether]
noncomputable def wsL_law_r35 : List Cond := [Cond.instanceMethod yX9_saidTogether, Cond.selects RX9 yX9_saidTogether yX9_saidTogether, Cond.code yX9_saidTogether cX9_saidTogether 8 (some .int), Cond.methodLink RX9 112 yX4_spokenOfBy, Cond.methodLink RX10 255 yX9_saidTogether, Cond.methodLink RL 88 yX11_leavers, Cond.instanceMethod yX11_leavers, Cond.selects RX11 yX11_leavers yX11_leavers, Cond.code yX11_leavers cX11_leavers 8 (some .int), Cond.methodLink RX11 281 yX11_saidAll, Cond.instanceMethod yX11_saidAll, Cond.selects RX11 yX11_saidAll yX11_saidAll, Cond.code yX11_saidAll cX11_saidAll 5 (some .int), Cond.methodLink RL 89 yX10_silent, Cond.instanceMethod yX10_silent, Cond.selects RX10 yX10_silent yX10_silent, Cond.code yX10_silent cX10_silent 2 (some .int), Cond.methodLink RX10 258 yX9_silentPair, Cond.instanceMethod yX9_silentPair, Cond.selects RX9 yX9_silentPair yX9_silentPair, Cond.code yX9_silentPair cX9_silentPair 5 (some .int), Cond.methodLink RL 92 yX11_silent, Cond.instanceMethod yX11_silent, Cond.selects RX11 yX11_silent yX11_silent]
noncomputable def wsL_law_r36 : List Cond := [Cond.code yX11_silent cX11_silent 2 (some .int), Cond.methodLink RL 93 yX10_carried, Cond.instanceMethod yX10_carried, Cond.selects RX10 yX10_carried yX10_carried, Cond.code yX10_carried cX10_carried 3 (some .int), Cond.methodLink RX10 261 yX9_hoursTillAllKnow, Cond.instanceMethod yX9_hoursTillAllKnow, Cond.selects RX9 yX9_hoursTillAllKnow yX9_hoursTillAllKnow, Cond.code yX9_hoursTillAllKnow cX9_hoursTillAllKnow 4 (some .int), Cond.methodLink RX9 131 yX9_spread, Cond.instanceMethod yX9_spread, Cond.selects RX9 yX9_spread yX9_spread, Cond.code yX9_spread cX9_spread 5 (some .int), Cond.methodLink RX9 134 yX4_personsIn, Cond.methodLink RX10 264 yX9_knownBehind, Cond.instanceMethod yX9_knownBehind, Cond.selects RX9 yX9_knownBehind yX9_knownBehind, Cond.code yX9_knownBehind cX9_knownBehind 5 (some .int), Cond.methodLink RL 96 yX11_carried, Cond.instanceMethod yX11_carried, Cond.selects RX11 yX11_carried yX11_carried, Cond.code yX11_carried cX11_carried 5 (some .int), Cond.constantLong RX11 284 (-1), Cond.constantLong RX11 286 (20)]
noncomputable def wsL_law_r37 : List Cond := [Cond.methodLink RX11 288 yX11_knowThen, Cond.instanceMethod yX11_knowThen, Cond.selects RX11 yX11_knowThen yX11_knowThen, Cond.code yX11_knowThen cX11_knowThen 5 (some .int), Cond.methodLink RL 97 yX10_hale, Cond.instanceMethod yX10_hale, Cond.selects RX10 yX10_hale yX10_hale, Cond.code yX10_hale cX10_hale 6 (some .int), Cond.constantLong RX10 267 (1000000000), Cond.constantLong RX10 269 (100), Cond.methodLink RL 100 yX11_hale, Cond.instanceMethod yX11_hale, Cond.selects RX11 yX11_hale yX11_hale, Cond.code yX11_hale cX11_hale 6 (some .int), Cond.constantLong RX11 291 (1000000000), Cond.methodLink RL 101 yX10_note, Cond.instanceMethod yX10_note, Cond.selects RX10 yX10_note yX10_note, Cond.code yX10_note cX10_note 4 (some .int), Cond.methodLink RX10 271 yX5_add, Cond.instanceMethod yX5_add, Cond.selects RX5 yX5_add yX5_add, Cond.code yX5_add cX5_add 4 (some .int), Cond.fieldLink RX5 21 "AbsentPraise$Notes" "count" "I"]
noncomputable def wsL_law_r38 : List Cond := [Cond.methodLink RL 105 yX11_note, Cond.instanceMethod yX11_note, Cond.selects RX11 yX11_note yX11_note, Cond.code yX11_note cX11_note 4 (some .int), Cond.constantLong RX11 293 (2), Cond.constantLong RX11 295 (-9), Cond.methodLink RL 106 yX10_thinks, Cond.instanceMethod yX10_thinks, Cond.selects RX10 yX10_thinks yX10_thinks, Cond.code yX10_thinks cX10_thinks 2 (some .int), Cond.methodLink RX10 274 yX5_fitting, Cond.instanceMethod yX5_fitting, Cond.selects RX5 yX5_fitting yX5_fitting, Cond.code yX5_fitting cX5_fitting 3 (some .int), Cond.methodLink RX5 29 yX5_fits, Cond.instanceMethod yX5_fits, Cond.selects RX5 yX5_fits yX5_fits, Cond.code yX5_fits cX5_fits 3 (some .boolean), Cond.methodLink RX10 282 yX5_leastFitting, Cond.instanceMethod yX5_leastFitting, Cond.selects RX5 yX5_leastFitting yX5_leastFitting, Cond.code yX5_leastFitting cX5_leastFitting 3 (some .int), Cond.methodLink RX5 45 yX5_fitting, Cond.methodLink RX10 285 yX5_greatestFitting]
noncomputable def wsL_law_r39 : List Cond := [Cond.instanceMethod yX5_greatestFitting, Cond.selects RX5 yX5_greatestFitting yX5_greatestFitting, Cond.code yX5_greatestFitting cX5_greatestFitting 3 (some .int), Cond.methodLink RL 109 yX11_thinks, Cond.instanceMethod yX11_thinks, Cond.selects RX11 yX11_thinks yX11_thinks, Cond.code yX11_thinks cX11_thinks 6 (some .int), Cond.methodLink RX11 297 yX11_isSo, Cond.instanceMethod yX11_isSo, Cond.selects RX11 yX11_isSo yX11_isSo, Cond.code yX11_isSo cX11_isSo 4 (some .boolean), Cond.methodLink RL 110 yX10_ask, Cond.instanceMethod yX10_ask, Cond.selects RX10 yX10_ask yX10_ask, Cond.code yX10_ask cX10_ask 2 (some .int), Cond.methodLink RX10 288 yX5_bestQuestion, Cond.instanceMethod yX5_bestQuestion, Cond.selects RX5 yX5_bestQuestion yX5_bestQuestion, Cond.code yX5_bestQuestion cX5_bestQuestion 5 (some .int), Cond.methodLink RX5 56 Lib.Math.min.name, Cond.methodLink RX5 53 yX5_greatestPart, Cond.instanceMethod yX5_greatestPart, Cond.selects RX5 yX5_greatestPart yX5_greatestPart, Cond.code yX5_greatestPart cX5_greatestPart 8 (some .int)]
noncomputable def wsL_law_r40 : List Cond := [Cond.methodLink RX5 67 Lib.Math.max.name, Cond.methodLink RX5 62 yJ6_bitCount_0f7a4, Cond.methodLink RL 113 yX11_ask, Cond.instanceMethod yX11_ask, Cond.selects RX11 yX11_ask yX11_ask, Cond.code yX11_ask cX11_ask 9 (some .int), Cond.methodLink RX11 300 yX11_thinks, Cond.methodLink RL 114 yX10_listens, Cond.instanceMethod yX10_listens, Cond.selects RX10 yX10_listens yX10_listens, Cond.code yX10_listens cX10_listens 4 (some .int), Cond.methodLink RX10 291 yX9_listeningRooms, Cond.instanceMethod yX9_listeningRooms, Cond.selects RX9 yX9_listeningRooms yX9_listeningRooms, Cond.code yX9_listeningRooms cX9_listeningRooms 6 (some .int), Cond.methodLink RL 117 yX11_listens, Cond.instanceMethod yX11_listens, Cond.selects RX11 yX11_listens yX11_listens, Cond.code yX11_listens cX11_listens 6 (some .int), Cond.methodLink RL 118 yX10_write, Cond.instanceMethod yX10_write, Cond.selects RX10 yX10_write yX10_write, Cond.code yX10_write cX10_write 3 (some .int), Cond.methodLink RX10 294 yX0_add]
noncomputable def wsL_law_r41 : List Cond := [Cond.instanceMethod yX0_add, Cond.selects RX0 yX0_add yX0_add, Cond.code yX0_add cX0_add 3 (some .int), Cond.fieldLink RX0 18 "AbsentPraise$Book" "count" "I", Cond.methodLink RL 121 yX11_write, Cond.instanceMethod yX11_write, Cond.selects RX11 yX11_write yX11_write, Cond.code yX11_write cX11_write 3 (some .int), Cond.constantLong RX11 303 (-9999), Cond.constantLong RX11 305 (9999), Cond.methodLink RL 122 yX10_tear, Cond.instanceMethod yX10_tear, Cond.selects RX10 yX10_tear yX10_tear, Cond.code yX10_tear cX10_tear 2 (some .int), Cond.methodLink RL 125 yX11_tear, Cond.instanceMethod yX11_tear, Cond.selects RX11 yX11_tear yX11_tear, Cond.code yX11_tear cX11_tear 2 (some .int), Cond.methodLink RL 126 yX10_judge, Cond.instanceMethod yX10_judge, Cond.selects RX10 yX10_judge yX10_judge, Cond.code yX10_judge cX10_judge 1 (some .int), Cond.methodLink RX10 296 yX0_firstWrong, Cond.instanceMethod yX0_firstWrong]
noncomputable def wsL_law_r42 : List Cond := [Cond.selects RX0 yX0_firstWrong yX0_firstWrong, Cond.code yX0_firstWrong cX0_firstWrong 3 (some .int), Cond.fieldLink RX0 30 "AbsentPraise$Talk" "warms" "[I", Cond.methodLink RL 129 yX11_judge, Cond.instanceMethod yX11_judge, Cond.selects RX11 yX11_judge yX11_judge, Cond.code yX11_judge cX11_judge 2 (some .int), Cond.methodLink RL 130 yX10_seed, Cond.instanceMethod yX10_seed, Cond.selects RX10 yX10_seed yX10_seed, Cond.code yX10_seed cX10_seed 3 (some .int), Cond.fieldLink RX10 300 "AbsentPraise$Draws" "state" "I", Cond.methodLink RL 133 yX11_seed, Cond.instanceMethod yX11_seed, Cond.selects RX11 yX11_seed yX11_seed, Cond.code yX11_seed cX11_seed 3 (some .int), Cond.methodLink RL 134 yX10_keep, Cond.instanceMethod yX10_keep, Cond.selects RX10 yX10_keep yX10_keep, Cond.code yX10_keep cX10_keep 3 (some .int), Cond.fieldLink RX10 307 "AbsentPraise$Image" "talk" "LAbsentPraise$Talk;", Cond.fieldLink RX10 310 "AbsentPraise$Image" "drawn" "I", Cond.methodLink RX10 303 yX10_imageAt, Cond.instanceMethod yX10_imageAt]
noncomputable def wsL_law_r43 : List Cond := [Cond.selects RX10 yX10_imageAt yX10_imageAt, Cond.code yX10_imageAt cX10_imageAt 2 (some (.object "AbsentPraise$Image")), Cond.methodLink RX10 308 yX7_copyFrom, Cond.methodLink RL 137 yX11_keep, Cond.instanceMethod yX11_keep, Cond.selects RX11 yX11_keep yX11_keep, Cond.code yX11_keep cX11_keep 3 (some .int), Cond.methodLink RL 138 yX10_goBack, Cond.instanceMethod yX10_goBack, Cond.selects RX10 yX10_goBack yX10_goBack, Cond.code yX10_goBack cX10_goBack 3 (some .int), Cond.methodLink RL 141 yX11_goBack, Cond.instanceMethod yX11_goBack, Cond.selects RX11 yX11_goBack yX11_goBack, Cond.code yX11_goBack cX11_goBack 3 (some .int)]
noncomputable def wsL_law : List Cond := (wsL_law_r1 ++ (wsL_law_r2 ++ (wsL_law_r3 ++ (wsL_law_r4 ++ (wsL_law_r5 ++ (wsL_law_r6 ++ (wsL_law_r7 ++ (wsL_law_r8 ++ (wsL_law_r9 ++ (wsL_law_r10 ++ (wsL_law_r11 ++ (wsL_law_r12 ++ (wsL_law_r13 ++ (wsL_law_r14 ++ (wsL_law_r15 ++ (wsL_law_r16 ++ (wsL_law_r17 ++ (wsL_law_r18 ++ (wsL_law_r19 ++ (wsL_law_r20 ++ (wsL_law_r21 ++ (wsL_law_r22 ++ (wsL_law_r23 ++ (wsL_law_r24 ++ (wsL_law_r25 ++ (wsL_law_r26 ++ (wsL_law_r27 ++ (wsL_law_r28 ++ (wsL_law_r29 ++ (wsL_law_r30 ++ (wsL_law_r31 ++ (wsL_law_r32 ++ (wsL_law_r33 ++ (wsL_law_r34 ++ (wsL_law_r35 ++ (wsL_law_r36 ++ (wsL_law_r37 ++ (wsL_law_r38 ++ (wsL_law_r39 ++ (wsL_law_r40 ++ (wsL_law_r41 ++ (wsL_law_r42 ++ wsL_law_r43)))))))))))))))))))))))))))))))))))))))))) ++ wsX100 ++ wsX110 ++ wsX80 ++ wsX20 ++ wsX70 ++ wsX40 ++ wsX90 ++ wsX60 ++ wsX50 ++ wsX00 ++ wsX10 ++ wsX30 ++ ([] : List Cond)
set_option maxRecDepth 20000 in
theorem wsL_law_in : ∀ w ∈ wsL_law, w ∈ lw_tbl := fun w h => (goodIn_r (big := lw_tbl) wsL_law [74, 75, 58, 897, 898, 69, 76, 77, 78, 79, 80, 81, 82, 83, 59, 345, 178, 89, 60, 346, 180, 181, 61, 347, 222, 223, 62, 348, 235, 236, 63, 349, 257, 258, 64, 350, 277, 278, 65, 351, 297, 298, 66, 352, 314, 315, 67, 353, 325, 354, 327, 68, 85, 86, 87, 151, 152, 88, 153, 159, 91, 92, 93, 94, 98, 100, 103, 105, 183, 184, 185, 186, 190, 195, 198, 224, 225, 226, 227, 228, 229, 237, 238, 239, 240, 244, 245, 241, 242, 243, 259, 260, 261, 262, 263, 266, 280, 281, 282, 283, 284, 285, 300, 301, 302, 303, 304, 317, 318, 319, 329, 330, 331, 332, 334, 899, 900, 901, 902, 907, 908, 910, 911, 912, 915, 916, 917, 919, 920, 921, 923, 931, 932, 934, 935, 937, 940, 941, 942, 1027, 943, 903, 376, 377, 378, 379, 383, 156, 384, 380, 381, 382, 385, 386, 387, 388, 155, 390, 391, 1028, 1029, 1030, 1031, 1032, 1036, 922, 1037, 1033, 1034, 1035, 392, 393, 394, 395, 158, 154, 287, 306, 337, 123, 396, 397, 398, 399, 157, 161, 400, 401, 402, 403, 107, 111, 115, 118, 122, 126, 404, 405, 70, 406, 407, 409, 0, 410, 411, 413, 1, 414, 415, 417, 2, 418, 419, 421, 3, 422, 116, 119, 124, 127, 423, 424, 425, 426, 427, 429, 4, 430, 431, 433, 5, 434, 110, 113, 435, 437, 6, 438, 162, 441, 442, 443, 445, 7, 446, 447, 448, 449, 450, 452, 453, 455, 456, 457, 458, 459, 460, 463, 465, 8, 466, 467, 468, 469, 470, 471, 472, 473, 474, 475, 477, 9, 478, 479, 480, 481, 482, 483, 485, 10, 486, 487, 488, 489, 490, 492, 493, 494, 496, 11, 497, 498, 499, 500, 501, 503, 504, 505, 506, 71, 507, 508, 510, 509, 72, 511, 512, 513, 514, 104, 106, 201, 206, 516, 517, 518, 519, 520, 268, 1038, 1039, 1040, 1041, 924, 927, 928, 929, 930, 933, 936, 914, 918, 939, 909, 1042, 1044, 23, 1045, 1046, 1048, 24, 1049, 1050, 1052, 25, 1053, 1054, 1056, 26, 1057, 1058, 1060, 27, 1061, 1062, 1064, 28, 1065, 925, 1066, 1068, 29, 1069, 1070, 1071, 926, 1072, 1074, 30, 1075, 938, 1076, 1078, 31, 1079, 1080, 1081, 1082, 1083, 1085, 32, 1086, 1087, 1089, 33, 1090, 1091, 1093, 34, 1094, 1095, 1097, 35, 1098, 904, 905, 906, 521, 522, 523, 524, 160, 1099, 1100, 1101, 1102, 525, 526, 527, 528, 109, 112, 117, 120, 207, 204, 269, 529, 530, 531, 532, 125, 533, 535, 12, 536, 537, 538, 539, 540, 187, 203, 543, 544, 545, 546, 101, 199, 547, 548, 549, 550, 95, 553, 554, 555, 556, 557, 558, 559, 561, 13, 562, 563, 564, 565, 566, 108, 568, 570, 14, 571, 97, 575, 576, 577, 578, 73, 579, 580, 581, 582, 1103, 1104, 1105, 1106, 1107, 1109, 36, 1110, 1111, 1112, 1114, 37, 1115, 1116, 1118, 38, 1119, 1120, 1121, 1122, 1123, 1125, 39, 1126, 1127, 1129, 40, 1130, 1131, 1132, 1133, 583, 584, 585, 586, 591, 96, 99, 587, 588, 589, 590, 592, 593, 594, 595, 596, 121, 598, 1134, 1135, 1136, 1137, 1142, 1138, 1140, 41, 1141, 1143, 1145, 42, 1146, 599, 600, 601, 602, 102, 189, 193, 196, 603, 604, 605, 606, 607, 1147, 1148, 1149, 1150, 1151, 1153, 43, 1154, 608, 609, 610, 611, 200, 612, 613, 614, 615, 616, 617, 1155, 1156, 1157, 1158, 1159, 1161, 44, 1162, 618, 619, 620, 621, 622, 623, 1163, 1164, 1165, 1166, 1167, 1169, 45, 1170, 624, 625, 626, 627, 628, 630, 15, 631, 633, 632, 634, 635, 636, 637, 267, 646, 638, 640, 16, 641, 642, 643, 644, 645, 647, 648, 649, 650, 208, 194, 114, 197, 651, 652, 653, 654, 655, 656, 71, 657, 658, 659, 660, 661, 662, 664, 665, 666, 667, 668, 1171, 1172, 1173, 1174, 1175, 1177, 46, 1178, 1179, 1180, 1181, 1183, 47, 1184, 1185, 1187, 48, 1188, 1189, 1191, 49, 1192, 670, 671, 672, 673, 674, 675, 1193, 1194, 1195, 1196, 676, 677, 678, 679, 1197, 1198, 1199, 1200, 680, 681, 682, 683, 1201, 1202, 1203, 1204, 1205, 684, 685, 686, 687, 688, 690, 17, 691, 692, 693, 694, 695, 320, 696, 697, 698, 699, 1206, 1207, 1208, 1209, 1210, 1212, 50, 1213, 1214, 1216, 51, 1217, 913, 1218, 1219, 1220, 1221, 700, 701, 702, 703, 704, 705, 706, 707, 1222, 1223, 1224, 1225, 708, 709, 710, 711, 712, 713, 714, 715, 191, 716, 717, 718, 719, 205, 188, 202, 720, 721, 722, 723, 724, 725, 726, 1226, 1227, 1228, 1229, 1230, 1231, 1233, 52, 1234, 727, 728, 729, 730, 731, 732, 733, 734, 735, 1235, 1236, 1237, 1238, 1239, 736, 737, 738, 739, 740, 741, 742, 743, 744, 746, 748, 18, 749, 750, 751, 752, 753, 754, 755, 1240, 1241, 1242, 1243, 1244, 1245, 1247, 53, 1248, 756, 757, 758, 759, 760, 761, 762, 763, 764, 765, 766, 767, 768, 769, 1249, 1250, 1251, 1252, 1253, 1255, 54, 1256, 770, 771, 772, 773, 774, 775, 776, 777, 1257, 1258, 1259, 1260, 778, 779, 780, 781, 782, 783, 784, 785, 786, 788, 19, 789, 790, 791, 792, 793, 794, 1261, 1262, 1263, 1264, 1265, 1266, 1267, 1269, 55, 1270, 795, 796, 797, 798, 799, 800, 1271, 1272, 1273, 1274, 1275, 801, 802, 803, 804, 805, 806, 807, 808, 286, 1276, 1277, 1278, 1279, 1280, 1281, 810, 811, 812, 813, 814, 815, 816, 817, 818, 820, 20, 821, 825, 826, 827, 828, 829, 831, 832, 833, 834, 1282, 1283, 1284, 1285, 1286, 1288, 56, 1289, 835, 836, 837, 838, 839, 840, 841, 842, 848, 843, 845, 21, 846, 847, 849, 1290, 1291, 1292, 1293, 1294, 850, 851, 852, 853, 854, 855, 856, 857, 1295, 1296, 1297, 1298, 858, 859, 860, 861, 862, 863, 864, 865, 305, 1299, 1300, 1301, 1302, 1303, 1304, 867, 868, 869, 870, 1305, 1306, 1307, 1308, 871, 872, 873, 874, 875, 876, 877, 878, 192, 1309, 1310, 1311, 1312, 880, 881, 882, 883, 321, 1313, 1314, 1315, 1316, 884, 885, 886, 887, 335, 336, 888, 890, 22, 891, 892, 1317, 1318, 1319, 1320, 893, 894, 895, 896, 1321, 1322, 1323, 1324, 355, 357, 359, 361, 363, 365, 367, 369, 371, 373, 944, 946, 948, 950, 952, 954, 956, 958, 960, 962, 964, 966, 968, 970, 972, 974, 976, 978, 980, 982, 984, 986, 988, 990, 992, 994, 996, 998, 1000, 1002, 1004, 1006, 1008, 1010, 1012, 1014, 1016, 1018, 1020, 1022, 1024, 163, 165, 167, 169, 171, 173, 175, 128, 130, 132, 134, 136, 138, 140, 142, 144, 146, 148, 209, 211, 213, 215, 217, 219, 230, 232, 246, 248, 250, 252, 254, 270, 272, 274, 288, 290, 292, 294, 307, 309, 311, 322, 338, 340, 342] (by decide +kernel) (by decide +kernel) w h).1
theorem inlX0 : ∀ w ∈ wsX00, w ∈ wsL_law := fun _ h => List.mem_append_left _ (List.mem_append_left _ (List.mem_append_left _ (List.mem_append_right _ h)))
theorem inX0 : ∀ w ∈ wsX00, w ∈ lw_tbl := fun w h => wsL_law_in w (inlX0 w h)
theorem inlX1 : ∀ w ∈ wsX10, w ∈ wsL_law := fun _ h => List.mem_append_left _ (List.mem_append_left _ (List.mem_append_right _ h))
theorem inX1 : ∀ w ∈ wsX10, w ∈ lw_tbl := fun w h => wsL_law_in w (inlX1 w h)
theorem inlX2 : ∀ w ∈ wsX20, w ∈ wsL_law := fun _ h => List.mem_append_left _ (List.mem_append_left _ (List.mem_append_left _ (List.mem_append_left _ (List.mem_append_left _ (List.mem_append_left _ (List.mem_append_left _ (List.mem_append_left _ (List.mem_append_left _ (List.mem_append_right _ h)))))))))
theorem inX2 : ∀ w ∈ wsX20, w ∈ lw_tbl := fun w h => wsL_law_in w (inlX2 w h)
theorem inlX3 : ∀ w ∈ wsX30, w ∈ wsL_law := fun _ h => List.mem_append_left _ (List.mem_append_right _ h)
theorem inX3 : ∀ w ∈ wsX30, w ∈ lw_tbl := fun w h => wsL_law_in w (inlX3 w h)
theorem inlX4 : ∀ w ∈ wsX40, w ∈ wsL_law := fun _ h => List.mem_append_left _ (List.mem_append_left _ (List.mem_append_left _ (List.mem_append_left _ (List.mem_append_left _ (List.mem_append_left _ (List.mem_append_left _ (List.mem_append_right _ h)))))))
theorem inX4 : ∀ w ∈ wsX40, w ∈ lw_tbl := fun w h => wsL_law_in w (inlX4 w h)
theorem inlX5 : ∀ w ∈ wsX50, w ∈ wsL_law := fun _ h => List.mem_append_left _ (List.mem_append_left _ (List.mem_append_left _ (List.mem_append_left _ (List.mem_append_right _ h))))
theorem inX5 : ∀ w ∈ wsX50, w ∈ lw_tbl := fun w h => wsL_law_in w (inlX5 w h)
theorem inlX6 : ∀ w ∈ wsX60, w ∈ wsL_law := fun _ h => List.mem_append_left _ (List.mem_append_left _ (List.mem_append_left _ (List.mem_append_left _ (List.mem_append_left _ (List.mem_append_right _ h)))))
theorem inX6 : ∀ w ∈ wsX60, w ∈ lw_tbl := fun w h => wsL_law_in w (inlX6 w h)
theorem inlX7 : ∀ w ∈ wsX70, w ∈ wsL_law := fun _ h => List.mem_append_left _ (List.mem_append_left _ (List.mem_append_left _ (List.mem_append_left _ (List.mem_append_left _ (List.mem_append_left _ (List.mem_append_left _ (List.mem_append_left _ (List.mem_append_right _ h))))))))
theorem inX7 : ∀ w ∈ wsX70, w ∈ lw_tbl := fun w h => wsL_law_in w (inlX7 w h)
theorem inlX8 : ∀ w ∈ wsX80, w ∈ wsL_law := fun _ h => List.mem_append_left _ (List.mem_append_left _ (List.mem_append_left _ (List.mem_append_left _ (List.mem_append_left _ (List.mem_append_left _ (List.mem_append_left _ (List.mem_append_left _ (List.mem_append_left _ (List.mem_append_left _ (List.mem_append_right _ h))))))))))
theorem inX8 : ∀ w ∈ wsX80, w ∈ lw_tbl := fun w h => wsL_law_in w (inlX8 w h)
theorem inlX9 : ∀ w ∈ wsX90, w ∈ wsL_law := fun _ h => List.mem_append_left _ (List.mem_append_left _ (List.mem_append_left _ (List.mem_append_left _ (List.mem_append_left _ (List.mem_append_left _ (List.mem_append_right _ h))))))
theorem inX9 : ∀ w ∈ wsX90, w ∈ lw_tbl := fun w h => wsL_law_in w (inlX9 w h)
theorem inlX10 : ∀ w ∈ wsX100, w ∈ wsL_law := fun _ h => List.mem_append_left _ (List.mem_append_left _ (List.mem_append_left _ (List.mem_append_left _ (List.mem_append_left _ (List.mem_append_left _ (List.mem_append_left _ (List.mem_append_left _ (List.mem_append_left _ (List.mem_append_left _ (List.mem_append_left _ (List.mem_append_left _ (List.mem_append_right _ h))))))))))))
theorem inX10 : ∀ w ∈ wsX100, w ∈ lw_tbl := fun w h => wsL_law_in w (inlX10 w h)
theorem inlX11 : ∀ w ∈ wsX110, w ∈ wsL_law := fun _ h => List.mem_append_left _ (List.mem_append_left _ (List.mem_append_left _ (List.mem_append_left _ (List.mem_append_left _ (List.mem_append_left _ (List.mem_append_left _ (List.mem_append_left _ (List.mem_append_left _ (List.mem_append_left _ (List.mem_append_left _ (List.mem_append_right _ h)))))))))))
theorem inX11 : ∀ w ∈ wsX110, w ∈ lw_tbl := fun w h => wsL_law_in w (inlX11 w h)
theorem inJ6 : ∀ w ∈ wsJ60, w ∈ lw_tbl := by decide +kernel
theorem inJ9 : ∀ w ∈ wsJ90, w ∈ lw_tbl := by decide +kernel
theorem inJ10 : ∀ w ∈ wsJ100, w ∈ lw_tbl := by decide +kernel
theorem inJ7 : ∀ w ∈ wsJ70, w ∈ lw_tbl := by decide +kernel
set_option maxRecDepth 20000 in
theorem ggL_law_X10_init : GoodIn wsL_law wsX10_init := goodIn_r _ [8, 9, 10, 11, 12, 13, 14, 15, 16, 17, 18, 19, 20, 21, 22, 23, 24, 25, 26, 27, 28, 29, 30, 31, 32, 33, 34, 35, 36, 37, 38, 39, 40, 41, 42, 43, 44, 45, 46, 47, 48, 49, 50, 51, 52, 53, 54, 55, 56, 57, 58, 59, 60, 61, 62, 63, 64, 65, 66, 67, 68, 69, 70, 71, 72, 73, 74, 75, 76, 77, 78, 79, 80, 81, 82, 83, 84, 85, 86, 87, 88, 89, 90, 91, 92, 93, 94, 95, 96, 97, 98, 99, 100, 101, 102, 103, 104, 105, 106, 107, 108, 109, 110, 111, 112, 113, 114, 1074, 1075, 1076, 1077, 1078, 1079, 1080, 1023, 1024, 1025, 1026, 1027, 1028, 1029, 1030, 1031, 1032, 1081, 1082, 1083, 1084, 1085, 1086, 1087, 1088, 1089, 1090, 1091, 1092, 1093, 1094, 1095, 1096, 1097, 1098, 1099, 1100, 1101, 1102, 1103, 1104, 1105, 1106, 1107, 1108, 1109, 1110, 1111, 1112, 1113, 1114, 1115, 1116, 1117, 1118] (by decide +kernel) (by decide +kernel)
set_option maxRecDepth 20000 in
theorem gL_law_X10_init : GoodIn wsL_law (wsX10_init) := ggL_law_X10_init
set_option maxRecDepth 20000 in
theorem ggL_law_X11_init : GoodIn wsL_law wsX11_init := goodIn_r _ [117, 118, 10, 11, 55, 119, 120, 121, 122, 123, 124, 125, 126, 127, 128, 129, 130, 131, 132, 133, 134, 135, 136, 137, 138, 139, 140, 141, 1033, 1034, 1035, 1036, 1037, 1038, 1039, 1040, 1041, 1042, 1043, 1044, 1045, 1046, 1047, 1048, 1049, 1050, 1051, 1052, 1053, 1054, 1055, 1056, 1057, 1058, 1059, 1060, 1061, 1062, 1063, 1064, 1065, 1066, 1067, 1068, 1069, 1070, 1071, 1072, 1073] (by decide +kernel) (by decide +kernel)
set_option maxRecDepth 20000 in
theorem gL_law_X11_init : GoodIn wsL_law (wsX11_init) := ggL_law_X11_init
set_option maxRecDepth 20000 in
theorem ggL_law_X10_feed : GoodIn wsL_law wsX10_feed := goodIn_r _ [145, 146, 15, 147, 148, 149, 150, 2, 151, 152, 153, 154, 14, 155, 56, 156, 157, 158, 1023, 1024, 1025, 1026, 1027, 1028, 1029, 1030, 1031, 1032, 1074, 1075, 1076, 1077, 1078, 1079, 1080] (by decide +kernel) (by decide +kernel)
set_option maxRecDepth 20000 in
theorem gL_law_X10_feed : GoodIn wsL_law (wsV RL 13 RX10 yX10_feed wsX10_feed) := goodIn_app (goodIn_of _ (by decide +kernel)) ggL_law_X10_feed
set_option maxRecDepth 20000 in
theorem ggL_law_X11_feed : GoodIn wsL_law wsX11_feed := goodIn_r _ [162, 163, 164, 165, 166, 129, 167, 168, 5, 169, 1033, 1034, 1035, 1036, 1037, 1038, 1039, 1040, 1041, 1042, 1043, 1044, 1045, 1046, 1047, 1048, 1049, 1050, 1051, 1052, 1053, 1054, 1055, 1056, 1057, 1058, 1059, 1060, 1061, 1062, 1063, 1064, 1065, 1066, 1067, 1068, 1069, 1070, 1071, 1072, 1073] (by decide +kernel) (by decide +kernel)
set_option maxRecDepth 20000 in
theorem gL_law_X11_feed : GoodIn wsL_law (wsV RL 17 RX11 yX11_feed wsX11_feed) := goodIn_app (goodIn_of _ (by decide +kernel)) ggL_law_X11_feed
set_option maxRecDepth 20000 in
theorem ggL_law_X10_hill : GoodIn wsL_law wsX10_hill := goodIn_r _ [173, 15, 147, 174, 19, 175, 23, 39, 176, 43, 177, 35, 49, 178, 179, 180, 181, 182, 14, 183, 58, 184, 59, 185, 156, 186, 187, 188, 18, 189, 63, 64, 65, 66, 67, 190, 191, 192, 193, 194, 195, 196, 197, 198, 199, 200, 201, 202, 203, 204, 205, 206, 207, 56, 208, 209, 210, 211, 212, 213, 214, 215, 216, 217, 218, 219, 220, 221, 222, 223, 224, 225, 226, 227, 228, 229, 230, 231, 232, 233, 234, 235, 236, 237, 238, 150, 2, 151, 239, 240, 241, 242, 243, 244, 245, 246, 247, 248, 249, 250, 251, 252, 253, 254, 255, 256, 157, 158, 257, 258, 259, 260, 261, 262, 263, 264, 265, 266, 267, 268, 269, 270, 271, 272, 273, 274, 275, 276, 277, 278, 279, 280, 281, 282, 283, 284, 285, 286, 287, 288, 289, 290, 291, 292, 293, 294, 295, 296, 297, 298, 299, 300, 301, 302, 303, 304, 305, 306, 307, 22, 308, 309, 71, 72, 73, 310, 74, 311, 312, 313, 314, 315, 316, 34, 317, 318, 1023, 1024, 1025, 1026, 1027, 1028, 1029, 1030, 1031, 1032, 1074, 1075, 1076, 1077, 1078, 1079, 1080, 1108, 1109, 1110, 1111, 1112, 1113, 1114, 1116, 1117, 1118, 1081, 1082, 1083, 1084, 1085, 1086, 1087, 1088, 1089, 1090, 1091, 1092, 1093, 1094, 1095, 1096, 1097, 1105, 1106, 1107] (by decide +kernel) (by decide +kernel)
set_option maxRecDepth 20000 in
theorem gL_law_X10_hill : GoodIn wsL_law (wsV RL 18 RX10 yX10_hill wsX10_hill) := goodIn_app (goodIn_of _ (by decide +kernel)) ggL_law_X10_hill
set_option maxRecDepth 20000 in
theorem ggL_law_X11_hill : GoodIn wsL_law wsX11_hill := goodIn_r _ [322, 130, 323, 324, 325, 326, 327, 328, 329, 131, 132, 135, 165, 330, 331, 332, 140, 333, 334, 335, 336, 5, 337, 129, 338, 339, 340, 341, 342, 343, 344, 345, 346, 347, 348, 349, 350, 351, 352, 353, 354, 355, 356, 357, 358, 359, 360, 361, 362, 363, 364, 365, 167, 168, 169, 366, 367, 368, 369, 370, 371, 372, 373, 374, 375, 376, 377, 378, 379, 380, 381, 382, 383, 384, 385, 133, 134, 386, 387, 388, 389, 390, 391, 392, 393, 141, 394, 395, 396, 119, 120, 122, 121, 1033, 1034, 1035, 1036, 1037, 1038, 1039, 1040, 1041, 1042, 1043, 1044, 1045, 1046, 1047, 1048, 1049, 1050, 1051, 1052, 1053, 1054, 1055, 1056, 1057, 1058, 1059, 1060, 1061, 1062, 1063, 1064, 1065, 1066, 1067, 1068, 1069, 1070, 1071, 1072, 1073] (by decide +kernel) (by decide +kernel)
set_option maxRecDepth 20000 in
theorem gL_law_X11_hill : GoodIn wsL_law (wsV RL 22 RX11 yX11_hill wsX11_hill) := goodIn_app (goodIn_of _ (by decide +kernel)) ggL_law_X11_hill
set_option maxRecDepth 20000 in
theorem ggL_law_X10_fault : GoodIn wsL_law wsX10_fault := goodIn_r _ [400, 15, 401, 1023, 1024, 1025, 1026, 1027, 1028, 1029, 1030, 1031, 1032, 1074, 1075, 1076, 1077, 1078, 1079, 1080] (by decide +kernel) (by decide +kernel)
set_option maxRecDepth 20000 in
theorem gL_law_X10_fault : GoodIn wsL_law (wsV RL 23 RX10 yX10_fault wsX10_fault) := goodIn_app (goodIn_of _ (by decide +kernel)) ggL_law_X10_fault
set_option maxRecDepth 20000 in
theorem ggL_law_X11_fault : GoodIn wsL_law wsX11_fault := goodIn_r _ [405, 130, 1033, 1034, 1035, 1036, 1037, 1038, 1039, 1040, 1041, 1042, 1043, 1044, 1045, 1046, 1047, 1048, 1049, 1050, 1051, 1052, 1053, 1054, 1055, 1056, 1057, 1058, 1059, 1060, 1061, 1062, 1063, 1064, 1065, 1066, 1067, 1068, 1069, 1070, 1071, 1072, 1073] (by decide +kernel) (by decide +kernel)
set_option maxRecDepth 20000 in
theorem gL_law_X11_fault : GoodIn wsL_law (wsV RL 26 RX11 yX11_fault wsX11_fault) := goodIn_app (goodIn_of _ (by decide +kernel)) ggL_law_X11_fault
set_option maxRecDepth 20000 in
theorem ggL_law_X10_told : GoodIn wsL_law wsX10_told := goodIn_r _ [409, 19, 410, 411, 412, 413, 179, 15, 147, 23, 414, 415, 31, 39, 176, 43, 177, 35, 416, 146, 417, 418, 419, 30, 420, 87, 421, 422, 423, 424, 425, 89, 426, 427, 428, 26, 429, 80, 430, 431, 249, 2, 250, 251, 252, 432, 433, 434, 435, 79, 436, 437, 438, 439, 440, 441, 442, 285, 286, 443, 444, 445, 446, 447, 448, 449, 450, 451, 452, 453, 454, 455, 456, 457, 239, 240, 458, 459, 460, 461, 462, 463, 464, 465, 466, 467, 468, 469, 470, 471, 1023, 1024, 1025, 1026, 1027, 1028, 1029, 1030, 1031, 1032, 1081, 1082, 1083, 1084, 1085, 1086, 1087, 1088, 1089, 1090, 1091, 1074, 1075, 1076, 1077, 1078, 1079, 1080, 1092, 1093, 1094, 1095, 1096, 1097, 1108, 1109, 1110, 1111, 1112, 1113, 1114, 1105, 1106, 1107, 1100, 1101, 1102, 1103, 1104, 1098, 1099] (by decide +kernel) (by decide +kernel)
set_option maxRecDepth 20000 in
theorem gL_law_X10_told : GoodIn wsL_law (wsV RL 27 RX10 yX10_told wsX10_told) := goodIn_app (goodIn_of _ (by decide +kernel)) ggL_law_X10_told
set_option maxRecDepth 20000 in
theorem ggL_law_X11_told : GoodIn wsL_law wsX11_told := goodIn_r _ [475, 141, 394, 395, 396, 333, 165, 122, 330, 331, 332, 164, 476, 477, 478, 5, 479, 480, 481, 482, 483, 484, 121, 375, 376, 377, 485, 486, 487, 488, 119, 489, 490, 491, 492, 493, 494, 495, 496, 497, 498, 499, 500, 501, 502, 1033, 1034, 1035, 1036, 1037, 1038, 1039, 1040, 1041, 1042, 1043, 1044, 1045, 1046, 1047, 1048, 1049, 1050, 1051, 1052, 1053, 1054, 1055, 1056, 1057, 1058, 1059, 1060, 1061, 1062, 1063, 1064, 1065, 1066, 1067, 1068, 1069, 1070, 1071, 1072, 1073] (by decide +kernel) (by decide +kernel)
set_option maxRecDepth 20000 in
theorem gL_law_X11_told : GoodIn wsL_law (wsV RL 30 RX11 yX11_told wsX11_told) := goodIn_app (goodIn_of _ (by decide +kernel)) ggL_law_X11_told
set_option maxRecDepth 20000 in
theorem ggL_law_X10_room : GoodIn wsL_law wsX10_room := goodIn_r _ [506, 19, 507, 27, 508, 509, 146, 510, 511, 512, 18, 513, 190, 514, 239, 2, 240, 515, 516, 517, 26, 518, 79, 519, 80, 430, 249, 250, 251, 252, 520, 1023, 1024, 1025, 1026, 1027, 1028, 1029, 1030, 1031, 1032, 1081, 1082, 1083, 1084, 1085, 1086, 1087, 1088, 1089, 1090, 1091, 1098, 1099, 1092, 1093, 1094, 1095, 1096, 1097] (by decide +kernel) (by decide +kernel)
set_option maxRecDepth 20000 in
theorem gL_law_X10_room : GoodIn wsL_law (wsV RL 31 RX10 yX10_room wsX10_room) := goodIn_app (goodIn_of _ (by decide +kernel)) ggL_law_X10_room
set_option maxRecDepth 20000 in
theorem ggL_law_X11_room : GoodIn wsL_law wsX11_room := goodIn_r _ [524, 525, 119, 120, 164, 526, 527, 528, 5, 529, 141, 167, 168, 169, 530, 531, 532, 533, 333, 122, 1033, 1034, 1035, 1036, 1037, 1038, 1039, 1040, 1041, 1042, 1043, 1044, 1045, 1046, 1047, 1048, 1049, 1050, 1051, 1052, 1053, 1054, 1055, 1056, 1057, 1058, 1059, 1060, 1061, 1062, 1063, 1064, 1065, 1066, 1067, 1068, 1069, 1070, 1071, 1072, 1073] (by decide +kernel) (by decide +kernel)
set_option maxRecDepth 20000 in
theorem gL_law_X11_room : GoodIn wsL_law (wsV RL 35 RX11 yX11_room wsX11_room) := goodIn_app (goodIn_of _ (by decide +kernel)) ggL_law_X11_room
set_option maxRecDepth 20000 in
theorem ggL_law_X10_person : GoodIn wsL_law wsX10_person := goodIn_r _ [537, 19, 507, 538, 23, 539, 540, 541, 415, 146, 542, 543, 544, 18, 545, 194, 520, 249, 2, 250, 546, 251, 252, 1023, 1024, 1025, 1026, 1027, 1028, 1029, 1030, 1031, 1032, 1081, 1082, 1083, 1084, 1085, 1086, 1087, 1088, 1089, 1090, 1091, 1092, 1093, 1094, 1095, 1096, 1097] (by decide +kernel) (by decide +kernel)
set_option maxRecDepth 20000 in
theorem gL_law_X10_person : GoodIn wsL_law (wsV RL 36 RX10 yX10_person wsX10_person) := goodIn_app (goodIn_of _ (by decide +kernel)) ggL_law_X10_person
set_option maxRecDepth 20000 in
theorem ggL_law_X11_person : GoodIn wsL_law wsX11_person := goodIn_r _ [550, 525, 121, 122, 164, 551, 552, 553, 5, 554, 333, 167, 168, 169, 1033, 1034, 1035, 1036, 1037, 1038, 1039, 1040, 1041, 1042, 1043, 1044, 1045, 1046, 1047, 1048, 1049, 1050, 1051, 1052, 1053, 1054, 1055, 1056, 1057, 1058, 1059, 1060, 1061, 1062, 1063, 1064, 1065, 1066, 1067, 1068, 1069, 1070, 1071, 1072, 1073] (by decide +kernel) (by decide +kernel)
set_option maxRecDepth 20000 in
theorem gL_law_X11_person : GoodIn wsL_law (wsV RL 39 RX11 yX11_person wsX11_person) := goodIn_app (goodIn_of _ (by decide +kernel)) ggL_law_X11_person
set_option maxRecDepth 20000 in
theorem ggL_law_X10_liking : GoodIn wsL_law wsX10_liking := goodIn_r _ [558, 19, 23, 559, 507, 560, 561, 562, 18, 563, 564, 543, 544, 545, 194, 565, 285, 2, 286, 520, 249, 250, 1023, 1024, 1025, 1026, 1027, 1028, 1029, 1030, 1031, 1032, 1092, 1093, 1094, 1095, 1096, 1097, 1081, 1082, 1083, 1084, 1085, 1086, 1087, 1088, 1089, 1090, 1091] (by decide +kernel) (by decide +kernel)
set_option maxRecDepth 20000 in
theorem gL_law_X10_liking : GoodIn wsL_law (wsV RL 40 RX10 yX10_liking wsX10_liking) := goodIn_app (goodIn_of _ (by decide +kernel)) ggL_law_X10_liking
set_option maxRecDepth 20000 in
theorem ggL_law_X11_liking : GoodIn wsL_law wsX11_liking := goodIn_r _ [569, 122, 525, 570, 571, 572, 5, 573, 551, 552, 553, 554, 333, 167, 168, 169, 1033, 1034, 1035, 1036, 1037, 1038, 1039, 1040, 1041, 1042, 1043, 1044, 1045, 1046, 1047, 1048, 1049, 1050, 1051, 1052, 1053, 1054, 1055, 1056, 1057, 1058, 1059, 1060, 1061, 1062, 1063, 1064, 1065, 1066, 1067, 1068, 1069, 1070, 1071, 1072, 1073] (by decide +kernel) (by decide +kernel)
set_option maxRecDepth 20000 in
theorem gL_law_X11_liking : GoodIn wsL_law (wsV RL 43 RX11 yX11_liking wsX11_liking) := goodIn_app (goodIn_of _ (by decide +kernel)) ggL_law_X11_liking
set_option maxRecDepth 20000 in
theorem ggL_law_X10_said : GoodIn wsL_law wsX10_said := goodIn_r _ [577, 19, 507, 27, 23, 539, 146, 560, 561, 562, 18, 563, 564, 543, 544, 545, 194, 578, 427, 428, 26, 429, 80, 430, 431, 249, 2, 250, 251, 252, 432, 433, 434, 435, 79, 436, 437, 438, 439, 440, 441, 442, 285, 286, 443, 444, 520, 579, 1023, 1024, 1025, 1026, 1027, 1028, 1029, 1030, 1031, 1032, 1092, 1093, 1094, 1095, 1096, 1097, 1081, 1082, 1083, 1084, 1085, 1086, 1087, 1088, 1089, 1090, 1091, 1098, 1099] (by decide +kernel) (by decide +kernel)
set_option maxRecDepth 20000 in
theorem gL_law_X10_said : GoodIn wsL_law (wsV RL 44 RX10 yX10_said wsX10_said) := goodIn_app (goodIn_of _ (by decide +kernel)) ggL_law_X10_said
set_option maxRecDepth 20000 in
theorem ggL_law_X11_said : GoodIn wsL_law wsX11_said := goodIn_r _ [583, 525, 122, 164, 570, 571, 572, 5, 573, 551, 552, 553, 554, 333, 167, 168, 169, 481, 482, 483, 484, 121, 375, 376, 377, 485, 486, 487, 488, 119, 489, 490, 491, 584, 585, 586, 587, 1033, 1034, 1035, 1036, 1037, 1038, 1039, 1040, 1041, 1042, 1043, 1044, 1045, 1046, 1047, 1048, 1049, 1050, 1051, 1052, 1053, 1054, 1055, 1056, 1057, 1058, 1059, 1060, 1061, 1062, 1063, 1064, 1065, 1066, 1067, 1068, 1069, 1070, 1071, 1072, 1073] (by decide +kernel) (by decide +kernel)
set_option maxRecDepth 20000 in
theorem gL_law_X11_said : GoodIn wsL_law (wsV RL 48 RX11 yX11_said wsX11_said) := goodIn_app (goodIn_of _ (by decide +kernel)) ggL_law_X11_said
set_option maxRecDepth 20000 in
theorem ggL_law_X10_hour : GoodIn wsL_law wsX10_hour := goodIn_r _ [591, 35, 23, 27, 414, 592, 593, 594, 2, 595, 146, 19, 596, 148, 149, 150, 151, 597, 221, 222, 18, 223, 190, 598, 599, 600, 34, 601, 602, 318, 603, 298, 299, 300, 604, 605, 606, 607, 95, 608, 609, 610, 22, 611, 71, 72, 73, 74, 311, 312, 295, 296, 297, 301, 302, 303, 304, 612, 613, 614, 26, 615, 79, 519, 80, 616, 430, 617, 618, 619, 431, 620, 621, 622, 623, 624, 625, 626, 627, 249, 250, 438, 439, 440, 441, 442, 251, 252, 628, 427, 428, 429, 432, 433, 434, 435, 436, 437, 285, 286, 443, 444, 629, 630, 631, 632, 633, 634, 635, 636, 637, 157, 158, 1023, 1024, 1025, 1026, 1027, 1028, 1029, 1030, 1031, 1032, 1092, 1093, 1094, 1095, 1096, 1097, 1081, 1082, 1083, 1084, 1085, 1086, 1087, 1088, 1089, 1090, 1091, 1105, 1106, 1107, 1098, 1099] (by decide +kernel) (by decide +kernel)
set_option maxRecDepth 20000 in
theorem gL_law_X10_hour : GoodIn wsL_law (wsV RL 49 RX10 yX10_hour wsX10_hour) := goodIn_app (goodIn_of _ (by decide +kernel)) ggL_law_X10_hour
set_option maxRecDepth 20000 in
theorem ggL_law_X11_hour : GoodIn wsL_law wsX11_hour := goodIn_r _ [641, 122, 642, 643, 644, 5, 645, 646, 164, 141, 647, 166, 167, 168, 169, 648, 649, 650, 651, 332, 136, 652, 653, 654, 655, 333, 394, 656, 657, 658, 659, 584, 585, 586, 587, 119, 375, 376, 377, 481, 482, 483, 484, 121, 485, 486, 487, 488, 489, 490, 491, 1033, 1034, 1035, 1036, 1037, 1038, 1039, 1040, 1041, 1042, 1043, 1044, 1045, 1046, 1047, 1048, 1049, 1050, 1051, 1052, 1053, 1054, 1055, 1056, 1057, 1058, 1059, 1060, 1061, 1062, 1063, 1064, 1065, 1066, 1067, 1068, 1069, 1070, 1071, 1072, 1073] (by decide +kernel) (by decide +kernel)
set_option maxRecDepth 20000 in
theorem gL_law_X11_hour : GoodIn wsL_law (wsV RL 52 RX11 yX11_hour wsX11_hour) := goodIn_app (goodIn_of _ (by decide +kernel)) ggL_law_X11_hour
set_option maxRecDepth 20000 in
theorem ggL_law_X10_go : GoodIn wsL_law wsX10_go := goodIn_r _ [663, 19, 507, 23, 539, 596, 35, 542, 543, 544, 18, 545, 194, 510, 511, 512, 513, 190, 520, 249, 2, 250, 664, 262, 263, 264, 64, 251, 252, 598, 599, 600, 34, 601, 602, 318, 603, 298, 299, 300, 604, 605, 606, 607, 95, 608, 609, 610, 22, 611, 71, 72, 73, 74, 311, 312, 295, 296, 297, 301, 302, 303, 304, 665, 157, 158, 1023, 1024, 1025, 1026, 1027, 1028, 1029, 1030, 1031, 1032, 1092, 1093, 1094, 1095, 1096, 1097, 1081, 1082, 1083, 1084, 1085, 1086, 1087, 1088, 1089, 1090, 1091, 1105, 1106, 1107] (by decide +kernel) (by decide +kernel)
set_option maxRecDepth 20000 in
theorem gL_law_X10_go : GoodIn wsL_law (wsV RL 53 RX10 yX10_go wsX10_go) := goodIn_app (goodIn_of _ (by decide +kernel)) ggL_law_X10_go
set_option maxRecDepth 20000 in
theorem ggL_law_X11_go : GoodIn wsL_law wsX11_go := goodIn_r _ [669, 525, 122, 120, 647, 551, 552, 553, 5, 554, 333, 167, 168, 169, 526, 527, 528, 529, 141, 375, 376, 377, 648, 649, 650, 651, 332, 136, 1033, 1034, 1035, 1036, 1037, 1038, 1039, 1040, 1041, 1042, 1043, 1044, 1045, 1046, 1047, 1048, 1049, 1050, 1051, 1052, 1053, 1054, 1055, 1056, 1057, 1058, 1059, 1060, 1061, 1062, 1063, 1064, 1065, 1066, 1067, 1068, 1069, 1070, 1071, 1072, 1073] (by decide +kernel) (by decide +kernel)
set_option maxRecDepth 20000 in
theorem gL_law_X11_go : GoodIn wsL_law (wsV RL 56 RX11 yX11_go wsX11_go) := goodIn_app (goodIn_of _ (by decide +kernel)) ggL_law_X11_go
set_option maxRecDepth 20000 in
theorem ggL_law_X10_cough : GoodIn wsL_law wsX10_cough := goodIn_r _ [673, 19, 507, 23, 415, 596, 35, 542, 543, 544, 18, 545, 194, 546, 251, 2, 252, 598, 599, 600, 34, 601, 602, 318, 603, 298, 299, 300, 604, 605, 606, 607, 95, 608, 609, 610, 22, 611, 71, 72, 73, 74, 311, 312, 295, 296, 297, 301, 302, 303, 304, 514, 239, 240, 1023, 1024, 1025, 1026, 1027, 1028, 1029, 1030, 1031, 1032, 1092, 1093, 1094, 1095, 1096, 1097, 1081, 1082, 1083, 1084, 1085, 1086, 1087, 1088, 1089, 1090, 1091, 1105, 1106, 1107] (by decide +kernel) (by decide +kernel)
set_option maxRecDepth 20000 in
theorem gL_law_X10_cough : GoodIn wsL_law (wsV RL 57 RX10 yX10_cough wsX10_cough) := goodIn_app (goodIn_of _ (by decide +kernel)) ggL_law_X10_cough
set_option maxRecDepth 20000 in
theorem ggL_law_X11_cough : GoodIn wsL_law wsX11_cough := goodIn_r _ [677, 525, 122, 647, 551, 552, 553, 5, 554, 333, 167, 168, 169, 375, 376, 377, 648, 649, 650, 651, 332, 136, 1033, 1034, 1035, 1036, 1037, 1038, 1039, 1040, 1041, 1042, 1043, 1044, 1045, 1046, 1047, 1048, 1049, 1050, 1051, 1052, 1053, 1054, 1055, 1056, 1057, 1058, 1059, 1060, 1061, 1062, 1063, 1064, 1065, 1066, 1067, 1068, 1069, 1070, 1071, 1072, 1073] (by decide +kernel) (by decide +kernel)
set_option maxRecDepth 20000 in
theorem gL_law_X11_cough : GoodIn wsL_law (wsV RL 60 RX11 yX11_cough wsX11_cough) := goodIn_app (goodIn_of _ (by decide +kernel)) ggL_law_X11_cough
set_option maxRecDepth 20000 in
theorem ggL_law_X10_like : GoodIn wsL_law wsX10_like := goodIn_r _ [681, 19, 507, 146, 35, 23, 559, 560, 561, 562, 18, 563, 564, 543, 544, 545, 194, 149, 150, 2, 151, 598, 599, 600, 34, 601, 602, 318, 603, 298, 299, 300, 604, 605, 606, 607, 95, 608, 609, 610, 22, 611, 71, 72, 73, 74, 311, 312, 295, 296, 297, 301, 302, 303, 304, 565, 285, 286, 520, 249, 250, 665, 157, 158, 1023, 1024, 1025, 1026, 1027, 1028, 1029, 1030, 1031, 1032, 1092, 1093, 1094, 1095, 1096, 1097, 1081, 1082, 1083, 1084, 1085, 1086, 1087, 1088, 1089, 1090, 1091, 1105, 1106, 1107] (by decide +kernel) (by decide +kernel)
set_option maxRecDepth 20000 in
theorem gL_law_X10_like : GoodIn wsL_law (wsV RL 61 RX10 yX10_like wsX10_like) := goodIn_app (goodIn_of _ (by decide +kernel)) ggL_law_X10_like
set_option maxRecDepth 20000 in
theorem ggL_law_X11_like : GoodIn wsL_law wsX11_like := goodIn_r _ [685, 525, 686, 164, 122, 570, 571, 572, 5, 573, 551, 552, 553, 554, 333, 167, 168, 169, 648, 649, 650, 651, 332, 136, 1033, 1034, 1035, 1036, 1037, 1038, 1039, 1040, 1041, 1042, 1043, 1044, 1045, 1046, 1047, 1048, 1049, 1050, 1051, 1052, 1053, 1054, 1055, 1056, 1057, 1058, 1059, 1060, 1061, 1062, 1063, 1064, 1065, 1066, 1067, 1068, 1069, 1070, 1071, 1072, 1073] (by decide +kernel) (by decide +kernel)
set_option maxRecDepth 20000 in
theorem gL_law_X11_like : GoodIn wsL_law (wsV RL 64 RX11 yX11_like wsX11_like) := goodIn_app (goodIn_of _ (by decide +kernel)) ggL_law_X11_like
set_option maxRecDepth 20000 in
theorem ggL_law_X10_drift : GoodIn wsL_law wsX10_drift := goodIn_r _ [690, 35, 23, 27, 414, 592, 593, 594, 2, 595, 146, 19, 596, 148, 149, 150, 151, 597, 221, 222, 18, 223, 190, 598, 599, 600, 34, 601, 602, 318, 603, 298, 299, 300, 604, 605, 606, 607, 95, 608, 609, 610, 22, 611, 71, 72, 73, 74, 311, 312, 295, 296, 297, 301, 302, 303, 304, 691, 692, 693, 694, 179, 47, 410, 539, 415, 559, 695, 696, 697, 46, 698, 699, 700, 701, 702, 703, 520, 249, 250, 664, 262, 263, 264, 64, 251, 252, 665, 157, 158, 514, 239, 240, 565, 285, 286, 612, 613, 614, 26, 615, 79, 519, 80, 616, 430, 617, 618, 619, 431, 620, 621, 622, 623, 624, 625, 626, 627, 438, 439, 440, 441, 442, 628, 427, 428, 429, 432, 433, 434, 435, 436, 437, 443, 444, 629, 630, 631, 632, 633, 634, 635, 636, 637, 1023, 1024, 1025, 1026, 1027, 1028, 1029, 1030, 1031, 1032, 1092, 1093, 1094, 1095, 1096, 1097, 1081, 1082, 1083, 1084, 1085, 1086, 1087, 1088, 1089, 1090, 1091, 1105, 1106, 1107, 1115, 1098, 1099] (by decide +kernel) (by decide +kernel)
set_option maxRecDepth 20000 in
theorem gL_law_X10_drift : GoodIn wsL_law (wsV RL 65 RX10 yX10_drift wsX10_drift) := goodIn_app (goodIn_of _ (by decide +kernel)) ggL_law_X10_drift
set_option maxRecDepth 20000 in
theorem ggL_law_X11_drift : GoodIn wsL_law wsX11_drift := goodIn_r _ [707, 333, 122, 642, 643, 644, 5, 645, 646, 164, 141, 647, 166, 167, 168, 169, 648, 649, 650, 651, 332, 136, 708, 709, 710, 711, 120, 712, 713, 714, 715, 716, 717, 718, 719, 720, 375, 376, 377, 652, 653, 654, 655, 394, 656, 657, 658, 659, 584, 585, 586, 587, 119, 481, 482, 483, 484, 121, 485, 486, 487, 488, 489, 490, 491, 1033, 1034, 1035, 1036, 1037, 1038, 1039, 1040, 1041, 1042, 1043, 1044, 1045, 1046, 1047, 1048, 1049, 1050, 1051, 1052, 1053, 1054, 1055, 1056, 1057, 1058, 1059, 1060, 1061, 1062, 1063, 1064, 1065, 1066, 1067, 1068, 1069, 1070, 1071, 1072, 1073] (by decide +kernel) (by decide +kernel)
set_option maxRecDepth 20000 in
theorem gL_law_X11_drift : GoodIn wsL_law (wsV RL 68 RX11 yX11_drift wsX11_drift) := goodIn_app (goodIn_of _ (by decide +kernel)) ggL_law_X11_drift
set_option maxRecDepth 20000 in
theorem ggL_law_X10_undo : GoodIn wsL_law wsX10_undo := goodIn_r _ [724, 35, 23, 416, 596, 725, 726, 727, 34, 728, 602, 318, 604, 605, 606, 607, 95, 608, 609, 610, 22, 611, 71, 72, 73, 74, 311, 312, 295, 2, 296, 297, 298, 299, 300, 301, 302, 303, 304, 1023, 1024, 1025, 1026, 1027, 1028, 1029, 1030, 1031, 1032, 1105, 1106, 1107, 1092, 1093, 1094, 1095, 1096, 1097] (by decide +kernel) (by decide +kernel)
set_option maxRecDepth 20000 in
theorem gL_law_X10_undo : GoodIn wsL_law (wsV RL 69 RX10 yX10_undo wsX10_undo) := goodIn_app (goodIn_of _ (by decide +kernel)) ggL_law_X10_undo
set_option maxRecDepth 20000 in
theorem ggL_law_X11_undo : GoodIn wsL_law wsX11_undo := goodIn_r _ [732, 332, 647, 122, 136, 1033, 1034, 1035, 1036, 1037, 1038, 1039, 1040, 1041, 1042, 1043, 1044, 1045, 1046, 1047, 1048, 1049, 1050, 1051, 1052, 1053, 1054, 1055, 1056, 1057, 1058, 1059, 1060, 1061, 1062, 1063, 1064, 1065, 1066, 1067, 1068, 1069, 1070, 1071, 1072, 1073] (by decide +kernel) (by decide +kernel)
set_option maxRecDepth 20000 in
theorem gL_law_X11_undo : GoodIn wsL_law (wsV RL 72 RX11 yX11_undo wsX11_undo) := goodIn_app (goodIn_of _ (by decide +kernel)) ggL_law_X11_undo
set_option maxRecDepth 20000 in
theorem ggL_law_X10_warm : GoodIn wsL_law wsX10_warm := goodIn_r _ [736, 19, 507, 146, 31, 23, 539, 542, 543, 544, 18, 545, 194, 149, 150, 2, 151, 520, 249, 250, 737, 738, 739, 30, 740, 88, 741, 89, 742, 743, 744, 745, 746, 747, 748, 749, 750, 751, 26, 752, 79, 519, 624, 625, 626, 627, 753, 439, 440, 441, 442, 251, 252, 754, 433, 434, 435, 436, 80, 437, 438, 285, 286, 443, 444, 755, 630, 631, 632, 633, 634, 297, 298, 299, 300, 635, 636, 637, 1023, 1024, 1025, 1026, 1027, 1028, 1029, 1030, 1031, 1032, 1092, 1093, 1094, 1095, 1096, 1097, 1081, 1082, 1083, 1084, 1085, 1086, 1087, 1088, 1089, 1090, 1091, 1100, 1101, 1102, 1103, 1104, 1098, 1099] (by decide +kernel) (by decide +kernel)
set_option maxRecDepth 20000 in
theorem gL_law_X10_warm : GoodIn wsL_law (wsV RL 73 RX10 yX10_warm wsX10_warm) := goodIn_app (goodIn_of _ (by decide +kernel)) ggL_law_X10_warm
set_option maxRecDepth 20000 in
theorem ggL_law_X11_warm : GoodIn wsL_law wsX11_warm := goodIn_r _ [759, 525, 760, 164, 123, 551, 552, 553, 5, 554, 333, 167, 168, 169, 761, 762, 763, 764, 122, 652, 653, 654, 655, 394, 656, 657, 658, 659, 584, 585, 586, 587, 119, 375, 376, 377, 481, 482, 483, 484, 121, 485, 486, 487, 488, 489, 490, 491, 1033, 1034, 1035, 1036, 1037, 1038, 1039, 1040, 1041, 1042, 1043, 1044, 1045, 1046, 1047, 1048, 1049, 1050, 1051, 1052, 1053, 1054, 1055, 1056, 1057, 1058, 1059, 1060, 1061, 1062, 1063, 1064, 1065, 1066, 1067, 1068, 1069, 1070, 1071, 1072, 1073] (by decide +kernel) (by decide +kernel)
set_option maxRecDepth 20000 in
theorem gL_law_X11_warm : GoodIn wsL_law (wsV RL 76 RX11 yX11_warm wsX11_warm) := goodIn_app (goodIn_of _ (by decide +kernel)) ggL_law_X11_warm
set_option maxRecDepth 20000 in
theorem ggL_law_X10_bestRoom : GoodIn wsL_law wsX10_bestRoom := goodIn_r _ [768, 19, 507, 146, 31, 542, 543, 544, 18, 545, 194, 149, 150, 2, 151, 769, 770, 771, 30, 772, 87, 457, 773, 738, 739, 740, 88, 741, 89, 249, 250, 742, 743, 744, 745, 746, 747, 748, 749, 750, 751, 26, 752, 79, 519, 624, 625, 626, 627, 753, 439, 440, 441, 442, 251, 252, 754, 433, 434, 435, 436, 80, 437, 438, 285, 286, 443, 444, 755, 630, 631, 632, 633, 634, 297, 298, 299, 300, 635, 636, 637, 737, 1023, 1024, 1025, 1026, 1027, 1028, 1029, 1030, 1031, 1032, 1081, 1082, 1083, 1084, 1085, 1086, 1087, 1088, 1089, 1090, 1091, 1100, 1101, 1102, 1103, 1104, 1092, 1093, 1094, 1095, 1096, 1097, 1098, 1099] (by decide +kernel) (by decide +kernel)
set_option maxRecDepth 20000 in
theorem gL_law_X10_bestRoom : GoodIn wsL_law (wsV RL 77 RX10 yX10_bestRoom wsX10_bestRoom) := goodIn_app (goodIn_of _ (by decide +kernel)) ggL_law_X10_bestRoom
set_option maxRecDepth 20000 in
theorem ggL_law_X11_bestRoom : GoodIn wsL_law wsX11_bestRoom := goodIn_r _ [777, 525, 778, 164, 480, 141, 123, 551, 552, 553, 5, 554, 333, 167, 168, 169, 761, 762, 763, 764, 122, 652, 653, 654, 655, 394, 656, 657, 658, 659, 584, 585, 586, 587, 119, 375, 376, 377, 481, 482, 483, 484, 121, 485, 486, 487, 488, 489, 490, 491, 1033, 1034, 1035, 1036, 1037, 1038, 1039, 1040, 1041, 1042, 1043, 1044, 1045, 1046, 1047, 1048, 1049, 1050, 1051, 1052, 1053, 1054, 1055, 1056, 1057, 1058, 1059, 1060, 1061, 1062, 1063, 1064, 1065, 1066, 1067, 1068, 1069, 1070, 1071, 1072, 1073] (by decide +kernel) (by decide +kernel)
set_option maxRecDepth 20000 in
theorem gL_law_X11_bestRoom : GoodIn wsL_law (wsV RL 80 RX11 yX11_bestRoom wsX11_bestRoom) := goodIn_app (goodIn_of _ (by decide +kernel)) ggL_law_X11_bestRoom
set_option maxRecDepth 20000 in
theorem ggL_law_X10_route : GoodIn wsL_law wsX10_route := goodIn_r _ [782, 19, 507, 146, 31, 542, 543, 544, 18, 545, 194, 149, 150, 2, 151, 783, 784, 785, 30, 786, 86, 87, 457, 85, 88, 747, 787, 197, 198, 199, 742, 743, 744, 745, 89, 746, 748, 749, 750, 751, 26, 752, 79, 519, 624, 625, 626, 627, 249, 250, 753, 439, 440, 441, 442, 251, 252, 754, 433, 434, 435, 436, 80, 437, 438, 285, 286, 443, 444, 157, 158, 788, 789, 790, 791, 792, 262, 263, 264, 64, 793, 794, 795, 796, 797, 1023, 1024, 1025, 1026, 1027, 1028, 1029, 1030, 1031, 1032, 1081, 1082, 1083, 1084, 1085, 1086, 1087, 1088, 1089, 1090, 1091, 1100, 1101, 1102, 1103, 1104, 1092, 1093, 1094, 1095, 1096, 1097, 1098, 1099] (by decide +kernel) (by decide +kernel)
set_option maxRecDepth 20000 in
theorem gL_law_X10_route : GoodIn wsL_law (wsV RL 81 RX10 yX10_route wsX10_route) := goodIn_app (goodIn_of _ (by decide +kernel)) ggL_law_X10_route
set_option maxRecDepth 20000 in
theorem ggL_law_X11_route : GoodIn wsL_law wsX11_route := goodIn_r _ [801, 525, 802, 164, 137, 480, 141, 120, 122, 551, 552, 553, 5, 554, 333, 167, 168, 169, 761, 762, 763, 764, 123, 375, 376, 377, 803, 804, 805, 806, 656, 657, 658, 659, 584, 585, 586, 587, 119, 481, 482, 483, 484, 121, 485, 486, 487, 488, 489, 490, 491, 1033, 1034, 1035, 1036, 1037, 1038, 1039, 1040, 1041, 1042, 1043, 1044, 1045, 1046, 1047, 1048, 1049, 1050, 1051, 1052, 1053, 1054, 1055, 1056, 1057, 1058, 1059, 1060, 1061, 1062, 1063, 1064, 1065, 1066, 1067, 1068, 1069, 1070, 1071, 1072, 1073] (by decide +kernel) (by decide +kernel)
set_option maxRecDepth 20000 in
theorem gL_law_X11_route : GoodIn wsL_law (wsV RL 84 RX11 yX11_route wsX11_route) := goodIn_app (goodIn_of _ (by decide +kernel)) ggL_law_X11_route
set_option maxRecDepth 20000 in
theorem ggL_law_X10_leavers : GoodIn wsL_law wsX10_leavers := goodIn_r _ [810, 19, 507, 146, 31, 510, 511, 512, 18, 513, 190, 149, 150, 2, 151, 811, 812, 813, 30, 814, 87, 421, 815, 816, 817, 818, 89, 88, 746, 747, 748, 819, 621, 622, 26, 623, 79, 519, 624, 625, 626, 627, 251, 252, 249, 250, 754, 433, 434, 435, 436, 80, 437, 438, 439, 440, 441, 442, 285, 286, 443, 444, 239, 240, 463, 464, 465, 466, 467, 468, 469, 470, 471, 820, 1023, 1024, 1025, 1026, 1027, 1028, 1029, 1030, 1031, 1032, 1081, 1082, 1083, 1084, 1085, 1086, 1087, 1088, 1089, 1090, 1091, 1100, 1101, 1102, 1103, 1104, 1092, 1093, 1094, 1095, 1096, 1097, 1098, 1099] (by decide +kernel) (by decide +kernel)
set_option maxRecDepth 20000 in
theorem gL_law_X10_leavers : GoodIn wsL_law (wsV RL 85 RX10 yX10_leavers wsX10_leavers) := goodIn_app (goodIn_of _ (by decide +kernel)) ggL_law_X10_leavers
set_option maxRecDepth 20000 in
theorem ggL_law_X11_leavers : GoodIn wsL_law wsX11_leavers := goodIn_r _ [824, 525, 164, 480, 333, 123, 122, 526, 527, 528, 5, 529, 141, 167, 168, 169, 761, 762, 763, 764, 375, 376, 377, 825, 826, 827, 828, 656, 657, 658, 659, 481, 482, 483, 484, 121, 485, 486, 487, 488, 119, 489, 490, 491, 500, 501, 502, 1033, 1034, 1035, 1036, 1037, 1038, 1039, 1040, 1041, 1042, 1043, 1044, 1045, 1046, 1047, 1048, 1049, 1050, 1051, 1052, 1053, 1054, 1055, 1056, 1057, 1058, 1059, 1060, 1061, 1062, 1063, 1064, 1065, 1066, 1067, 1068, 1069, 1070, 1071, 1072, 1073] (by decide +kernel) (by decide +kernel)
set_option maxRecDepth 20000 in
theorem gL_law_X11_leavers : GoodIn wsL_law (wsV RL 88 RX11 yX11_leavers wsX11_leavers) := goodIn_app (goodIn_of _ (by decide +kernel)) ggL_law_X11_leavers
set_option maxRecDepth 20000 in
theorem ggL_law_X10_silent : GoodIn wsL_law wsX10_silent := goodIn_r _ [832, 31, 833, 834, 835, 30, 836, 87, 421, 449, 450, 451, 452, 89, 426, 427, 428, 26, 429, 80, 430, 431, 249, 2, 250, 251, 252, 432, 433, 434, 435, 79, 436, 437, 438, 439, 440, 441, 442, 285, 286, 443, 444, 1023, 1024, 1025, 1026, 1027, 1028, 1029, 1030, 1031, 1032, 1100, 1101, 1102, 1103, 1104, 1081, 1082, 1083, 1084, 1085, 1086, 1087, 1088, 1089, 1090, 1091, 1098, 1099, 1092, 1093, 1094, 1095, 1096, 1097] (by decide +kernel) (by decide +kernel)
set_option maxRecDepth 20000 in
theorem gL_law_X10_silent : GoodIn wsL_law (wsV RL 89 RX10 yX10_silent wsX10_silent) := goodIn_app (goodIn_of _ (by decide +kernel)) ggL_law_X10_silent
set_option maxRecDepth 20000 in
theorem ggL_law_X11_silent : GoodIn wsL_law wsX11_silent := goodIn_r _ [840, 492, 493, 494, 5, 495, 333, 122, 481, 482, 483, 484, 121, 375, 376, 377, 485, 486, 487, 488, 119, 489, 490, 491, 1033, 1034, 1035, 1036, 1037, 1038, 1039, 1040, 1041, 1042, 1043, 1044, 1045, 1046, 1047, 1048, 1049, 1050, 1051, 1052, 1053, 1054, 1055, 1056, 1057, 1058, 1059, 1060, 1061, 1062, 1063, 1064, 1065, 1066, 1067, 1068, 1069, 1070, 1071, 1072, 1073] (by decide +kernel) (by decide +kernel)
set_option maxRecDepth 20000 in
theorem gL_law_X11_silent : GoodIn wsL_law (wsV RL 92 RX11 yX11_silent wsX11_silent) := goodIn_app (goodIn_of _ (by decide +kernel)) ggL_law_X11_silent
set_option maxRecDepth 20000 in
theorem ggL_law_X10_carried : GoodIn wsL_law wsX10_carried := goodIn_r _ [844, 19, 507, 31, 146, 542, 543, 544, 18, 545, 194, 845, 846, 847, 30, 848, 87, 421, 239, 2, 240, 849, 850, 851, 852, 88, 747, 462, 89, 251, 252, 249, 250, 853, 516, 517, 26, 518, 79, 519, 80, 430, 149, 150, 151, 854, 855, 856, 857, 1023, 1024, 1025, 1026, 1027, 1028, 1029, 1030, 1031, 1032, 1081, 1082, 1083, 1084, 1085, 1086, 1087, 1088, 1089, 1090, 1091, 1100, 1101, 1102, 1103, 1104, 1092, 1093, 1094, 1095, 1096, 1097, 1098, 1099] (by decide +kernel) (by decide +kernel)
set_option maxRecDepth 20000 in
theorem gL_law_X10_carried : GoodIn wsL_law (wsV RL 93 RX10 yX10_carried wsX10_carried) := goodIn_app (goodIn_of _ (by decide +kernel)) ggL_law_X10_carried
set_option maxRecDepth 20000 in
theorem ggL_law_X11_carried : GoodIn wsL_law wsX11_carried := goodIn_r _ [861, 525, 862, 863, 164, 333, 551, 552, 553, 5, 554, 167, 168, 169, 864, 865, 866, 867, 122, 375, 376, 377, 584, 585, 586, 587, 119, 500, 501, 502, 1033, 1034, 1035, 1036, 1037, 1038, 1039, 1040, 1041, 1042, 1043, 1044, 1045, 1046, 1047, 1048, 1049, 1050, 1051, 1052, 1053, 1054, 1055, 1056, 1057, 1058, 1059, 1060, 1061, 1062, 1063, 1064, 1065, 1066, 1067, 1068, 1069, 1070, 1071, 1072, 1073] (by decide +kernel) (by decide +kernel)
set_option maxRecDepth 20000 in
theorem gL_law_X11_carried : GoodIn wsL_law (wsV RL 96 RX11 yX11_carried wsX11_carried) := goodIn_app (goodIn_of _ (by decide +kernel)) ggL_law_X11_carried
set_option maxRecDepth 20000 in
theorem ggL_law_X10_hale : GoodIn wsL_law wsX10_hale := goodIn_r _ [871, 146, 872, 873, 149, 150, 2, 151] (by decide +kernel) (by decide +kernel)
set_option maxRecDepth 20000 in
theorem gL_law_X10_hale : GoodIn wsL_law (wsV RL 97 RX10 yX10_hale wsX10_hale) := goodIn_app (goodIn_of _ (by decide +kernel)) ggL_law_X10_hale
set_option maxRecDepth 20000 in
theorem ggL_law_X11_hale : GoodIn wsL_law wsX11_hale := goodIn_r _ [877, 646, 760, 164, 878, 167, 168, 5, 169] (by decide +kernel) (by decide +kernel)
set_option maxRecDepth 20000 in
theorem gL_law_X11_hale : GoodIn wsL_law (wsV RL 100 RX11 yX11_hale wsX11_hale) := goodIn_app (goodIn_of _ (by decide +kernel)) ggL_law_X11_hale
set_option maxRecDepth 20000 in
theorem ggL_law_X10_note : GoodIn wsL_law wsX10_note := goodIn_r _ [882, 146, 39, 176, 148, 149, 150, 2, 151, 883, 884, 885, 38, 886, 99, 887, 100, 101, 157, 158, 1023, 1024, 1025, 1026, 1027, 1028, 1029, 1030, 1031, 1032, 1108, 1109, 1110, 1111] (by decide +kernel) (by decide +kernel)
set_option maxRecDepth 20000 in
theorem gL_law_X10_note : GoodIn wsL_law (wsV RL 101 RX10 yX10_note wsX10_note) := goodIn_app (goodIn_of _ (by decide +kernel)) ggL_law_X10_note
set_option maxRecDepth 20000 in
theorem ggL_law_X11_note : GoodIn wsL_law wsX11_note := goodIn_r _ [891, 892, 893, 686, 164, 330, 166, 124, 125, 126, 167, 168, 5, 169, 1033, 1034, 1035, 1036, 1037, 1038, 1039, 1040, 1041, 1042, 1043, 1044, 1045, 1046, 1047, 1048, 1049, 1050, 1051, 1052, 1053, 1054, 1055, 1056, 1057, 1058, 1059, 1060, 1061, 1062, 1063, 1064, 1065, 1066, 1067, 1068, 1069, 1070, 1071, 1072, 1073] (by decide +kernel) (by decide +kernel)
set_option maxRecDepth 20000 in
theorem gL_law_X11_note : GoodIn wsL_law (wsV RL 105 RX11 yX11_note wsX11_note) := goodIn_app (goodIn_of _ (by decide +kernel)) ggL_law_X11_note
set_option maxRecDepth 20000 in
theorem ggL_law_X10_thinks : GoodIn wsL_law wsX10_thinks := goodIn_r _ [897, 39, 146, 898, 899, 900, 38, 901, 902, 903, 904, 905, 887, 99, 101, 100, 249, 2, 250, 443, 444, 239, 240, 465, 466, 467, 468, 469, 470, 471, 906, 907, 908, 909, 910, 251, 252, 911, 912, 913, 914, 1023, 1024, 1025, 1026, 1027, 1028, 1029, 1030, 1031, 1032, 1108, 1109, 1110, 1111] (by decide +kernel) (by decide +kernel)
set_option maxRecDepth 20000 in
theorem gL_law_X10_thinks : GoodIn wsL_law (wsV RL 106 RX10 yX10_thinks wsX10_thinks) := goodIn_app (goodIn_of _ (by decide +kernel)) ggL_law_X10_thinks
set_option maxRecDepth 20000 in
theorem ggL_law_X11_thinks : GoodIn wsL_law wsX11_thinks := goodIn_r _ [918, 892, 164, 167, 168, 5, 169, 919, 920, 921, 922, 330, 124, 126, 125, 489, 490, 491, 1033, 1034, 1035, 1036, 1037, 1038, 1039, 1040, 1041, 1042, 1043, 1044, 1045, 1046, 1047, 1048, 1049, 1050, 1051, 1052, 1053, 1054, 1055, 1056, 1057, 1058, 1059, 1060, 1061, 1062, 1063, 1064, 1065, 1066, 1067, 1068, 1069, 1070, 1071, 1072, 1073] (by decide +kernel) (by decide +kernel)
set_option maxRecDepth 20000 in
theorem gL_law_X11_thinks : GoodIn wsL_law (wsV RL 109 RX11 yX11_thinks wsX11_thinks) := goodIn_app (goodIn_of _ (by decide +kernel)) ggL_law_X11_thinks
set_option maxRecDepth 20000 in
theorem ggL_law_X10_ask : GoodIn wsL_law wsX10_ask := goodIn_r _ [926, 39, 146, 149, 150, 2, 151, 927, 928, 929, 38, 930, 931, 298, 299, 300, 910, 899, 900, 901, 902, 903, 904, 905, 887, 99, 101, 100, 249, 250, 443, 444, 239, 240, 932, 933, 934, 935, 936, 636, 637, 251, 252, 937, 466, 467, 468, 469, 470, 471, 1023, 1024, 1025, 1026, 1027, 1028, 1029, 1030, 1031, 1032, 1108, 1109, 1110, 1111] (by decide +kernel) (by decide +kernel)
set_option maxRecDepth 20000 in
theorem gL_law_X10_ask : GoodIn wsL_law (wsV RL 110 RX10 yX10_ask wsX10_ask) := goodIn_app (goodIn_of _ (by decide +kernel)) ggL_law_X10_ask
set_option maxRecDepth 20000 in
theorem ggL_law_X11_ask : GoodIn wsL_law wsX11_ask := goodIn_r _ [941, 892, 164, 167, 168, 5, 169, 942, 916, 917, 918, 919, 920, 921, 922, 330, 124, 126, 125, 489, 490, 491, 1033, 1034, 1035, 1036, 1037, 1038, 1039, 1040, 1041, 1042, 1043, 1044, 1045, 1046, 1047, 1048, 1049, 1050, 1051, 1052, 1053, 1054, 1055, 1056, 1057, 1058, 1059, 1060, 1061, 1062, 1063, 1064, 1065, 1066, 1067, 1068, 1069, 1070, 1071, 1072, 1073] (by decide +kernel) (by decide +kernel)
set_option maxRecDepth 20000 in
theorem gL_law_X11_ask : GoodIn wsL_law (wsV RL 113 RX11 yX11_ask wsX11_ask) := goodIn_app (goodIn_of _ (by decide +kernel)) ggL_law_X11_ask
set_option maxRecDepth 20000 in
theorem ggL_law_X10_listens : GoodIn wsL_law wsX10_listens := goodIn_r _ [946, 19, 507, 146, 31, 560, 561, 562, 18, 563, 564, 543, 544, 545, 194, 149, 150, 2, 151, 947, 948, 949, 30, 950, 87, 457, 89, 88, 747, 748, 249, 250, 251, 252, 754, 433, 434, 26, 435, 79, 436, 80, 437, 438, 439, 440, 441, 442, 285, 286, 443, 444, 239, 240, 1023, 1024, 1025, 1026, 1027, 1028, 1029, 1030, 1031, 1032, 1081, 1082, 1083, 1084, 1085, 1086, 1087, 1088, 1089, 1090, 1091, 1100, 1101, 1102, 1103, 1104, 1092, 1093, 1094, 1095, 1096, 1097, 1098, 1099] (by decide +kernel) (by decide +kernel)
set_option maxRecDepth 20000 in
theorem gL_law_X10_listens : GoodIn wsL_law (wsV RL 114 RX10 yX10_listens wsX10_listens) := goodIn_app (goodIn_of _ (by decide +kernel)) ggL_law_X10_listens
set_option maxRecDepth 20000 in
theorem ggL_law_X11_listens : GoodIn wsL_law wsX11_listens := goodIn_r _ [954, 525, 893, 686, 164, 141, 123, 570, 571, 572, 5, 573, 551, 552, 553, 554, 333, 167, 168, 169, 761, 762, 763, 764, 122, 481, 482, 483, 484, 121, 375, 376, 377, 485, 486, 487, 488, 119, 489, 490, 491, 1033, 1034, 1035, 1036, 1037, 1038, 1039, 1040, 1041, 1042, 1043, 1044, 1045, 1046, 1047, 1048, 1049, 1050, 1051, 1052, 1053, 1054, 1055, 1056, 1057, 1058, 1059, 1060, 1061, 1062, 1063, 1064, 1065, 1066, 1067, 1068, 1069, 1070, 1071, 1072, 1073] (by decide +kernel) (by decide +kernel)
set_option maxRecDepth 20000 in
theorem gL_law_X11_listens : GoodIn wsL_law (wsV RL 117 RX11 yX11_listens wsX11_listens) := goodIn_app (goodIn_of _ (by decide +kernel)) ggL_law_X11_listens
set_option maxRecDepth 20000 in
theorem ggL_law_X10_write : GoodIn wsL_law wsX10_write := goodIn_r _ [958, 19, 507, 146, 43, 177, 148, 542, 543, 544, 18, 545, 194, 149, 150, 2, 151, 959, 960, 961, 42, 962, 105, 963, 106, 157, 158, 1023, 1024, 1025, 1026, 1027, 1028, 1029, 1030, 1031, 1032, 1112, 1113, 1114, 1081, 1082, 1083, 1084, 1085, 1086, 1087, 1088, 1089, 1090, 1091] (by decide +kernel) (by decide +kernel)
set_option maxRecDepth 20000 in
theorem gL_law_X10_write : GoodIn wsL_law (wsV RL 118 RX10 yX10_write wsX10_write) := goodIn_app (goodIn_of _ (by decide +kernel)) ggL_law_X10_write
set_option maxRecDepth 20000 in
theorem ggL_law_X11_write : GoodIn wsL_law wsX11_write := goodIn_r _ [967, 525, 968, 969, 164, 331, 166, 127, 128, 551, 552, 553, 5, 554, 333, 167, 168, 169, 1033, 1034, 1035, 1036, 1037, 1038, 1039, 1040, 1041, 1042, 1043, 1044, 1045, 1046, 1047, 1048, 1049, 1050, 1051, 1052, 1053, 1054, 1055, 1056, 1057, 1058, 1059, 1060, 1061, 1062, 1063, 1064, 1065, 1066, 1067, 1068, 1069, 1070, 1071, 1072, 1073] (by decide +kernel) (by decide +kernel)
set_option maxRecDepth 20000 in
theorem gL_law_X11_write : GoodIn wsL_law (wsV RL 121 RX11 yX11_write wsX11_write) := goodIn_app (goodIn_of _ (by decide +kernel)) ggL_law_X11_write
set_option maxRecDepth 20000 in
theorem ggL_law_X10_tear : GoodIn wsL_law wsX10_tear := goodIn_r _ [973, 39, 176, 43, 177, 1023, 1024, 1025, 1026, 1027, 1028, 1029, 1030, 1031, 1032, 1108, 1109, 1110, 1111, 1112, 1113, 1114] (by decide +kernel) (by decide +kernel)
set_option maxRecDepth 20000 in
theorem gL_law_X10_tear : GoodIn wsL_law (wsV RL 122 RX10 yX10_tear wsX10_tear) := goodIn_app (goodIn_of _ (by decide +kernel)) ggL_law_X10_tear
set_option maxRecDepth 20000 in
theorem ggL_law_X11_tear : GoodIn wsL_law wsX11_tear := goodIn_r _ [977, 330, 331, 1033, 1034, 1035, 1036, 1037, 1038, 1039, 1040, 1041, 1042, 1043, 1044, 1045, 1046, 1047, 1048, 1049, 1050, 1051, 1052, 1053, 1054, 1055, 1056, 1057, 1058, 1059, 1060, 1061, 1062, 1063, 1064, 1065, 1066, 1067, 1068, 1069, 1070, 1071, 1072, 1073] (by decide +kernel) (by decide +kernel)
set_option maxRecDepth 20000 in
theorem gL_law_X11_tear : GoodIn wsL_law (wsV RL 125 RX11 yX11_tear wsX11_tear) := goodIn_app (goodIn_of _ (by decide +kernel)) ggL_law_X11_tear
set_option maxRecDepth 20000 in
theorem ggL_law_X10_judge : GoodIn wsL_law wsX10_judge := goodIn_r _ [981, 43, 23, 982, 983, 984, 42, 985, 963, 106, 986, 105, 249, 2, 250, 1023, 1024, 1025, 1026, 1027, 1028, 1029, 1030, 1031, 1032, 1112, 1113, 1114, 1092, 1093, 1094, 1095, 1096, 1097] (by decide +kernel) (by decide +kernel)
set_option maxRecDepth 20000 in
theorem gL_law_X10_judge : GoodIn wsL_law (wsV RL 126 RX10 yX10_judge wsX10_judge) := goodIn_app (goodIn_of _ (by decide +kernel)) ggL_law_X10_judge
set_option maxRecDepth 20000 in
theorem ggL_law_X11_judge : GoodIn wsL_law wsX11_judge := goodIn_r _ [990, 331, 122, 127, 128, 1033, 1034, 1035, 1036, 1037, 1038, 1039, 1040, 1041, 1042, 1043, 1044, 1045, 1046, 1047, 1048, 1049, 1050, 1051, 1052, 1053, 1054, 1055, 1056, 1057, 1058, 1059, 1060, 1061, 1062, 1063, 1064, 1065, 1066, 1067, 1068, 1069, 1070, 1071, 1072, 1073] (by decide +kernel) (by decide +kernel)
set_option maxRecDepth 20000 in
theorem gL_law_X11_judge : GoodIn wsL_law (wsV RL 129 RX11 yX11_judge wsX11_judge) := goodIn_app (goodIn_of _ (by decide +kernel)) ggL_law_X11_judge
set_option maxRecDepth 20000 in
theorem ggL_law_X10_seed : GoodIn wsL_law wsX10_seed := goodIn_r _ [994, 146, 47, 995, 1023, 1024, 1025, 1026, 1027, 1028, 1029, 1030, 1031, 1032, 1115] (by decide +kernel) (by decide +kernel)
set_option maxRecDepth 20000 in
theorem gL_law_X10_seed : GoodIn wsL_law (wsV RL 130 RX10 yX10_seed wsX10_seed) := goodIn_app (goodIn_of _ (by decide +kernel)) ggL_law_X10_seed
set_option maxRecDepth 20000 in
theorem ggL_law_X11_seed : GoodIn wsL_law wsX11_seed := goodIn_r _ [999, 164, 716, 1033, 1034, 1035, 1036, 1037, 1038, 1039, 1040, 1041, 1042, 1043, 1044, 1045, 1046, 1047, 1048, 1049, 1050, 1051, 1052, 1053, 1054, 1055, 1056, 1057, 1058, 1059, 1060, 1061, 1062, 1063, 1064, 1065, 1066, 1067, 1068, 1069, 1070, 1071, 1072, 1073] (by decide +kernel) (by decide +kernel)
set_option maxRecDepth 20000 in
theorem gL_law_X11_seed : GoodIn wsL_law (wsV RL 133 RX11 yX11_seed wsX11_seed) := goodIn_app (goodIn_of _ (by decide +kernel)) ggL_law_X11_seed
set_option maxRecDepth 20000 in
theorem ggL_law_X10_keep : GoodIn wsL_law wsX10_keep := goodIn_r _ [1003, 507, 1004, 23, 47, 995, 1005, 178, 35, 1006, 1007, 1008, 2, 1009, 49, 1010, 609, 610, 22, 611, 71, 72, 73, 74, 311, 312, 295, 296, 297, 298, 299, 300, 301, 302, 303, 304, 314, 315, 316, 34, 317, 318, 1116, 1117, 1118, 1023, 1024, 1025, 1026, 1027, 1028, 1029, 1030, 1031, 1032, 1115, 1092, 1093, 1094, 1095, 1096, 1097, 1105, 1106, 1107] (by decide +kernel) (by decide +kernel)
set_option maxRecDepth 20000 in
theorem gL_law_X10_keep : GoodIn wsL_law (wsV RL 134 RX10 yX10_keep wsX10_keep) := goodIn_app (goodIn_of _ (by decide +kernel)) ggL_law_X10_keep
set_option maxRecDepth 20000 in
theorem ggL_law_X11_keep : GoodIn wsL_law wsX11_keep := goodIn_r _ [1014, 525, 138, 122, 716, 140, 332, 167, 168, 5, 169, 1033, 1034, 1035, 1036, 1037, 1038, 1039, 1040, 1041, 1042, 1043, 1044, 1045, 1046, 1047, 1048, 1049, 1050, 1051, 1052, 1053, 1054, 1055, 1056, 1057, 1058, 1059, 1060, 1061, 1062, 1063, 1064, 1065, 1066, 1067, 1068, 1069, 1070, 1071, 1072, 1073] (by decide +kernel) (by decide +kernel)
set_option maxRecDepth 20000 in
theorem gL_law_X11_keep : GoodIn wsL_law (wsV RL 137 RX11 yX11_keep wsX11_keep) := goodIn_app (goodIn_of _ (by decide +kernel)) ggL_law_X11_keep
set_option maxRecDepth 20000 in
theorem ggL_law_X10_goBack : GoodIn wsL_law wsX10_goBack := goodIn_r _ [1018, 507, 178, 596, 23, 1004, 47, 1005, 995, 35, 1006, 1007, 1008, 2, 1009, 49, 1010, 609, 610, 22, 611, 71, 72, 73, 74, 311, 312, 295, 296, 297, 298, 299, 300, 301, 302, 303, 304, 314, 315, 316, 34, 317, 318, 1116, 1117, 1118, 1023, 1024, 1025, 1026, 1027, 1028, 1029, 1030, 1031, 1032, 1115, 1092, 1093, 1094, 1095, 1096, 1097, 1105, 1106, 1107] (by decide +kernel) (by decide +kernel)
set_option maxRecDepth 20000 in
theorem gL_law_X10_goBack : GoodIn wsL_law (wsV RL 138 RX10 yX10_goBack wsX10_goBack) := goodIn_app (goodIn_of _ (by decide +kernel)) ggL_law_X10_goBack
set_option maxRecDepth 20000 in
theorem ggL_law_X11_goBack : GoodIn wsL_law wsX11_goBack := goodIn_r _ [1022, 525, 140, 647, 122, 138, 716, 332, 167, 168, 5, 169, 1033, 1034, 1035, 1036, 1037, 1038, 1039, 1040, 1041, 1042, 1043, 1044, 1045, 1046, 1047, 1048, 1049, 1050, 1051, 1052, 1053, 1054, 1055, 1056, 1057, 1058, 1059, 1060, 1061, 1062, 1063, 1064, 1065, 1066, 1067, 1068, 1069, 1070, 1071, 1072, 1073] (by decide +kernel) (by decide +kernel)
set_option maxRecDepth 20000 in
theorem gL_law_X11_goBack : GoodIn wsL_law (wsV RL 141 RX11 yX11_goBack wsX11_goBack) := goodIn_app (goodIn_of _ (by decide +kernel)) ggL_law_X11_goBack
theorem dL_law_0 : decode cL_law 0 = .ok (.new 7, 3) := by decide +kernel
theorem dL_law_3 : decode cL_law 3 = .ok (.dup, 1) := by decide +kernel
theorem dL_law_4 : decode cL_law 4 = .ok (.invokespecial 9, 3) := by decide +kernel
theorem dL_law_7 : decode cL_law 7 = .ok (.astore_n 1, 1) := by decide +kernel
theorem dL_law_8 : decode cL_law 8 = .ok (.new 10, 3) := by decide +kernel
theorem dL_law_11 : decode cL_law 11 = .ok (.dup, 1) := by decide +kernel
theorem dL_law_12 : decode cL_law 12 = .ok (.invokespecial 12, 3) := by decide +kernel
theorem dL_law_15 : decode cL_law 15 = .ok (.astore_n 2, 1) := by decide +kernel
theorem dL_law_16 : decode cL_law 16 = .ok (.iconst 0, 1) := by decide +kernel
theorem dL_law_17 : decode cL_law 17 = .ok (.istore_n 3, 1) := by decide +kernel
theorem dL_law_18 : decode cL_law 18 = .ok (.iload_n 3, 1) := by decide +kernel
theorem dL_law_19 : decode cL_law 19 = .ok (.aload_n 0, 1) := by decide +kernel
theorem dL_law_20 : decode cL_law 20 = .ok (.arraylength, 1) := by decide +kernel
theorem dL_law_21 : decode cL_law 21 = .ok (.iconst 4, 1) := by decide +kernel
theorem dL_law_22 : decode cL_law 22 = .ok (.isub, 1) := by decide +kernel
theorem dL_law_23 : decode cL_law 23 = .ok (.if_icmp .gt 1044, 3) := by decide +kernel
theorem dL_law_26 : decode cL_law 26 = .ok (.aload_n 0, 1) := by decide +kernel
theorem dL_law_27 : decode cL_law 27 = .ok (.iload_n 3, 1) := by decide +kernel
theorem dL_law_28 : decode cL_law 28 = .ok (.iaload, 1) := by decide +kernel
theorem dL_law_29 : decode cL_law 29 = .ok (.bipush 31, 2) := by decide +kernel
theorem dL_law_31 : decode cL_law 31 = .ok (.iand, 1) := by decide +kernel
theorem dL_law_32 : decode cL_law 32 = .ok (.tableswitch 1029 0 30 #[140, 163, 176, 189, 212, 245, 278, 311, 354, 377, 410, 433, 476, 499, 512, 545, 588, 631, 664, 687, 720, 753, 812, 835, 858, 901, 934, 947, 960, 983, 1006], 140) := by decide +kernel
theorem dL_law_172 : decode cL_law 172 = .ok (.aload_n 1, 1) := by decide +kernel
theorem dL_law_173 : decode cL_law 173 = .ok (.aload_n 0, 1) := by decide +kernel
theorem dL_law_174 : decode cL_law 174 = .ok (.iload_n 3, 1) := by decide +kernel
theorem dL_law_175 : decode cL_law 175 = .ok (.iconst 1, 1) := by decide +kernel
theorem dL_law_176 : decode cL_law 176 = .ok (.iadd, 1) := by decide +kernel
theorem dL_law_177 : decode cL_law 177 = .ok (.iaload, 1) := by decide +kernel
theorem dL_law_178 : decode cL_law 178 = .ok (.invokevirtual 13, 3) := by decide +kernel
theorem dL_law_181 : decode cL_law 181 = .ok (.aload_n 2, 1) := by decide +kernel
theorem dL_law_182 : decode cL_law 182 = .ok (.aload_n 0, 1) := by decide +kernel
theorem dL_law_183 : decode cL_law 183 = .ok (.iload_n 3, 1) := by decide +kernel
theorem dL_law_184 : decode cL_law 184 = .ok (.iconst 1, 1) := by decide +kernel
theorem dL_law_185 : decode cL_law 185 = .ok (.iadd, 1) := by decide +kernel
theorem dL_law_186 : decode cL_law 186 = .ok (.iaload, 1) := by decide +kernel
theorem dL_law_187 : decode cL_law 187 = .ok (.invokevirtual 17, 3) := by decide +kernel
theorem dL_law_190 : decode cL_law 190 = .ok (.if_icmp .eq 871, 3) := by decide +kernel
theorem dL_law_193 : decode cL_law 193 = .ok (.iconst 0, 1) := by decide +kernel
theorem dL_law_194 : decode cL_law 194 = .ok (.ireturn, 1) := by decide +kernel
theorem dL_law_195 : decode cL_law 195 = .ok (.aload_n 1, 1) := by decide +kernel
theorem dL_law_196 : decode cL_law 196 = .ok (.invokevirtual 18, 3) := by decide +kernel
theorem dL_law_199 : decode cL_law 199 = .ok (.aload_n 2, 1) := by decide +kernel
theorem dL_law_200 : decode cL_law 200 = .ok (.invokevirtual 22, 3) := by decide +kernel
theorem dL_law_203 : decode cL_law 203 = .ok (.if_icmp .eq 858, 3) := by decide +kernel
theorem dL_law_206 : decode cL_law 206 = .ok (.iconst 0, 1) := by decide +kernel
theorem dL_law_207 : decode cL_law 207 = .ok (.ireturn, 1) := by decide +kernel
theorem dL_law_208 : decode cL_law 208 = .ok (.aload_n 1, 1) := by decide +kernel
theorem dL_law_209 : decode cL_law 209 = .ok (.invokevirtual 23, 3) := by decide +kernel
theorem dL_law_212 : decode cL_law 212 = .ok (.aload_n 2, 1) := by decide +kernel
theorem dL_law_213 : decode cL_law 213 = .ok (.invokevirtual 26, 3) := by decide +kernel
theorem dL_law_216 : decode cL_law 216 = .ok (.if_icmp .eq 845, 3) := by decide +kernel
theorem dL_law_219 : decode cL_law 219 = .ok (.iconst 0, 1) := by decide +kernel
theorem dL_law_220 : decode cL_law 220 = .ok (.ireturn, 1) := by decide +kernel
theorem dL_law_221 : decode cL_law 221 = .ok (.aload_n 1, 1) := by decide +kernel
theorem dL_law_222 : decode cL_law 222 = .ok (.aload_n 0, 1) := by decide +kernel
theorem dL_law_223 : decode cL_law 223 = .ok (.iload_n 3, 1) := by decide +kernel
theorem dL_law_224 : decode cL_law 224 = .ok (.iconst 1, 1) := by decide +kernel
theorem dL_law_225 : decode cL_law 225 = .ok (.iadd, 1) := by decide +kernel
theorem dL_law_226 : decode cL_law 226 = .ok (.iaload, 1) := by decide +kernel
theorem dL_law_227 : decode cL_law 227 = .ok (.invokevirtual 27, 3) := by decide +kernel
theorem dL_law_230 : decode cL_law 230 = .ok (.aload_n 2, 1) := by decide +kernel
theorem dL_law_231 : decode cL_law 231 = .ok (.aload_n 0, 1) := by decide +kernel
theorem dL_law_232 : decode cL_law 232 = .ok (.iload_n 3, 1) := by decide +kernel
theorem dL_law_233 : decode cL_law 233 = .ok (.iconst 1, 1) := by decide +kernel
theorem dL_law_234 : decode cL_law 234 = .ok (.iadd, 1) := by decide +kernel
theorem dL_law_235 : decode cL_law 235 = .ok (.iaload, 1) := by decide +kernel
theorem dL_law_236 : decode cL_law 236 = .ok (.invokevirtual 30, 3) := by decide +kernel
theorem dL_law_239 : decode cL_law 239 = .ok (.if_icmp .eq 822, 3) := by decide +kernel
theorem dL_law_242 : decode cL_law 242 = .ok (.iconst 0, 1) := by decide +kernel
theorem dL_law_243 : decode cL_law 243 = .ok (.ireturn, 1) := by decide +kernel
theorem dL_law_244 : decode cL_law 244 = .ok (.aload_n 1, 1) := by decide +kernel
theorem dL_law_245 : decode cL_law 245 = .ok (.aload_n 0, 1) := by decide +kernel
theorem dL_law_246 : decode cL_law 246 = .ok (.iload_n 3, 1) := by decide +kernel
theorem dL_law_247 : decode cL_law 247 = .ok (.iconst 1, 1) := by decide +kernel
theorem dL_law_248 : decode cL_law 248 = .ok (.iadd, 1) := by decide +kernel
theorem dL_law_249 : decode cL_law 249 = .ok (.iaload, 1) := by decide +kernel
theorem dL_law_250 : decode cL_law 250 = .ok (.aload_n 0, 1) := by decide +kernel
theorem dL_law_251 : decode cL_law 251 = .ok (.iload_n 3, 1) := by decide +kernel
theorem dL_law_252 : decode cL_law 252 = .ok (.iconst 2, 1) := by decide +kernel
theorem dL_law_253 : decode cL_law 253 = .ok (.iadd, 1) := by decide +kernel
theorem dL_law_254 : decode cL_law 254 = .ok (.iaload, 1) := by decide +kernel
theorem dL_law_255 : decode cL_law 255 = .ok (.invokevirtual 31, 3) := by decide +kernel
theorem dL_law_258 : decode cL_law 258 = .ok (.aload_n 2, 1) := by decide +kernel
theorem dL_law_259 : decode cL_law 259 = .ok (.aload_n 0, 1) := by decide +kernel
theorem dL_law_260 : decode cL_law 260 = .ok (.iload_n 3, 1) := by decide +kernel
theorem dL_law_261 : decode cL_law 261 = .ok (.iconst 1, 1) := by decide +kernel
theorem dL_law_262 : decode cL_law 262 = .ok (.iadd, 1) := by decide +kernel
theorem dL_law_263 : decode cL_law 263 = .ok (.iaload, 1) := by decide +kernel
theorem dL_law_264 : decode cL_law 264 = .ok (.aload_n 0, 1) := by decide +kernel
theorem dL_law_265 : decode cL_law 265 = .ok (.iload_n 3, 1) := by decide +kernel
theorem dL_law_266 : decode cL_law 266 = .ok (.iconst 2, 1) := by decide +kernel
theorem dL_law_267 : decode cL_law 267 = .ok (.iadd, 1) := by decide +kernel
theorem dL_law_268 : decode cL_law 268 = .ok (.iaload, 1) := by decide +kernel
theorem dL_law_269 : decode cL_law 269 = .ok (.invokevirtual 35, 3) := by decide +kernel
theorem dL_law_272 : decode cL_law 272 = .ok (.if_icmp .eq 789, 3) := by decide +kernel
theorem dL_law_275 : decode cL_law 275 = .ok (.iconst 0, 1) := by decide +kernel
theorem dL_law_276 : decode cL_law 276 = .ok (.ireturn, 1) := by decide +kernel
theorem dL_law_277 : decode cL_law 277 = .ok (.aload_n 1, 1) := by decide +kernel
theorem dL_law_278 : decode cL_law 278 = .ok (.aload_n 0, 1) := by decide +kernel
theorem dL_law_279 : decode cL_law 279 = .ok (.iload_n 3, 1) := by decide +kernel
theorem dL_law_280 : decode cL_law 280 = .ok (.iconst 1, 1) := by decide +kernel
theorem dL_law_281 : decode cL_law 281 = .ok (.iadd, 1) := by decide +kernel
theorem dL_law_282 : decode cL_law 282 = .ok (.iaload, 1) := by decide +kernel
theorem dL_law_283 : decode cL_law 283 = .ok (.aload_n 0, 1) := by decide +kernel
theorem dL_law_284 : decode cL_law 284 = .ok (.iload_n 3, 1) := by decide +kernel
theorem dL_law_285 : decode cL_law 285 = .ok (.iconst 2, 1) := by decide +kernel
theorem dL_law_286 : decode cL_law 286 = .ok (.iadd, 1) := by decide +kernel
theorem dL_law_287 : decode cL_law 287 = .ok (.iaload, 1) := by decide +kernel
theorem dL_law_288 : decode cL_law 288 = .ok (.invokevirtual 36, 3) := by decide +kernel
theorem dL_law_291 : decode cL_law 291 = .ok (.aload_n 2, 1) := by decide +kernel
theorem dL_law_292 : decode cL_law 292 = .ok (.aload_n 0, 1) := by decide +kernel
theorem dL_law_293 : decode cL_law 293 = .ok (.iload_n 3, 1) := by decide +kernel
theorem dL_law_294 : decode cL_law 294 = .ok (.iconst 1, 1) := by decide +kernel
theorem dL_law_295 : decode cL_law 295 = .ok (.iadd, 1) := by decide +kernel
theorem dL_law_296 : decode cL_law 296 = .ok (.iaload, 1) := by decide +kernel
theorem dL_law_297 : decode cL_law 297 = .ok (.aload_n 0, 1) := by decide +kernel
theorem dL_law_298 : decode cL_law 298 = .ok (.iload_n 3, 1) := by decide +kernel
theorem dL_law_299 : decode cL_law 299 = .ok (.iconst 2, 1) := by decide +kernel
theorem dL_law_300 : decode cL_law 300 = .ok (.iadd, 1) := by decide +kernel
theorem dL_law_301 : decode cL_law 301 = .ok (.iaload, 1) := by decide +kernel
theorem dL_law_302 : decode cL_law 302 = .ok (.invokevirtual 39, 3) := by decide +kernel
theorem dL_law_305 : decode cL_law 305 = .ok (.if_icmp .eq 756, 3) := by decide +kernel
theorem dL_law_308 : decode cL_law 308 = .ok (.iconst 0, 1) := by decide +kernel
theorem dL_law_309 : decode cL_law 309 = .ok (.ireturn, 1) := by decide +kernel
theorem dL_law_310 : decode cL_law 310 = .ok (.aload_n 1, 1) := by decide +kernel
theorem dL_law_311 : decode cL_law 311 = .ok (.aload_n 0, 1) := by decide +kernel
theorem dL_law_312 : decode cL_law 312 = .ok (.iload_n 3, 1) := by decide +kernel
theorem dL_law_313 : decode cL_law 313 = .ok (.iconst 1, 1) := by decide +kernel
theorem dL_law_314 : decode cL_law 314 = .ok (.iadd, 1) := by decide +kernel
theorem dL_law_315 : decode cL_law 315 = .ok (.iaload, 1) := by decide +kernel
theorem dL_law_316 : decode cL_law 316 = .ok (.aload_n 0, 1) := by decide +kernel
theorem dL_law_317 : decode cL_law 317 = .ok (.iload_n 3, 1) := by decide +kernel
theorem dL_law_318 : decode cL_law 318 = .ok (.iconst 2, 1) := by decide +kernel
theorem dL_law_319 : decode cL_law 319 = .ok (.iadd, 1) := by decide +kernel
theorem dL_law_320 : decode cL_law 320 = .ok (.iaload, 1) := by decide +kernel
theorem dL_law_321 : decode cL_law 321 = .ok (.invokevirtual 40, 3) := by decide +kernel
theorem dL_law_324 : decode cL_law 324 = .ok (.aload_n 2, 1) := by decide +kernel
theorem dL_law_325 : decode cL_law 325 = .ok (.aload_n 0, 1) := by decide +kernel
theorem dL_law_326 : decode cL_law 326 = .ok (.iload_n 3, 1) := by decide +kernel
theorem dL_law_327 : decode cL_law 327 = .ok (.iconst 1, 1) := by decide +kernel
theorem dL_law_328 : decode cL_law 328 = .ok (.iadd, 1) := by decide +kernel
theorem dL_law_329 : decode cL_law 329 = .ok (.iaload, 1) := by decide +kernel
theorem dL_law_330 : decode cL_law 330 = .ok (.aload_n 0, 1) := by decide +kernel
theorem dL_law_331 : decode cL_law 331 = .ok (.iload_n 3, 1) := by decide +kernel
theorem dL_law_332 : decode cL_law 332 = .ok (.iconst 2, 1) := by decide +kernel
theorem dL_law_333 : decode cL_law 333 = .ok (.iadd, 1) := by decide +kernel
theorem dL_law_334 : decode cL_law 334 = .ok (.iaload, 1) := by decide +kernel
theorem dL_law_335 : decode cL_law 335 = .ok (.invokevirtual 43, 3) := by decide +kernel
theorem dL_law_338 : decode cL_law 338 = .ok (.if_icmp .eq 723, 3) := by decide +kernel
theorem dL_law_341 : decode cL_law 341 = .ok (.iconst 0, 1) := by decide +kernel
theorem dL_law_342 : decode cL_law 342 = .ok (.ireturn, 1) := by decide +kernel
theorem dL_law_343 : decode cL_law 343 = .ok (.aload_n 1, 1) := by decide +kernel
theorem dL_law_344 : decode cL_law 344 = .ok (.aload_n 0, 1) := by decide +kernel
theorem dL_law_345 : decode cL_law 345 = .ok (.iload_n 3, 1) := by decide +kernel
theorem dL_law_346 : decode cL_law 346 = .ok (.iconst 1, 1) := by decide +kernel
theorem dL_law_347 : decode cL_law 347 = .ok (.iadd, 1) := by decide +kernel
theorem dL_law_348 : decode cL_law 348 = .ok (.iaload, 1) := by decide +kernel
theorem dL_law_349 : decode cL_law 349 = .ok (.aload_n 0, 1) := by decide +kernel
theorem dL_law_350 : decode cL_law 350 = .ok (.iload_n 3, 1) := by decide +kernel
theorem dL_law_351 : decode cL_law 351 = .ok (.iconst 2, 1) := by decide +kernel
theorem dL_law_352 : decode cL_law 352 = .ok (.iadd, 1) := by decide +kernel
theorem dL_law_353 : decode cL_law 353 = .ok (.iaload, 1) := by decide +kernel
theorem dL_law_354 : decode cL_law 354 = .ok (.aload_n 0, 1) := by decide +kernel
theorem dL_law_355 : decode cL_law 355 = .ok (.iload_n 3, 1) := by decide +kernel
theorem dL_law_356 : decode cL_law 356 = .ok (.iconst 3, 1) := by decide +kernel
theorem dL_law_357 : decode cL_law 357 = .ok (.iadd, 1) := by decide +kernel
theorem dL_law_358 : decode cL_law 358 = .ok (.iaload, 1) := by decide +kernel
theorem dL_law_359 : decode cL_law 359 = .ok (.invokevirtual 44, 3) := by decide +kernel
theorem dL_law_362 : decode cL_law 362 = .ok (.aload_n 2, 1) := by decide +kernel
theorem dL_law_363 : decode cL_law 363 = .ok (.aload_n 0, 1) := by decide +kernel
theorem dL_law_364 : decode cL_law 364 = .ok (.iload_n 3, 1) := by decide +kernel
theorem dL_law_365 : decode cL_law 365 = .ok (.iconst 1, 1) := by decide +kernel
theorem dL_law_366 : decode cL_law 366 = .ok (.iadd, 1) := by decide +kernel
theorem dL_law_367 : decode cL_law 367 = .ok (.iaload, 1) := by decide +kernel
theorem dL_law_368 : decode cL_law 368 = .ok (.aload_n 0, 1) := by decide +kernel
theorem dL_law_369 : decode cL_law 369 = .ok (.iload_n 3, 1) := by decide +kernel
theorem dL_law_370 : decode cL_law 370 = .ok (.iconst 2, 1) := by decide +kernel
theorem dL_law_371 : decode cL_law 371 = .ok (.iadd, 1) := by decide +kernel
theorem dL_law_372 : decode cL_law 372 = .ok (.iaload, 1) := by decide +kernel
theorem dL_law_373 : decode cL_law 373 = .ok (.aload_n 0, 1) := by decide +kernel
theorem dL_law_374 : decode cL_law 374 = .ok (.iload_n 3, 1) := by decide +kernel
theorem dL_law_375 : decode cL_law 375 = .ok (.iconst 3, 1) := by decide +kernel
theorem dL_law_376 : decode cL_law 376 = .ok (.iadd, 1) := by decide +kernel
theorem dL_law_377 : decode cL_law 377 = .ok (.iaload, 1) := by decide +kernel
theorem dL_law_378 : decode cL_law 378 = .ok (.invokevirtual 48, 3) := by decide +kernel
theorem dL_law_381 : decode cL_law 381 = .ok (.if_icmp .eq 680, 3) := by decide +kernel
theorem dL_law_384 : decode cL_law 384 = .ok (.iconst 0, 1) := by decide +kernel
theorem dL_law_385 : decode cL_law 385 = .ok (.ireturn, 1) := by decide +kernel
theorem dL_law_386 : decode cL_law 386 = .ok (.aload_n 1, 1) := by decide +kernel
theorem dL_law_387 : decode cL_law 387 = .ok (.aload_n 0, 1) := by decide +kernel
theorem dL_law_388 : decode cL_law 388 = .ok (.iload_n 3, 1) := by decide +kernel
theorem dL_law_389 : decode cL_law 389 = .ok (.iconst 1, 1) := by decide +kernel
theorem dL_law_390 : decode cL_law 390 = .ok (.iadd, 1) := by decide +kernel
theorem dL_law_391 : decode cL_law 391 = .ok (.iaload, 1) := by decide +kernel
theorem dL_law_392 : decode cL_law 392 = .ok (.invokevirtual 49, 3) := by decide +kernel
theorem dL_law_395 : decode cL_law 395 = .ok (.aload_n 2, 1) := by decide +kernel
theorem dL_law_396 : decode cL_law 396 = .ok (.aload_n 0, 1) := by decide +kernel
theorem dL_law_397 : decode cL_law 397 = .ok (.iload_n 3, 1) := by decide +kernel
theorem dL_law_398 : decode cL_law 398 = .ok (.iconst 1, 1) := by decide +kernel
theorem dL_law_399 : decode cL_law 399 = .ok (.iadd, 1) := by decide +kernel
theorem dL_law_400 : decode cL_law 400 = .ok (.iaload, 1) := by decide +kernel
theorem dL_law_401 : decode cL_law 401 = .ok (.invokevirtual 52, 3) := by decide +kernel
theorem dL_law_404 : decode cL_law 404 = .ok (.if_icmp .eq 657, 3) := by decide +kernel
theorem dL_law_407 : decode cL_law 407 = .ok (.iconst 0, 1) := by decide +kernel
theorem dL_law_408 : decode cL_law 408 = .ok (.ireturn, 1) := by decide +kernel
theorem dL_law_409 : decode cL_law 409 = .ok (.aload_n 1, 1) := by decide +kernel
theorem dL_law_410 : decode cL_law 410 = .ok (.aload_n 0, 1) := by decide +kernel
theorem dL_law_411 : decode cL_law 411 = .ok (.iload_n 3, 1) := by decide +kernel
theorem dL_law_412 : decode cL_law 412 = .ok (.iconst 1, 1) := by decide +kernel
theorem dL_law_413 : decode cL_law 413 = .ok (.iadd, 1) := by decide +kernel
theorem dL_law_414 : decode cL_law 414 = .ok (.iaload, 1) := by decide +kernel
theorem dL_law_415 : decode cL_law 415 = .ok (.aload_n 0, 1) := by decide +kernel
theorem dL_law_416 : decode cL_law 416 = .ok (.iload_n 3, 1) := by decide +kernel
theorem dL_law_417 : decode cL_law 417 = .ok (.iconst 2, 1) := by decide +kernel
theorem dL_law_418 : decode cL_law 418 = .ok (.iadd, 1) := by decide +kernel
theorem dL_law_419 : decode cL_law 419 = .ok (.iaload, 1) := by decide +kernel
theorem dL_law_420 : decode cL_law 420 = .ok (.invokevirtual 53, 3) := by decide +kernel
theorem dL_law_423 : decode cL_law 423 = .ok (.aload_n 2, 1) := by decide +kernel
theorem dL_law_424 : decode cL_law 424 = .ok (.aload_n 0, 1) := by decide +kernel
theorem dL_law_425 : decode cL_law 425 = .ok (.iload_n 3, 1) := by decide +kernel
theorem dL_law_426 : decode cL_law 426 = .ok (.iconst 1, 1) := by decide +kernel
theorem dL_law_427 : decode cL_law 427 = .ok (.iadd, 1) := by decide +kernel
theorem dL_law_428 : decode cL_law 428 = .ok (.iaload, 1) := by decide +kernel
theorem dL_law_429 : decode cL_law 429 = .ok (.aload_n 0, 1) := by decide +kernel
theorem dL_law_430 : decode cL_law 430 = .ok (.iload_n 3, 1) := by decide +kernel
theorem dL_law_431 : decode cL_law 431 = .ok (.iconst 2, 1) := by decide +kernel
theorem dL_law_432 : decode cL_law 432 = .ok (.iadd, 1) := by decide +kernel
theorem dL_law_433 : decode cL_law 433 = .ok (.iaload, 1) := by decide +kernel
theorem dL_law_434 : decode cL_law 434 = .ok (.invokevirtual 56, 3) := by decide +kernel
theorem dL_law_437 : decode cL_law 437 = .ok (.if_icmp .eq 624, 3) := by decide +kernel
theorem dL_law_440 : decode cL_law 440 = .ok (.iconst 0, 1) := by decide +kernel
theorem dL_law_441 : decode cL_law 441 = .ok (.ireturn, 1) := by decide +kernel
theorem dL_law_442 : decode cL_law 442 = .ok (.aload_n 1, 1) := by decide +kernel
theorem dL_law_443 : decode cL_law 443 = .ok (.aload_n 0, 1) := by decide +kernel
theorem dL_law_444 : decode cL_law 444 = .ok (.iload_n 3, 1) := by decide +kernel
theorem dL_law_445 : decode cL_law 445 = .ok (.iconst 1, 1) := by decide +kernel
theorem dL_law_446 : decode cL_law 446 = .ok (.iadd, 1) := by decide +kernel
theorem dL_law_447 : decode cL_law 447 = .ok (.iaload, 1) := by decide +kernel
theorem dL_law_448 : decode cL_law 448 = .ok (.invokevirtual 57, 3) := by decide +kernel
theorem dL_law_451 : decode cL_law 451 = .ok (.aload_n 2, 1) := by decide +kernel
theorem dL_law_452 : decode cL_law 452 = .ok (.aload_n 0, 1) := by decide +kernel
theorem dL_law_453 : decode cL_law 453 = .ok (.iload_n 3, 1) := by decide +kernel
theorem dL_law_454 : decode cL_law 454 = .ok (.iconst 1, 1) := by decide +kernel
theorem dL_law_455 : decode cL_law 455 = .ok (.iadd, 1) := by decide +kernel
theorem dL_law_456 : decode cL_law 456 = .ok (.iaload, 1) := by decide +kernel
theorem dL_law_457 : decode cL_law 457 = .ok (.invokevirtual 60, 3) := by decide +kernel
theorem dL_law_460 : decode cL_law 460 = .ok (.if_icmp .eq 601, 3) := by decide +kernel
theorem dL_law_463 : decode cL_law 463 = .ok (.iconst 0, 1) := by decide +kernel
theorem dL_law_464 : decode cL_law 464 = .ok (.ireturn, 1) := by decide +kernel
theorem dL_law_465 : decode cL_law 465 = .ok (.aload_n 1, 1) := by decide +kernel
theorem dL_law_466 : decode cL_law 466 = .ok (.aload_n 0, 1) := by decide +kernel
theorem dL_law_467 : decode cL_law 467 = .ok (.iload_n 3, 1) := by decide +kernel
theorem dL_law_468 : decode cL_law 468 = .ok (.iconst 1, 1) := by decide +kernel
theorem dL_law_469 : decode cL_law 469 = .ok (.iadd, 1) := by decide +kernel
theorem dL_law_470 : decode cL_law 470 = .ok (.iaload, 1) := by decide +kernel
theorem dL_law_471 : decode cL_law 471 = .ok (.aload_n 0, 1) := by decide +kernel
theorem dL_law_472 : decode cL_law 472 = .ok (.iload_n 3, 1) := by decide +kernel
theorem dL_law_473 : decode cL_law 473 = .ok (.iconst 2, 1) := by decide +kernel
theorem dL_law_474 : decode cL_law 474 = .ok (.iadd, 1) := by decide +kernel
theorem dL_law_475 : decode cL_law 475 = .ok (.iaload, 1) := by decide +kernel
theorem dL_law_476 : decode cL_law 476 = .ok (.aload_n 0, 1) := by decide +kernel
theorem dL_law_477 : decode cL_law 477 = .ok (.iload_n 3, 1) := by decide +kernel
theorem dL_law_478 : decode cL_law 478 = .ok (.iconst 3, 1) := by decide +kernel
theorem dL_law_479 : decode cL_law 479 = .ok (.iadd, 1) := by decide +kernel
theorem dL_law_480 : decode cL_law 480 = .ok (.iaload, 1) := by decide +kernel
theorem dL_law_481 : decode cL_law 481 = .ok (.invokevirtual 61, 3) := by decide +kernel
theorem dL_law_484 : decode cL_law 484 = .ok (.aload_n 2, 1) := by decide +kernel
theorem dL_law_485 : decode cL_law 485 = .ok (.aload_n 0, 1) := by decide +kernel
theorem dL_law_486 : decode cL_law 486 = .ok (.iload_n 3, 1) := by decide +kernel
theorem dL_law_487 : decode cL_law 487 = .ok (.iconst 1, 1) := by decide +kernel
theorem dL_law_488 : decode cL_law 488 = .ok (.iadd, 1) := by decide +kernel
theorem dL_law_489 : decode cL_law 489 = .ok (.iaload, 1) := by decide +kernel
theorem dL_law_490 : decode cL_law 490 = .ok (.aload_n 0, 1) := by decide +kernel
theorem dL_law_491 : decode cL_law 491 = .ok (.iload_n 3, 1) := by decide +kernel
theorem dL_law_492 : decode cL_law 492 = .ok (.iconst 2, 1) := by decide +kernel
theorem dL_law_493 : decode cL_law 493 = .ok (.iadd, 1) := by decide +kernel
theorem dL_law_494 : decode cL_law 494 = .ok (.iaload, 1) := by decide +kernel
theorem dL_law_495 : decode cL_law 495 = .ok (.aload_n 0, 1) := by decide +kernel
theorem dL_law_496 : decode cL_law 496 = .ok (.iload_n 3, 1) := by decide +kernel
theorem dL_law_497 : decode cL_law 497 = .ok (.iconst 3, 1) := by decide +kernel
theorem dL_law_498 : decode cL_law 498 = .ok (.iadd, 1) := by decide +kernel
theorem dL_law_499 : decode cL_law 499 = .ok (.iaload, 1) := by decide +kernel
theorem dL_law_500 : decode cL_law 500 = .ok (.invokevirtual 64, 3) := by decide +kernel
theorem dL_law_503 : decode cL_law 503 = .ok (.if_icmp .eq 558, 3) := by decide +kernel
theorem dL_law_506 : decode cL_law 506 = .ok (.iconst 0, 1) := by decide +kernel
theorem dL_law_507 : decode cL_law 507 = .ok (.ireturn, 1) := by decide +kernel
theorem dL_law_508 : decode cL_law 508 = .ok (.aload_n 1, 1) := by decide +kernel
theorem dL_law_509 : decode cL_law 509 = .ok (.aload_n 0, 1) := by decide +kernel
theorem dL_law_510 : decode cL_law 510 = .ok (.iload_n 3, 1) := by decide +kernel
theorem dL_law_511 : decode cL_law 511 = .ok (.iconst 1, 1) := by decide +kernel
theorem dL_law_512 : decode cL_law 512 = .ok (.iadd, 1) := by decide +kernel
theorem dL_law_513 : decode cL_law 513 = .ok (.iaload, 1) := by decide +kernel
theorem dL_law_514 : decode cL_law 514 = .ok (.invokevirtual 65, 3) := by decide +kernel
theorem dL_law_517 : decode cL_law 517 = .ok (.aload_n 2, 1) := by decide +kernel
theorem dL_law_518 : decode cL_law 518 = .ok (.aload_n 0, 1) := by decide +kernel
theorem dL_law_519 : decode cL_law 519 = .ok (.iload_n 3, 1) := by decide +kernel
theorem dL_law_520 : decode cL_law 520 = .ok (.iconst 1, 1) := by decide +kernel
theorem dL_law_521 : decode cL_law 521 = .ok (.iadd, 1) := by decide +kernel
theorem dL_law_522 : decode cL_law 522 = .ok (.iaload, 1) := by decide +kernel
theorem dL_law_523 : decode cL_law 523 = .ok (.invokevirtual 68, 3) := by decide +kernel
theorem dL_law_526 : decode cL_law 526 = .ok (.if_icmp .eq 535, 3) := by decide +kernel
theorem dL_law_529 : decode cL_law 529 = .ok (.iconst 0, 1) := by decide +kernel
theorem dL_law_530 : decode cL_law 530 = .ok (.ireturn, 1) := by decide +kernel
theorem dL_law_531 : decode cL_law 531 = .ok (.aload_n 1, 1) := by decide +kernel
theorem dL_law_532 : decode cL_law 532 = .ok (.invokevirtual 69, 3) := by decide +kernel
theorem dL_law_535 : decode cL_law 535 = .ok (.aload_n 2, 1) := by decide +kernel
theorem dL_law_536 : decode cL_law 536 = .ok (.invokevirtual 72, 3) := by decide +kernel
theorem dL_law_539 : decode cL_law 539 = .ok (.if_icmp .eq 522, 3) := by decide +kernel
theorem dL_law_542 : decode cL_law 542 = .ok (.iconst 0, 1) := by decide +kernel
theorem dL_law_543 : decode cL_law 543 = .ok (.ireturn, 1) := by decide +kernel
theorem dL_law_544 : decode cL_law 544 = .ok (.aload_n 1, 1) := by decide +kernel
theorem dL_law_545 : decode cL_law 545 = .ok (.aload_n 0, 1) := by decide +kernel
theorem dL_law_546 : decode cL_law 546 = .ok (.iload_n 3, 1) := by decide +kernel
theorem dL_law_547 : decode cL_law 547 = .ok (.iconst 1, 1) := by decide +kernel
theorem dL_law_548 : decode cL_law 548 = .ok (.iadd, 1) := by decide +kernel
theorem dL_law_549 : decode cL_law 549 = .ok (.iaload, 1) := by decide +kernel
theorem dL_law_550 : decode cL_law 550 = .ok (.aload_n 0, 1) := by decide +kernel
theorem dL_law_551 : decode cL_law 551 = .ok (.iload_n 3, 1) := by decide +kernel
theorem dL_law_552 : decode cL_law 552 = .ok (.iconst 2, 1) := by decide +kernel
theorem dL_law_553 : decode cL_law 553 = .ok (.iadd, 1) := by decide +kernel
theorem dL_law_554 : decode cL_law 554 = .ok (.iaload, 1) := by decide +kernel
theorem dL_law_555 : decode cL_law 555 = .ok (.invokevirtual 73, 3) := by decide +kernel
theorem dL_law_558 : decode cL_law 558 = .ok (.aload_n 2, 1) := by decide +kernel
theorem dL_law_559 : decode cL_law 559 = .ok (.aload_n 0, 1) := by decide +kernel
theorem dL_law_560 : decode cL_law 560 = .ok (.iload_n 3, 1) := by decide +kernel
theorem dL_law_561 : decode cL_law 561 = .ok (.iconst 1, 1) := by decide +kernel
theorem dL_law_562 : decode cL_law 562 = .ok (.iadd, 1) := by decide +kernel
theorem dL_law_563 : decode cL_law 563 = .ok (.iaload, 1) := by decide +kernel
theorem dL_law_564 : decode cL_law 564 = .ok (.aload_n 0, 1) := by decide +kernel
theorem dL_law_565 : decode cL_law 565 = .ok (.iload_n 3, 1) := by decide +kernel
theorem dL_law_566 : decode cL_law 566 = .ok (.iconst 2, 1) := by decide +kernel
theorem dL_law_567 : decode cL_law 567 = .ok (.iadd, 1) := by decide +kernel
theorem dL_law_568 : decode cL_law 568 = .ok (.iaload, 1) := by decide +kernel
theorem dL_law_569 : decode cL_law 569 = .ok (.invokevirtual 76, 3) := by decide +kernel
theorem dL_law_572 : decode cL_law 572 = .ok (.if_icmp .eq 489, 3) := by decide +kernel
theorem dL_law_575 : decode cL_law 575 = .ok (.iconst 0, 1) := by decide +kernel
theorem dL_law_576 : decode cL_law 576 = .ok (.ireturn, 1) := by decide +kernel
theorem dL_law_577 : decode cL_law 577 = .ok (.aload_n 1, 1) := by decide +kernel
theorem dL_law_578 : decode cL_law 578 = .ok (.aload_n 0, 1) := by decide +kernel
theorem dL_law_579 : decode cL_law 579 = .ok (.iload_n 3, 1) := by decide +kernel
theorem dL_law_580 : decode cL_law 580 = .ok (.iconst 1, 1) := by decide +kernel
theorem dL_law_581 : decode cL_law 581 = .ok (.iadd, 1) := by decide +kernel
theorem dL_law_582 : decode cL_law 582 = .ok (.iaload, 1) := by decide +kernel
theorem dL_law_583 : decode cL_law 583 = .ok (.aload_n 0, 1) := by decide +kernel
theorem dL_law_584 : decode cL_law 584 = .ok (.iload_n 3, 1) := by decide +kernel
theorem dL_law_585 : decode cL_law 585 = .ok (.iconst 2, 1) := by decide +kernel
theorem dL_law_586 : decode cL_law 586 = .ok (.iadd, 1) := by decide +kernel
theorem dL_law_587 : decode cL_law 587 = .ok (.iaload, 1) := by decide +kernel
theorem dL_law_588 : decode cL_law 588 = .ok (.aload_n 0, 1) := by decide +kernel
theorem dL_law_589 : decode cL_law 589 = .ok (.iload_n 3, 1) := by decide +kernel
theorem dL_law_590 : decode cL_law 590 = .ok (.iconst 3, 1) := by decide +kernel
theorem dL_law_591 : decode cL_law 591 = .ok (.iadd, 1) := by decide +kernel
theorem dL_law_592 : decode cL_law 592 = .ok (.iaload, 1) := by decide +kernel
theorem dL_law_593 : decode cL_law 593 = .ok (.invokevirtual 77, 3) := by decide +kernel
theorem dL_law_596 : decode cL_law 596 = .ok (.aload_n 2, 1) := by decide +kernel
theorem dL_law_597 : decode cL_law 597 = .ok (.aload_n 0, 1) := by decide +kernel
theorem dL_law_598 : decode cL_law 598 = .ok (.iload_n 3, 1) := by decide +kernel
theorem dL_law_599 : decode cL_law 599 = .ok (.iconst 1, 1) := by decide +kernel
theorem dL_law_600 : decode cL_law 600 = .ok (.iadd, 1) := by decide +kernel
theorem dL_law_601 : decode cL_law 601 = .ok (.iaload, 1) := by decide +kernel
theorem dL_law_602 : decode cL_law 602 = .ok (.aload_n 0, 1) := by decide +kernel
theorem dL_law_603 : decode cL_law 603 = .ok (.iload_n 3, 1) := by decide +kernel
theorem dL_law_604 : decode cL_law 604 = .ok (.iconst 2, 1) := by decide +kernel
theorem dL_law_605 : decode cL_law 605 = .ok (.iadd, 1) := by decide +kernel
theorem dL_law_606 : decode cL_law 606 = .ok (.iaload, 1) := by decide +kernel
theorem dL_law_607 : decode cL_law 607 = .ok (.aload_n 0, 1) := by decide +kernel
theorem dL_law_608 : decode cL_law 608 = .ok (.iload_n 3, 1) := by decide +kernel
theorem dL_law_609 : decode cL_law 609 = .ok (.iconst 3, 1) := by decide +kernel
theorem dL_law_610 : decode cL_law 610 = .ok (.iadd, 1) := by decide +kernel
theorem dL_law_611 : decode cL_law 611 = .ok (.iaload, 1) := by decide +kernel
theorem dL_law_612 : decode cL_law 612 = .ok (.invokevirtual 80, 3) := by decide +kernel
theorem dL_law_615 : decode cL_law 615 = .ok (.if_icmp .eq 446, 3) := by decide +kernel
theorem dL_law_618 : decode cL_law 618 = .ok (.iconst 0, 1) := by decide +kernel
theorem dL_law_619 : decode cL_law 619 = .ok (.ireturn, 1) := by decide +kernel
theorem dL_law_620 : decode cL_law 620 = .ok (.aload_n 1, 1) := by decide +kernel
theorem dL_law_621 : decode cL_law 621 = .ok (.aload_n 0, 1) := by decide +kernel
theorem dL_law_622 : decode cL_law 622 = .ok (.iload_n 3, 1) := by decide +kernel
theorem dL_law_623 : decode cL_law 623 = .ok (.iconst 1, 1) := by decide +kernel
theorem dL_law_624 : decode cL_law 624 = .ok (.iadd, 1) := by decide +kernel
theorem dL_law_625 : decode cL_law 625 = .ok (.iaload, 1) := by decide +kernel
theorem dL_law_626 : decode cL_law 626 = .ok (.aload_n 0, 1) := by decide +kernel
theorem dL_law_627 : decode cL_law 627 = .ok (.iload_n 3, 1) := by decide +kernel
theorem dL_law_628 : decode cL_law 628 = .ok (.iconst 2, 1) := by decide +kernel
theorem dL_law_629 : decode cL_law 629 = .ok (.iadd, 1) := by decide +kernel
theorem dL_law_630 : decode cL_law 630 = .ok (.iaload, 1) := by decide +kernel
theorem dL_law_631 : decode cL_law 631 = .ok (.aload_n 0, 1) := by decide +kernel
theorem dL_law_632 : decode cL_law 632 = .ok (.iload_n 3, 1) := by decide +kernel
theorem dL_law_633 : decode cL_law 633 = .ok (.iconst 3, 1) := by decide +kernel
theorem dL_law_634 : decode cL_law 634 = .ok (.iadd, 1) := by decide +kernel
theorem dL_law_635 : decode cL_law 635 = .ok (.iaload, 1) := by decide +kernel
theorem dL_law_636 : decode cL_law 636 = .ok (.invokevirtual 81, 3) := by decide +kernel
theorem dL_law_639 : decode cL_law 639 = .ok (.aload_n 2, 1) := by decide +kernel
theorem dL_law_640 : decode cL_law 640 = .ok (.aload_n 0, 1) := by decide +kernel
theorem dL_law_641 : decode cL_law 641 = .ok (.iload_n 3, 1) := by decide +kernel
theorem dL_law_642 : decode cL_law 642 = .ok (.iconst 1, 1) := by decide +kernel
theorem dL_law_643 : decode cL_law 643 = .ok (.iadd, 1) := by decide +kernel
theorem dL_law_644 : decode cL_law 644 = .ok (.iaload, 1) := by decide +kernel
theorem dL_law_645 : decode cL_law 645 = .ok (.aload_n 0, 1) := by decide +kernel
theorem dL_law_646 : decode cL_law 646 = .ok (.iload_n 3, 1) := by decide +kernel
theorem dL_law_647 : decode cL_law 647 = .ok (.iconst 2, 1) := by decide +kernel
theorem dL_law_648 : decode cL_law 648 = .ok (.iadd, 1) := by decide +kernel
theorem dL_law_649 : decode cL_law 649 = .ok (.iaload, 1) := by decide +kernel
theorem dL_law_650 : decode cL_law 650 = .ok (.aload_n 0, 1) := by decide +kernel
theorem dL_law_651 : decode cL_law 651 = .ok (.iload_n 3, 1) := by decide +kernel
theorem dL_law_652 : decode cL_law 652 = .ok (.iconst 3, 1) := by decide +kernel
theorem dL_law_653 : decode cL_law 653 = .ok (.iadd, 1) := by decide +kernel
theorem dL_law_654 : decode cL_law 654 = .ok (.iaload, 1) := by decide +kernel
theorem dL_law_655 : decode cL_law 655 = .ok (.invokevirtual 84, 3) := by decide +kernel
theorem dL_law_658 : decode cL_law 658 = .ok (.if_icmp .eq 403, 3) := by decide +kernel
theorem dL_law_661 : decode cL_law 661 = .ok (.iconst 0, 1) := by decide +kernel
theorem dL_law_662 : decode cL_law 662 = .ok (.ireturn, 1) := by decide +kernel
theorem dL_law_663 : decode cL_law 663 = .ok (.aload_n 1, 1) := by decide +kernel
theorem dL_law_664 : decode cL_law 664 = .ok (.aload_n 0, 1) := by decide +kernel
theorem dL_law_665 : decode cL_law 665 = .ok (.iload_n 3, 1) := by decide +kernel
theorem dL_law_666 : decode cL_law 666 = .ok (.iconst 1, 1) := by decide +kernel
theorem dL_law_667 : decode cL_law 667 = .ok (.iadd, 1) := by decide +kernel
theorem dL_law_668 : decode cL_law 668 = .ok (.iaload, 1) := by decide +kernel
theorem dL_law_669 : decode cL_law 669 = .ok (.aload_n 0, 1) := by decide +kernel
theorem dL_law_670 : decode cL_law 670 = .ok (.iload_n 3, 1) := by decide +kernel
theorem dL_law_671 : decode cL_law 671 = .ok (.iconst 2, 1) := by decide +kernel
theorem dL_law_672 : decode cL_law 672 = .ok (.iadd, 1) := by decide +kernel
theorem dL_law_673 : decode cL_law 673 = .ok (.iaload, 1) := by decide +kernel
theorem dL_law_674 : decode cL_law 674 = .ok (.invokevirtual 85, 3) := by decide +kernel
theorem dL_law_677 : decode cL_law 677 = .ok (.aload_n 2, 1) := by decide +kernel
theorem dL_law_678 : decode cL_law 678 = .ok (.aload_n 0, 1) := by decide +kernel
theorem dL_law_679 : decode cL_law 679 = .ok (.iload_n 3, 1) := by decide +kernel
theorem dL_law_680 : decode cL_law 680 = .ok (.iconst 1, 1) := by decide +kernel
theorem dL_law_681 : decode cL_law 681 = .ok (.iadd, 1) := by decide +kernel
theorem dL_law_682 : decode cL_law 682 = .ok (.iaload, 1) := by decide +kernel
theorem dL_law_683 : decode cL_law 683 = .ok (.aload_n 0, 1) := by decide +kernel
theorem dL_law_684 : decode cL_law 684 = .ok (.iload_n 3, 1) := by decide +kernel
theorem dL_law_685 : decode cL_law 685 = .ok (.iconst 2, 1) := by decide +kernel
theorem dL_law_686 : decode cL_law 686 = .ok (.iadd, 1) := by decide +kernel
theorem dL_law_687 : decode cL_law 687 = .ok (.iaload, 1) := by decide +kernel
theorem dL_law_688 : decode cL_law 688 = .ok (.invokevirtual 88, 3) := by decide +kernel
theorem dL_law_691 : decode cL_law 691 = .ok (.if_icmp .eq 370, 3) := by decide +kernel
theorem dL_law_694 : decode cL_law 694 = .ok (.iconst 0, 1) := by decide +kernel
theorem dL_law_695 : decode cL_law 695 = .ok (.ireturn, 1) := by decide +kernel
theorem dL_law_696 : decode cL_law 696 = .ok (.aload_n 1, 1) := by decide +kernel
theorem dL_law_697 : decode cL_law 697 = .ok (.aload_n 0, 1) := by decide +kernel
theorem dL_law_698 : decode cL_law 698 = .ok (.iload_n 3, 1) := by decide +kernel
theorem dL_law_699 : decode cL_law 699 = .ok (.iconst 1, 1) := by decide +kernel
theorem dL_law_700 : decode cL_law 700 = .ok (.iadd, 1) := by decide +kernel
theorem dL_law_701 : decode cL_law 701 = .ok (.iaload, 1) := by decide +kernel
theorem dL_law_702 : decode cL_law 702 = .ok (.invokevirtual 89, 3) := by decide +kernel
theorem dL_law_705 : decode cL_law 705 = .ok (.aload_n 2, 1) := by decide +kernel
theorem dL_law_706 : decode cL_law 706 = .ok (.aload_n 0, 1) := by decide +kernel
theorem dL_law_707 : decode cL_law 707 = .ok (.iload_n 3, 1) := by decide +kernel
theorem dL_law_708 : decode cL_law 708 = .ok (.iconst 1, 1) := by decide +kernel
theorem dL_law_709 : decode cL_law 709 = .ok (.iadd, 1) := by decide +kernel
theorem dL_law_710 : decode cL_law 710 = .ok (.iaload, 1) := by decide +kernel
theorem dL_law_711 : decode cL_law 711 = .ok (.invokevirtual 92, 3) := by decide +kernel
theorem dL_law_714 : decode cL_law 714 = .ok (.if_icmp .eq 347, 3) := by decide +kernel
theorem dL_law_717 : decode cL_law 717 = .ok (.iconst 0, 1) := by decide +kernel
theorem dL_law_718 : decode cL_law 718 = .ok (.ireturn, 1) := by decide +kernel
theorem dL_law_719 : decode cL_law 719 = .ok (.aload_n 1, 1) := by decide +kernel
theorem dL_law_720 : decode cL_law 720 = .ok (.aload_n 0, 1) := by decide +kernel
theorem dL_law_721 : decode cL_law 721 = .ok (.iload_n 3, 1) := by decide +kernel
theorem dL_law_722 : decode cL_law 722 = .ok (.iconst 1, 1) := by decide +kernel
theorem dL_law_723 : decode cL_law 723 = .ok (.iadd, 1) := by decide +kernel
theorem dL_law_724 : decode cL_law 724 = .ok (.iaload, 1) := by decide +kernel
theorem dL_law_725 : decode cL_law 725 = .ok (.aload_n 0, 1) := by decide +kernel
theorem dL_law_726 : decode cL_law 726 = .ok (.iload_n 3, 1) := by decide +kernel
theorem dL_law_727 : decode cL_law 727 = .ok (.iconst 2, 1) := by decide +kernel
theorem dL_law_728 : decode cL_law 728 = .ok (.iadd, 1) := by decide +kernel
theorem dL_law_729 : decode cL_law 729 = .ok (.iaload, 1) := by decide +kernel
theorem dL_law_730 : decode cL_law 730 = .ok (.invokevirtual 93, 3) := by decide +kernel
theorem dL_law_733 : decode cL_law 733 = .ok (.aload_n 2, 1) := by decide +kernel
theorem dL_law_734 : decode cL_law 734 = .ok (.aload_n 0, 1) := by decide +kernel
theorem dL_law_735 : decode cL_law 735 = .ok (.iload_n 3, 1) := by decide +kernel
theorem dL_law_736 : decode cL_law 736 = .ok (.iconst 1, 1) := by decide +kernel
theorem dL_law_737 : decode cL_law 737 = .ok (.iadd, 1) := by decide +kernel
theorem dL_law_738 : decode cL_law 738 = .ok (.iaload, 1) := by decide +kernel
theorem dL_law_739 : decode cL_law 739 = .ok (.aload_n 0, 1) := by decide +kernel
theorem dL_law_740 : decode cL_law 740 = .ok (.iload_n 3, 1) := by decide +kernel
theorem dL_law_741 : decode cL_law 741 = .ok (.iconst 2, 1) := by decide +kernel
theorem dL_law_742 : decode cL_law 742 = .ok (.iadd, 1) := by decide +kernel
theorem dL_law_743 : decode cL_law 743 = .ok (.iaload, 1) := by decide +kernel
theorem dL_law_744 : decode cL_law 744 = .ok (.invokevirtual 96, 3) := by decide +kernel
theorem dL_law_747 : decode cL_law 747 = .ok (.if_icmp .eq 314, 3) := by decide +kernel
theorem dL_law_750 : decode cL_law 750 = .ok (.iconst 0, 1) := by decide +kernel
theorem dL_law_751 : decode cL_law 751 = .ok (.ireturn, 1) := by decide +kernel
theorem dL_law_752 : decode cL_law 752 = .ok (.aload_n 1, 1) := by decide +kernel
theorem dL_law_753 : decode cL_law 753 = .ok (.aload_n 0, 1) := by decide +kernel
theorem dL_law_754 : decode cL_law 754 = .ok (.iload_n 3, 1) := by decide +kernel
theorem dL_law_755 : decode cL_law 755 = .ok (.iconst 1, 1) := by decide +kernel
theorem dL_law_756 : decode cL_law 756 = .ok (.iadd, 1) := by decide +kernel
theorem dL_law_757 : decode cL_law 757 = .ok (.iaload, 1) := by decide +kernel
theorem dL_law_758 : decode cL_law 758 = .ok (.aload_n 0, 1) := by decide +kernel
theorem dL_law_759 : decode cL_law 759 = .ok (.iload_n 3, 1) := by decide +kernel
theorem dL_law_760 : decode cL_law 760 = .ok (.iconst 2, 1) := by decide +kernel
theorem dL_law_761 : decode cL_law 761 = .ok (.iadd, 1) := by decide +kernel
theorem dL_law_762 : decode cL_law 762 = .ok (.iaload, 1) := by decide +kernel
theorem dL_law_763 : decode cL_law 763 = .ok (.invokevirtual 97, 3) := by decide +kernel
theorem dL_law_766 : decode cL_law 766 = .ok (.aload_n 2, 1) := by decide +kernel
theorem dL_law_767 : decode cL_law 767 = .ok (.aload_n 0, 1) := by decide +kernel
theorem dL_law_768 : decode cL_law 768 = .ok (.iload_n 3, 1) := by decide +kernel
theorem dL_law_769 : decode cL_law 769 = .ok (.iconst 1, 1) := by decide +kernel
theorem dL_law_770 : decode cL_law 770 = .ok (.iadd, 1) := by decide +kernel
theorem dL_law_771 : decode cL_law 771 = .ok (.iaload, 1) := by decide +kernel
theorem dL_law_772 : decode cL_law 772 = .ok (.aload_n 0, 1) := by decide +kernel
theorem dL_law_773 : decode cL_law 773 = .ok (.iload_n 3, 1) := by decide +kernel
theorem dL_law_774 : decode cL_law 774 = .ok (.iconst 2, 1) := by decide +kernel
theorem dL_law_775 : decode cL_law 775 = .ok (.iadd, 1) := by decide +kernel
theorem dL_law_776 : decode cL_law 776 = .ok (.iaload, 1) := by decide +kernel
theorem dL_law_777 : decode cL_law 777 = .ok (.invokevirtual 100, 3) := by decide +kernel
theorem dL_law_780 : decode cL_law 780 = .ok (.if_icmp .eq 281, 3) := by decide +kernel
theorem dL_law_783 : decode cL_law 783 = .ok (.iconst 0, 1) := by decide +kernel
theorem dL_law_784 : decode cL_law 784 = .ok (.ireturn, 1) := by decide +kernel
theorem dL_law_785 : decode cL_law 785 = .ok (.aload_n 1, 1) := by decide +kernel
theorem dL_law_786 : decode cL_law 786 = .ok (.aload_n 0, 1) := by decide +kernel
theorem dL_law_787 : decode cL_law 787 = .ok (.iload_n 3, 1) := by decide +kernel
theorem dL_law_788 : decode cL_law 788 = .ok (.iconst 1, 1) := by decide +kernel
theorem dL_law_789 : decode cL_law 789 = .ok (.iadd, 1) := by decide +kernel
theorem dL_law_790 : decode cL_law 790 = .ok (.iaload, 1) := by decide +kernel
theorem dL_law_791 : decode cL_law 791 = .ok (.aload_n 0, 1) := by decide +kernel
theorem dL_law_792 : decode cL_law 792 = .ok (.iload_n 3, 1) := by decide +kernel
theorem dL_law_793 : decode cL_law 793 = .ok (.iconst 2, 1) := by decide +kernel
theorem dL_law_794 : decode cL_law 794 = .ok (.iadd, 1) := by decide +kernel
theorem dL_law_795 : decode cL_law 795 = .ok (.iaload, 1) := by decide +kernel
theorem dL_law_796 : decode cL_law 796 = .ok (.aload_n 0, 1) := by decide +kernel
theorem dL_law_797 : decode cL_law 797 = .ok (.iload_n 3, 1) := by decide +kernel
theorem dL_law_798 : decode cL_law 798 = .ok (.iconst 3, 1) := by decide +kernel
theorem dL_law_799 : decode cL_law 799 = .ok (.iadd, 1) := by decide +kernel
theorem dL_law_800 : decode cL_law 800 = .ok (.iaload, 1) := by decide +kernel
theorem dL_law_801 : decode cL_law 801 = .ok (.ifCond .eq 7, 3) := by decide +kernel
theorem dL_law_804 : decode cL_law 804 = .ok (.iconst 1, 1) := by decide +kernel
theorem dL_law_805 : decode cL_law 805 = .ok (.goto 4, 3) := by decide +kernel
theorem dL_law_808 : decode cL_law 808 = .ok (.iconst 0, 1) := by decide +kernel
theorem dL_law_809 : decode cL_law 809 = .ok (.invokevirtual 101, 3) := by decide +kernel
theorem dL_law_812 : decode cL_law 812 = .ok (.aload_n 2, 1) := by decide +kernel
theorem dL_law_813 : decode cL_law 813 = .ok (.aload_n 0, 1) := by decide +kernel
theorem dL_law_814 : decode cL_law 814 = .ok (.iload_n 3, 1) := by decide +kernel
theorem dL_law_815 : decode cL_law 815 = .ok (.iconst 1, 1) := by decide +kernel
theorem dL_law_816 : decode cL_law 816 = .ok (.iadd, 1) := by decide +kernel
theorem dL_law_817 : decode cL_law 817 = .ok (.iaload, 1) := by decide +kernel
theorem dL_law_818 : decode cL_law 818 = .ok (.aload_n 0, 1) := by decide +kernel
theorem dL_law_819 : decode cL_law 819 = .ok (.iload_n 3, 1) := by decide +kernel
theorem dL_law_820 : decode cL_law 820 = .ok (.iconst 2, 1) := by decide +kernel
theorem dL_law_821 : decode cL_law 821 = .ok (.iadd, 1) := by decide +kernel
theorem dL_law_822 : decode cL_law 822 = .ok (.iaload, 1) := by decide +kernel
theorem dL_law_823 : decode cL_law 823 = .ok (.aload_n 0, 1) := by decide +kernel
theorem dL_law_824 : decode cL_law 824 = .ok (.iload_n 3, 1) := by decide +kernel
theorem dL_law_825 : decode cL_law 825 = .ok (.iconst 3, 1) := by decide +kernel
theorem dL_law_826 : decode cL_law 826 = .ok (.iadd, 1) := by decide +kernel
theorem dL_law_827 : decode cL_law 827 = .ok (.iaload, 1) := by decide +kernel
theorem dL_law_828 : decode cL_law 828 = .ok (.ifCond .eq 7, 3) := by decide +kernel
theorem dL_law_831 : decode cL_law 831 = .ok (.iconst 1, 1) := by decide +kernel
theorem dL_law_832 : decode cL_law 832 = .ok (.goto 4, 3) := by decide +kernel
theorem dL_law_835 : decode cL_law 835 = .ok (.iconst 0, 1) := by decide +kernel
theorem dL_law_836 : decode cL_law 836 = .ok (.invokevirtual 105, 3) := by decide +kernel
theorem dL_law_839 : decode cL_law 839 = .ok (.if_icmp .eq 222, 3) := by decide +kernel
theorem dL_law_842 : decode cL_law 842 = .ok (.iconst 0, 1) := by decide +kernel
theorem dL_law_843 : decode cL_law 843 = .ok (.ireturn, 1) := by decide +kernel
theorem dL_law_844 : decode cL_law 844 = .ok (.aload_n 1, 1) := by decide +kernel
theorem dL_law_845 : decode cL_law 845 = .ok (.aload_n 0, 1) := by decide +kernel
theorem dL_law_846 : decode cL_law 846 = .ok (.iload_n 3, 1) := by decide +kernel
theorem dL_law_847 : decode cL_law 847 = .ok (.iconst 1, 1) := by decide +kernel
theorem dL_law_848 : decode cL_law 848 = .ok (.iadd, 1) := by decide +kernel
theorem dL_law_849 : decode cL_law 849 = .ok (.iaload, 1) := by decide +kernel
theorem dL_law_850 : decode cL_law 850 = .ok (.invokevirtual 106, 3) := by decide +kernel
theorem dL_law_853 : decode cL_law 853 = .ok (.aload_n 2, 1) := by decide +kernel
theorem dL_law_854 : decode cL_law 854 = .ok (.aload_n 0, 1) := by decide +kernel
theorem dL_law_855 : decode cL_law 855 = .ok (.iload_n 3, 1) := by decide +kernel
theorem dL_law_856 : decode cL_law 856 = .ok (.iconst 1, 1) := by decide +kernel
theorem dL_law_857 : decode cL_law 857 = .ok (.iadd, 1) := by decide +kernel
theorem dL_law_858 : decode cL_law 858 = .ok (.iaload, 1) := by decide +kernel
theorem dL_law_859 : decode cL_law 859 = .ok (.invokevirtual 109, 3) := by decide +kernel
theorem dL_law_862 : decode cL_law 862 = .ok (.if_icmp .eq 199, 3) := by decide +kernel
theorem dL_law_865 : decode cL_law 865 = .ok (.iconst 0, 1) := by decide +kernel
theorem dL_law_866 : decode cL_law 866 = .ok (.ireturn, 1) := by decide +kernel
theorem dL_law_867 : decode cL_law 867 = .ok (.aload_n 1, 1) := by decide +kernel
theorem dL_law_868 : decode cL_law 868 = .ok (.aload_n 0, 1) := by decide +kernel
theorem dL_law_869 : decode cL_law 869 = .ok (.iload_n 3, 1) := by decide +kernel
theorem dL_law_870 : decode cL_law 870 = .ok (.iconst 1, 1) := by decide +kernel
theorem dL_law_871 : decode cL_law 871 = .ok (.iadd, 1) := by decide +kernel
theorem dL_law_872 : decode cL_law 872 = .ok (.iaload, 1) := by decide +kernel
theorem dL_law_873 : decode cL_law 873 = .ok (.invokevirtual 110, 3) := by decide +kernel
theorem dL_law_876 : decode cL_law 876 = .ok (.aload_n 2, 1) := by decide +kernel
theorem dL_law_877 : decode cL_law 877 = .ok (.aload_n 0, 1) := by decide +kernel
theorem dL_law_878 : decode cL_law 878 = .ok (.iload_n 3, 1) := by decide +kernel
theorem dL_law_879 : decode cL_law 879 = .ok (.iconst 1, 1) := by decide +kernel
theorem dL_law_880 : decode cL_law 880 = .ok (.iadd, 1) := by decide +kernel
theorem dL_law_881 : decode cL_law 881 = .ok (.iaload, 1) := by decide +kernel
theorem dL_law_882 : decode cL_law 882 = .ok (.invokevirtual 113, 3) := by decide +kernel
theorem dL_law_885 : decode cL_law 885 = .ok (.if_icmp .eq 176, 3) := by decide +kernel
theorem dL_law_888 : decode cL_law 888 = .ok (.iconst 0, 1) := by decide +kernel
theorem dL_law_889 : decode cL_law 889 = .ok (.ireturn, 1) := by decide +kernel
theorem dL_law_890 : decode cL_law 890 = .ok (.aload_n 1, 1) := by decide +kernel
theorem dL_law_891 : decode cL_law 891 = .ok (.aload_n 0, 1) := by decide +kernel
theorem dL_law_892 : decode cL_law 892 = .ok (.iload_n 3, 1) := by decide +kernel
theorem dL_law_893 : decode cL_law 893 = .ok (.iconst 1, 1) := by decide +kernel
theorem dL_law_894 : decode cL_law 894 = .ok (.iadd, 1) := by decide +kernel
theorem dL_law_895 : decode cL_law 895 = .ok (.iaload, 1) := by decide +kernel
theorem dL_law_896 : decode cL_law 896 = .ok (.aload_n 0, 1) := by decide +kernel
theorem dL_law_897 : decode cL_law 897 = .ok (.iload_n 3, 1) := by decide +kernel
theorem dL_law_898 : decode cL_law 898 = .ok (.iconst 2, 1) := by decide +kernel
theorem dL_law_899 : decode cL_law 899 = .ok (.iadd, 1) := by decide +kernel
theorem dL_law_900 : decode cL_law 900 = .ok (.iaload, 1) := by decide +kernel
theorem dL_law_901 : decode cL_law 901 = .ok (.aload_n 0, 1) := by decide +kernel
theorem dL_law_902 : decode cL_law 902 = .ok (.iload_n 3, 1) := by decide +kernel
theorem dL_law_903 : decode cL_law 903 = .ok (.iconst 3, 1) := by decide +kernel
theorem dL_law_904 : decode cL_law 904 = .ok (.iadd, 1) := by decide +kernel
theorem dL_law_905 : decode cL_law 905 = .ok (.iaload, 1) := by decide +kernel
theorem dL_law_906 : decode cL_law 906 = .ok (.invokevirtual 114, 3) := by decide +kernel
theorem dL_law_909 : decode cL_law 909 = .ok (.aload_n 2, 1) := by decide +kernel
theorem dL_law_910 : decode cL_law 910 = .ok (.aload_n 0, 1) := by decide +kernel
theorem dL_law_911 : decode cL_law 911 = .ok (.iload_n 3, 1) := by decide +kernel
theorem dL_law_912 : decode cL_law 912 = .ok (.iconst 1, 1) := by decide +kernel
theorem dL_law_913 : decode cL_law 913 = .ok (.iadd, 1) := by decide +kernel
theorem dL_law_914 : decode cL_law 914 = .ok (.iaload, 1) := by decide +kernel
theorem dL_law_915 : decode cL_law 915 = .ok (.aload_n 0, 1) := by decide +kernel
theorem dL_law_916 : decode cL_law 916 = .ok (.iload_n 3, 1) := by decide +kernel
theorem dL_law_917 : decode cL_law 917 = .ok (.iconst 2, 1) := by decide +kernel
theorem dL_law_918 : decode cL_law 918 = .ok (.iadd, 1) := by decide +kernel
theorem dL_law_919 : decode cL_law 919 = .ok (.iaload, 1) := by decide +kernel
theorem dL_law_920 : decode cL_law 920 = .ok (.aload_n 0, 1) := by decide +kernel
theorem dL_law_921 : decode cL_law 921 = .ok (.iload_n 3, 1) := by decide +kernel
theorem dL_law_922 : decode cL_law 922 = .ok (.iconst 3, 1) := by decide +kernel
theorem dL_law_923 : decode cL_law 923 = .ok (.iadd, 1) := by decide +kernel
theorem dL_law_924 : decode cL_law 924 = .ok (.iaload, 1) := by decide +kernel
theorem dL_law_925 : decode cL_law 925 = .ok (.invokevirtual 117, 3) := by decide +kernel
theorem dL_law_928 : decode cL_law 928 = .ok (.if_icmp .eq 133, 3) := by decide +kernel
theorem dL_law_931 : decode cL_law 931 = .ok (.iconst 0, 1) := by decide +kernel
theorem dL_law_932 : decode cL_law 932 = .ok (.ireturn, 1) := by decide +kernel
theorem dL_law_933 : decode cL_law 933 = .ok (.aload_n 1, 1) := by decide +kernel
theorem dL_law_934 : decode cL_law 934 = .ok (.aload_n 0, 1) := by decide +kernel
theorem dL_law_935 : decode cL_law 935 = .ok (.iload_n 3, 1) := by decide +kernel
theorem dL_law_936 : decode cL_law 936 = .ok (.iconst 1, 1) := by decide +kernel
theorem dL_law_937 : decode cL_law 937 = .ok (.iadd, 1) := by decide +kernel
theorem dL_law_938 : decode cL_law 938 = .ok (.iaload, 1) := by decide +kernel
theorem dL_law_939 : decode cL_law 939 = .ok (.aload_n 0, 1) := by decide +kernel
theorem dL_law_940 : decode cL_law 940 = .ok (.iload_n 3, 1) := by decide +kernel
theorem dL_law_941 : decode cL_law 941 = .ok (.iconst 2, 1) := by decide +kernel
theorem dL_law_942 : decode cL_law 942 = .ok (.iadd, 1) := by decide +kernel
theorem dL_law_943 : decode cL_law 943 = .ok (.iaload, 1) := by decide +kernel
theorem dL_law_944 : decode cL_law 944 = .ok (.invokevirtual 118, 3) := by decide +kernel
theorem dL_law_947 : decode cL_law 947 = .ok (.aload_n 2, 1) := by decide +kernel
theorem dL_law_948 : decode cL_law 948 = .ok (.aload_n 0, 1) := by decide +kernel
theorem dL_law_949 : decode cL_law 949 = .ok (.iload_n 3, 1) := by decide +kernel
theorem dL_law_950 : decode cL_law 950 = .ok (.iconst 1, 1) := by decide +kernel
theorem dL_law_951 : decode cL_law 951 = .ok (.iadd, 1) := by decide +kernel
theorem dL_law_952 : decode cL_law 952 = .ok (.iaload, 1) := by decide +kernel
theorem dL_law_953 : decode cL_law 953 = .ok (.aload_n 0, 1) := by decide +kernel
theorem dL_law_954 : decode cL_law 954 = .ok (.iload_n 3, 1) := by decide +kernel
theorem dL_law_955 : decode cL_law 955 = .ok (.iconst 2, 1) := by decide +kernel
theorem dL_law_956 : decode cL_law 956 = .ok (.iadd, 1) := by decide +kernel
theorem dL_law_957 : decode cL_law 957 = .ok (.iaload, 1) := by decide +kernel
theorem dL_law_958 : decode cL_law 958 = .ok (.invokevirtual 121, 3) := by decide +kernel
theorem dL_law_961 : decode cL_law 961 = .ok (.if_icmp .eq 100, 3) := by decide +kernel
theorem dL_law_964 : decode cL_law 964 = .ok (.iconst 0, 1) := by decide +kernel
theorem dL_law_965 : decode cL_law 965 = .ok (.ireturn, 1) := by decide +kernel
theorem dL_law_966 : decode cL_law 966 = .ok (.aload_n 1, 1) := by decide +kernel
theorem dL_law_967 : decode cL_law 967 = .ok (.invokevirtual 122, 3) := by decide +kernel
theorem dL_law_970 : decode cL_law 970 = .ok (.aload_n 2, 1) := by decide +kernel
theorem dL_law_971 : decode cL_law 971 = .ok (.invokevirtual 125, 3) := by decide +kernel
theorem dL_law_974 : decode cL_law 974 = .ok (.if_icmp .eq 87, 3) := by decide +kernel
theorem dL_law_977 : decode cL_law 977 = .ok (.iconst 0, 1) := by decide +kernel
theorem dL_law_978 : decode cL_law 978 = .ok (.ireturn, 1) := by decide +kernel
theorem dL_law_979 : decode cL_law 979 = .ok (.aload_n 1, 1) := by decide +kernel
theorem dL_law_980 : decode cL_law 980 = .ok (.invokevirtual 126, 3) := by decide +kernel
theorem dL_law_983 : decode cL_law 983 = .ok (.aload_n 2, 1) := by decide +kernel
theorem dL_law_984 : decode cL_law 984 = .ok (.invokevirtual 129, 3) := by decide +kernel
theorem dL_law_987 : decode cL_law 987 = .ok (.if_icmp .eq 74, 3) := by decide +kernel
theorem dL_law_990 : decode cL_law 990 = .ok (.iconst 0, 1) := by decide +kernel
theorem dL_law_991 : decode cL_law 991 = .ok (.ireturn, 1) := by decide +kernel
theorem dL_law_992 : decode cL_law 992 = .ok (.aload_n 1, 1) := by decide +kernel
theorem dL_law_993 : decode cL_law 993 = .ok (.aload_n 0, 1) := by decide +kernel
theorem dL_law_994 : decode cL_law 994 = .ok (.iload_n 3, 1) := by decide +kernel
theorem dL_law_995 : decode cL_law 995 = .ok (.iconst 1, 1) := by decide +kernel
theorem dL_law_996 : decode cL_law 996 = .ok (.iadd, 1) := by decide +kernel
theorem dL_law_997 : decode cL_law 997 = .ok (.iaload, 1) := by decide +kernel
theorem dL_law_998 : decode cL_law 998 = .ok (.invokevirtual 130, 3) := by decide +kernel
theorem dL_law_1001 : decode cL_law 1001 = .ok (.aload_n 2, 1) := by decide +kernel
theorem dL_law_1002 : decode cL_law 1002 = .ok (.aload_n 0, 1) := by decide +kernel
theorem dL_law_1003 : decode cL_law 1003 = .ok (.iload_n 3, 1) := by decide +kernel
theorem dL_law_1004 : decode cL_law 1004 = .ok (.iconst 1, 1) := by decide +kernel
theorem dL_law_1005 : decode cL_law 1005 = .ok (.iadd, 1) := by decide +kernel
theorem dL_law_1006 : decode cL_law 1006 = .ok (.iaload, 1) := by decide +kernel
theorem dL_law_1007 : decode cL_law 1007 = .ok (.invokevirtual 133, 3) := by decide +kernel
theorem dL_law_1010 : decode cL_law 1010 = .ok (.if_icmp .eq 51, 3) := by decide +kernel
theorem dL_law_1013 : decode cL_law 1013 = .ok (.iconst 0, 1) := by decide +kernel
theorem dL_law_1014 : decode cL_law 1014 = .ok (.ireturn, 1) := by decide +kernel
theorem dL_law_1015 : decode cL_law 1015 = .ok (.aload_n 1, 1) := by decide +kernel
theorem dL_law_1016 : decode cL_law 1016 = .ok (.aload_n 0, 1) := by decide +kernel
theorem dL_law_1017 : decode cL_law 1017 = .ok (.iload_n 3, 1) := by decide +kernel
theorem dL_law_1018 : decode cL_law 1018 = .ok (.iconst 1, 1) := by decide +kernel
theorem dL_law_1019 : decode cL_law 1019 = .ok (.iadd, 1) := by decide +kernel
theorem dL_law_1020 : decode cL_law 1020 = .ok (.iaload, 1) := by decide +kernel
theorem dL_law_1021 : decode cL_law 1021 = .ok (.invokevirtual 134, 3) := by decide +kernel
theorem dL_law_1024 : decode cL_law 1024 = .ok (.aload_n 2, 1) := by decide +kernel
theorem dL_law_1025 : decode cL_law 1025 = .ok (.aload_n 0, 1) := by decide +kernel
theorem dL_law_1026 : decode cL_law 1026 = .ok (.iload_n 3, 1) := by decide +kernel
theorem dL_law_1027 : decode cL_law 1027 = .ok (.iconst 1, 1) := by decide +kernel
theorem dL_law_1028 : decode cL_law 1028 = .ok (.iadd, 1) := by decide +kernel
theorem dL_law_1029 : decode cL_law 1029 = .ok (.iaload, 1) := by decide +kernel
theorem dL_law_1030 : decode cL_law 1030 = .ok (.invokevirtual 137, 3) := by decide +kernel
theorem dL_law_1033 : decode cL_law 1033 = .ok (.if_icmp .eq 28, 3) := by decide +kernel
theorem dL_law_1036 : decode cL_law 1036 = .ok (.iconst 0, 1) := by decide +kernel
theorem dL_law_1037 : decode cL_law 1037 = .ok (.ireturn, 1) := by decide +kernel
theorem dL_law_1038 : decode cL_law 1038 = .ok (.aload_n 1, 1) := by decide +kernel
theorem dL_law_1039 : decode cL_law 1039 = .ok (.aload_n 0, 1) := by decide +kernel
theorem dL_law_1040 : decode cL_law 1040 = .ok (.iload_n 3, 1) := by decide +kernel
theorem dL_law_1041 : decode cL_law 1041 = .ok (.iconst 1, 1) := by decide +kernel
theorem dL_law_1042 : decode cL_law 1042 = .ok (.iadd, 1) := by decide +kernel
theorem dL_law_1043 : decode cL_law 1043 = .ok (.iaload, 1) := by decide +kernel
theorem dL_law_1044 : decode cL_law 1044 = .ok (.invokevirtual 138, 3) := by decide +kernel
theorem dL_law_1047 : decode cL_law 1047 = .ok (.aload_n 2, 1) := by decide +kernel
theorem dL_law_1048 : decode cL_law 1048 = .ok (.aload_n 0, 1) := by decide +kernel
theorem dL_law_1049 : decode cL_law 1049 = .ok (.iload_n 3, 1) := by decide +kernel
theorem dL_law_1050 : decode cL_law 1050 = .ok (.iconst 1, 1) := by decide +kernel
theorem dL_law_1051 : decode cL_law 1051 = .ok (.iadd, 1) := by decide +kernel
theorem dL_law_1052 : decode cL_law 1052 = .ok (.iaload, 1) := by decide +kernel
theorem dL_law_1053 : decode cL_law 1053 = .ok (.invokevirtual 141, 3) := by decide +kernel
theorem dL_law_1056 : decode cL_law 1056 = .ok (.if_icmp .eq 5, 3) := by decide +kernel
theorem dL_law_1059 : decode cL_law 1059 = .ok (.iconst 0, 1) := by decide +kernel
theorem dL_law_1060 : decode cL_law 1060 = .ok (.ireturn, 1) := by decide +kernel
theorem dL_law_1061 : decode cL_law 1061 = .ok (.iinc 3 4, 3) := by decide +kernel
theorem dL_law_1064 : decode cL_law 1064 = .ok (.goto (-1046), 3) := by decide +kernel
theorem dL_law_1067 : decode cL_law 1067 = .ok (.iconst 1, 1) := by decide +kernel
theorem dL_law_1068 : decode cL_law 1068 = .ok (.ireturn, 1) := by decide +kernel
