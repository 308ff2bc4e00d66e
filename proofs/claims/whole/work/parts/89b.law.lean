set_option maxRecDepth 20000 in
theorem ggL_law_X10_init : GoodIn wsL_law wsX10_init := goodIn_r _ [8, 9, 10, 11, 12, 13, 14, 15, 16, 17, 18, 19, 20, 21, 22, 23, 24, 25, 26, 27, 28, 29, 30, 31, 32, 33, 34, 35, 36, 37, 38, 39, 40, 41, 42, 43, 44, 45, 46, 47, 48, 49, 50, 51, 52, 53, 54, 55, 56, 57, 58, 59, 60, 61, 62, 63, 64, 65, 66, 67, 68, 69, 70, 71, 72, 73, 74, 75, 76, 77, 78, 79, 80, 81, 82, 83, 84, 85, 86, 87, 88, 89, 90, 91, 92, 93, 94, 95, 96, 97, 98, 99, 100, 101, 102, 103, 104, 105, 106, 107, 108, 109, 110, 111, 112, 113, 114, 1074, 1075, 1076, 1077, 1078, 1079, 1080, 1023, 1024, 1025, 1026, 1027, 1028, 1029, 1030, 1031, 1032, 1081, 1082, 1083, 1084, 1085, 1086, 1087, 1088, 1089, 1090, 1091, 1092, 1093, 1094, 1095, 1096, 1097, 1098, 1099, 1100, 1101, 1102, 1103, 1104, 1105, 1106, 1107, 1108, 1109, 1110, 1111, 1112, 1113, 1114, 1115, 1116, 1117, 1118] (by decide +kernel) (by decide +kernel)
set_option maxRecDepth 20000 in
theorem gL_law_X10_init : GoodIn wsL_law (wsX10_init) := ggL_law_X10_init
set_option maxRecDepth 20000 in
theorem ggL_law_X11_init : GoodIn wsL_law wsX11_init := goodIn_r _ [117, 118, 10, 11, 55, 119, 120, 121, 122, 123, 124, 125, 126, 127, 128, 129, 130, 131, 132, 133, 134, 135, 136, 137, 138, 139, 140, 141, 1033, 1034, 1035, 1036, 1037, 1038, 1039, 1040, 1041, 1042, 1043, 1044, 1045, 1046, 1047, 1048, 1049, 1050, 1051, 1052, 1053, 1054, 1055, 1056, 1057, 1058, 1059, 1060, 1061, 1062, 1063, 1064, 1065, 1066, 1067, 1068, 1069, 1070, 1071, 1072, 1073] (by decide +kernel) (by decide +kernel)
set_option maxRecDepth 20000 in
theorem gL_law_X11_init : GoodIn wsL_law (wsX11_init) := ggL_law_X11_init
set_option maxRecDepth 20000 in
theorem ggL_law_X10_feed : GoodIn wsL_law wsX10_feed := goodIn_r _ [145, 146, 15, 147, 148, 149, 150, 2, 151, 152, 153, 154, 14, 155, 56, 156, 157, 158, 1023, 1024, 1025, 1026, 1027, 1028, 1029, 1030, 1031, 1032, 1074, 1075, 1076, 1077, 1078, 1079, 1080] (by decide +kernel) (by decide +kernel)
set_option maxRecDepth 20000 in
theorem gL_law_X10_feed : GoodIn wsL_law (wsV RL 13 RX10 yX10_feed wsX10_feed) := goodIn_app (goodIn_of _ (by decide +kernel)) ggL_law_X10_feed
set_option maxRecDepth 20000 in
theorem ggL_law_X11_feed : GoodIn wsL_law wsX11_feed := goodIn_r _ [162, 163, 164, 165, 166, 129, 167, 168, 5, 169, 1033, 1034, 1035, 1036, 1037, 1038, 1039, 1040, 1041, 1042, 1043, 1044, 1045, 1046, 1047, 1048, 1049, 1050, 1051, 1052, 1053, 1054, 1055, 1056, 1057, 1058, 1059, 1060, 1061, 1062, 1063, 1064, 1065, 1066, 1067, 1068, 1069, 1070, 1071, 1072, 1073] (by decide +kernel) (by decide +kernel)
set_option maxRecDepth 20000 in
theorem gL_law_X11_feed : GoodIn wsL_law (wsV RL 17 RX11 yX11_feed wsX11_feed) := goodIn_app (goodIn_of _ (by decide +kernel)) ggL_law_X11_feed
set_option maxRecDepth 20000 in
theorem ggL_law_X10_hill : GoodIn wsL_law wsX10_hill := goodIn_r _ [173, 15, 147, 174, 19, 175, 23, 39, 176, 43, 177, 35, 49, 178, 179, 180, 181, 182, 14, 183, 58, 184, 59, 185, 156, 186, 187, 188, 18, 189, 63, 64, 65, 66, 67, 190, 191, 192, 193, 194, 195, 196, 197, 198, 199, 200, 201, 202, 203, 204, 205, 206, 207, 56, 208, 209, 210, 211, 212, 213, 214, 215, 216, 217, 218, 219, 220, 221, 222, 223, 224, 225, 226, 227, 228, 229, 230, 231, 232, 233, 234, 235, 236, 237, 238, 150, 2, 151, 239, 240, 241, 242, 243, 244, 245, 246, 247, 248, 249, 250, 251, 252, 253, 254, 255, 256, 157, 158, 257, 258, 259, 260, 261, 262, 263, 264, 265, 266, 267, 268, 269, 270, 271, 272, 273, 274, 275, 276, 277, 278, 279, 280, 281, 282, 283, 284, 285, 286, 287, 288, 289, 290, 291, 292, 293, 294, 295, 296, 297, 298, 299, 300, 301, 302, 303, 304, 305, 306, 307, 22, 308, 309, 71, 72, 73, 310, 74, 311, 312, 313, 314, 315, 316, 34, 317, 318, 1023, 1024, 1025, 1026, 1027, 1028, 1029, 1030, 1031, 1032, 1074, 1075, 1076, 1077, 1078, 1079, 1080, 1108, 1109, 1110, 1111, 1112, 1113, 1114, 1116, 1117, 1118, 1081, 1082, 1083, 1084, 1085, 1086, 1087, 1088, 1089, 1090, 1091, 1092, 1093, 1094, 1095, 1096, 1097, 1105, 1106, 1107] (by decide +kernel) (by decide +kernel)
set_option maxRecDepth 20000 in
theorem gL_law_X10_hill : GoodIn wsL_law (wsV RL 18 RX10 yX10_hill wsX10_hill) := goodIn_app (goodIn_of _ (by decide +kernel)) ggL_law_X10_hill
set_option maxRecDepth 20000 in
theorem ggL_law_X11_hill : GoodIn wsL_law wsX11_hill := goodIn_r _ [322, 130, 323, 324, 325, 326, 327, 328, 329, 131, 132, 135, 165, 330, 331, 332, 140, 333, 334, 335, 336, 5, 337, 129, 338, 339, 340, 341, 342, 343, 344, 345, 346, 347, 348, 349, 350, 351, 352, 353, 354, 355, 356, 357, 358, 359, 360, 361, 362, 363, 364, 365, 167, 168, 169, 366, 367, 368, 369, 370, 371, 372, 373, 374, 375, 376, 377, 378, 379, 380, 381, 382, 383, 384, 385, 133, 134, 386, 387, 388, 389, 390, 391, 392, 393, 141, 394, 395, 396, 119, 120, 122, 121, 1033, 1034, 1035, 1036, 1037, 1038, 1039, 1040, 1041, 1042, 1043, 1044, 1045, 1046, 1047, 1048, 1049, 1050, 1051, 1052, 1053, 1054, 1055, 1056, 1057, 1058, 1059, 1060, 1061, 1062, 1063, 1064, 1065, 1066, 1067, 1068, 1069, 1070, 1071, 1072, 1073] (by decide +kernel) (by decide +kernel)
set_option maxRecDepth 20000 in
theorem gL_law_X11_hill : GoodIn wsL_law (wsV RL 22 RX11 yX11_hill wsX11_hill) := goodIn_app (goodIn_of _ (by decide +kernel)) ggL_law_X11_hill
set_option maxRecDepth 20000 in
theorem ggL_law_X10_fault : GoodIn wsL_law wsX10_fault := goodIn_r _ [400, 15, 401, 1023, 1024, 1025, 1026, 1027, 1028, 1029, 1030, 1031, 1032, 1074, 1075, 1076, 1077, 1078, 1079, 1080] (by decide +kernel) (by decide +kernel)
set_option maxRecDepth 20000 in
theorem gL_law_X10_fault : GoodIn wsL_law (wsV RL 23 RX10 yX10_fault wsX10_fault) := goodIn_app (goodIn_of _ (by decide +kernel)) ggL_law_X10_fault
set_option maxRecDepth 20000 in
theorem ggL_law_X11_fault : GoodIn wsL_law wsX11_fault := goodIn_r _ [405, 130, 1033, 1034, 1035, 1036, 1037, 1038, 1039, 1040, 1041, 1042, 1043, 1044, 1045, 1046, 1047, 1048, 1049, 1050, 1051, 1052, 1053, 1054, 1055, 1056, 1057, 1058, 1059, 1060, 1061, 1062, 1063, 1064, 1065, 1066, 1067, 1068, 1069, 1070, 1071, 1072, 1073] (by decide +kernel) (by decide +kernel)
set_option maxRecDepth 20000 in
theorem gL_law_X11_fault : GoodIn wsL_law (wsV RL 26 RX11 yX11_fault wsX11_fault) := goodIn_app (goodIn_of _ (by decide +kernel)) ggL_law_X11_fault
set_option maxRecDepth 20000 in
theorem ggL_law_X10_told : GoodIn wsL_law wsX10_told := goodIn_r _ [409, 19, 410, 411, 412, 413, 179, 15, 147, 23, 414, 415, 31, 39, 176, 43, 177, 35, 416, 146, 417, 418, 419, 30, 420, 87, 421, 422, 423, 424, 425, 89, 426, 427, 428, 26, 429, 80, 430, 431, 249, 2, 250, 251, 252, 432, 433, 434, 435, 79, 436, 437, 438, 439, 440, 441, 442, 285, 286, 443, 444, 445, 446, 447, 448, 449, 450, 451, 452, 453, 454, 455, 456, 457, 239, 240, 458, 459, 460, 461, 462, 463, 464, 465, 466, 467, 468, 469, 470, 471, 1023, 1024, 1025, 1026, 1027, 1028, 1029, 1030, 1031, 1032, 1081, 1082, 1083, 1084, 1085, 1086, 1087, 1088, 1089, 1090, 1091, 1074, 1075, 1076, 1077, 1078, 1079, 1080, 1092, 1093, 1094, 1095, 1096, 1097, 1108, 1109, 1110, 1111, 1112, 1113, 1114, 1105, 1106, 1107, 1100, 1101, 1102, 1103, 1104, 1098, 1099] (by decide +kernel) (by decide +kernel)
set_option maxRecDepth 20000 in
theorem gL_law_X10_told : GoodIn wsL_law (wsV RL 27 RX10 yX10_told wsX10_told) := goodIn_app (goodIn_of _ (by decide +kernel)) ggL_law_X10_told
set_option maxRecDepth 20000 in
theorem ggL_law_X11_told : GoodIn wsL_law wsX11_told := goodIn_r _ [475, 141, 394, 395, 396, 333, 165, 122, 330, 331, 332, 164, 476, 477, 478, 5, 479, 480, 481, 482, 483, 484, 121, 375, 376, 377, 485, 486, 487, 488, 119, 489, 490, 491, 492, 493, 494, 495, 496, 497, 498, 499, 500, 501, 502, 1033, 1034, 1035, 1036, 1037, 1038, 1039, 1040, 1041, 1042, 1043, 1044, 1045, 1046, 1047, 1048, 1049, 1050, 1051, 1052, 1053, 1054, 1055, 1056, 1057, 1058, 1059, 1060, 1061, 1062, 1063, 1064, 1065, 1066, 1067, 1068, 1069, 1070, 1071, 1072, 1073] (by decide +kernel) (by decide +kernel)
set_option maxRecDepth 20000 in
theorem gL_law_X11_told : GoodIn wsL_law (wsV RL 30 RX11 yX11_told wsX11_told) := goodIn_app (goodIn_of _ (by decide +kernel)) ggL_law_X11_told
set_option maxRecDepth 20000 in
theorem ggL_law_X10_room : GoodIn wsL_law wsX10_room := goodIn_r _ [506, 19, 507, 27, 508, 509, 146, 510, 511, 512, 18, 513, 190, 514, 239, 2, 240, 515, 516, 517, 26, 518, 79, 519, 80, 430, 249, 250, 251, 252, 520, 1023, 1024, 1025, 1026, 1027, 1028, 1029, 1030, 1031, 1032, 1081, 1082, 1083, 1084, 1085, 1086, 1087, 1088, 1089, 1090, 1091, 1098, 1099, 1092, 1093, 1094, 1095, 1096, 1097] (by decide +kernel) (by decide +kernel)
set_option maxRecDepth 20000 in
theorem gL_law_X10_room : GoodIn wsL_law (wsV RL 31 RX10 yX10_room wsX10_room) := goodIn_app (goodIn_of _ (by decide +kernel)) ggL_law_X10_room
set_option maxRecDepth 20000 in
theorem ggL_law_X11_room : GoodIn wsL_law wsX11_room := goodIn_r _ [524, 525, 119, 120, 164, 526, 527, 528, 5, 529, 141, 167, 168, 169, 530, 531, 532, 533, 333, 122, 1033, 1034, 1035, 1036, 1037, 1038, 1039, 1040, 1041, 1042, 1043, 1044, 1045, 1046, 1047, 1048, 1049, 1050, 1051, 1052, 1053, 1054, 1055, 1056, 1057, 1058, 1059, 1060, 1061, 1062, 1063, 1064, 1065, 1066, 1067, 1068, 1069, 1070, 1071, 1072, 1073] (by decide +kernel) (by decide +kernel)
set_option maxRecDepth 20000 in
theorem gL_law_X11_room : GoodIn wsL_law (wsV RL 35 RX11 yX11_room wsX11_room) := goodIn_app (goodIn_of _ (by decide +kernel)) ggL_law_X11_room
set_option maxRecDepth 20000 in
theorem ggL_law_X10_person : GoodIn wsL_law wsX10_person := goodIn_r _ [537, 19, 507, 538, 23, 539, 540, 541, 415, 146, 542, 543, 544, 18, 545, 194, 520, 249, 2, 250, 546, 251, 252, 1023, 1024, 1025, 1026, 1027, 1028, 1029, 1030, 1031, 1032, 1081, 1082, 1083, 1084, 1085, 1086, 1087, 1088, 1089, 1090, 1091, 1092, 1093, 1094, 1095, 1096, 1097] (by decide +kernel) (by decide +kernel)
set_option maxRecDepth 20000 in
theorem gL_law_X10_person : GoodIn wsL_law (wsV RL 36 RX10 yX10_person wsX10_person) := goodIn_app (goodIn_of _ (by decide +kernel)) ggL_law_X10_person
set_option maxRecDepth 20000 in
theorem ggL_law_X11_person : GoodIn wsL_law wsX11_person := goodIn_r _ [550, 525, 121, 122, 164, 551, 552, 553, 5, 554, 333, 167, 168, 169, 1033, 1034, 1035, 1036, 1037, 1038, 1039, 1040, 1041, 1042, 1043, 1044, 1045, 1046, 1047, 1048, 1049, 1050, 1051, 1052, 1053, 1054, 1055, 1056, 1057, 1058, 1059, 1060, 1061, 1062, 1063, 1064, 1065, 1066, 1067, 1068, 1069, 1070, 1071, 1072, 1073] (by decide +kernel) (by decide +kernel)
set_option maxRecDepth 20000 in
theorem gL_law_X11_person : GoodIn wsL_law (wsV RL 39 RX11 yX11_person wsX11_person) := goodIn_app (goodIn_of _ (by decide +kernel)) ggL_law_X11_person
set_option maxRecDepth 20000 in
theorem ggL_law_X10_liking : GoodIn wsL_law wsX10_liking := goodIn_r _ [558, 19, 23, 559, 507, 560, 561, 562, 18, 563, 564, 543, 544, 545, 194, 565, 285, 2, 286, 520, 249, 250, 1023, 1024, 1025, 1026, 1027, 1028, 1029, 1030, 1031, 1032, 1092, 1093, 1094, 1095, 1096, 1097, 1081, 1082, 1083, 1084, 1085, 1086, 1087, 1088, 1089, 1090, 1091] (by decide +kernel) (by decide +kernel)
set_option maxRecDepth 20000 in
theorem gL_law_X10_liking : GoodIn wsL_law (wsV RL 40 RX10 yX10_liking wsX10_liking) := goodIn_app (goodIn_of _ (by decide +kernel)) ggL_law_X10_liking
set_option maxRecDepth 20000 in
theorem ggL_law_X11_liking : GoodIn wsL_law wsX11_liking := goodIn_r _ [569, 122, 525, 570, 571, 572, 5, 573, 551, 552, 553, 554, 333, 167, 168, 169, 1033, 1034, 1035, 1036, 1037, 1038, 1039, 1040, 1041, 1042, 1043, 1044, 1045, 1046, 1047, 1048, 1049, 1050, 1051, 1052, 1053, 1054, 1055, 1056, 1057, 1058, 1059, 1060, 1061, 1062, 1063, 1064, 1065, 1066, 1067, 1068, 1069, 1070, 1071, 1072, 1073] (by decide +kernel) (by decide +kernel)
set_option maxRecDepth 20000 in
theorem gL_law_X11_liking : GoodIn wsL_law (wsV RL 43 RX11 yX11_liking wsX11_liking) := goodIn_app (goodIn_of _ (by decide +kernel)) ggL_law_X11_liking
set_option maxRecDepth 20000 in
theorem ggL_law_X10_said : GoodIn wsL_law wsX10_said := goodIn_r _ [577, 19, 507, 27, 23, 539, 146, 560, 561, 562, 18, 563, 564, 543, 544, 545, 194, 578, 427, 428, 26, 429, 80, 430, 431, 249, 2, 250, 251, 252, 432, 433, 434, 435, 79, 436, 437, 438, 439, 440, 441, 442, 285, 286, 443, 444, 520, 579, 1023, 1024, 1025, 1026, 1027, 1028, 1029, 1030, 1031, 1032, 1092, 1093, 1094, 1095, 1096, 1097, 1081, 1082, 1083, 1084, 1085, 1086, 1087, 1088, 1089, 1090, 1091, 1098, 1099] (by decide +kernel) (by decide +kernel)
set_option maxRecDepth 20000 in
theorem gL_law_X10_said : GoodIn wsL_law (wsV RL 44 RX10 yX10_said wsX10_said) := goodIn_app (goodIn_of _ (by decide +kernel)) ggL_law_X10_said
set_option maxRecDepth 20000 in
theorem ggL_law_X11_said : GoodIn wsL_law wsX11_said := goodIn_r _ [583, 525, 122, 164, 570, 571, 572, 5, 573, 551, 552, 553, 554, 333, 167, 168, 169, 481, 482, 483, 484, 121, 375, 376, 377, 485, 486, 487, 488, 119, 489, 490, 491, 584, 585, 586, 587, 1033, 1034, 1035, 1036, 1037, 1038, 1039, 1040, 1041, 1042, 1043, 1044, 1045, 1046, 1047, 1048, 1049, 1050, 1051, 1052, 1053, 1054, 1055, 1056, 1057, 1058, 1059, 1060, 1061, 1062, 1063, 1064, 1065, 1066, 1067, 1068, 1069, 1070, 1071, 1072, 1073] (by decide +kernel) (by decide +kernel)
set_option maxRecDepth 20000 in
theorem gL_law_X11_said : GoodIn wsL_law (wsV RL 48 RX11 yX11_said wsX11_said) := goodIn_app (goodIn_of _ (by decide +kernel)) ggL_law_X11_said
set_option maxRecDepth 20000 in
theorem ggL_law_X10_hour : GoodIn wsL_law wsX10_hour := goodIn_r _ [591, 35, 23, 27, 414, 592, 593, 594, 2, 595, 146, 19, 596, 148, 149, 150, 151, 597, 221, 222, 18, 223, 190, 598, 599, 600, 34, 601, 602, 318, 603, 298, 299, 300, 604, 605, 606, 607, 95, 608, 609, 610, 22, 611, 71, 72, 73, 74, 311, 312, 295, 296, 297, 301, 302, 303, 304, 612, 613, 614, 26, 615, 79, 519, 80, 616, 430, 617, 618, 619, 431, 620, 621, 622, 623, 624, 625, 626, 627, 249, 250, 438, 439, 440, 441, 442, 251, 252, 628, 427, 428, 429, 432, 433, 434, 435, 436, 437, 285, 286, 443, 444, 629, 630, 631, 632, 633, 634, 635, 636, 637, 157, 158, 1023, 1024, 1025, 1026, 1027, 1028, 1029, 1030, 1031, 1032, 1092, 1093, 1094, 1095, 1096, 1097, 1081, 1082, 1083, 1084, 1085, 1086, 1087, 1088, 1089, 1090, 1091, 1105, 1106, 1107, 1098, 1099] (by decide +kernel) (by decide +kernel)
set_option maxRecDepth 20000 in
theorem gL_law_X10_hour : GoodIn wsL_law (wsV RL 49 RX10 yX10_hour wsX10_hour) := goodIn_app (goodIn_of _ (by decide +kernel)) ggL_law_X10_hour
set_option maxRecDepth 20000 in
theorem ggL_law_X11_hour : GoodIn wsL_law wsX11_hour := goodIn_r _ [641, 122, 642, 643, 644, 5, 645, 646, 164, 141, 647, 166, 167, 168, 169, 648, 649, 650, 651, 332, 136, 652, 653, 654, 655, 333, 394, 656, 657, 658, 659, 584, 585, 586, 587, 119, 375, 376, 377, 481, 482, 483, 484, 121, 485, 486, 487, 488, 489, 490, 491, 1033, 1034, 1035, 1036, 1037, 1038, 1039, 1040, 1041, 1042, 1043, 1044, 1045, 1046, 1047, 1048, 1049, 1050, 1051, 1052, 1053, 1054, 1055, 1056, 1057, 1058, 1059, 1060, 1061, 1062, 1063, 1064, 1065, 1066, 1067, 1068, 1069, 1070, 1071, 1072, 1073] (by decide +kernel) (by decide +kernel)
set_option maxRecDepth 20000 in
theorem gL_law_X11_hour : GoodIn wsL_law (wsV RL 52 RX11 yX11_hour wsX11_hour) := goodIn_app (goodIn_of _ (by decide +kernel)) ggL_law_X11_hour
set_option maxRecDepth 20000 in
theorem ggL_law_X10_go : GoodIn wsL_law wsX10_go := goodIn_r _ [663, 19, 507, 23, 539, 596, 35, 542, 543, 544, 18, 545, 194, 510, 511, 512, 513, 190, 520, 249, 2, 250, 664, 262, 263, 264, 64, 251, 252, 598, 599, 600, 34, 601, 602, 318, 603, 298, 299, 300, 604, 605, 606, 607, 95, 608, 609, 610, 22, 611, 71, 72, 73, 74, 311, 312, 295, 296, 297, 301, 302, 303, 304, 665, 157, 158, 1023, 1024, 1025, 1026, 1027, 1028, 1029, 1030, 1031, 1032, 1092, 1093, 1094, 1095, 1096, 1097, 1081, 1082, 1083, 1084, 1085, 1086, 1087, 1088, 1089, 1090, 1091, 1105, 1106, 1107] (by decide +kernel) (by decide +kernel)
set_option maxRecDepth 20000 in
theorem gL_law_X10_go : GoodIn wsL_law (wsV RL 53 RX10 yX10_go wsX10_go) := goodIn_app (goodIn_of _ (by decide +kernel)) ggL_law_X10_go
set_option maxRecDepth 20000 in
theorem ggL_law_X11_go : GoodIn wsL_law wsX11_go := goodIn_r _ [669, 525, 122, 120, 647, 551, 552, 553, 5, 554, 333, 167, 168, 169, 526, 527, 528, 529, 141, 375, 376, 377, 648, 649, 650, 651, 332, 136, 1033, 1034, 1035, 1036, 1037, 1038, 1039, 1040, 1041, 1042, 1043, 1044, 1045, 1046, 1047, 1048, 1049, 1050, 1051, 1052, 1053, 1054, 1055, 1056, 1057, 1058, 1059, 1060, 1061, 1062, 1063, 1064, 1065, 1066, 1067, 1068, 1069, 1070, 1071, 1072, 1073] (by decide +kernel) (by decide +kernel)
set_option maxRecDepth 20000 in
theorem gL_law_X11_go : GoodIn wsL_law (wsV RL 56 RX11 yX11_go wsX11_go) := goodIn_app (goodIn_of _ (by decide +kernel)) ggL_law_X11_go
