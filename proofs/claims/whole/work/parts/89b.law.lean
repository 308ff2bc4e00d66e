set_option maxRecDepth 20000 in
theorem ggL_law_X10_init : GoodIn wsL_law wsX10_init := goodIn_r _ [8, 9, 10, 11, 12, 13, 14, 15, 16, 17, 18, 19, 20, 21, 22, 23, 24, 25, 26, 27, 28, 29, 30, 31, 32, 33, 34, 35, 36, 37, 38, 39, 40, 41, 42, 43, 44, 45, 46, 47, 48, 49, 50, 51, 52, 53, 54, 55, 56, 57, 58, 59, 60, 61, 62, 63, 64, 65, 66, 67, 68, 69, 70, 71, 72, 73, 74, 75, 76, 77, 78, 79, 80, 81, 82, 83, 84, 85, 86, 87, 88, 89, 90, 91, 92, 93, 94, 95, 96, 97, 98, 99, 100, 101, 102, 103, 104, 105, 106, 107, 108, 109, 110, 111, 112, 113, 114, 1073, 1074, 1075, 1076, 1077, 1078, 1079, 1080, 1022, 1023, 1024, 1025, 1026, 1027, 1028, 1029, 1030, 1031, 1081, 1082, 1083, 1084, 1085, 1086, 1087, 1088, 1089, 1090, 1091, 1092, 1093, 1094, 1095, 1096, 1097, 1098, 1099, 1100, 1101, 1102, 1103, 1104, 1105, 1106, 1107, 1108, 1109, 1110, 1111, 1112, 1113, 1114, 1115, 1116, 1117] (by decide +kernel) (by decide +kernel)
set_option maxRecDepth 20000 in
theorem gL_law_X10_init : GoodIn wsL_law (wsX10_init) := ggL_law_X10_init
set_option maxRecDepth 20000 in
theorem ggL_law_X11_init : GoodIn wsL_law wsX11_init := goodIn_r _ [117, 118, 10, 11, 55, 119, 120, 121, 122, 123, 124, 125, 126, 127, 128, 129, 130, 131, 132, 133, 134, 135, 136, 137, 138, 139, 140, 141, 1032, 1033, 1034, 1035, 1036, 1037, 1038, 1039, 1040, 1041, 1042, 1043, 1044, 1045, 1046, 1047, 1048, 1049, 1050, 1051, 1052, 1053, 1054, 1055, 1056, 1057, 1058, 1059, 1060, 1061, 1062, 1063, 1064, 1065, 1066, 1067, 1068, 1069, 1070, 1071, 1072] (by decide +kernel) (by decide +kernel)
set_option maxRecDepth 20000 in
theorem gL_law_X11_init : GoodIn wsL_law (wsX11_init) := ggL_law_X11_init
set_option maxRecDepth 20000 in
theorem ggL_law_X10_feed : GoodIn wsL_law wsX10_feed := goodIn_r _ [145, 146, 15, 147, 148, 149, 150, 2, 151, 152, 153, 154, 14, 155, 56, 156, 157, 158, 1022, 1023, 1024, 1025, 1026, 1027, 1028, 1029, 1030, 1031, 1073, 1074, 1075, 1076, 1077, 1078, 1079, 1080] (by decide +kernel) (by decide +kernel)
set_option maxRecDepth 20000 in
theorem gL_law_X10_feed : GoodIn wsL_law (wsV RL 13 RX10 yX10_feed wsX10_feed) := goodIn_app (goodIn_of _ (by decide +kernel)) ggL_law_X10_feed
set_option maxRecDepth 20000 in
theorem ggL_law_X11_feed : GoodIn wsL_law wsX11_feed := goodIn_r _ [162, 163, 164, 165, 166, 129, 167, 168, 5, 169, 1032, 1033, 1034, 1035, 1036, 1037, 1038, 1039, 1040, 1041, 1042, 1043, 1044, 1045, 1046, 1047, 1048, 1049, 1050, 1051, 1052, 1053, 1054, 1055, 1056, 1057, 1058, 1059, 1060, 1061, 1062, 1063, 1064, 1065, 1066, 1067, 1068, 1069, 1070, 1071, 1072] (by decide +kernel) (by decide +kernel)
set_option maxRecDepth 20000 in
theorem gL_law_X11_feed : GoodIn wsL_law (wsV RL 17 RX11 yX11_feed wsX11_feed) := goodIn_app (goodIn_of _ (by decide +kernel)) ggL_law_X11_feed
set_option maxRecDepth 20000 in
theorem ggL_law_X10_hill : GoodIn wsL_law wsX10_hill := goodIn_r _ [173, 15, 147, 174, 19, 175, 23, 39, 176, 43, 177, 35, 49, 178, 179, 180, 181, 182, 14, 183, 58, 184, 185, 59, 186, 156, 187, 188, 189, 18, 190, 63, 64, 65, 66, 67, 191, 192, 193, 194, 195, 196, 197, 198, 199, 200, 201, 202, 203, 204, 205, 206, 207, 56, 208, 209, 210, 211, 212, 213, 214, 215, 216, 217, 218, 219, 220, 221, 222, 223, 224, 225, 226, 227, 228, 229, 230, 231, 232, 233, 234, 235, 236, 237, 150, 2, 151, 238, 239, 240, 241, 242, 243, 244, 245, 246, 247, 248, 249, 250, 251, 252, 253, 254, 255, 157, 158, 256, 257, 258, 259, 260, 261, 262, 263, 264, 265, 266, 267, 268, 269, 270, 271, 272, 273, 274, 275, 276, 277, 278, 279, 280, 281, 282, 283, 284, 285, 286, 287, 288, 289, 290, 291, 292, 293, 294, 295, 296, 297, 298, 299, 300, 301, 302, 303, 304, 305, 306, 22, 307, 308, 71, 72, 73, 309, 74, 310, 311, 312, 313, 314, 315, 34, 316, 317, 1022, 1023, 1024, 1025, 1026, 1027, 1028, 1029, 1030, 1031, 1073, 1074, 1075, 1076, 1077, 1078, 1079, 1080, 1107, 1108, 1109, 1110, 1111, 1112, 1113, 1115, 1116, 1117, 1081, 1082, 1083, 1084, 1085, 1086, 1087, 1088, 1089, 1090, 1091, 1092, 1093, 1094, 1095, 1096, 1104, 1105, 1106] (by decide +kernel) (by decide +kernel)
set_option maxRecDepth 20000 in
theorem gL_law_X10_hill : GoodIn wsL_law (wsV RL 18 RX10 yX10_hill wsX10_hill) := goodIn_app (goodIn_of _ (by decide +kernel)) ggL_law_X10_hill
set_option maxRecDepth 20000 in
theorem ggL_law_X11_hill : GoodIn wsL_law wsX11_hill := goodIn_r _ [321, 130, 322, 323, 324, 325, 326, 327, 328, 131, 132, 135, 165, 329, 330, 331, 140, 332, 333, 334, 335, 5, 336, 129, 337, 338, 339, 340, 341, 342, 343, 344, 345, 346, 347, 348, 349, 350, 351, 352, 353, 354, 355, 356, 357, 358, 359, 360, 361, 362, 363, 364, 167, 168, 169, 365, 366, 367, 368, 369, 370, 371, 372, 373, 374, 375, 376, 377, 378, 379, 380, 381, 382, 383, 384, 133, 134, 385, 386, 387, 388, 389, 390, 391, 392, 141, 393, 394, 395, 119, 120, 122, 121, 1032, 1033, 1034, 1035, 1036, 1037, 1038, 1039, 1040, 1041, 1042, 1043, 1044, 1045, 1046, 1047, 1048, 1049, 1050, 1051, 1052, 1053, 1054, 1055, 1056, 1057, 1058, 1059, 1060, 1061, 1062, 1063, 1064, 1065, 1066, 1067, 1068, 1069, 1070, 1071, 1072] (by decide +kernel) (by decide +kernel)
set_option maxRecDepth 20000 in
theorem gL_law_X11_hill : GoodIn wsL_law (wsV RL 22 RX11 yX11_hill wsX11_hill) := goodIn_app (goodIn_of _ (by decide +kernel)) ggL_law_X11_hill
set_option maxRecDepth 20000 in
theorem ggL_law_X10_fault : GoodIn wsL_law wsX10_fault := goodIn_r _ [399, 15, 400, 1022, 1023, 1024, 1025, 1026, 1027, 1028, 1029, 1030, 1031, 1073, 1074, 1075, 1076, 1077, 1078, 1079, 1080] (by decide +kernel) (by decide +kernel)
set_option maxRecDepth 20000 in
theorem gL_law_X10_fault : GoodIn wsL_law (wsV RL 23 RX10 yX10_fault wsX10_fault) := goodIn_app (goodIn_of _ (by decide +kernel)) ggL_law_X10_fault
set_option maxRecDepth 20000 in
theorem ggL_law_X11_fault : GoodIn wsL_law wsX11_fault := goodIn_r _ [404, 130, 1032, 1033, 1034, 1035, 1036, 1037, 1038, 1039, 1040, 1041, 1042, 1043, 1044, 1045, 1046, 1047, 1048, 1049, 1050, 1051, 1052, 1053, 1054, 1055, 1056, 1057, 1058, 1059, 1060, 1061, 1062, 1063, 1064, 1065, 1066, 1067, 1068, 1069, 1070, 1071, 1072] (by decide +kernel) (by decide +kernel)
set_option maxRecDepth 20000 in
theorem gL_law_X11_fault : GoodIn wsL_law (wsV RL 26 RX11 yX11_fault wsX11_fault) := goodIn_app (goodIn_of _ (by decide +kernel)) ggL_law_X11_fault
set_option maxRecDepth 20000 in
theorem ggL_law_X10_told : GoodIn wsL_law wsX10_told := goodIn_r _ [408, 19, 409, 410, 411, 412, 179, 15, 147, 23, 413, 414, 31, 39, 176, 43, 177, 35, 415, 146, 416, 417, 418, 30, 419, 87, 420, 421, 422, 423, 424, 89, 425, 426, 427, 26, 428, 80, 429, 430, 248, 2, 249, 250, 251, 431, 432, 433, 434, 79, 435, 436, 437, 438, 439, 440, 441, 284, 285, 442, 443, 444, 445, 446, 447, 448, 449, 450, 451, 452, 453, 454, 455, 456, 238, 239, 457, 458, 459, 460, 461, 462, 463, 464, 465, 466, 467, 468, 469, 470, 1022, 1023, 1024, 1025, 1026, 1027, 1028, 1029, 1030, 1031, 1081, 1082, 1083, 1084, 1085, 1086, 1087, 1088, 1089, 1090, 1073, 1074, 1075, 1076, 1077, 1078, 1079, 1080, 1091, 1092, 1093, 1094, 1095, 1096, 1107, 1108, 1109, 1110, 1111, 1112, 1113, 1104, 1105, 1106, 1099, 1100, 1101, 1102, 1103, 1097, 1098] (by decide +kernel) (by decide +kernel)
set_option maxRecDepth 20000 in
theorem gL_law_X10_told : GoodIn wsL_law (wsV RL 27 RX10 yX10_told wsX10_told) := goodIn_app (goodIn_of _ (by decide +kernel)) ggL_law_X10_told
set_option maxRecDepth 20000 in
theorem ggL_law_X11_told : GoodIn wsL_law wsX11_told := goodIn_r _ [474, 141, 393, 394, 395, 332, 165, 122, 329, 330, 331, 164, 475, 476, 477, 5, 478, 479, 480, 481, 482, 483, 121, 374, 375, 376, 484, 485, 486, 487, 119, 488, 489, 490, 491, 492, 493, 494, 495, 496, 497, 498, 499, 500, 501, 1032, 1033, 1034, 1035, 1036, 1037, 1038, 1039, 1040, 1041, 1042, 1043, 1044, 1045, 1046, 1047, 1048, 1049, 1050, 1051, 1052, 1053, 1054, 1055, 1056, 1057, 1058, 1059, 1060, 1061, 1062, 1063, 1064, 1065, 1066, 1067, 1068, 1069, 1070, 1071, 1072] (by decide +kernel) (by decide +kernel)
set_option maxRecDepth 20000 in
theorem gL_law_X11_told : GoodIn wsL_law (wsV RL 30 RX11 yX11_told wsX11_told) := goodIn_app (goodIn_of _ (by decide +kernel)) ggL_law_X11_told
set_option maxRecDepth 20000 in
theorem ggL_law_X10_room : GoodIn wsL_law wsX10_room := goodIn_r _ [505, 19, 506, 27, 507, 508, 146, 509, 510, 511, 18, 512, 191, 513, 238, 2, 239, 514, 515, 516, 26, 517, 79, 518, 80, 429, 248, 249, 250, 251, 519, 1022, 1023, 1024, 1025, 1026, 1027, 1028, 1029, 1030, 1031, 1081, 1082, 1083, 1084, 1085, 1086, 1087, 1088, 1089, 1090, 1097, 1098, 1091, 1092, 1093, 1094, 1095, 1096] (by decide +kernel) (by decide +kernel)
set_option maxRecDepth 20000 in
theorem gL_law_X10_room : GoodIn wsL_law (wsV RL 31 RX10 yX10_room wsX10_room) := goodIn_app (goodIn_of _ (by decide +kernel)) ggL_law_X10_room
set_option maxRecDepth 20000 in
theorem ggL_law_X11_room : GoodIn wsL_law wsX11_room := goodIn_r _ [523, 524, 119, 120, 164, 525, 526, 527, 5, 528, 141, 167, 168, 169, 529, 530, 531, 532, 332, 122, 1032, 1033, 1034, 1035, 1036, 1037, 1038, 1039, 1040, 1041, 1042, 1043, 1044, 1045, 1046, 1047, 1048, 1049, 1050, 1051, 1052, 1053, 1054, 1055, 1056, 1057, 1058, 1059, 1060, 1061, 1062, 1063, 1064, 1065, 1066, 1067, 1068, 1069, 1070, 1071, 1072] (by decide +kernel) (by decide +kernel)
set_option maxRecDepth 20000 in
theorem gL_law_X11_room : GoodIn wsL_law (wsV RL 35 RX11 yX11_room wsX11_room) := goodIn_app (goodIn_of _ (by decide +kernel)) ggL_law_X11_room
set_option maxRecDepth 20000 in
theorem ggL_law_X10_person : GoodIn wsL_law wsX10_person := goodIn_r _ [536, 19, 506, 537, 23, 538, 539, 540, 414, 146, 541, 542, 543, 18, 544, 195, 519, 248, 2, 249, 545, 250, 251, 1022, 1023, 1024, 1025, 1026, 1027, 1028, 1029, 1030, 1031, 1081, 1082, 1083, 1084, 1085, 1086, 1087, 1088, 1089, 1090, 1091, 1092, 1093, 1094, 1095, 1096] (by decide +kernel) (by decide +kernel)
set_option maxRecDepth 20000 in
theorem gL_law_X10_person : GoodIn wsL_law (wsV RL 36 RX10 yX10_person wsX10_person) := goodIn_app (goodIn_of _ (by decide +kernel)) ggL_law_X10_person
set_option maxRecDepth 20000 in
theorem ggL_law_X11_person : GoodIn wsL_law wsX11_person := goodIn_r _ [549, 524, 121, 122, 164, 550, 551, 552, 5, 553, 332, 167, 168, 169, 1032, 1033, 1034, 1035, 1036, 1037, 1038, 1039, 1040, 1041, 1042, 1043, 1044, 1045, 1046, 1047, 1048, 1049, 1050, 1051, 1052, 1053, 1054, 1055, 1056, 1057, 1058, 1059, 1060, 1061, 1062, 1063, 1064, 1065, 1066, 1067, 1068, 1069, 1070, 1071, 1072] (by decide +kernel) (by decide +kernel)
set_option maxRecDepth 20000 in
theorem gL_law_X11_person : GoodIn wsL_law (wsV RL 39 RX11 yX11_person wsX11_person) := goodIn_app (goodIn_of _ (by decide +kernel)) ggL_law_X11_person
set_option maxRecDepth 20000 in
theorem ggL_law_X10_liking : GoodIn wsL_law wsX10_liking := goodIn_r _ [557, 19, 23, 558, 506, 559, 560, 561, 18, 562, 563, 542, 543, 544, 195, 564, 284, 2, 285, 519, 248, 249, 1022, 1023, 1024, 1025, 1026, 1027, 1028, 1029, 1030, 1031, 1091, 1092, 1093, 1094, 1095, 1096, 1081, 1082, 1083, 1084, 1085, 1086, 1087, 1088, 1089, 1090] (by decide +kernel) (by decide +kernel)
set_option maxRecDepth 20000 in
theorem gL_law_X10_liking : GoodIn wsL_law (wsV RL 40 RX10 yX10_liking wsX10_liking) := goodIn_app (goodIn_of _ (by decide +kernel)) ggL_law_X10_liking
set_option maxRecDepth 20000 in
theorem ggL_law_X11_liking : GoodIn wsL_law wsX11_liking := goodIn_r _ [568, 122, 524, 569, 570, 571, 5, 572, 550, 551, 552, 553, 332, 167, 168, 169, 1032, 1033, 1034, 1035, 1036, 1037, 1038, 1039, 1040, 1041, 1042, 1043, 1044, 1045, 1046, 1047, 1048, 1049, 1050, 1051, 1052, 1053, 1054, 1055, 1056, 1057, 1058, 1059, 1060, 1061, 1062, 1063, 1064, 1065, 1066, 1067, 1068, 1069, 1070, 1071, 1072] (by decide +kernel) (by decide +kernel)
set_option maxRecDepth 20000 in
theorem gL_law_X11_liking : GoodIn wsL_law (wsV RL 43 RX11 yX11_liking wsX11_liking) := goodIn_app (goodIn_of _ (by decide +kernel)) ggL_law_X11_liking
set_option maxRecDepth 20000 in
theorem ggL_law_X10_said : GoodIn wsL_law wsX10_said := goodIn_r _ [576, 19, 506, 27, 23, 538, 146, 559, 560, 561, 18, 562, 563, 542, 543, 544, 195, 577, 426, 427, 26, 428, 80, 429, 430, 248, 2, 249, 250, 251, 431, 432, 433, 434, 79, 435, 436, 437, 438, 439, 440, 441, 284, 285, 442, 443, 519, 578, 1022, 1023, 1024, 1025, 1026, 1027, 1028, 1029, 1030, 1031, 1091, 1092, 1093, 1094, 1095, 1096, 1081, 1082, 1083, 1084, 1085, 1086, 1087, 1088, 1089, 1090, 1097, 1098] (by decide +kernel) (by decide +kernel)
set_option maxRecDepth 20000 in
theorem gL_law_X10_said : GoodIn wsL_law (wsV RL 44 RX10 yX10_said wsX10_said) := goodIn_app (goodIn_of _ (by decide +kernel)) ggL_law_X10_said
set_option maxRecDepth 20000 in
theorem ggL_law_X11_said : GoodIn wsL_law wsX11_said := goodIn_r _ [582, 524, 122, 164, 569, 570, 571, 5, 572, 550, 551, 552, 553, 332, 167, 168, 169, 480, 481, 482, 483, 121, 374, 375, 376, 484, 485, 486, 487, 119, 488, 489, 490, 583, 584, 585, 586, 1032, 1033, 1034, 1035, 1036, 1037, 1038, 1039, 1040, 1041, 1042, 1043, 1044, 1045, 1046, 1047, 1048, 1049, 1050, 1051, 1052, 1053, 1054, 1055, 1056, 1057, 1058, 1059, 1060, 1061, 1062, 1063, 1064, 1065, 1066, 1067, 1068, 1069, 1070, 1071, 1072] (by decide +kernel) (by decide +kernel)
set_option maxRecDepth 20000 in
theorem gL_law_X11_said : GoodIn wsL_law (wsV RL 48 RX11 yX11_said wsX11_said) := goodIn_app (goodIn_of _ (by decide +kernel)) ggL_law_X11_said
set_option maxRecDepth 20000 in
theorem ggL_law_X10_hour : GoodIn wsL_law wsX10_hour := goodIn_r _ [590, 35, 23, 27, 413, 591, 592, 593, 2, 594, 146, 19, 595, 148, 149, 150, 151, 596, 220, 221, 18, 222, 191, 597, 598, 599, 34, 600, 601, 317, 602, 297, 298, 299, 603, 604, 605, 606, 95, 607, 608, 609, 22, 610, 71, 72, 73, 74, 310, 311, 294, 295, 296, 300, 301, 302, 303, 611, 612, 613, 26, 614, 79, 518, 80, 615, 429, 616, 617, 618, 430, 619, 620, 621, 622, 623, 624, 625, 626, 248, 249, 437, 438, 439, 440, 441, 250, 251, 627, 426, 427, 428, 431, 432, 433, 434, 435, 436, 284, 285, 442, 443, 628, 629, 630, 631, 632, 633, 634, 635, 636, 157, 158, 1022, 1023, 1024, 1025, 1026, 1027, 1028, 1029, 1030, 1031, 1091, 1092, 1093, 1094, 1095, 1096, 1081, 1082, 1083, 1084, 1085, 1086, 1087, 1088, 1089, 1090, 1104, 1105, 1106, 1097, 1098] (by decide +kernel) (by decide +kernel)
set_option maxRecDepth 20000 in
theorem gL_law_X10_hour : GoodIn wsL_law (wsV RL 49 RX10 yX10_hour wsX10_hour) := goodIn_app (goodIn_of _ (by decide +kernel)) ggL_law_X10_hour
set_option maxRecDepth 20000 in
theorem ggL_law_X11_hour : GoodIn wsL_law wsX11_hour := goodIn_r _ [640, 122, 641, 642, 643, 5, 644, 645, 164, 141, 646, 166, 167, 168, 169, 647, 648, 649, 650, 331, 136, 651, 652, 653, 654, 332, 393, 655, 656, 657, 658, 583, 584, 585, 586, 119, 374, 375, 376, 480, 481, 482, 483, 121, 484, 485, 486, 487, 488, 489, 490, 1032, 1033, 1034, 1035, 1036, 1037, 1038, 1039, 1040, 1041, 1042, 1043, 1044, 1045, 1046, 1047, 1048, 1049, 1050, 1051, 1052, 1053, 1054, 1055, 1056, 1057, 1058, 1059, 1060, 1061, 1062, 1063, 1064, 1065, 1066, 1067, 1068, 1069, 1070, 1071, 1072] (by decide +kernel) (by decide +kernel)
set_option maxRecDepth 20000 in
theorem gL_law_X11_hour : GoodIn wsL_law (wsV RL 52 RX11 yX11_hour wsX11_hour) := goodIn_app (goodIn_of _ (by decide +kernel)) ggL_law_X11_hour
set_option maxRecDepth 20000 in
theorem ggL_law_X10_go : GoodIn wsL_law wsX10_go := goodIn_r _ [662, 19, 506, 23, 538, 595, 35, 541, 542, 543, 18, 544, 195, 509, 510, 511, 512, 191, 519, 248, 2, 249, 663, 261, 262, 263, 64, 250, 251, 597, 598, 599, 34, 600, 601, 317, 602, 297, 298, 299, 603, 604, 605, 606, 95, 607, 608, 609, 22, 610, 71, 72, 73, 74, 310, 311, 294, 295, 296, 300, 301, 302, 303, 664, 157, 158, 1022, 1023, 1024, 1025, 1026, 1027, 1028, 1029, 1030, 1031, 1091, 1092, 1093, 1094, 1095, 1096, 1081, 1082, 1083, 1084, 1085, 1086, 1087, 1088, 1089, 1090, 1104, 1105, 1106] (by decide +kernel) (by decide +kernel)
set_option maxRecDepth 20000 in
theorem gL_law_X10_go : GoodIn wsL_law (wsV RL 53 RX10 yX10_go wsX10_go) := goodIn_app (goodIn_of _ (by decide +kernel)) ggL_law_X10_go
set_option maxRecDepth 20000 in
theorem ggL_law_X11_go : GoodIn wsL_law wsX11_go := goodIn_r _ [668, 524, 122, 120, 646, 550, 551, 552, 5, 553, 332, 167, 168, 169, 525, 526, 527, 528, 141, 374, 375, 376, 647, 648, 649, 650, 331, 136, 1032, 1033, 1034, 1035, 1036, 1037, 1038, 1039, 1040, 1041, 1042, 1043, 1044, 1045, 1046, 1047, 1048, 1049, 1050, 1051, 1052, 1053, 1054, 1055, 1056, 1057, 1058, 1059, 1060, 1061, 1062, 1063, 1064, 1065, 1066, 1067, 1068, 1069, 1070, 1071, 1072] (by decide +kernel) (by decide +kernel)
set_option maxRecDepth 20000 in
theorem gL_law_X11_go : GoodIn wsL_law (wsV RL 56 RX11 yX11_go wsX11_go) := goodIn_app (goodIn_of _ (by decide +kernel)) ggL_law_X11_go
