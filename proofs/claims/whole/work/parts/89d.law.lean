set_option maxRecDepth 20000 in
theorem ggL_law_X10_note : GoodIn wsL_law wsX10_note := goodIn_r _ [881, 146, 39, 176, 148, 149, 150, 2, 151, 882, 883, 884, 38, 885, 99, 886, 100, 101, 157, 158, 1022, 1023, 1024, 1025, 1026, 1027, 1028, 1029, 1030, 1031, 1107, 1108, 1109, 1110] (by decide +kernel) (by decide +kernel)
set_option maxRecDepth 20000 in
theorem gL_law_X10_note : GoodIn wsL_law (wsV RL 101 RX10 yX10_note wsX10_note) := goodIn_app (goodIn_of _ (by decide +kernel)) ggL_law_X10_note
set_option maxRecDepth 20000 in
theorem ggL_law_X11_note : GoodIn wsL_law wsX11_note := goodIn_r _ [890, 891, 892, 685, 164, 329, 166, 124, 125, 126, 167, 168, 5, 169, 1032, 1033, 1034, 1035, 1036, 1037, 1038, 1039, 1040, 1041, 1042, 1043, 1044, 1045, 1046, 1047, 1048, 1049, 1050, 1051, 1052, 1053, 1054, 1055, 1056, 1057, 1058, 1059, 1060, 1061, 1062, 1063, 1064, 1065, 1066, 1067, 1068, 1069, 1070, 1071, 1072] (by decide +kernel) (by decide +kernel)
set_option maxRecDepth 20000 in
theorem gL_law_X11_note : GoodIn wsL_law (wsV RL 105 RX11 yX11_note wsX11_note) := goodIn_app (goodIn_of _ (by decide +kernel)) ggL_law_X11_note
set_option maxRecDepth 20000 in
theorem ggL_law_X10_thinks : GoodIn wsL_law wsX10_thinks := goodIn_r _ [896, 39, 146, 897, 898, 899, 38, 900, 901, 902, 903, 904, 886, 99, 101, 100, 248, 2, 249, 442, 443, 238, 239, 464, 465, 466, 467, 468, 469, 470, 905, 906, 907, 908, 909, 250, 251, 910, 911, 912, 913, 1022, 1023, 1024, 1025, 1026, 1027, 1028, 1029, 1030, 1031, 1107, 1108, 1109, 1110] (by decide +kernel) (by decide +kernel)
set_option maxRecDepth 20000 in
theorem gL_law_X10_thinks : GoodIn wsL_law (wsV RL 106 RX10 yX10_thinks wsX10_thinks) := goodIn_app (goodIn_of _ (by decide +kernel)) ggL_law_X10_thinks
set_option maxRecDepth 20000 in
theorem ggL_law_X11_thinks : GoodIn wsL_law wsX11_thinks := goodIn_r _ [917, 891, 164, 167, 168, 5, 169, 918, 919, 920, 921, 329, 124, 126, 125, 488, 489, 490, 1032, 1033, 1034, 1035, 1036, 1037, 1038, 1039, 1040, 1041, 1042, 1043, 1044, 1045, 1046, 1047, 1048, 1049, 1050, 1051, 1052, 1053, 1054, 1055, 1056, 1057, 1058, 1059, 1060, 1061, 1062, 1063, 1064, 1065, 1066, 1067, 1068, 1069, 1070, 1071, 1072] (by decide +kernel) (by decide +kernel)
set_option maxRecDepth 20000 in
theorem gL_law_X11_thinks : GoodIn wsL_law (wsV RL 109 RX11 yX11_thinks wsX11_thinks) := goodIn_app (goodIn_of _ (by decide +kernel)) ggL_law_X11_thinks
set_option maxRecDepth 20000 in
theorem ggL_law_X10_ask : GoodIn wsL_law wsX10_ask := goodIn_r _ [925, 39, 146, 149, 150, 2, 151, 926, 927, 928, 38, 929, 930, 297, 298, 299, 909, 898, 899, 900, 901, 902, 903, 904, 886, 99, 101, 100, 248, 249, 442, 443, 238, 239, 931, 932, 933, 934, 935, 635, 636, 250, 251, 936, 465, 466, 467, 468, 469, 470, 1022, 1023, 1024, 1025, 1026, 1027, 1028, 1029, 1030, 1031, 1107, 1108, 1109, 1110] (by decide +kernel) (by decide +kernel)
set_option maxRecDepth 20000 in
theorem gL_law_X10_ask : GoodIn wsL_law (wsV RL 110 RX10 yX10_ask wsX10_ask) := goodIn_app (goodIn_of _ (by decide +kernel)) ggL_law_X10_ask
set_option maxRecDepth 20000 in
theorem ggL_law_X11_ask : GoodIn wsL_law wsX11_ask := goodIn_r _ [940, 891, 164, 167, 168, 5, 169, 941, 915, 916, 917, 918, 919, 920, 921, 329, 124, 126, 125, 488, 489, 490, 1032, 1033, 1034, 1035, 1036, 1037, 1038, 1039, 1040, 1041, 1042, 1043, 1044, 1045, 1046, 1047, 1048, 1049, 1050, 1051, 1052, 1053, 1054, 1055, 1056, 1057, 1058, 1059, 1060, 1061, 1062, 1063, 1064, 1065, 1066, 1067, 1068, 1069, 1070, 1071, 1072] (by decide +kernel) (by decide +kernel)
set_option maxRecDepth 20000 in
theorem gL_law_X11_ask : GoodIn wsL_law (wsV RL 113 RX11 yX11_ask wsX11_ask) := goodIn_app (goodIn_of _ (by decide +kernel)) ggL_law_X11_ask
set_option maxRecDepth 20000 in
theorem ggL_law_X10_listens : GoodIn wsL_law wsX10_listens := goodIn_r _ [945, 19, 506, 146, 31, 559, 560, 561, 18, 562, 563, 542, 543, 544, 195, 149, 150, 2, 151, 946, 947, 948, 30, 949, 87, 456, 89, 88, 746, 747, 248, 249, 250, 251, 753, 432, 433, 26, 434, 79, 435, 80, 436, 437, 438, 439, 440, 441, 284, 285, 442, 443, 238, 239, 1022, 1023, 1024, 1025, 1026, 1027, 1028, 1029, 1030, 1031, 1081, 1082, 1083, 1084, 1085, 1086, 1087, 1088, 1089, 1090, 1099, 1100, 1101, 1102, 1103, 1091, 1092, 1093, 1094, 1095, 1096, 1097, 1098] (by decide +kernel) (by decide +kernel)
set_option maxRecDepth 20000 in
theorem gL_law_X10_listens : GoodIn wsL_law (wsV RL 114 RX10 yX10_listens wsX10_listens) := goodIn_app (goodIn_of _ (by decide +kernel)) ggL_law_X10_listens
set_option maxRecDepth 20000 in
theorem ggL_law_X11_listens : GoodIn wsL_law wsX11_listens := goodIn_r _ [953, 524, 892, 685, 164, 141, 123, 569, 570, 571, 5, 572, 550, 551, 552, 553, 332, 167, 168, 169, 760, 761, 762, 763, 122, 480, 481, 482, 483, 121, 374, 375, 376, 484, 485, 486, 487, 119, 488, 489, 490, 1032, 1033, 1034, 1035, 1036, 1037, 1038, 1039, 1040, 1041, 1042, 1043, 1044, 1045, 1046, 1047, 1048, 1049, 1050, 1051, 1052, 1053, 1054, 1055, 1056, 1057, 1058, 1059, 1060, 1061, 1062, 1063, 1064, 1065, 1066, 1067, 1068, 1069, 1070, 1071, 1072] (by decide +kernel) (by decide +kernel)
set_option maxRecDepth 20000 in
theorem gL_law_X11_listens : GoodIn wsL_law (wsV RL 117 RX11 yX11_listens wsX11_listens) := goodIn_app (goodIn_of _ (by decide +kernel)) ggL_law_X11_listens
set_option maxRecDepth 20000 in
theorem ggL_law_X10_write : GoodIn wsL_law wsX10_write := goodIn_r _ [957, 19, 506, 146, 43, 177, 148, 541, 542, 543, 18, 544, 195, 149, 150, 2, 151, 958, 959, 960, 42, 961, 105, 962, 106, 157, 158, 1022, 1023, 1024, 1025, 1026, 1027, 1028, 1029, 1030, 1031, 1111, 1112, 1113, 1081, 1082, 1083, 1084, 1085, 1086, 1087, 1088, 1089, 1090] (by decide +kernel) (by decide +kernel)
set_option maxRecDepth 20000 in
theorem gL_law_X10_write : GoodIn wsL_law (wsV RL 118 RX10 yX10_write wsX10_write) := goodIn_app (goodIn_of _ (by decide +kernel)) ggL_law_X10_write
set_option maxRecDepth 20000 in
theorem ggL_law_X11_write : GoodIn wsL_law wsX11_write := goodIn_r _ [966, 524, 967, 968, 164, 330, 166, 127, 128, 550, 551, 552, 5, 553, 332, 167, 168, 169, 1032, 1033, 1034, 1035, 1036, 1037, 1038, 1039, 1040, 1041, 1042, 1043, 1044, 1045, 1046, 1047, 1048, 1049, 1050, 1051, 1052, 1053, 1054, 1055, 1056, 1057, 1058, 1059, 1060, 1061, 1062, 1063, 1064, 1065, 1066, 1067, 1068, 1069, 1070, 1071, 1072] (by decide +kernel) (by decide +kernel)
set_option maxRecDepth 20000 in
theorem gL_law_X11_write : GoodIn wsL_law (wsV RL 121 RX11 yX11_write wsX11_write) := goodIn_app (goodIn_of _ (by decide +kernel)) ggL_law_X11_write
set_option maxRecDepth 20000 in
theorem ggL_law_X10_tear : GoodIn wsL_law wsX10_tear := goodIn_r _ [972, 39, 176, 43, 177, 1022, 1023, 1024, 1025, 1026, 1027, 1028, 1029, 1030, 1031, 1107, 1108, 1109, 1110, 1111, 1112, 1113] (by decide +kernel) (by decide +kernel)
set_option maxRecDepth 20000 in
theorem gL_law_X10_tear : GoodIn wsL_law (wsV RL 122 RX10 yX10_tear wsX10_tear) := goodIn_app (goodIn_of _ (by decide +kernel)) ggL_law_X10_tear
set_option maxRecDepth 20000 in
theorem ggL_law_X11_tear : GoodIn wsL_law wsX11_tear := goodIn_r _ [976, 329, 330, 1032, 1033, 1034, 1035, 1036, 1037, 1038, 1039, 1040, 1041, 1042, 1043, 1044, 1045, 1046, 1047, 1048, 1049, 1050, 1051, 1052, 1053, 1054, 1055, 1056, 1057, 1058, 1059, 1060, 1061, 1062, 1063, 1064, 1065, 1066, 1067, 1068, 1069, 1070, 1071, 1072] (by decide +kernel) (by decide +kernel)
set_option maxRecDepth 20000 in
theorem gL_law_X11_tear : GoodIn wsL_law (wsV RL 125 RX11 yX11_tear wsX11_tear) := goodIn_app (goodIn_of _ (by decide +kernel)) ggL_law_X11_tear
set_option maxRecDepth 20000 in
theorem ggL_law_X10_judge : GoodIn wsL_law wsX10_judge := goodIn_r _ [980, 43, 23, 981, 982, 983, 42, 984, 962, 106, 985, 105, 248, 2, 249, 1022, 1023, 1024, 1025, 1026, 1027, 1028, 1029, 1030, 1031, 1111, 1112, 1113, 1091, 1092, 1093, 1094, 1095, 1096] (by decide +kernel) (by decide +kernel)
set_option maxRecDepth 20000 in
theorem gL_law_X10_judge : GoodIn wsL_law (wsV RL 126 RX10 yX10_judge wsX10_judge) := goodIn_app (goodIn_of _ (by decide +kernel)) ggL_law_X10_judge
set_option maxRecDepth 20000 in
theorem ggL_law_X11_judge : GoodIn wsL_law wsX11_judge := goodIn_r _ [989, 330, 122, 127, 128, 1032, 1033, 1034, 1035, 1036, 1037, 1038, 1039, 1040, 1041, 1042, 1043, 1044, 1045, 1046, 1047, 1048, 1049, 1050, 1051, 1052, 1053, 1054, 1055, 1056, 1057, 1058, 1059, 1060, 1061, 1062, 1063, 1064, 1065, 1066, 1067, 1068, 1069, 1070, 1071, 1072] (by decide +kernel) (by decide +kernel)
set_option maxRecDepth 20000 in
theorem gL_law_X11_judge : GoodIn wsL_law (wsV RL 129 RX11 yX11_judge wsX11_judge) := goodIn_app (goodIn_of _ (by decide +kernel)) ggL_law_X11_judge
set_option maxRecDepth 20000 in
theorem ggL_law_X10_seed : GoodIn wsL_law wsX10_seed := goodIn_r _ [993, 146, 47, 994, 1022, 1023, 1024, 1025, 1026, 1027, 1028, 1029, 1030, 1031, 1114] (by decide +kernel) (by decide +kernel)
set_option maxRecDepth 20000 in
theorem gL_law_X10_seed : GoodIn wsL_law (wsV RL 130 RX10 yX10_seed wsX10_seed) := goodIn_app (goodIn_of _ (by decide +kernel)) ggL_law_X10_seed
set_option maxRecDepth 20000 in
theorem ggL_law_X11_seed : GoodIn wsL_law wsX11_seed := goodIn_r _ [998, 164, 715, 1032, 1033, 1034, 1035, 1036, 1037, 1038, 1039, 1040, 1041, 1042, 1043, 1044, 1045, 1046, 1047, 1048, 1049, 1050, 1051, 1052, 1053, 1054, 1055, 1056, 1057, 1058, 1059, 1060, 1061, 1062, 1063, 1064, 1065, 1066, 1067, 1068, 1069, 1070, 1071, 1072] (by decide +kernel) (by decide +kernel)
set_option maxRecDepth 20000 in
theorem gL_law_X11_seed : GoodIn wsL_law (wsV RL 133 RX11 yX11_seed wsX11_seed) := goodIn_app (goodIn_of _ (by decide +kernel)) ggL_law_X11_seed
set_option maxRecDepth 20000 in
theorem ggL_law_X10_keep : GoodIn wsL_law wsX10_keep := goodIn_r _ [1002, 506, 1003, 23, 47, 994, 1004, 178, 35, 1005, 1006, 1007, 2, 1008, 49, 1009, 608, 609, 22, 610, 71, 72, 73, 74, 310, 311, 294, 295, 296, 297, 298, 299, 300, 301, 302, 303, 313, 314, 315, 34, 316, 317, 1115, 1116, 1117, 1022, 1023, 1024, 1025, 1026, 1027, 1028, 1029, 1030, 1031, 1114, 1091, 1092, 1093, 1094, 1095, 1096, 1104, 1105, 1106] (by decide +kernel) (by decide +kernel)
set_option maxRecDepth 20000 in
theorem gL_law_X10_keep : GoodIn wsL_law (wsV RL 134 RX10 yX10_keep wsX10_keep) := goodIn_app (goodIn_of _ (by decide +kernel)) ggL_law_X10_keep
set_option maxRecDepth 20000 in
theorem ggL_law_X11_keep : GoodIn wsL_law wsX11_keep := goodIn_r _ [1013, 524, 138, 122, 715, 140, 331, 167, 168, 5, 169, 1032, 1033, 1034, 1035, 1036, 1037, 1038, 1039, 1040, 1041, 1042, 1043, 1044, 1045, 1046, 1047, 1048, 1049, 1050, 1051, 1052, 1053, 1054, 1055, 1056, 1057, 1058, 1059, 1060, 1061, 1062, 1063, 1064, 1065, 1066, 1067, 1068, 1069, 1070, 1071, 1072] (by decide +kernel) (by decide +kernel)
set_option maxRecDepth 20000 in
theorem gL_law_X11_keep : GoodIn wsL_law (wsV RL 137 RX11 yX11_keep wsX11_keep) := goodIn_app (goodIn_of _ (by decide +kernel)) ggL_law_X11_keep
set_option maxRecDepth 20000 in
theorem ggL_law_X10_goBack : GoodIn wsL_law wsX10_goBack := goodIn_r _ [1017, 506, 178, 595, 23, 1003, 47, 1004, 994, 35, 1005, 1006, 1007, 2, 1008, 49, 1009, 608, 609, 22, 610, 71, 72, 73, 74, 310, 311, 294, 295, 296, 297, 298, 299, 300, 301, 302, 303, 313, 314, 315, 34, 316, 317, 1115, 1116, 1117, 1022, 1023, 1024, 1025, 1026, 1027, 1028, 1029, 1030, 1031, 1114, 1091, 1092, 1093, 1094, 1095, 1096, 1104, 1105, 1106] (by decide +kernel) (by decide +kernel)
set_option maxRecDepth 20000 in
theorem gL_law_X10_goBack : GoodIn wsL_law (wsV RL 138 RX10 yX10_goBack wsX10_goBack) := goodIn_app (goodIn_of _ (by decide +kernel)) ggL_law_X10_goBack
set_option maxRecDepth 20000 in
theorem ggL_law_X11_goBack : GoodIn wsL_law wsX11_goBack := goodIn_r _ [1021, 524, 140, 646, 122, 138, 715, 331, 167, 168, 5, 169, 1032, 1033, 1034, 1035, 1036, 1037, 1038, 1039, 1040, 1041, 1042, 1043, 1044, 1045, 1046, 1047, 1048, 1049, 1050, 1051, 1052, 1053, 1054, 1055, 1056, 1057, 1058, 1059, 1060, 1061, 1062, 1063, 1064, 1065, 1066, 1067, 1068, 1069, 1070, 1071, 1072] (by decide +kernel) (by decide +kernel)
set_option maxRecDepth 20000 in
theorem gL_law_X11_goBack : GoodIn wsL_law (wsV RL 141 RX11 yX11_goBack wsX11_goBack) := goodIn_app (goodIn_of _ (by decide +kernel)) ggL_law_X11_goBack
