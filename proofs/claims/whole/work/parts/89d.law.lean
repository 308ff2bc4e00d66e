set_option maxRecDepth 20000 in
theorem ggL_law_X10_note : GoodIn wsL_law wsX10_note := goodIn_r _ [882, 146, 39, 176, 148, 149, 150, 2, 151, 883, 884, 885, 38, 886, 99, 887, 100, 101, 157, 158, 1023, 1024, 1025, 1026, 1027, 1028, 1029, 1030, 1031, 1032, 1108, 1109, 1110, 1111] (by decide +kernel) (by decide +kernel)
set_option maxRecDepth 20000 in
theorem gL_law_X10_note : GoodIn wsL_law (wsV RL 101 RX10 yX10_note wsX10_note) := goodIn_app (goodIn_of _ (by decide +kernel)) ggL_law_X10_note
set_option maxRecDepth 20000 in
theorem ggL_law_X11_note : GoodIn wsL_law wsX11_note := goodIn_r _ [891, 892, 893, 686, 164, 330, 166, 124, 125, 126, 167, 168, 5, 169, 1033, 1034, 1035, 1036, 1037, 1038, 1039, 1040, 1041, 1042, 1043, 1044, 1045, 1046, 1047, 1048, 1049, 1050, 1051, 1052, 1053, 1054, 1055, 1056, 1057, 1058, 1059, 1060, 1061, 1062, 1063, 1064, 1065, 1066, 1067, 1068, 1069, 1070, 1071, 1072, 1073] (by decide +kernel) (by decide +kernel)
set_option maxRecDepth 20000 in
theorem gL_law_X11_note : GoodIn wsL_law (wsV RL 105 RX11 yX11_note wsX11_note) := goodIn_app (goodIn_of _ (by decide +kernel)) ggL_law_X11_note
set_option maxRecDepth 20000 in
theorem ggL_law_X10_thinks : GoodIn wsL_law wsX10_thinks := goodIn_r _ [897, 39, 146, 898, 899, 900, 38, 901, 902, 903, 904, 905, 887, 99, 101, 100, 249, 2, 250, 443, 444, 239, 240, 465, 466, 467, 468, 469, 470, 471, 906, 907, 908, 909, 910, 251, 252, 911, 912, 913, 914, 1023, 1024, 1025, 1026, 1027, 1028, 1029, 1030, 1031, 1032, 1108, 1109, 1110, 1111] (by decide +kernel) (by decide +kernel)
set_option maxRecDepth 20000 in
theorem gL_law_X10_thinks : GoodIn wsL_law (wsV RL 106 RX10 yX10_thinks wsX10_thinks) := goodIn_app (goodIn_of _ (by decide +kernel)) ggL_law_X10_thinks
set_option maxRecDepth 20000 in
theorem ggL_law_X11_thinks : GoodIn wsL_law wsX11_thinks := goodIn_r _ [918, 892, 164, 167, 168, 5, 169, 919, 920, 921, 922, 330, 124, 126, 125, 489, 490, 491, 1033, 1034, 1035, 1036, 1037, 1038, 1039, 1040, 1041, 1042, 1043, 1044, 1045, 1046, 1047, 1048, 1049, 1050, 1051, 1052, 1053, 1054, 1055, 1056, 1057, 1058, 1059, 1060, 1061, 1062, 1063, 1064, 1065, 1066, 1067, 1068, 1069, 1070, 1071, 1072, 1073] (by decide +kernel) (by decide +kernel)
set_option maxRecDepth 20000 in
theorem gL_law_X11_thinks : GoodIn wsL_law (wsV RL 109 RX11 yX11_thinks wsX11_thinks) := goodIn_app (goodIn_of _ (by decide +kernel)) ggL_law_X11_thinks
set_option maxRecDepth 20000 in
theorem ggL_law_X10_ask : GoodIn wsL_law wsX10_ask := goodIn_r _ [926, 39, 146, 149, 150, 2, 151, 927, 928, 929, 38, 930, 931, 298, 299, 300, 910, 899, 900, 901, 902, 903, 904, 905, 887, 99, 101, 100, 249, 250, 443, 444, 239, 240, 932, 933, 934, 935, 936, 636, 637, 251, 252, 937, 466, 467, 468, 469, 470, 471, 1023, 1024, 1025, 1026, 1027, 1028, 1029, 1030, 1031, 1032, 1108, 1109, 1110, 1111] (by decide +kernel) (by decide +kernel)
set_option maxRecDepth 20000 in
theorem gL_law_X10_ask : GoodIn wsL_law (wsV RL 110 RX10 yX10_ask wsX10_ask) := goodIn_app (goodIn_of _ (by decide +kernel)) ggL_law_X10_ask
set_option maxRecDepth 20000 in
theorem ggL_law_X11_ask : GoodIn wsL_law wsX11_ask := goodIn_r _ [941, 892, 164, 167, 168, 5, 169, 942, 916, 917, 918, 919, 920, 921, 922, 330, 124, 126, 125, 489, 490, 491, 1033, 1034, 1035, 1036, 1037, 1038, 1039, 1040, 1041, 1042, 1043, 1044, 1045, 1046, 1047, 1048, 1049, 1050, 1051, 1052, 1053, 1054, 1055, 1056, 1057, 1058, 1059, 1060, 1061, 1062, 1063, 1064, 1065, 1066, 1067, 1068, 1069, 1070, 1071, 1072, 1073] (by decide +kernel) (by decide +kernel)
set_option maxRecDepth 20000 in
theorem gL_law_X11_ask : GoodIn wsL_law (wsV RL 113 RX11 yX11_ask wsX11_ask) := goodIn_app (goodIn_of _ (by decide +kernel)) ggL_law_X11_ask
set_option maxRecDepth 20000 in
theorem ggL_law_X10_listens : GoodIn wsL_law wsX10_listens := goodIn_r _ [946, 19, 507, 146, 31, 560, 561, 562, 18, 563, 564, 543, 544, 545, 194, 149, 150, 2, 151, 947, 948, 949, 30, 950, 87, 457, 89, 88, 747, 748, 249, 250, 251, 252, 754, 433, 434, 26, 435, 79, 436, 80, 437, 438, 439, 440, 441, 442, 285, 286, 443, 444, 239, 240, 1023, 1024, 1025, 1026, 1027, 1028, 1029, 1030, 1031, 1032, 1081, 1082, 1083, 1084, 1085, 1086, 1087, 1088, 1089, 1090, 1091, 1100, 1101, 1102, 1103, 1104, 1092, 1093, 1094, 1095, 1096, 1097, 1098, 1099] (by decide +kernel) (by decide +kernel)
set_option maxRecDepth 20000 in
theorem gL_law_X10_listens : GoodIn wsL_law (wsV RL 114 RX10 yX10_listens wsX10_listens) := goodIn_app (goodIn_of _ (by decide +kernel)) ggL_law_X10_listens
set_option maxRecDepth 20000 in
theorem ggL_law_X11_listens : GoodIn wsL_law wsX11_listens := goodIn_r _ [954, 525, 893, 686, 164, 141, 123, 570, 571, 572, 5, 573, 551, 552, 553, 554, 333, 167, 168, 169, 761, 762, 763, 764, 122, 481, 482, 483, 484, 121, 375, 376, 377, 485, 486, 487, 488, 119, 489, 490, 491, 1033, 1034, 1035, 1036, 1037, 1038, 1039, 1040, 1041, 1042, 1043, 1044, 1045, 1046, 1047, 1048, 1049, 1050, 1051, 1052, 1053, 1054, 1055, 1056, 1057, 1058, 1059, 1060, 1061, 1062, 1063, 1064, 1065, 1066, 1067, 1068, 1069, 1070, 1071, 1072, 1073] (by decide +kernel) (by decide +kernel)
set_option maxRecDepth 20000 in
theorem gL_law_X11_listens : GoodIn wsL_law (wsV RL 117 RX11 yX11_listens wsX11_listens) := goodIn_app (goodIn_of _ (by decide +kernel)) ggL_law_X11_listens
set_option maxRecDepth 20000 in
theorem ggL_law_X10_write : GoodIn wsL_law wsX10_write := goodIn_r _ [958, 19, 507, 146, 43, 177, 148, 542, 543, 544, 18, 545, 194, 149, 150, 2, 151, 959, 960, 961, 42, 962, 105, 963, 106, 157, 158, 1023, 1024, 1025, 1026, 1027, 1028, 1029, 1030, 1031, 1032, 1112, 1113, 1114, 1081, 1082, 1083, 1084, 1085, 1086, 1087, 1088, 1089, 1090, 1091] (by decide +kernel) (by decide +kernel)
set_option maxRecDepth 20000 in
theorem gL_law_X10_write : GoodIn wsL_law (wsV RL 118 RX10 yX10_write wsX10_write) := goodIn_app (goodIn_of _ (by decide +kernel)) ggL_law_X10_write
set_option maxRecDepth 20000 in
theorem ggL_law_X11_write : GoodIn wsL_law wsX11_write := goodIn_r _ [967, 525, 968, 969, 164, 331, 166, 127, 128, 551, 552, 553, 5, 554, 333, 167, 168, 169, 1033, 1034, 1035, 1036, 1037, 1038, 1039, 1040, 1041, 1042, 1043, 1044, 1045, 1046, 1047, 1048, 1049, 1050, 1051, 1052, 1053, 1054, 1055, 1056, 1057, 1058, 1059, 1060, 1061, 1062, 1063, 1064, 1065, 1066, 1067, 1068, 1069, 1070, 1071, 1072, 1073] (by decide +kernel) (by decide +kernel)
set_option maxRecDepth 20000 in
theorem gL_law_X11_write : GoodIn wsL_law (wsV RL 121 RX11 yX11_write wsX11_write) := goodIn_app (goodIn_of _ (by decide +kernel)) ggL_law_X11_write
set_option maxRecDepth 20000 in
theorem ggL_law_X10_tear : GoodIn wsL_law wsX10_tear := goodIn_r _ [973, 39, 176, 43, 177, 1023, 1024, 1025, 1026, 1027, 1028, 1029, 1030, 1031, 1032, 1108, 1109, 1110, 1111, 1112, 1113, 1114] (by decide +kernel) (by decide +kernel)
set_option maxRecDepth 20000 in
theorem gL_law_X10_tear : GoodIn wsL_law (wsV RL 122 RX10 yX10_tear wsX10_tear) := goodIn_app (goodIn_of _ (by decide +kernel)) ggL_law_X10_tear
set_option maxRecDepth 20000 in
theorem ggL_law_X11_tear : GoodIn wsL_law wsX11_tear := goodIn_r _ [977, 330, 331, 1033, 1034, 1035, 1036, 1037, 1038, 1039, 1040, 1041, 1042, 1043, 1044, 1045, 1046, 1047, 1048, 1049, 1050, 1051, 1052, 1053, 1054, 1055, 1056, 1057, 1058, 1059, 1060, 1061, 1062, 1063, 1064, 1065, 1066, 1067, 1068, 1069, 1070, 1071, 1072, 1073] (by decide +kernel) (by decide +kernel)
set_option maxRecDepth 20000 in
theorem gL_law_X11_tear : GoodIn wsL_law (wsV RL 125 RX11 yX11_tear wsX11_tear) := goodIn_app (goodIn_of _ (by decide +kernel)) ggL_law_X11_tear
set_option maxRecDepth 20000 in
theorem ggL_law_X10_judge : GoodIn wsL_law wsX10_judge := goodIn_r _ [981, 43, 23, 982, 983, 984, 42, 985, 963, 106, 986, 105, 249, 2, 250, 1023, 1024, 1025, 1026, 1027, 1028, 1029, 1030, 1031, 1032, 1112, 1113, 1114, 1092, 1093, 1094, 1095, 1096, 1097] (by decide +kernel) (by decide +kernel)
set_option maxRecDepth 20000 in
theorem gL_law_X10_judge : GoodIn wsL_law (wsV RL 126 RX10 yX10_judge wsX10_judge) := goodIn_app (goodIn_of _ (by decide +kernel)) ggL_law_X10_judge
set_option maxRecDepth 20000 in
theorem ggL_law_X11_judge : GoodIn wsL_law wsX11_judge := goodIn_r _ [990, 331, 122, 127, 128, 1033, 1034, 1035, 1036, 1037, 1038, 1039, 1040, 1041, 1042, 1043, 1044, 1045, 1046, 1047, 1048, 1049, 1050, 1051, 1052, 1053, 1054, 1055, 1056, 1057, 1058, 1059, 1060, 1061, 1062, 1063, 1064, 1065, 1066, 1067, 1068, 1069, 1070, 1071, 1072, 1073] (by decide +kernel) (by decide +kernel)
set_option maxRecDepth 20000 in
theorem gL_law_X11_judge : GoodIn wsL_law (wsV RL 129 RX11 yX11_judge wsX11_judge) := goodIn_app (goodIn_of _ (by decide +kernel)) ggL_law_X11_judge
set_option maxRecDepth 20000 in
theorem ggL_law_X10_seed : GoodIn wsL_law wsX10_seed := goodIn_r _ [994, 146, 47, 995, 1023, 1024, 1025, 1026, 1027, 1028, 1029, 1030, 1031, 1032, 1115] (by decide +kernel) (by decide +kernel)
set_option maxRecDepth 20000 in
theorem gL_law_X10_seed : GoodIn wsL_law (wsV RL 130 RX10 yX10_seed wsX10_seed) := goodIn_app (goodIn_of _ (by decide +kernel)) ggL_law_X10_seed
set_option maxRecDepth 20000 in
theorem ggL_law_X11_seed : GoodIn wsL_law wsX11_seed := goodIn_r _ [999, 164, 716, 1033, 1034, 1035, 1036, 1037, 1038, 1039, 1040, 1041, 1042, 1043, 1044, 1045, 1046, 1047, 1048, 1049, 1050, 1051, 1052, 1053, 1054, 1055, 1056, 1057, 1058, 1059, 1060, 1061, 1062, 1063, 1064, 1065, 1066, 1067, 1068, 1069, 1070, 1071, 1072, 1073] (by decide +kernel) (by decide +kernel)
set_option maxRecDepth 20000 in
theorem gL_law_X11_seed : GoodIn wsL_law (wsV RL 133 RX11 yX11_seed wsX11_seed) := goodIn_app (goodIn_of _ (by decide +kernel)) ggL_law_X11_seed
set_option maxRecDepth 20000 in
theorem ggL_law_X10_keep : GoodIn wsL_law wsX10_keep := goodIn_r _ [1003, 507, 1004, 23, 47, 995, 1005, 178, 35, 1006, 1007, 1008, 2, 1009, 49, 1010, 609, 610, 22, 611, 71, 72, 73, 74, 311, 312, 295, 296, 297, 298, 299, 300, 301, 302, 303, 304, 314, 315, 316, 34, 317, 318, 1116, 1117, 1118, 1023, 1024, 1025, 1026, 1027, 1028, 1029, 1030, 1031, 1032, 1115, 1092, 1093, 1094, 1095, 1096, 1097, 1105, 1106, 1107] (by decide +kernel) (by decide +kernel)
set_option maxRecDepth 20000 in
theorem gL_law_X10_keep : GoodIn wsL_law (wsV RL 134 RX10 yX10_keep wsX10_keep) := goodIn_app (goodIn_of _ (by decide +kernel)) ggL_law_X10_keep
set_option maxRecDepth 20000 in
theorem ggL_law_X11_keep : GoodIn wsL_law wsX11_keep := goodIn_r _ [1014, 525, 138, 122, 716, 140, 332, 167, 168, 5, 169, 1033, 1034, 1035, 1036, 1037, 1038, 1039, 1040, 1041, 1042, 1043, 1044, 1045, 1046, 1047, 1048, 1049, 1050, 1051, 1052, 1053, 1054, 1055, 1056, 1057, 1058, 1059, 1060, 1061, 1062, 1063, 1064, 1065, 1066, 1067, 1068, 1069, 1070, 1071, 1072, 1073] (by decide +kernel) (by decide +kernel)
set_option maxRecDepth 20000 in
theorem gL_law_X11_keep : GoodIn wsL_law (wsV RL 137 RX11 yX11_keep wsX11_keep) := goodIn_app (goodIn_of _ (by decide +kernel)) ggL_law_X11_keep
set_option maxRecDepth 20000 in
theorem ggL_law_X10_goBack : GoodIn wsL_law wsX10_goBack := goodIn_r _ [1018, 507, 178, 596, 23, 1004, 47, 1005, 995, 35, 1006, 1007, 1008, 2, 1009, 49, 1010, 609, 610, 22, 611, 71, 72, 73, 74, 311, 312, 295, 296, 297, 298, 299, 300, 301, 302, 303, 304, 314, 315, 316, 34, 317, 318, 1116, 1117, 1118, 1023, 1024, 1025, 1026, 1027, 1028, 1029, 1030, 1031, 1032, 1115, 1092, 1093, 1094, 1095, 1096, 1097, 1105, 1106, 1107] (by decide +kernel) (by decide +kernel)
set_option maxRecDepth 20000 in
theorem gL_law_X10_goBack : GoodIn wsL_law (wsV RL 138 RX10 yX10_goBack wsX10_goBack) := goodIn_app (goodIn_of _ (by decide +kernel)) ggL_law_X10_goBack
set_option maxRecDepth 20000 in
theorem ggL_law_X11_goBack : GoodIn wsL_law wsX11_goBack := goodIn_r _ [1022, 525, 140, 647, 122, 138, 716, 332, 167, 168, 5, 169, 1033, 1034, 1035, 1036, 1037, 1038, 1039, 1040, 1041, 1042, 1043, 1044, 1045, 1046, 1047, 1048, 1049, 1050, 1051, 1052, 1053, 1054, 1055, 1056, 1057, 1058, 1059, 1060, 1061, 1062, 1063, 1064, 1065, 1066, 1067, 1068, 1069, 1070, 1071, 1072, 1073] (by decide +kernel) (by decide +kernel)
set_option maxRecDepth 20000 in
theorem gL_law_X11_goBack : GoodIn wsL_law (wsV RL 141 RX11 yX11_goBack wsX11_goBack) := goodIn_app (goodIn_of _ (by decide +kernel)) ggL_law_X11_goBack
