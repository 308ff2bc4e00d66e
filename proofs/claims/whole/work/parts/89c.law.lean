set_option maxRecDepth 20000 in
theorem ggL_law_X10_cough : GoodIn wsL_law wsX10_cough := goodIn_r _ [672, 19, 506, 23, 414, 595, 35, 541, 542, 543, 18, 544, 195, 545, 250, 2, 251, 597, 598, 599, 34, 600, 601, 317, 602, 297, 298, 299, 603, 604, 605, 606, 95, 607, 608, 609, 22, 610, 71, 72, 73, 74, 310, 311, 294, 295, 296, 300, 301, 302, 303, 513, 238, 239, 1022, 1023, 1024, 1025, 1026, 1027, 1028, 1029, 1030, 1031, 1091, 1092, 1093, 1094, 1095, 1096, 1081, 1082, 1083, 1084, 1085, 1086, 1087, 1088, 1089, 1090, 1104, 1105, 1106] (by decide +kernel) (by decide +kernel)
set_option maxRecDepth 20000 in
theorem gL_law_X10_cough : GoodIn wsL_law (wsV RL 57 RX10 yX10_cough wsX10_cough) := goodIn_app (goodIn_of _ (by decide +kernel)) ggL_law_X10_cough
set_option maxRecDepth 20000 in
theorem ggL_law_X11_cough : GoodIn wsL_law wsX11_cough := goodIn_r _ [676, 524, 122, 646, 550, 551, 552, 5, 553, 332, 167, 168, 169, 374, 375, 376, 647, 648, 649, 650, 331, 136, 1032, 1033, 1034, 1035, 1036, 1037, 1038, 1039, 1040, 1041, 1042, 1043, 1044, 1045, 1046, 1047, 1048, 1049, 1050, 1051, 1052, 1053, 1054, 1055, 1056, 1057, 1058, 1059, 1060, 1061, 1062, 1063, 1064, 1065, 1066, 1067, 1068, 1069, 1070, 1071, 1072] (by decide +kernel) (by decide +kernel)
set_option maxRecDepth 20000 in
theorem gL_law_X11_cough : GoodIn wsL_law (wsV RL 60 RX11 yX11_cough wsX11_cough) := goodIn_app (goodIn_of _ (by decide +kernel)) ggL_law_X11_cough
set_option maxRecDepth 20000 in
theorem ggL_law_X10_like : GoodIn wsL_law wsX10_like := goodIn_r _ [680, 19, 506, 146, 35, 23, 558, 559, 560, 561, 18, 562, 563, 542, 543, 544, 195, 149, 150, 2, 151, 597, 598, 599, 34, 600, 601, 317, 602, 297, 298, 299, 603, 604, 605, 606, 95, 607, 608, 609, 22, 610, 71, 72, 73, 74, 310, 311, 294, 295, 296, 300, 301, 302, 303, 564, 284, 285, 519, 248, 249, 664, 157, 158, 1022, 1023, 1024, 1025, 1026, 1027, 1028, 1029, 1030, 1031, 1091, 1092, 1093, 1094, 1095, 1096, 1081, 1082, 1083, 1084, 1085, 1086, 1087, 1088, 1089, 1090, 1104, 1105, 1106] (by decide +kernel) (by decide +kernel)
set_option maxRecDepth 20000 in
theorem gL_law_X10_like : GoodIn wsL_law (wsV RL 61 RX10 yX10_like wsX10_like) := goodIn_app (goodIn_of _ (by decide +kernel)) ggL_law_X10_like
set_option maxRecDepth 20000 in
theorem ggL_law_X11_like : GoodIn wsL_law wsX11_like := goodIn_r _ [684, 524, 685, 164, 122, 569, 570, 571, 5, 572, 550, 551, 552, 553, 332, 167, 168, 169, 647, 648, 649, 650, 331, 136, 1032, 1033, 1034, 1035, 1036, 1037, 1038, 1039, 1040, 1041, 1042, 1043, 1044, 1045, 1046, 1047, 1048, 1049, 1050, 1051, 1052, 1053, 1054, 1055, 1056, 1057, 1058, 1059, 1060, 1061, 1062, 1063, 1064, 1065, 1066, 1067, 1068, 1069, 1070, 1071, 1072] (by decide +kernel) (by decide +kernel)
set_option maxRecDepth 20000 in
theorem gL_law_X11_like : GoodIn wsL_law (wsV RL 64 RX11 yX11_like wsX11_like) := goodIn_app (goodIn_of _ (by decide +kernel)) ggL_law_X11_like
set_option maxRecDepth 20000 in
theorem ggL_law_X10_drift : GoodIn wsL_law wsX10_drift := goodIn_r _ [689, 35, 23, 27, 413, 591, 592, 593, 2, 594, 146, 19, 595, 148, 149, 150, 151, 596, 220, 221, 18, 222, 191, 597, 598, 599, 34, 600, 601, 317, 602, 297, 298, 299, 603, 604, 605, 606, 95, 607, 608, 609, 22, 610, 71, 72, 73, 74, 310, 311, 294, 295, 296, 300, 301, 302, 303, 690, 691, 692, 693, 179, 47, 409, 538, 414, 558, 694, 695, 696, 46, 697, 698, 699, 700, 701, 702, 519, 248, 249, 663, 261, 262, 263, 64, 250, 251, 664, 157, 158, 513, 238, 239, 564, 284, 285, 611, 612, 613, 26, 614, 79, 518, 80, 615, 429, 616, 617, 618, 430, 619, 620, 621, 622, 623, 624, 625, 626, 437, 438, 439, 440, 441, 627, 426, 427, 428, 431, 432, 433, 434, 435, 436, 442, 443, 628, 629, 630, 631, 632, 633, 634, 635, 636, 1022, 1023, 1024, 1025, 1026, 1027, 1028, 1029, 1030, 1031, 1091, 1092, 1093, 1094, 1095, 1096, 1081, 1082, 1083, 1084, 1085, 1086, 1087, 1088, 1089, 1090, 1104, 1105, 1106, 1114, 1097, 1098] (by decide +kernel) (by decide +kernel)
set_option maxRecDepth 20000 in
theorem gL_law_X10_drift : GoodIn wsL_law (wsV RL 65 RX10 yX10_drift wsX10_drift) := goodIn_app (goodIn_of _ (by decide +kernel)) ggL_law_X10_drift
set_option maxRecDepth 20000 in
theorem ggL_law_X11_drift : GoodIn wsL_law wsX11_drift := goodIn_r _ [706, 332, 122, 641, 642, 643, 5, 644, 645, 164, 141, 646, 166, 167, 168, 169, 647, 648, 649, 650, 331, 136, 707, 708, 709, 710, 120, 711, 712, 713, 714, 715, 716, 717, 718, 719, 374, 375, 376, 651, 652, 653, 654, 393, 655, 656, 657, 658, 583, 584, 585, 586, 119, 480, 481, 482, 483, 121, 484, 485, 486, 487, 488, 489, 490, 1032, 1033, 1034, 1035, 1036, 1037, 1038, 1039, 1040, 1041, 1042, 1043, 1044, 1045, 1046, 1047, 1048, 1049, 1050, 1051, 1052, 1053, 1054, 1055, 1056, 1057, 1058, 1059, 1060, 1061, 1062, 1063, 1064, 1065, 1066, 1067, 1068, 1069, 1070, 1071, 1072] (by decide +kernel) (by decide +kernel)
set_option maxRecDepth 20000 in
theorem gL_law_X11_drift : GoodIn wsL_law (wsV RL 68 RX11 yX11_drift wsX11_drift) := goodIn_app (goodIn_of _ (by decide +kernel)) ggL_law_X11_drift
set_option maxRecDepth 20000 in
theorem ggL_law_X10_undo : GoodIn wsL_law wsX10_undo := goodIn_r _ [723, 35, 23, 415, 595, 724, 725, 726, 34, 727, 601, 317, 603, 604, 605, 606, 95, 607, 608, 609, 22, 610, 71, 72, 73, 74, 310, 311, 294, 2, 295, 296, 297, 298, 299, 300, 301, 302, 303, 1022, 1023, 1024, 1025, 1026, 1027, 1028, 1029, 1030, 1031, 1104, 1105, 1106, 1091, 1092, 1093, 1094, 1095, 1096] (by decide +kernel) (by decide +kernel)
set_option maxRecDepth 20000 in
theorem gL_law_X10_undo : GoodIn wsL_law (wsV RL 69 RX10 yX10_undo wsX10_undo) := goodIn_app (goodIn_of _ (by decide +kernel)) ggL_law_X10_undo
set_option maxRecDepth 20000 in
theorem ggL_law_X11_undo : GoodIn wsL_law wsX11_undo := goodIn_r _ [731, 331, 646, 122, 136, 1032, 1033, 1034, 1035, 1036, 1037, 1038, 1039, 1040, 1041, 1042, 1043, 1044, 1045, 1046, 1047, 1048, 1049, 1050, 1051, 1052, 1053, 1054, 1055, 1056, 1057, 1058, 1059, 1060, 1061, 1062, 1063, 1064, 1065, 1066, 1067, 1068, 1069, 1070, 1071, 1072] (by decide +kernel) (by decide +kernel)
set_option maxRecDepth 20000 in
theorem gL_law_X11_undo : GoodIn wsL_law (wsV RL 72 RX11 yX11_undo wsX11_undo) := goodIn_app (goodIn_of _ (by decide +kernel)) ggL_law_X11_undo
set_option maxRecDepth 20000 in
theorem ggL_law_X10_warm : GoodIn wsL_law wsX10_warm := goodIn_r _ [735, 19, 506, 146, 31, 23, 538, 541, 542, 543, 18, 544, 195, 149, 150, 2, 151, 519, 248, 249, 736, 737, 738, 30, 739, 88, 740, 89, 741, 742, 743, 744, 745, 746, 747, 748, 749, 750, 26, 751, 79, 518, 623, 624, 625, 626, 752, 438, 439, 440, 441, 250, 251, 753, 432, 433, 434, 435, 80, 436, 437, 284, 285, 442, 443, 754, 629, 630, 631, 632, 633, 296, 297, 298, 299, 634, 635, 636, 1022, 1023, 1024, 1025, 1026, 1027, 1028, 1029, 1030, 1031, 1091, 1092, 1093, 1094, 1095, 1096, 1081, 1082, 1083, 1084, 1085, 1086, 1087, 1088, 1089, 1090, 1099, 1100, 1101, 1102, 1103, 1097, 1098] (by decide +kernel) (by decide +kernel)
set_option maxRecDepth 20000 in
theorem gL_law_X10_warm : GoodIn wsL_law (wsV RL 73 RX10 yX10_warm wsX10_warm) := goodIn_app (goodIn_of _ (by decide +kernel)) ggL_law_X10_warm
set_option maxRecDepth 20000 in
theorem ggL_law_X11_warm : GoodIn wsL_law wsX11_warm := goodIn_r _ [758, 524, 759, 164, 123, 550, 551, 552, 5, 553, 332, 167, 168, 169, 760, 761, 762, 763, 122, 651, 652, 653, 654, 393, 655, 656, 657, 658, 583, 584, 585, 586, 119, 374, 375, 376, 480, 481, 482, 483, 121, 484, 485, 486, 487, 488, 489, 490, 1032, 1033, 1034, 1035, 1036, 1037, 1038, 1039, 1040, 1041, 1042, 1043, 1044, 1045, 1046, 1047, 1048, 1049, 1050, 1051, 1052, 1053, 1054, 1055, 1056, 1057, 1058, 1059, 1060, 1061, 1062, 1063, 1064, 1065, 1066, 1067, 1068, 1069, 1070, 1071, 1072] (by decide +kernel) (by decide +kernel)
set_option maxRecDepth 20000 in
theorem gL_law_X11_warm : GoodIn wsL_law (wsV RL 76 RX11 yX11_warm wsX11_warm) := goodIn_app (goodIn_of _ (by decide +kernel)) ggL_law_X11_warm
set_option maxRecDepth 20000 in
theorem ggL_law_X10_bestRoom : GoodIn wsL_law wsX10_bestRoom := goodIn_r _ [767, 19, 506, 146, 31, 541, 542, 543, 18, 544, 195, 149, 150, 2, 151, 768, 769, 770, 30, 771, 87, 456, 772, 737, 738, 739, 88, 740, 89, 248, 249, 741, 742, 743, 744, 745, 746, 747, 748, 749, 750, 26, 751, 79, 518, 623, 624, 625, 626, 752, 438, 439, 440, 441, 250, 251, 753, 432, 433, 434, 435, 80, 436, 437, 284, 285, 442, 443, 754, 629, 630, 631, 632, 633, 296, 297, 298, 299, 634, 635, 636, 736, 1022, 1023, 1024, 1025, 1026, 1027, 1028, 1029, 1030, 1031, 1081, 1082, 1083, 1084, 1085, 1086, 1087, 1088, 1089, 1090, 1099, 1100, 1101, 1102, 1103, 1091, 1092, 1093, 1094, 1095, 1096, 1097, 1098] (by decide +kernel) (by decide +kernel)
set_option maxRecDepth 20000 in
theorem gL_law_X10_bestRoom : GoodIn wsL_law (wsV RL 77 RX10 yX10_bestRoom wsX10_bestRoom) := goodIn_app (goodIn_of _ (by decide +kernel)) ggL_law_X10_bestRoom
set_option maxRecDepth 20000 in
theorem ggL_law_X11_bestRoom : GoodIn wsL_law wsX11_bestRoom := goodIn_r _ [776, 524, 777, 164, 479, 141, 123, 550, 551, 552, 5, 553, 332, 167, 168, 169, 760, 761, 762, 763, 122, 651, 652, 653, 654, 393, 655, 656, 657, 658, 583, 584, 585, 586, 119, 374, 375, 376, 480, 481, 482, 483, 121, 484, 485, 486, 487, 488, 489, 490, 1032, 1033, 1034, 1035, 1036, 1037, 1038, 1039, 1040, 1041, 1042, 1043, 1044, 1045, 1046, 1047, 1048, 1049, 1050, 1051, 1052, 1053, 1054, 1055, 1056, 1057, 1058, 1059, 1060, 1061, 1062, 1063, 1064, 1065, 1066, 1067, 1068, 1069, 1070, 1071, 1072] (by decide +kernel) (by decide +kernel)
set_option maxRecDepth 20000 in
theorem gL_law_X11_bestRoom : GoodIn wsL_law (wsV RL 80 RX11 yX11_bestRoom wsX11_bestRoom) := goodIn_app (goodIn_of _ (by decide +kernel)) ggL_law_X11_bestRoom
set_option maxRecDepth 20000 in
theorem ggL_law_X10_route : GoodIn wsL_law wsX10_route := goodIn_r _ [781, 19, 506, 146, 31, 541, 542, 543, 18, 544, 195, 149, 150, 2, 151, 782, 783, 784, 30, 785, 86, 87, 456, 85, 88, 746, 786, 197, 198, 199, 741, 742, 743, 744, 89, 745, 747, 748, 749, 750, 26, 751, 79, 518, 623, 624, 625, 626, 248, 249, 752, 438, 439, 440, 441, 250, 251, 753, 432, 433, 434, 435, 80, 436, 437, 284, 285, 442, 443, 157, 158, 787, 788, 789, 790, 791, 261, 262, 263, 64, 792, 793, 794, 795, 796, 1022, 1023, 1024, 1025, 1026, 1027, 1028, 1029, 1030, 1031, 1081, 1082, 1083, 1084, 1085, 1086, 1087, 1088, 1089, 1090, 1099, 1100, 1101, 1102, 1103, 1091, 1092, 1093, 1094, 1095, 1096, 1097, 1098] (by decide +kernel) (by decide +kernel)
set_option maxRecDepth 20000 in
theorem gL_law_X10_route : GoodIn wsL_law (wsV RL 81 RX10 yX10_route wsX10_route) := goodIn_app (goodIn_of _ (by decide +kernel)) ggL_law_X10_route
set_option maxRecDepth 20000 in
theorem ggL_law_X11_route : GoodIn wsL_law wsX11_route := goodIn_r _ [800, 524, 801, 164, 137, 479, 141, 120, 122, 550, 551, 552, 5, 553, 332, 167, 168, 169, 760, 761, 762, 763, 123, 374, 375, 376, 802, 803, 804, 805, 655, 656, 657, 658, 583, 584, 585, 586, 119, 480, 481, 482, 483, 121, 484, 485, 486, 487, 488, 489, 490, 1032, 1033, 1034, 1035, 1036, 1037, 1038, 1039, 1040, 1041, 1042, 1043, 1044, 1045, 1046, 1047, 1048, 1049, 1050, 1051, 1052, 1053, 1054, 1055, 1056, 1057, 1058, 1059, 1060, 1061, 1062, 1063, 1064, 1065, 1066, 1067, 1068, 1069, 1070, 1071, 1072] (by decide +kernel) (by decide +kernel)
set_option maxRecDepth 20000 in
theorem gL_law_X11_route : GoodIn wsL_law (wsV RL 84 RX11 yX11_route wsX11_route) := goodIn_app (goodIn_of _ (by decide +kernel)) ggL_law_X11_route
set_option maxRecDepth 20000 in
theorem ggL_law_X10_leavers : GoodIn wsL_law wsX10_leavers := goodIn_r _ [809, 19, 506, 146, 31, 509, 510, 511, 18, 512, 191, 149, 150, 2, 151, 810, 811, 812, 30, 813, 87, 420, 814, 815, 816, 817, 89, 88, 745, 746, 747, 818, 620, 621, 26, 622, 79, 518, 623, 624, 625, 626, 250, 251, 248, 249, 753, 432, 433, 434, 435, 80, 436, 437, 438, 439, 440, 441, 284, 285, 442, 443, 238, 239, 462, 463, 464, 465, 466, 467, 468, 469, 470, 819, 1022, 1023, 1024, 1025, 1026, 1027, 1028, 1029, 1030, 1031, 1081, 1082, 1083, 1084, 1085, 1086, 1087, 1088, 1089, 1090, 1099, 1100, 1101, 1102, 1103, 1091, 1092, 1093, 1094, 1095, 1096, 1097, 1098] (by decide +kernel) (by decide +kernel)
set_option maxRecDepth 20000 in
theorem gL_law_X10_leavers : GoodIn wsL_law (wsV RL 85 RX10 yX10_leavers wsX10_leavers) := goodIn_app (goodIn_of _ (by decide +kernel)) ggL_law_X10_leavers
set_option maxRecDepth 20000 in
theorem ggL_law_X11_leavers : GoodIn wsL_law wsX11_leavers := goodIn_r _ [823, 524, 164, 479, 332, 123, 122, 525, 526, 527, 5, 528, 141, 167, 168, 169, 760, 761, 762, 763, 374, 375, 376, 824, 825, 826, 827, 655, 656, 657, 658, 480, 481, 482, 483, 121, 484, 485, 486, 487, 119, 488, 489, 490, 499, 500, 501, 1032, 1033, 1034, 1035, 1036, 1037, 1038, 1039, 1040, 1041, 1042, 1043, 1044, 1045, 1046, 1047, 1048, 1049, 1050, 1051, 1052, 1053, 1054, 1055, 1056, 1057, 1058, 1059, 1060, 1061, 1062, 1063, 1064, 1065, 1066, 1067, 1068, 1069, 1070, 1071, 1072] (by decide +kernel) (by decide +kernel)
set_option maxRecDepth 20000 in
theorem gL_law_X11_leavers : GoodIn wsL_law (wsV RL 88 RX11 yX11_leavers wsX11_leavers) := goodIn_app (goodIn_of _ (by decide +kernel)) ggL_law_X11_leavers
set_option maxRecDepth 20000 in
theorem ggL_law_X10_silent : GoodIn wsL_law wsX10_silent := goodIn_r _ [831, 31, 832, 833, 834, 30, 835, 87, 420, 448, 449, 450, 451, 89, 425, 426, 427, 26, 428, 80, 429, 430, 248, 2, 249, 250, 251, 431, 432, 433, 434, 79, 435, 436, 437, 438, 439, 440, 441, 284, 285, 442, 443, 1022, 1023, 1024, 1025, 1026, 1027, 1028, 1029, 1030, 1031, 1099, 1100, 1101, 1102, 1103, 1081, 1082, 1083, 1084, 1085, 1086, 1087, 1088, 1089, 1090, 1097, 1098, 1091, 1092, 1093, 1094, 1095, 1096] (by decide +kernel) (by decide +kernel)
set_option maxRecDepth 20000 in
theorem gL_law_X10_silent : GoodIn wsL_law (wsV RL 89 RX10 yX10_silent wsX10_silent) := goodIn_app (goodIn_of _ (by decide +kernel)) ggL_law_X10_silent
set_option maxRecDepth 20000 in
theorem ggL_law_X11_silent : GoodIn wsL_law wsX11_silent := goodIn_r _ [839, 491, 492, 493, 5, 494, 332, 122, 480, 481, 482, 483, 121, 374, 375, 376, 484, 485, 486, 487, 119, 488, 489, 490, 1032, 1033, 1034, 1035, 1036, 1037, 1038, 1039, 1040, 1041, 1042, 1043, 1044, 1045, 1046, 1047, 1048, 1049, 1050, 1051, 1052, 1053, 1054, 1055, 1056, 1057, 1058, 1059, 1060, 1061, 1062, 1063, 1064, 1065, 1066, 1067, 1068, 1069, 1070, 1071, 1072] (by decide +kernel) (by decide +kernel)
set_option maxRecDepth 20000 in
theorem gL_law_X11_silent : GoodIn wsL_law (wsV RL 92 RX11 yX11_silent wsX11_silent) := goodIn_app (goodIn_of _ (by decide +kernel)) ggL_law_X11_silent
set_option maxRecDepth 20000 in
theorem ggL_law_X10_carried : GoodIn wsL_law wsX10_carried := goodIn_r _ [843, 19, 506, 31, 146, 541, 542, 543, 18, 544, 195, 844, 845, 846, 30, 847, 87, 420, 238, 2, 239, 848, 849, 850, 851, 88, 746, 461, 89, 250, 251, 248, 249, 852, 515, 516, 26, 517, 79, 518, 80, 429, 149, 150, 151, 853, 854, 855, 856, 1022, 1023, 1024, 1025, 1026, 1027, 1028, 1029, 1030, 1031, 1081, 1082, 1083, 1084, 1085, 1086, 1087, 1088, 1089, 1090, 1099, 1100, 1101, 1102, 1103, 1091, 1092, 1093, 1094, 1095, 1096, 1097, 1098] (by decide +kernel) (by decide +kernel)
set_option maxRecDepth 20000 in
theorem gL_law_X10_carried : GoodIn wsL_law (wsV RL 93 RX10 yX10_carried wsX10_carried) := goodIn_app (goodIn_of _ (by decide +kernel)) ggL_law_X10_carried
set_option maxRecDepth 20000 in
theorem ggL_law_X11_carried : GoodIn wsL_law wsX11_carried := goodIn_r _ [860, 524, 861, 862, 164, 332, 550, 551, 552, 5, 553, 167, 168, 169, 863, 864, 865, 866, 122, 374, 375, 376, 583, 584, 585, 586, 119, 499, 500, 501, 1032, 1033, 1034, 1035, 1036, 1037, 1038, 1039, 1040, 1041, 1042, 1043, 1044, 1045, 1046, 1047, 1048, 1049, 1050, 1051, 1052, 1053, 1054, 1055, 1056, 1057, 1058, 1059, 1060, 1061, 1062, 1063, 1064, 1065, 1066, 1067, 1068, 1069, 1070, 1071, 1072] (by decide +kernel) (by decide +kernel)
set_option maxRecDepth 20000 in
theorem gL_law_X11_carried : GoodIn wsL_law (wsV RL 96 RX11 yX11_carried wsX11_carried) := goodIn_app (goodIn_of _ (by decide +kernel)) ggL_law_X11_carried
set_option maxRecDepth 20000 in
theorem ggL_law_X10_hale : GoodIn wsL_law wsX10_hale := goodIn_r _ [870, 146, 871, 872, 149, 150, 2, 151] (by decide +kernel) (by decide +kernel)
set_option maxRecDepth 20000 in
theorem gL_law_X10_hale : GoodIn wsL_law (wsV RL 97 RX10 yX10_hale wsX10_hale) := goodIn_app (goodIn_of _ (by decide +kernel)) ggL_law_X10_hale
set_option maxRecDepth 20000 in
theorem ggL_law_X11_hale : GoodIn wsL_law wsX11_hale := goodIn_r _ [876, 645, 759, 164, 877, 167, 168, 5, 169] (by decide +kernel) (by decide +kernel)
set_option maxRecDepth 20000 in
theorem gL_law_X11_hale : GoodIn wsL_law (wsV RL 100 RX11 yX11_hale wsX11_hale) := goodIn_app (goodIn_of _ (by decide +kernel)) ggL_law_X11_hale
