set_option maxRecDepth 20000 in
theorem ggL_law_X10_cough : GoodIn wsL_law wsX10_cough := goodIn_r _ [673, 19, 507, 23, 415, 596, 35, 542, 543, 544, 18, 545, 194, 546, 251, 2, 252, 598, 599, 600, 34, 601, 602, 318, 603, 298, 299, 300, 604, 605, 606, 607, 95, 608, 609, 610, 22, 611, 71, 72, 73, 74, 311, 312, 295, 296, 297, 301, 302, 303, 304, 514, 239, 240, 1023, 1024, 1025, 1026, 1027, 1028, 1029, 1030, 1031, 1032, 1092, 1093, 1094, 1095, 1096, 1097, 1081, 1082, 1083, 1084, 1085, 1086, 1087, 1088, 1089, 1090, 1091, 1105, 1106, 1107] (by decide +kernel) (by decide +kernel)
set_option maxRecDepth 20000 in
theorem gL_law_X10_cough : GoodIn wsL_law (wsV RL 57 RX10 yX10_cough wsX10_cough) := goodIn_app (goodIn_of _ (by decide +kernel)) ggL_law_X10_cough
set_option maxRecDepth 20000 in
theorem ggL_law_X11_cough : GoodIn wsL_law wsX11_cough := goodIn_r _ [677, 525, 122, 647, 551, 552, 553, 5, 554, 333, 167, 168, 169, 375, 376, 377, 648, 649, 650, 651, 332, 136, 1033, 1034, 1035, 1036, 1037, 1038, 1039, 1040, 1041, 1042, 1043, 1044, 1045, 1046, 1047, 1048, 1049, 1050, 1051, 1052, 1053, 1054, 1055, 1056, 1057, 1058, 1059, 1060, 1061, 1062, 1063, 1064, 1065, 1066, 1067, 1068, 1069, 1070, 1071, 1072, 1073] (by decide +kernel) (by decide +kernel)
set_option maxRecDepth 20000 in
theorem gL_law_X11_cough : GoodIn wsL_law (wsV RL 60 RX11 yX11_cough wsX11_cough) := goodIn_app (goodIn_of _ (by decide +kernel)) ggL_law_X11_cough
set_option maxRecDepth 20000 in
theorem ggL_law_X10_like : GoodIn wsL_law wsX10_like := goodIn_r _ [681, 19, 507, 146, 35, 23, 559, 560, 561, 562, 18, 563, 564, 543, 544, 545, 194, 149, 150, 2, 151, 598, 599, 600, 34, 601, 602, 318, 603, 298, 299, 300, 604, 605, 606, 607, 95, 608, 609, 610, 22, 611, 71, 72, 73, 74, 311, 312, 295, 296, 297, 301, 302, 303, 304, 565, 285, 286, 520, 249, 250, 665, 157, 158, 1023, 1024, 1025, 1026, 1027, 1028, 1029, 1030, 1031, 1032, 1092, 1093, 1094, 1095, 1096, 1097, 1081, 1082, 1083, 1084, 1085, 1086, 1087, 1088, 1089, 1090, 1091, 1105, 1106, 1107] (by decide +kernel) (by decide +kernel)
set_option maxRecDepth 20000 in
theorem gL_law_X10_like : GoodIn wsL_law (wsV RL 61 RX10 yX10_like wsX10_like) := goodIn_app (goodIn_of _ (by decide +kernel)) ggL_law_X10_like
set_option maxRecDepth 20000 in
theorem ggL_law_X11_like : GoodIn wsL_law wsX11_like := goodIn_r _ [685, 525, 686, 164, 122, 570, 571, 572, 5, 573, 551, 552, 553, 554, 333, 167, 168, 169, 648, 649, 650, 651, 332, 136, 1033, 1034, 1035, 1036, 1037, 1038, 1039, 1040, 1041, 1042, 1043, 1044, 1045, 1046, 1047, 1048, 1049, 1050, 1051, 1052, 1053, 1054, 1055, 1056, 1057, 1058, 1059, 1060, 1061, 1062, 1063, 1064, 1065, 1066, 1067, 1068, 1069, 1070, 1071, 1072, 1073] (by decide +kernel) (by decide +kernel)
set_option maxRecDepth 20000 in
theorem gL_law_X11_like : GoodIn wsL_law (wsV RL 64 RX11 yX11_like wsX11_like) := goodIn_app (goodIn_of _ (by decide +kernel)) ggL_law_X11_like
set_option maxRecDepth 20000 in
theorem ggL_law_X10_drift : GoodIn wsL_law wsX10_drift := goodIn_r _ [690, 35, 23, 27, 414, 592, 593, 594, 2, 595, 146, 19, 596, 148, 149, 150, 151, 597, 221, 222, 18, 223, 190, 598, 599, 600, 34, 601, 602, 318, 603, 298, 299, 300, 604, 605, 606, 607, 95, 608, 609, 610, 22, 611, 71, 72, 73, 74, 311, 312, 295, 296, 297, 301, 302, 303, 304, 691, 692, 693, 694, 179, 47, 410, 539, 415, 559, 695, 696, 697, 46, 698, 699, 700, 701, 702, 703, 520, 249, 250, 664, 262, 263, 264, 64, 251, 252, 665, 157, 158, 514, 239, 240, 565, 285, 286, 612, 613, 614, 26, 615, 79, 519, 80, 616, 430, 617, 618, 619, 431, 620, 621, 622, 623, 624, 625, 626, 627, 438, 439, 440, 441, 442, 628, 427, 428, 429, 432, 433, 434, 435, 436, 437, 443, 444, 629, 630, 631, 632, 633, 634, 635, 636, 637, 1023, 1024, 1025, 1026, 1027, 1028, 1029, 1030, 1031, 1032, 1092, 1093, 1094, 1095, 1096, 1097, 1081, 1082, 1083, 1084, 1085, 1086, 1087, 1088, 1089, 1090, 1091, 1105, 1106, 1107, 1115, 1098, 1099] (by decide +kernel) (by decide +kernel)
set_option maxRecDepth 20000 in
theorem gL_law_X10_drift : GoodIn wsL_law (wsV RL 65 RX10 yX10_drift wsX10_drift) := goodIn_app (goodIn_of _ (by decide +kernel)) ggL_law_X10_drift
set_option maxRecDepth 20000 in
theorem ggL_law_X11_drift : GoodIn wsL_law wsX11_drift := goodIn_r _ [707, 333, 122, 642, 643, 644, 5, 645, 646, 164, 141, 647, 166, 167, 168, 169, 648, 649, 650, 651, 332, 136, 708, 709, 710, 711, 120, 712, 713, 714, 715, 716, 717, 718, 719, 720, 375, 376, 377, 652, 653, 654, 655, 394, 656, 657, 658, 659, 584, 585, 586, 587, 119, 481, 482, 483, 484, 121, 485, 486, 487, 488, 489, 490, 491, 1033, 1034, 1035, 1036, 1037, 1038, 1039, 1040, 1041, 1042, 1043, 1044, 1045, 1046, 1047, 1048, 1049, 1050, 1051, 1052, 1053, 1054, 1055, 1056, 1057, 1058, 1059, 1060, 1061, 1062, 1063, 1064, 1065, 1066, 1067, 1068, 1069, 1070, 1071, 1072, 1073] (by decide +kernel) (by decide +kernel)
set_option maxRecDepth 20000 in
theorem gL_law_X11_drift : GoodIn wsL_law (wsV RL 68 RX11 yX11_drift wsX11_drift) := goodIn_app (goodIn_of _ (by decide +kernel)) ggL_law_X11_drift
set_option maxRecDepth 20000 in
theorem ggL_law_X10_undo : GoodIn wsL_law wsX10_undo := goodIn_r _ [724, 35, 23, 416, 596, 725, 726, 727, 34, 728, 602, 318, 604, 605, 606, 607, 95, 608, 609, 610, 22, 611, 71, 72, 73, 74, 311, 312, 295, 2, 296, 297, 298, 299, 300, 301, 302, 303, 304, 1023, 1024, 1025, 1026, 1027, 1028, 1029, 1030, 1031, 1032, 1105, 1106, 1107, 1092, 1093, 1094, 1095, 1096, 1097] (by decide +kernel) (by decide +kernel)
set_option maxRecDepth 20000 in
theorem gL_law_X10_undo : GoodIn wsL_law (wsV RL 69 RX10 yX10_undo wsX10_undo) := goodIn_app (goodIn_of _ (by decide +kernel)) ggL_law_X10_undo
set_option maxRecDepth 20000 in
theorem ggL_law_X11_undo : GoodIn wsL_law wsX11_undo := goodIn_r _ [732, 332, 647, 122, 136, 1033, 1034, 1035, 1036, 1037, 1038, 1039, 1040, 1041, 1042, 1043, 1044, 1045, 1046, 1047, 1048, 1049, 1050, 1051, 1052, 1053, 1054, 1055, 1056, 1057, 1058, 1059, 1060, 1061, 1062, 1063, 1064, 1065, 1066, 1067, 1068, 1069, 1070, 1071, 1072, 1073] (by decide +kernel) (by decide +kernel)
set_option maxRecDepth 20000 in
theorem gL_law_X11_undo : GoodIn wsL_law (wsV RL 72 RX11 yX11_undo wsX11_undo) := goodIn_app (goodIn_of _ (by decide +kernel)) ggL_law_X11_undo
set_option maxRecDepth 20000 in
theorem ggL_law_X10_warm : GoodIn wsL_law wsX10_warm := goodIn_r _ [736, 19, 507, 146, 31, 23, 539, 542, 543, 544, 18, 545, 194, 149, 150, 2, 151, 520, 249, 250, 737, 738, 739, 30, 740, 88, 741, 89, 742, 743, 744, 745, 746, 747, 748, 749, 750, 751, 26, 752, 79, 519, 624, 625, 626, 627, 753, 439, 440, 441, 442, 251, 252, 754, 433, 434, 435, 436, 80, 437, 438, 285, 286, 443, 444, 755, 630, 631, 632, 633, 634, 297, 298, 299, 300, 635, 636, 637, 1023, 1024, 1025, 1026, 1027, 1028, 1029, 1030, 1031, 1032, 1092, 1093, 1094, 1095, 1096, 1097, 1081, 1082, 1083, 1084, 1085, 1086, 1087, 1088, 1089, 1090, 1091, 1100, 1101, 1102, 1103, 1104, 1098, 1099] (by decide +kernel) (by decide +kernel)
set_option maxRecDepth 20000 in
theorem gL_law_X10_warm : GoodIn wsL_law (wsV RL 73 RX10 yX10_warm wsX10_warm) := goodIn_app (goodIn_of _ (by decide +kernel)) ggL_law_X10_warm
set_option maxRecDepth 20000 in
theorem ggL_law_X11_warm : GoodIn wsL_law wsX11_warm := goodIn_r _ [759, 525, 760, 164, 123, 551, 552, 553, 5, 554, 333, 167, 168, 169, 761, 762, 763, 764, 122, 652, 653, 654, 655, 394, 656, 657, 658, 659, 584, 585, 586, 587, 119, 375, 376, 377, 481, 482, 483, 484, 121, 485, 486, 487, 488, 489, 490, 491, 1033, 1034, 1035, 1036, 1037, 1038, 1039, 1040, 1041, 1042, 1043, 1044, 1045, 1046, 1047, 1048, 1049, 1050, 1051, 1052, 1053, 1054, 1055, 1056, 1057, 1058, 1059, 1060, 1061, 1062, 1063, 1064, 1065, 1066, 1067, 1068, 1069, 1070, 1071, 1072, 1073] (by decide +kernel) (by decide +kernel)
set_option maxRecDepth 20000 in
theorem gL_law_X11_warm : GoodIn wsL_law (wsV RL 76 RX11 yX11_warm wsX11_warm) := goodIn_app (goodIn_of _ (by decide +kernel)) ggL_law_X11_warm
set_option maxRecDepth 20000 in
theorem ggL_law_X10_bestRoom : GoodIn wsL_law wsX10_bestRoom := goodIn_r _ [768, 19, 507, 146, 31, 542, 543, 544, 18, 545, 194, 149, 150, 2, 151, 769, 770, 771, 30, 772, 87, 457, 773, 738, 739, 740, 88, 741, 89, 249, 250, 742, 743, 744, 745, 746, 747, 748, 749, 750, 751, 26, 752, 79, 519, 624, 625, 626, 627, 753, 439, 440, 441, 442, 251, 252, 754, 433, 434, 435, 436, 80, 437, 438, 285, 286, 443, 444, 755, 630, 631, 632, 633, 634, 297, 298, 299, 300, 635, 636, 637, 737, 1023, 1024, 1025, 1026, 1027, 1028, 1029, 1030, 1031, 1032, 1081, 1082, 1083, 1084, 1085, 1086, 1087, 1088, 1089, 1090, 1091, 1100, 1101, 1102, 1103, 1104, 1092, 1093, 1094, 1095, 1096, 1097, 1098, 1099] (by decide +kernel) (by decide +kernel)
set_option maxRecDepth 20000 in
theorem gL_law_X10_bestRoom : GoodIn wsL_law (wsV RL 77 RX10 yX10_bestRoom wsX10_bestRoom) := goodIn_app (goodIn_of _ (by decide +kernel)) ggL_law_X10_bestRoom
set_option maxRecDepth 20000 in
theorem ggL_law_X11_bestRoom : GoodIn wsL_law wsX11_bestRoom := goodIn_r _ [777, 525, 778, 164, 480, 141, 123, 551, 552, 553, 5, 554, 333, 167, 168, 169, 761, 762, 763, 764, 122, 652, 653, 654, 655, 394, 656, 657, 658, 659, 584, 585, 586, 587, 119, 375, 376, 377, 481, 482, 483, 484, 121, 485, 486, 487, 488, 489, 490, 491, 1033, 1034, 1035, 1036, 1037, 1038, 1039, 1040, 1041, 1042, 1043, 1044, 1045, 1046, 1047, 1048, 1049, 1050, 1051, 1052, 1053, 1054, 1055, 1056, 1057, 1058, 1059, 1060, 1061, 1062, 1063, 1064, 1065, 1066, 1067, 1068, 1069, 1070, 1071, 1072, 1073] (by decide +kernel) (by decide +kernel)
set_option maxRecDepth 20000 in
theorem gL_law_X11_bestRoom : GoodIn wsL_law (wsV RL 80 RX11 yX11_bestRoom wsX11_bestRoom) := goodIn_app (goodIn_of _ (by decide +kernel)) ggL_law_X11_bestRoom
set_option maxRecDepth 20000 in
theorem ggL_law_X10_route : GoodIn wsL_law wsX10_route := goodIn_r _ [782, 19, 507, 146, 31, 542, 543, 544, 18, 545, 194, 149, 150, 2, 151, 783, 784, 785, 30, 786, 86, 87, 457, 85, 88, 747, 787, 197, 198, 199, 742, 743, 744, 745, 89, 746, 748, 749, 750, 751, 26, 752, 79, 519, 624, 625, 626, 627, 249, 250, 753, 439, 440, 441, 442, 251, 252, 754, 433, 434, 435, 436, 80, 437, 438, 285, 286, 443, 444, 157, 158, 788, 789, 790, 791, 792, 262, 263, 264, 64, 793, 794, 795, 796, 797, 1023, 1024, 1025, 1026, 1027, 1028, 1029, 1030, 1031, 1032, 1081, 1082, 1083, 1084, 1085, 1086, 1087, 1088, 1089, 1090, 1091, 1100, 1101, 1102, 1103, 1104, 1092, 1093, 1094, 1095, 1096, 1097, 1098, 1099] (by decide +kernel) (by decide +kernel)
set_option maxRecDepth 20000 in
theorem gL_law_X10_route : GoodIn wsL_law (wsV RL 81 RX10 yX10_route wsX10_route) := goodIn_app (goodIn_of _ (by decide +kernel)) ggL_law_X10_route
set_option maxRecDepth 20000 in
theorem ggL_law_X11_route : GoodIn wsL_law wsX11_route := goodIn_r _ [801, 525, 802, 164, 137, 480, 141, 120, 122, 551, 552, 553, 5, 554, 333, 167, 168, 169, 761, 762, 763, 764, 123, 375, 376, 377, 803, 804, 805, 806, 656, 657, 658, 659, 584, 585, 586, 587, 119, 481, 482, 483, 484, 121, 485, 486, 487, 488, 489, 490, 491, 1033, 1034, 1035, 1036, 1037, 1038, 1039, 1040, 1041, 1042, 1043, 1044, 1045, 1046, 1047, 1048, 1049, 1050, 1051, 1052, 1053, 1054, 1055, 1056, 1057, 1058, 1059, 1060, 1061, 1062, 1063, 1064, 1065, 1066, 1067, 1068, 1069, 1070, 1071, 1072, 1073] (by decide +kernel) (by decide +kernel)
set_option maxRecDepth 20000 in
theorem gL_law_X11_route : GoodIn wsL_law (wsV RL 84 RX11 yX11_route wsX11_route) := goodIn_app (goodIn_of _ (by decide +kernel)) ggL_law_X11_route
set_option maxRecDepth 20000 in
theorem ggL_law_X10_leavers : GoodIn wsL_law wsX10_leavers := goodIn_r _ [810, 19, 507, 146, 31, 510, 511, 512, 18, 513, 190, 149, 150, 2, 151, 811, 812, 813, 30, 814, 87, 421, 815, 816, 817, 818, 89, 88, 746, 747, 748, 819, 621, 622, 26, 623, 79, 519, 624, 625, 626, 627, 251, 252, 249, 250, 754, 433, 434, 435, 436, 80, 437, 438, 439, 440, 441, 442, 285, 286, 443, 444, 239, 240, 463, 464, 465, 466, 467, 468, 469, 470, 471, 820, 1023, 1024, 1025, 1026, 1027, 1028, 1029, 1030, 1031, 1032, 1081, 1082, 1083, 1084, 1085, 1086, 1087, 1088, 1089, 1090, 1091, 1100, 1101, 1102, 1103, 1104, 1092, 1093, 1094, 1095, 1096, 1097, 1098, 1099] (by decide +kernel) (by decide +kernel)
set_option maxRecDepth 20000 in
theorem gL_law_X10_leavers : GoodIn wsL_law (wsV RL 85 RX10 yX10_leavers wsX10_leavers) := goodIn_app (goodIn_of _ (by decide +kernel)) ggL_law_X10_leavers
set_option maxRecDepth 20000 in
theorem ggL_law_X11_leavers : GoodIn wsL_law wsX11_leavers := goodIn_r _ [824, 525, 164, 480, 333, 123, 122, 526, 527, 528, 5, 529, 141, 167, 168, 169, 761, 762, 763, 764, 375, 376, 377, 825, 826, 827, 828, 656, 657, 658, 659, 481, 482, 483, 484, 121, 485, 486, 487, 488, 119, 489, 490, 491, 500, 501, 502, 1033, 1034, 1035, 1036, 1037, 1038, 1039, 1040, 1041, 1042, 1043, 1044, 1045, 1046, 1047, 1048, 1049, 1050, 1051, 1052, 1053, 1054, 1055, 1056, 1057, 1058, 1059, 1060, 1061, 1062, 1063, 1064, 1065, 1066, 1067, 1068, 1069, 1070, 1071, 1072, 1073] (by decide +kernel) (by decide +kernel)
set_option maxRecDepth 20000 in
theorem gL_law_X11_leavers : GoodIn wsL_law (wsV RL 88 RX11 yX11_leavers wsX11_leavers) := goodIn_app (goodIn_of _ (by decide +kernel)) ggL_law_X11_leavers
set_option maxRecDepth 20000 in
theorem ggL_law_X10_silent : GoodIn wsL_law wsX10_silent := goodIn_r _ [832, 31, 833, 834, 835, 30, 836, 87, 421, 449, 450, 451, 452, 89, 426, 427, 428, 26, 429, 80, 430, 431, 249, 2, 250, 251, 252, 432, 433, 434, 435, 79, 436, 437, 438, 439, 440, 441, 442, 285, 286, 443, 444, 1023, 1024, 1025, 1026, 1027, 1028, 1029, 1030, 1031, 1032, 1100, 1101, 1102, 1103, 1104, 1081, 1082, 1083, 1084, 1085, 1086, 1087, 1088, 1089, 1090, 1091, 1098, 1099, 1092, 1093, 1094, 1095, 1096, 1097] (by decide +kernel) (by decide +kernel)
set_option maxRecDepth 20000 in
theorem gL_law_X10_silent : GoodIn wsL_law (wsV RL 89 RX10 yX10_silent wsX10_silent) := goodIn_app (goodIn_of _ (by decide +kernel)) ggL_law_X10_silent
set_option maxRecDepth 20000 in
theorem ggL_law_X11_silent : GoodIn wsL_law wsX11_silent := goodIn_r _ [840, 492, 493, 494, 5, 495, 333, 122, 481, 482, 483, 484, 121, 375, 376, 377, 485, 486, 487, 488, 119, 489, 490, 491, 1033, 1034, 1035, 1036, 1037, 1038, 1039, 1040, 1041, 1042, 1043, 1044, 1045, 1046, 1047, 1048, 1049, 1050, 1051, 1052, 1053, 1054, 1055, 1056, 1057, 1058, 1059, 1060, 1061, 1062, 1063, 1064, 1065, 1066, 1067, 1068, 1069, 1070, 1071, 1072, 1073] (by decide +kernel) (by decide +kernel)
set_option maxRecDepth 20000 in
theorem gL_law_X11_silent : GoodIn wsL_law (wsV RL 92 RX11 yX11_silent wsX11_silent) := goodIn_app (goodIn_of _ (by decide +kernel)) ggL_law_X11_silent
set_option maxRecDepth 20000 in
theorem ggL_law_X10_carried : GoodIn wsL_law wsX10_carried := goodIn_r _ [844, 19, 507, 31, 146, 542, 543, 544, 18, 545, 194, 845, 846, 847, 30, 848, 87, 421, 239, 2, 240, 849, 850, 851, 852, 88, 747, 462, 89, 251, 252, 249, 250, 853, 516, 517, 26, 518, 79, 519, 80, 430, 149, 150, 151, 854, 855, 856, 857, 1023, 1024, 1025, 1026, 1027, 1028, 1029, 1030, 1031, 1032, 1081, 1082, 1083, 1084, 1085, 1086, 1087, 1088, 1089, 1090, 1091, 1100, 1101, 1102, 1103, 1104, 1092, 1093, 1094, 1095, 1096, 1097, 1098, 1099] (by decide +kernel) (by decide +kernel)
set_option maxRecDepth 20000 in
theorem gL_law_X10_carried : GoodIn wsL_law (wsV RL 93 RX10 yX10_carried wsX10_carried) := goodIn_app (goodIn_of _ (by decide +kernel)) ggL_law_X10_carried
set_option maxRecDepth 20000 in
theorem ggL_law_X11_carried : GoodIn wsL_law wsX11_carried := goodIn_r _ [861, 525, 862, 863, 164, 333, 551, 552, 553, 5, 554, 167, 168, 169, 864, 865, 866, 867, 122, 375, 376, 377, 584, 585, 586, 587, 119, 500, 501, 502, 1033, 1034, 1035, 1036, 1037, 1038, 1039, 1040, 1041, 1042, 1043, 1044, 1045, 1046, 1047, 1048, 1049, 1050, 1051, 1052, 1053, 1054, 1055, 1056, 1057, 1058, 1059, 1060, 1061, 1062, 1063, 1064, 1065, 1066, 1067, 1068, 1069, 1070, 1071, 1072, 1073] (by decide +kernel) (by decide +kernel)
set_option maxRecDepth 20000 in
theorem gL_law_X11_carried : GoodIn wsL_law (wsV RL 96 RX11 yX11_carried wsX11_carried) := goodIn_app (goodIn_of _ (by decide +kernel)) ggL_law_X11_carried
set_option maxRecDepth 20000 in
theorem ggL_law_X10_hale : GoodIn wsL_law wsX10_hale := goodIn_r _ [871, 146, 872, 873, 149, 150, 2, 151] (by decide +kernel) (by decide +kernel)
set_option maxRecDepth 20000 in
theorem gL_law_X10_hale : GoodIn wsL_law (wsV RL 97 RX10 yX10_hale wsX10_hale) := goodIn_app (goodIn_of _ (by decide +kernel)) ggL_law_X10_hale
set_option maxRecDepth 20000 in
theorem ggL_law_X11_hale : GoodIn wsL_law wsX11_hale := goodIn_r _ [877, 646, 760, 164, 878, 167, 168, 5, 169] (by decide +kernel) (by decide +kernel)
set_option maxRecDepth 20000 in
theorem gL_law_X11_hale : GoodIn wsL_law (wsV RL 100 RX11 yX11_hale wsX11_hale) := goodIn_app (goodIn_of _ (by decide +kernel)) ggL_law_X11_hale
