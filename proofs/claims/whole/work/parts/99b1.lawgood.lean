/-! the law's calls, 1 -/
set_option maxRecDepth 20000 in
theorem ggL_law_X3_strict : GoodIn wsL_law wsX3_strict := goodIn_r _ [564, 26, 433, 95, 31, 565, 566, 567, 568, 25, 569, 50, 51, 99, 100, 2, 101, 460, 461, 462, 30, 463, 67, 68, 69, 464, 277, 274, 278, 438, 347, 348, 349, 48, 49, 52, 350, 155, 156, 157, 53, 54, 55, 56, 57, 58, 59, 60, 1034, 1035, 1036, 1037, 1038, 1039, 1040, 1041, 1042, 1043, 1044, 1045, 1046, 1075, 1076, 1077, 1078, 1079, 1080, 1081, 1082, 1083, 1084, 1085, 1086, 1087, 1088, 1089, 1090, 1091] (by decide +kernel) (by decide +kernel)
set_option maxRecDepth 20000 in
theorem gL_law_X3_strict : GoodIn wsL_law (wsV RL 54 RX3 yX3_strict wsX3_strict) := goodIn_app (goodIn_of _ (by decide +kernel)) ggL_law_X3_strict
set_option maxRecDepth 20000 in
theorem ggL_law_X4_strict : GoodIn wsL_law wsX4_strict := goodIn_r _ [573, 111, 443, 574, 113, 81, 575, 576, 577, 5, 578, 119, 120, 121, 524, 525, 526, 527, 361, 84, 1047, 1048, 1049, 1050, 1051, 1052, 1053, 1054, 1055, 1056, 1057, 1058, 1059, 1060, 1061, 1062, 1063, 1064, 1065, 1066, 1067, 1068, 1069, 1070] (by decide +kernel) (by decide +kernel)
set_option maxRecDepth 20000 in
theorem gL_law_X4_strict : GoodIn wsL_law (wsV RL 57 RX4 yX4_strict wsX4_strict) := goodIn_app (goodIn_of _ (by decide +kernel)) ggL_law_X4_strict
set_option maxRecDepth 20000 in
theorem ggL_law_X3_share : GoodIn wsL_law wsX3_share := goodIn_r _ [582, 26, 95, 31, 583, 584, 585, 586, 25, 587, 50, 100, 2, 101, 99, 460, 461, 462, 30, 463, 67, 68, 69, 464, 277, 274, 278, 438, 347, 348, 349, 48, 49, 51, 52, 350, 155, 156, 157, 53, 54, 55, 56, 57, 58, 59, 60, 1034, 1035, 1036, 1037, 1038, 1039, 1040, 1041, 1042, 1043, 1044, 1045, 1046, 1075, 1076, 1077, 1078, 1079, 1080, 1081, 1082, 1083, 1084, 1085, 1086, 1087, 1088, 1089, 1090, 1091] (by decide +kernel) (by decide +kernel)
set_option maxRecDepth 20000 in
theorem gL_law_X3_share : GoodIn wsL_law (wsV RL 58 RX3 yX3_share wsX3_share) := goodIn_app (goodIn_of _ (by decide +kernel)) ggL_law_X3_share
set_option maxRecDepth 20000 in
theorem ggL_law_X4_share : GoodIn wsL_law wsX4_share := goodIn_r _ [591, 111, 592, 113, 81, 593, 594, 595, 5, 596, 119, 120, 121, 524, 525, 526, 527, 361, 84, 543, 544, 545, 1047, 1048, 1049, 1050, 1051, 1052, 1053, 1054, 1055, 1056, 1057, 1058, 1059, 1060, 1061, 1062, 1063, 1064, 1065, 1066, 1067, 1068, 1069, 1070] (by decide +kernel) (by decide +kernel)
set_option maxRecDepth 20000 in
theorem gL_law_X4_share : GoodIn wsL_law (wsV RL 61 RX4 yX4_share wsX4_share) := goodIn_app (goodIn_of _ (by decide +kernel)) ggL_law_X4_share
set_option maxRecDepth 20000 in
theorem ggL_law_X3_settle : GoodIn wsL_law wsX3_settle := goodIn_r _ [600, 26, 95, 433, 31, 601, 584, 585, 586, 25, 587, 50, 100, 2, 101, 602, 495, 496, 497, 52, 56, 198, 498, 499, 460, 461, 462, 30, 463, 67, 68, 69, 464, 277, 274, 278, 438, 347, 348, 349, 48, 49, 51, 350, 155, 156, 157, 53, 54, 55, 57, 58, 59, 60, 603, 604, 605, 606, 1034, 1035, 1036, 1037, 1038, 1039, 1040, 1041, 1042, 1043, 1044, 1045, 1046, 1075, 1076, 1077, 1078, 1079, 1080, 1081, 1082, 1083, 1084, 1085, 1086, 1087, 1088, 1089, 1090, 1091] (by decide +kernel) (by decide +kernel)
set_option maxRecDepth 20000 in
theorem gL_law_X3_settle : GoodIn wsL_law (wsV RL 62 RX3 yX3_settle wsX3_settle) := goodIn_app (goodIn_of _ (by decide +kernel)) ggL_law_X3_settle
set_option maxRecDepth 20000 in
theorem ggL_law_X4_settle : GoodIn wsL_law wsX4_settle := goodIn_r _ [610, 111, 113, 81, 443, 593, 594, 595, 5, 596, 119, 120, 121, 540, 541, 542, 543, 544, 545, 524, 525, 526, 527, 361, 84, 1047, 1048, 1049, 1050, 1051, 1052, 1053, 1054, 1055, 1056, 1057, 1058, 1059, 1060, 1061, 1062, 1063, 1064, 1065, 1066, 1067, 1068, 1069, 1070] (by decide +kernel) (by decide +kernel)
set_option maxRecDepth 20000 in
theorem gL_law_X4_settle : GoodIn wsL_law (wsV RL 65 RX4 yX4_settle wsX4_settle) := goodIn_app (goodIn_of _ (by decide +kernel)) ggL_law_X4_settle
set_option maxRecDepth 20000 in
theorem ggL_law_X3_square : GoodIn wsL_law wsX3_square := goodIn_r _ [614, 26, 95, 583, 615, 616, 617, 601, 584, 585, 586, 25, 587, 50, 100, 2, 101, 602, 495, 496, 497, 52, 56, 198, 498, 499, 1034, 1035, 1036, 1037, 1038, 1039, 1040, 1041, 1042, 1043, 1044, 1045, 1046, 1075, 1076, 1077, 1078, 1079, 1080, 1081, 1082, 1083, 1084, 1085, 1086, 1087, 1088] (by decide +kernel) (by decide +kernel)
set_option maxRecDepth 20000 in
theorem gL_law_X3_square : GoodIn wsL_law (wsV RL 66 RX3 yX3_square wsX3_square) := goodIn_app (goodIn_of _ (by decide +kernel)) ggL_law_X3_square
set_option maxRecDepth 20000 in
theorem ggL_law_X4_square : GoodIn wsL_law wsX4_square := goodIn_r _ [621, 111, 113, 81, 373, 593, 594, 595, 5, 596, 119, 120, 121, 543, 544, 545, 540, 541, 542, 1047, 1048, 1049, 1050, 1051, 1052, 1053, 1054, 1055, 1056, 1057, 1058, 1059, 1060, 1061, 1062, 1063, 1064, 1065, 1066, 1067, 1068, 1069, 1070] (by decide +kernel) (by decide +kernel)
set_option maxRecDepth 20000 in
theorem gL_law_X4_square : GoodIn wsL_law (wsV RL 69 RX4 yX4_square wsX4_square) := goodIn_app (goodIn_of _ (by decide +kernel)) ggL_law_X4_square
set_option maxRecDepth 20000 in
theorem ggL_law_X3_visitor : GoodIn wsL_law wsX3_visitor := goodIn_r _ [625, 26, 95, 626, 627, 628, 629, 448, 449, 450, 25, 451, 51, 100, 2, 101, 1034, 1035, 1036, 1037, 1038, 1039, 1040, 1041, 1042, 1043, 1044, 1045, 1046, 1075, 1076, 1077, 1078, 1079, 1080, 1081, 1082, 1083, 1084, 1085, 1086, 1087, 1088] (by decide +kernel) (by decide +kernel)
set_option maxRecDepth 20000 in
theorem gL_law_X3_visitor : GoodIn wsL_law (wsV RL 70 RX3 yX3_visitor wsX3_visitor) := goodIn_app (goodIn_of _ (by decide +kernel)) ggL_law_X3_visitor
set_option maxRecDepth 20000 in
theorem ggL_law_X4_visitor : GoodIn wsL_law wsX4_visitor := goodIn_r _ [633, 111, 634, 81, 113, 516, 517, 518, 5, 519, 119, 120, 121, 549, 550, 551, 1047, 1048, 1049, 1050, 1051, 1052, 1053, 1054, 1055, 1056, 1057, 1058, 1059, 1060, 1061, 1062, 1063, 1064, 1065, 1066, 1067, 1068, 1069, 1070] (by decide +kernel) (by decide +kernel)
set_option maxRecDepth 20000 in
theorem gL_law_X4_visitor : GoodIn wsL_law (wsV RL 73 RX4 yX4_visitor wsX4_visitor) := goodIn_app (goodIn_of _ (by decide +kernel)) ggL_law_X4_visitor
set_option maxRecDepth 20000 in
theorem ggL_law_X3_sees : GoodIn wsL_law wsX3_sees := goodIn_r _ [638, 26, 95, 626, 627, 639, 583, 448, 449, 450, 25, 451, 51, 100, 2, 101, 584, 585, 586, 587, 50, 483, 484, 485, 1034, 1035, 1036, 1037, 1038, 1039, 1040, 1041, 1042, 1043, 1044, 1045, 1046, 1075, 1076, 1077, 1078, 1079, 1080, 1081, 1082, 1083, 1084, 1085, 1086, 1087, 1088] (by decide +kernel) (by decide +kernel)
set_option maxRecDepth 20000 in
theorem gL_law_X3_sees : GoodIn wsL_law (wsV RL 74 RX3 yX3_sees wsX3_sees) := goodIn_app (goodIn_of _ (by decide +kernel)) ggL_law_X3_sees
set_option maxRecDepth 20000 in
theorem ggL_law_X4_sees : GoodIn wsL_law wsX4_sees := goodIn_r _ [643, 111, 113, 81, 516, 517, 518, 5, 519, 119, 120, 121, 593, 594, 595, 596, 543, 544, 545, 549, 550, 551, 555, 556, 557, 1047, 1048, 1049, 1050, 1051, 1052, 1053, 1054, 1055, 1056, 1057, 1058, 1059, 1060, 1061, 1062, 1063, 1064, 1065, 1066, 1067, 1068, 1069, 1070] (by decide +kernel) (by decide +kernel)
set_option maxRecDepth 20000 in
theorem gL_law_X4_sees : GoodIn wsL_law (wsV RL 77 RX4 yX4_sees wsX4_sees) := goodIn_app (goodIn_of _ (by decide +kernel)) ggL_law_X4_sees
set_option maxRecDepth 20000 in
theorem ggL_law_X3_clicks : GoodIn wsL_law wsX3_clicks := goodIn_r _ [647, 26, 95, 448, 449, 450, 25, 451, 51, 100, 2, 101, 648, 478, 479, 480, 50, 57, 58, 52, 53, 481, 482, 483, 484, 485, 1034, 1035, 1036, 1037, 1038, 1039, 1040, 1041, 1042, 1043, 1044, 1045, 1046, 1075, 1076, 1077, 1078, 1079, 1080, 1081, 1082, 1083, 1084, 1085, 1086, 1087, 1088] (by decide +kernel) (by decide +kernel)
set_option maxRecDepth 20000 in
theorem gL_law_X3_clicks : GoodIn wsL_law (wsV RL 78 RX3 yX3_clicks wsX3_clicks) := goodIn_app (goodIn_of _ (by decide +kernel)) ggL_law_X3_clicks
set_option maxRecDepth 20000 in
theorem ggL_law_X4_clicks : GoodIn wsL_law wsX4_clicks := goodIn_r _ [652, 111, 113, 516, 517, 518, 5, 519, 81, 119, 120, 121, 653, 654, 655, 656, 546, 547, 548, 543, 544, 545, 549, 550, 551, 552, 553, 554, 555, 556, 557, 1047, 1048, 1049, 1050, 1051, 1052, 1053, 1054, 1055, 1056, 1057, 1058, 1059, 1060, 1061, 1062, 1063, 1064, 1065, 1066, 1067, 1068, 1069, 1070] (by decide +kernel) (by decide +kernel)
set_option maxRecDepth 20000 in
theorem gL_law_X4_clicks : GoodIn wsL_law (wsV RL 81 RX4 yX4_clicks wsX4_clicks) := goodIn_app (goodIn_of _ (by decide +kernel)) ggL_law_X4_clicks
set_option maxRecDepth 20000 in
theorem ggL_law_X3_wrong : GoodIn wsL_law wsX3_wrong := goodIn_r _ [660, 26, 95, 448, 449, 450, 25, 451, 51, 100, 2, 101, 452, 453, 454, 455, 456, 457, 458, 459, 50, 661, 470, 471, 472, 473, 474, 475, 476, 477, 478, 479, 480, 57, 58, 52, 53, 481, 482, 483, 484, 485, 486, 487, 488, 489, 56, 198, 48, 490, 491, 492, 493, 494, 495, 496, 497, 498, 499, 500, 501, 502, 503, 504, 505, 506, 1034, 1035, 1036, 1037, 1038, 1039, 1040, 1041, 1042, 1043, 1044, 1045, 1046, 1075, 1076, 1077, 1078, 1079, 1080, 1081, 1082, 1083, 1084, 1085, 1086, 1087, 1088] (by decide +kernel) (by decide +kernel)
set_option maxRecDepth 20000 in
theorem gL_law_X3_wrong : GoodIn wsL_law (wsV RL 82 RX3 yX3_wrong wsX3_wrong) := goodIn_app (goodIn_of _ (by decide +kernel)) ggL_law_X3_wrong
set_option maxRecDepth 20000 in
theorem ggL_law_X4_wrong : GoodIn wsL_law wsX4_wrong := goodIn_r _ [665, 111, 81, 113, 516, 517, 518, 5, 519, 119, 120, 121, 520, 521, 522, 523, 531, 532, 533, 534, 535, 536, 537, 538, 539, 540, 541, 542, 543, 544, 545, 546, 547, 548, 549, 550, 551, 552, 553, 554, 555, 556, 557, 558, 559, 560, 1047, 1048, 1049, 1050, 1051, 1052, 1053, 1054, 1055, 1056, 1057, 1058, 1059, 1060, 1061, 1062, 1063, 1064, 1065, 1066, 1067, 1068, 1069, 1070] (by decide +kernel) (by decide +kernel)
set_option maxRecDepth 20000 in
theorem gL_law_X4_wrong : GoodIn wsL_law (wsV RL 85 RX4 yX4_wrong wsX4_wrong) := goodIn_app (goodIn_of _ (by decide +kernel)) ggL_law_X4_wrong
set_option maxRecDepth 20000 in
theorem ggL_law_X3_guests : GoodIn wsL_law wsX3_guests := goodIn_r _ [669, 26, 433, 95, 566, 567, 568, 25, 569, 50, 51, 452, 453, 454, 455, 456, 457, 458, 459, 100, 2, 101, 670, 671, 672, 673, 674, 675, 676, 677, 61, 473, 474, 475, 476, 477, 478, 479, 480, 57, 58, 52, 53, 481, 482, 483, 484, 485, 486, 487, 488, 489, 56, 198, 48, 490, 491, 492, 493, 494, 495, 496, 497, 498, 499, 678, 679, 680, 681, 49, 500, 501, 502, 503, 504, 505, 506, 1034, 1035, 1036, 1037, 1038, 1039, 1040, 1041, 1042, 1043, 1044, 1045, 1046, 1075, 1076, 1077, 1078, 1079, 1080, 1081, 1082, 1083, 1084, 1085, 1086, 1087, 1088] (by decide +kernel) (by decide +kernel)
set_option maxRecDepth 20000 in
theorem gL_law_X3_guests : GoodIn wsL_law (wsV RL 86 RX3 yX3_guests wsX3_guests) := goodIn_app (goodIn_of _ (by decide +kernel)) ggL_law_X3_guests
set_option maxRecDepth 20000 in
theorem ggL_law_X4_guests : GoodIn wsL_law wsX4_guests := goodIn_r _ [685, 111, 443, 113, 575, 576, 577, 5, 578, 81, 520, 521, 522, 523, 119, 120, 121, 686, 687, 688, 689, 531, 532, 533, 534, 535, 536, 537, 538, 539, 540, 541, 542, 543, 544, 545, 546, 547, 548, 549, 550, 551, 552, 553, 554, 555, 556, 557, 558, 559, 560, 1047, 1048, 1049, 1050, 1051, 1052, 1053, 1054, 1055, 1056, 1057, 1058, 1059, 1060, 1061, 1062, 1063, 1064, 1065, 1066, 1067, 1068, 1069, 1070] (by decide +kernel) (by decide +kernel)
set_option maxRecDepth 20000 in
theorem gL_law_X4_guests : GoodIn wsL_law (wsV RL 89 RX4 yX4_guests wsX4_guests) := goodIn_app (goodIn_of _ (by decide +kernel)) ggL_law_X4_guests
set_option maxRecDepth 20000 in
theorem ggL_law_X3_fewest : GoodIn wsL_law wsX3_fewest := goodIn_r _ [693, 26, 433, 95, 566, 567, 568, 25, 569, 50, 51, 694, 695, 696, 697, 100, 2, 101, 99, 698, 457, 458, 459, 699, 700, 701, 702, 198, 674, 675, 676, 677, 61, 473, 474, 475, 476, 477, 478, 479, 480, 57, 58, 52, 53, 481, 482, 483, 484, 485, 486, 487, 488, 489, 56, 48, 490, 491, 492, 493, 494, 495, 496, 497, 498, 499, 500, 501, 502, 503, 504, 505, 506, 678, 679, 680, 681, 49, 703, 704, 705, 37, 706, 1034, 1035, 1036, 1037, 1038, 1039, 1040, 1041, 1042, 1043, 1044, 1045, 1046, 1075, 1076, 1077, 1078, 1079, 1080, 1081, 1082, 1083, 1084, 1085, 1086, 1087, 1088] (by decide +kernel) (by decide +kernel)
set_option maxRecDepth 20000 in
theorem gL_law_X3_fewest : GoodIn wsL_law (wsV RL 90 RX3 yX3_fewest wsX3_fewest) := goodIn_app (goodIn_of _ (by decide +kernel)) ggL_law_X3_fewest
set_option maxRecDepth 20000 in
theorem ggL_law_X4_fewest : GoodIn wsL_law wsX4_fewest := goodIn_r _ [710, 111, 443, 113, 81, 373, 575, 576, 577, 5, 578, 711, 712, 713, 714, 119, 120, 121, 715, 716, 717, 718, 719, 720, 721, 686, 687, 688, 689, 531, 532, 533, 534, 535, 536, 537, 538, 539, 540, 541, 542, 543, 544, 545, 546, 547, 548, 549, 550, 551, 552, 553, 554, 555, 556, 557, 558, 559, 560, 1047, 1048, 1049, 1050, 1051, 1052, 1053, 1054, 1055, 1056, 1057, 1058, 1059, 1060, 1061, 1062, 1063, 1064, 1065, 1066, 1067, 1068, 1069, 1070] (by decide +kernel) (by decide +kernel)
set_option maxRecDepth 20000 in
theorem gL_law_X4_fewest : GoodIn wsL_law (wsV RL 93 RX4 yX4_fewest wsX4_fewest) := goodIn_app (goodIn_of _ (by decide +kernel)) ggL_law_X4_fewest
