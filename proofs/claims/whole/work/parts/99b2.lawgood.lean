/-! the law's calls, 2 -/
set_option maxRecDepth 20000 in
theorem ggL_law_X3_harsh : GoodIn wsL_law wsX3_harsh := goodIn_r _ [725, 26, 433, 95, 566, 567, 568, 25, 569, 50, 51, 694, 695, 696, 697, 100, 2, 101, 452, 453, 454, 455, 456, 457, 458, 459, 726, 727, 728, 729, 730, 273, 274, 275, 469, 470, 471, 472, 473, 474, 475, 476, 477, 478, 479, 480, 57, 58, 52, 53, 481, 482, 483, 484, 485, 486, 487, 488, 489, 56, 198, 48, 490, 491, 492, 493, 494, 495, 496, 497, 498, 499, 500, 501, 502, 503, 504, 505, 506, 1034, 1035, 1036, 1037, 1038, 1039, 1040, 1041, 1042, 1043, 1044, 1045, 1046, 1075, 1076, 1077, 1078, 1079, 1080, 1081, 1082, 1083, 1084, 1085, 1086, 1087, 1088] (by decide +kernel) (by decide +kernel)
set_option maxRecDepth 20000 in
theorem gL_law_X3_harsh : GoodIn wsL_law (wsV RL 94 RX3 yX3_harsh wsX3_harsh) := goodIn_app (goodIn_of _ (by decide +kernel)) ggL_law_X3_harsh
set_option maxRecDepth 20000 in
theorem ggL_law_X4_harsh : GoodIn wsL_law wsX4_harsh := goodIn_r _ [734, 111, 443, 113, 81, 575, 576, 577, 5, 578, 711, 712, 713, 714, 119, 120, 121, 520, 521, 522, 523, 534, 535, 536, 531, 532, 533, 537, 538, 539, 540, 541, 542, 543, 544, 545, 546, 547, 548, 549, 550, 551, 552, 553, 554, 555, 556, 557, 558, 559, 560, 1047, 1048, 1049, 1050, 1051, 1052, 1053, 1054, 1055, 1056, 1057, 1058, 1059, 1060, 1061, 1062, 1063, 1064, 1065, 1066, 1067, 1068, 1069, 1070] (by decide +kernel) (by decide +kernel)
set_option maxRecDepth 20000 in
theorem gL_law_X4_harsh : GoodIn wsL_law (wsV RL 97 RX4 yX4_harsh wsX4_harsh) := goodIn_app (goodIn_of _ (by decide +kernel)) ggL_law_X4_harsh
set_option maxRecDepth 20000 in
theorem ggL_law_X3_keen : GoodIn wsL_law wsX3_keen := goodIn_r _ [738, 26, 433, 95, 37, 566, 567, 568, 25, 569, 50, 51, 99, 100, 2, 101, 739, 740, 741, 742, 198, 494, 495, 496, 497, 52, 56, 498, 499, 743, 744, 745, 746, 747, 748, 274, 749, 473, 474, 475, 476, 477, 478, 479, 480, 57, 58, 53, 481, 482, 483, 484, 485, 486, 487, 488, 489, 48, 490, 491, 492, 493, 750, 1034, 1035, 1036, 1037, 1038, 1039, 1040, 1041, 1042, 1043, 1044, 1045, 1046, 1075, 1076, 1077, 1078, 1079, 1080, 1081, 1082, 1083, 1084, 1085, 1086, 1087, 1088] (by decide +kernel) (by decide +kernel)
set_option maxRecDepth 20000 in
theorem gL_law_X3_keen : GoodIn wsL_law (wsV RL 98 RX3 yX3_keen wsX3_keen) := goodIn_app (goodIn_of _ (by decide +kernel)) ggL_law_X3_keen
set_option maxRecDepth 20000 in
theorem ggL_law_X4_keen : GoodIn wsL_law wsX4_keen := goodIn_r _ [754, 111, 443, 113, 373, 81, 575, 576, 577, 5, 578, 119, 120, 121, 537, 538, 539, 540, 541, 542, 543, 544, 545, 546, 547, 548, 549, 550, 551, 552, 553, 554, 555, 556, 557, 558, 559, 560, 1047, 1048, 1049, 1050, 1051, 1052, 1053, 1054, 1055, 1056, 1057, 1058, 1059, 1060, 1061, 1062, 1063, 1064, 1065, 1066, 1067, 1068, 1069, 1070] (by decide +kernel) (by decide +kernel)
set_option maxRecDepth 20000 in
theorem gL_law_X4_keen : GoodIn wsL_law (wsV RL 101 RX4 yX4_keen wsX4_keen) := goodIn_app (goodIn_of _ (by decide +kernel)) ggL_law_X4_keen
set_option maxRecDepth 20000 in
theorem ggL_law_X3_tells : GoodIn wsL_law wsX3_tells := goodIn_r _ [758, 26, 433, 95, 566, 567, 568, 25, 569, 50, 51, 452, 453, 454, 455, 456, 457, 458, 459, 100, 2, 101, 99, 759, 760, 761, 762, 763, 764, 765, 766, 477, 478, 479, 480, 57, 58, 52, 53, 481, 482, 483, 484, 485, 767, 768, 769, 770, 198, 1034, 1035, 1036, 1037, 1038, 1039, 1040, 1041, 1042, 1043, 1044, 1045, 1046, 1075, 1076, 1077, 1078, 1079, 1080, 1081, 1082, 1083, 1084, 1085, 1086, 1087, 1088] (by decide +kernel) (by decide +kernel)
set_option maxRecDepth 20000 in
theorem gL_law_X3_tells : GoodIn wsL_law (wsV RL 102 RX3 yX3_tells wsX3_tells) := goodIn_app (goodIn_of _ (by decide +kernel)) ggL_law_X3_tells
set_option maxRecDepth 20000 in
theorem ggL_law_X4_tells : GoodIn wsL_law wsX4_tells := goodIn_r _ [774, 111, 443, 113, 373, 81, 575, 576, 577, 5, 578, 520, 521, 522, 523, 119, 120, 121, 653, 654, 655, 656, 546, 547, 548, 543, 544, 545, 549, 550, 551, 552, 553, 554, 555, 556, 557, 1047, 1048, 1049, 1050, 1051, 1052, 1053, 1054, 1055, 1056, 1057, 1058, 1059, 1060, 1061, 1062, 1063, 1064, 1065, 1066, 1067, 1068, 1069, 1070] (by decide +kernel) (by decide +kernel)
set_option maxRecDepth 20000 in
theorem gL_law_X4_tells : GoodIn wsL_law (wsV RL 105 RX4 yX4_tells wsX4_tells) := goodIn_app (goodIn_of _ (by decide +kernel)) ggL_law_X4_tells
set_option maxRecDepth 20000 in
theorem ggL_law_X3_learned : GoodIn wsL_law wsX3_learned := goodIn_r _ [778, 26, 95, 616, 617, 584, 585, 586, 25, 587, 50, 100, 2, 101, 779, 780, 502, 781, 1034, 1035, 1036, 1037, 1038, 1039, 1040, 1041, 1042, 1043, 1044, 1045, 1046, 1075, 1076, 1077, 1078, 1079, 1080, 1081, 1082, 1083, 1084, 1085, 1086, 1087, 1088] (by decide +kernel) (by decide +kernel)
set_option maxRecDepth 20000 in
theorem gL_law_X3_learned : GoodIn wsL_law (wsV RL 106 RX3 yX3_learned wsX3_learned) := goodIn_app (goodIn_of _ (by decide +kernel)) ggL_law_X3_learned
set_option maxRecDepth 20000 in
theorem ggL_law_X4_learned : GoodIn wsL_law wsX4_learned := goodIn_r _ [785, 111, 113, 81, 593, 594, 595, 5, 596, 119, 120, 121, 543, 544, 545, 1047, 1048, 1049, 1050, 1051, 1052, 1053, 1054, 1055, 1056, 1057, 1058, 1059, 1060, 1061, 1062, 1063, 1064, 1065, 1066, 1067, 1068, 1069, 1070] (by decide +kernel) (by decide +kernel)
set_option maxRecDepth 20000 in
theorem gL_law_X4_learned : GoodIn wsL_law (wsV RL 109 RX4 yX4_learned wsX4_learned) := goodIn_app (goodIn_of _ (by decide +kernel)) ggL_law_X4_learned
set_option maxRecDepth 20000 in
theorem ggL_law_X3_needs : GoodIn wsL_law wsX3_needs := goodIn_r _ [789, 26, 95, 433, 616, 617, 584, 585, 586, 25, 587, 50, 100, 2, 101, 602, 495, 496, 497, 52, 56, 198, 498, 499, 603, 604, 605, 606, 54, 55, 1034, 1035, 1036, 1037, 1038, 1039, 1040, 1041, 1042, 1043, 1044, 1045, 1046, 1075, 1076, 1077, 1078, 1079, 1080, 1081, 1082, 1083, 1084, 1085, 1086, 1087, 1088] (by decide +kernel) (by decide +kernel)
set_option maxRecDepth 20000 in
theorem gL_law_X3_needs : GoodIn wsL_law (wsV RL 110 RX3 yX3_needs wsX3_needs) := goodIn_app (goodIn_of _ (by decide +kernel)) ggL_law_X3_needs
set_option maxRecDepth 20000 in
theorem ggL_law_X4_needs : GoodIn wsL_law wsX4_needs := goodIn_r _ [793, 111, 113, 81, 443, 593, 594, 595, 5, 596, 119, 120, 121, 540, 541, 542, 543, 544, 545, 1047, 1048, 1049, 1050, 1051, 1052, 1053, 1054, 1055, 1056, 1057, 1058, 1059, 1060, 1061, 1062, 1063, 1064, 1065, 1066, 1067, 1068, 1069, 1070] (by decide +kernel) (by decide +kernel)
set_option maxRecDepth 20000 in
theorem gL_law_X4_needs : GoodIn wsL_law (wsV RL 113 RX4 yX4_needs wsX4_needs) := goodIn_app (goodIn_of _ (by decide +kernel)) ggL_law_X4_needs
set_option maxRecDepth 20000 in
theorem ggL_law_X3_save : GoodIn wsL_law wsX3_save := goodIn_r _ [797, 26, 433, 95, 566, 567, 568, 25, 569, 50, 51, 452, 453, 454, 455, 456, 457, 458, 459, 100, 2, 101, 99, 670, 671, 672, 673, 674, 675, 676, 677, 61, 473, 474, 475, 476, 477, 478, 479, 480, 57, 58, 52, 53, 481, 482, 483, 484, 485, 486, 487, 488, 489, 56, 198, 48, 490, 491, 492, 493, 494, 495, 496, 497, 498, 499, 678, 679, 680, 681, 49, 500, 501, 502, 503, 504, 505, 506, 699, 700, 701, 702, 703, 704, 705, 37, 706, 1034, 1035, 1036, 1037, 1038, 1039, 1040, 1041, 1042, 1043, 1044, 1045, 1046, 1075, 1076, 1077, 1078, 1079, 1080, 1081, 1082, 1083, 1084, 1085, 1086, 1087, 1088] (by decide +kernel) (by decide +kernel)
set_option maxRecDepth 20000 in
theorem gL_law_X3_save : GoodIn wsL_law (wsV RL 114 RX3 yX3_save wsX3_save) := goodIn_app (goodIn_of _ (by decide +kernel)) ggL_law_X3_save
set_option maxRecDepth 20000 in
theorem ggL_law_X4_save : GoodIn wsL_law wsX4_save := goodIn_r _ [801, 111, 443, 113, 575, 576, 577, 5, 578, 81, 520, 521, 522, 523, 119, 120, 121, 686, 687, 688, 689, 531, 532, 533, 534, 535, 536, 537, 538, 539, 540, 541, 542, 543, 544, 545, 546, 547, 548, 549, 550, 551, 552, 553, 554, 555, 556, 557, 558, 559, 560, 715, 716, 717, 718, 373, 719, 720, 721, 1047, 1048, 1049, 1050, 1051, 1052, 1053, 1054, 1055, 1056, 1057, 1058, 1059, 1060, 1061, 1062, 1063, 1064, 1065, 1066, 1067, 1068, 1069, 1070] (by decide +kernel) (by decide +kernel)
set_option maxRecDepth 20000 in
theorem gL_law_X4_save : GoodIn wsL_law (wsV RL 117 RX4 yX4_save wsX4_save) := goodIn_app (goodIn_of _ (by decide +kernel)) ggL_law_X4_save
set_option maxRecDepth 20000 in
theorem ggL_law_X3_shares : GoodIn wsL_law wsX3_shares := goodIn_r _ [805, 26, 95, 806, 639, 14, 584, 585, 586, 25, 587, 50, 100, 2, 101, 96, 97, 98, 99, 131, 132, 133, 134, 17, 135, 136, 137, 138, 16, 37, 102, 103, 104, 105, 106, 139, 140, 141, 142, 807, 808, 809, 810, 51, 57, 58, 481, 482, 483, 484, 485, 1034, 1035, 1036, 1037, 1038, 1039, 1040, 1041, 1042, 1043, 1044, 1045, 1046, 1075, 1076, 1077, 1078, 1079, 1080, 1081, 1082, 1083, 1084, 1085, 1086, 1087, 1088] (by decide +kernel) (by decide +kernel)
set_option maxRecDepth 20000 in
theorem gL_law_X3_shares : GoodIn wsL_law (wsV RL 118 RX3 yX3_shares wsX3_shares) := goodIn_app (goodIn_of _ (by decide +kernel)) ggL_law_X3_shares
set_option maxRecDepth 20000 in
theorem ggL_law_X4_shares : GoodIn wsL_law wsX4_shares := goodIn_r _ [814, 111, 113, 81, 593, 594, 595, 5, 596, 119, 120, 121, 115, 116, 117, 118, 815, 816, 817, 818, 78, 79, 114, 122, 123, 124, 125, 126, 543, 544, 545, 819, 820, 821, 822, 80, 549, 550, 551, 552, 553, 554, 555, 556, 557, 1047, 1048, 1049, 1050, 1051, 1052, 1053, 1054, 1055, 1056, 1057, 1058, 1059, 1060, 1061, 1062, 1063, 1064, 1065, 1066, 1067, 1068, 1069, 1070] (by decide +kernel) (by decide +kernel)
set_option maxRecDepth 20000 in
theorem gL_law_X4_shares : GoodIn wsL_law (wsV RL 121 RX4 yX4_shares wsX4_shares) := goodIn_app (goodIn_of _ (by decide +kernel)) ggL_law_X4_shares
set_option maxRecDepth 20000 in
theorem ggL_law_X3_kinds : GoodIn wsL_law wsX3_kinds := goodIn_r _ [826, 26, 95, 806, 583, 14, 584, 585, 586, 25, 587, 50, 100, 2, 101, 96, 97, 98, 99, 131, 132, 133, 134, 17, 135, 136, 137, 138, 16, 37, 102, 103, 104, 105, 106, 139, 140, 141, 142, 807, 808, 809, 810, 51, 57, 58, 481, 482, 483, 484, 485, 1034, 1035, 1036, 1037, 1038, 1039, 1040, 1041, 1042, 1043, 1044, 1045, 1046, 1075, 1076, 1077, 1078, 1079, 1080, 1081, 1082, 1083, 1084, 1085, 1086, 1087, 1088] (by decide +kernel) (by decide +kernel)
set_option maxRecDepth 20000 in
theorem gL_law_X3_kinds : GoodIn wsL_law (wsV RL 122 RX3 yX3_kinds wsX3_kinds) := goodIn_app (goodIn_of _ (by decide +kernel)) ggL_law_X3_kinds
set_option maxRecDepth 20000 in
theorem ggL_law_X4_kinds : GoodIn wsL_law wsX4_kinds := goodIn_r _ [830, 111, 113, 81, 593, 594, 595, 5, 596, 119, 120, 121, 115, 116, 117, 118, 815, 816, 817, 818, 78, 79, 114, 122, 123, 124, 125, 126, 543, 544, 545, 819, 820, 821, 822, 80, 549, 550, 551, 552, 553, 554, 555, 556, 557, 1047, 1048, 1049, 1050, 1051, 1052, 1053, 1054, 1055, 1056, 1057, 1058, 1059, 1060, 1061, 1062, 1063, 1064, 1065, 1066, 1067, 1068, 1069, 1070] (by decide +kernel) (by decide +kernel)
set_option maxRecDepth 20000 in
theorem gL_law_X4_kinds : GoodIn wsL_law (wsV RL 125 RX4 yX4_kinds wsX4_kinds) := goodIn_app (goodIn_of _ (by decide +kernel)) ggL_law_X4_kinds
set_option maxRecDepth 20000 in
theorem ggL_law_X3_who : GoodIn wsL_law wsX3_who := goodIn_r _ [834, 26, 433, 95, 193, 806, 626, 627, 14, 566, 567, 568, 25, 569, 50, 51, 96, 97, 2, 98, 99, 100, 101, 131, 132, 133, 134, 17, 135, 136, 137, 138, 16, 37, 102, 103, 104, 105, 106, 139, 140, 141, 142, 835, 836, 837, 838, 52, 53, 481, 482, 483, 484, 485, 1034, 1035, 1036, 1037, 1038, 1039, 1040, 1041, 1042, 1043, 1044, 1045, 1046, 1075, 1076, 1077, 1078, 1079, 1080, 1081, 1082, 1083, 1084, 1085, 1086, 1087, 1088] (by decide +kernel) (by decide +kernel)
set_option maxRecDepth 20000 in
theorem gL_law_X3_who : GoodIn wsL_law (wsV RL 126 RX3 yX3_who wsX3_who) := goodIn_app (goodIn_of _ (by decide +kernel)) ggL_law_X3_who
set_option maxRecDepth 20000 in
theorem ggL_law_X4_who : GoodIn wsL_law wsX4_who := goodIn_r _ [842, 111, 443, 113, 81, 575, 576, 577, 5, 578, 115, 116, 117, 118, 119, 120, 121, 815, 816, 817, 818, 78, 79, 114, 122, 123, 124, 125, 126, 549, 550, 551, 843, 844, 845, 846, 80, 543, 544, 545, 552, 553, 554, 555, 556, 557, 1047, 1048, 1049, 1050, 1051, 1052, 1053, 1054, 1055, 1056, 1057, 1058, 1059, 1060, 1061, 1062, 1063, 1064, 1065, 1066, 1067, 1068, 1069, 1070] (by decide +kernel) (by decide +kernel)
set_option maxRecDepth 20000 in
theorem gL_law_X4_who : GoodIn wsL_law (wsV RL 129 RX4 yX4_who wsX4_who) := goodIn_app (goodIn_of _ (by decide +kernel)) ggL_law_X4_who
set_option maxRecDepth 20000 in
theorem ggL_law_X3_cares : GoodIn wsL_law wsX3_cares := goodIn_r _ [850, 26, 433, 95, 193, 14, 566, 567, 568, 25, 569, 50, 51, 99, 100, 2, 101, 96, 97, 98, 131, 132, 133, 134, 17, 135, 136, 137, 138, 16, 37, 102, 103, 104, 105, 106, 139, 140, 141, 142, 835, 836, 837, 838, 52, 53, 481, 482, 483, 484, 485, 1034, 1035, 1036, 1037, 1038, 1039, 1040, 1041, 1042, 1043, 1044, 1045, 1046, 1075, 1076, 1077, 1078, 1079, 1080, 1081, 1082, 1083, 1084, 1085, 1086, 1087, 1088] (by decide +kernel) (by decide +kernel)
set_option maxRecDepth 20000 in
theorem gL_law_X3_cares : GoodIn wsL_law (wsV RL 130 RX3 yX3_cares wsX3_cares) := goodIn_app (goodIn_of _ (by decide +kernel)) ggL_law_X3_cares
set_option maxRecDepth 20000 in
theorem ggL_law_X4_cares : GoodIn wsL_law wsX4_cares := goodIn_r _ [854, 111, 443, 592, 113, 81, 575, 576, 577, 5, 578, 119, 120, 121, 115, 116, 117, 118, 815, 816, 817, 818, 78, 79, 114, 122, 123, 124, 125, 126, 843, 844, 845, 846, 80, 543, 544, 545, 552, 553, 554, 555, 556, 557, 1047, 1048, 1049, 1050, 1051, 1052, 1053, 1054, 1055, 1056, 1057, 1058, 1059, 1060, 1061, 1062, 1063, 1064, 1065, 1066, 1067, 1068, 1069, 1070] (by decide +kernel) (by decide +kernel)
set_option maxRecDepth 20000 in
theorem gL_law_X4_cares : GoodIn wsL_law (wsV RL 133 RX4 yX4_cares wsX4_cares) := goodIn_app (goodIn_of _ (by decide +kernel)) ggL_law_X4_cares
