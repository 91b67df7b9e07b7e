set_option maxRecDepth 20000 in
theorem ggL_law_X10_means : GoodIn wsL_law wsX10_means := goodIn_r _ [640, 562, 217, 107, 498, 499, 5, 500, 246, 152, 153, 154, 218, 219, 220, 501, 502, 503, 504, 108, 130, 505, 506, 507, 508, 103, 102, 509, 510, 511, 512, 513, 514, 515, 110, 111, 112, 516, 517, 518, 519, 113, 114, 115, 251, 252, 253, 254, 104, 105, 106, 255, 256, 257, 258, 520, 521, 522, 523, 524, 525, 526, 527, 528, 529, 530, 531, 129, 532, 533, 534, 535, 1025, 1026, 1027, 1028, 1029, 1030, 1031, 1032, 1033, 1034, 1035, 1036, 1037, 1038, 1039, 1040, 1041, 1042, 1043, 1044, 1045, 1046, 1047, 1048, 1049, 1050, 1051, 1052, 1053, 1054, 1055, 1056, 1057, 1058, 1059, 1060, 1061, 1062, 1063, 1064] (by decide +kernel) (by decide +kernel)
set_option maxRecDepth 20000 in
theorem gL_law_X10_means : GoodIn wsL_law (wsV RL 82 RX10 yX10_means wsX10_means) := goodIn_app (goodIn_of _ (by decide +kernel)) ggL_law_X10_means
set_option maxRecDepth 20000 in
theorem ggL_law_X9_best : GoodIn wsL_law wsX9_best := goodIn_r _ [644, 29, 15, 184, 25, 645, 646, 647, 28, 648, 96, 649, 94, 93, 650, 590, 591, 23, 592, 89, 88, 190, 2, 191, 651, 652, 653, 654, 655, 453, 454, 40, 455, 61, 196, 197, 656, 471, 472, 473, 68, 657, 457, 458, 459, 66, 658, 659, 660, 460, 461, 661, 596, 597, 598, 662, 663, 664, 665, 666, 600, 601, 602, 667, 668, 669, 670, 671, 604, 605, 606, 672, 673, 674, 675, 676, 677, 678, 679, 680, 681, 14, 682, 41, 588, 48, 589, 462, 463, 464, 465, 189, 466, 467, 468, 469, 452, 470, 456, 474, 475, 476, 477, 67, 478, 479, 480, 594, 595, 683, 1019, 1020, 1021, 1022, 1023, 1024, 1065, 1066, 1067, 1068, 1069, 1070, 1071, 1076, 1077, 1078, 1082, 1083, 1084, 1085, 1086, 1087, 1088, 1089, 1090, 1074, 1075] (by decide +kernel) (by decide +kernel)
set_option maxRecDepth 20000 in
theorem gL_law_X9_best : GoodIn wsL_law (wsV RL 83 RX9 yX9_best wsX9_best) := goodIn_app (goodIn_of _ (by decide +kernel)) ggL_law_X9_best
set_option maxRecDepth 20000 in
theorem ggL_law_X10_best : GoodIn wsL_law wsX10_best := goodIn_r _ [687, 218, 219, 5, 220, 152, 153, 154, 688, 689, 690, 691, 129, 621, 619, 622, 623, 624, 625, 217, 562, 107, 501, 502, 503, 504, 108, 130, 505, 506, 507, 508, 103, 102, 509, 510, 511, 512, 513, 514, 515, 110, 111, 112, 516, 517, 518, 519, 113, 114, 115, 251, 252, 253, 254, 104, 105, 106, 255, 256, 257, 258, 520, 521, 522, 523, 524, 525, 526, 527, 528, 529, 530, 531, 532, 533, 534, 535, 692, 693, 694, 695, 696, 697, 698, 1025, 1026, 1027, 1028, 1029, 1030, 1031, 1032, 1033, 1034, 1035, 1036, 1037, 1038, 1039, 1040, 1041, 1042, 1043, 1044, 1045, 1046, 1047, 1048, 1049, 1050, 1051, 1052, 1053, 1054, 1055, 1056, 1057, 1058, 1059, 1060, 1061, 1062, 1063, 1064] (by decide +kernel) (by decide +kernel)
set_option maxRecDepth 20000 in
theorem gL_law_X10_best : GoodIn wsL_law (wsV RL 86 RX10 yX10_best wsX10_best) := goodIn_app (goodIn_of _ (by decide +kernel)) ggL_law_X10_best
set_option maxRecDepth 20000 in
theorem ggL_law_X9_tried : GoodIn wsL_law wsX9_tried := goodIn_r _ [702, 15, 703, 704, 705, 412, 413, 414, 14, 415, 47, 137, 138, 2, 139, 706, 707, 708, 709, 710, 711, 712, 41, 588, 713, 714, 715, 10, 11, 593, 444, 445, 446, 48, 49, 447, 199, 200, 40, 201, 63, 64, 65, 62, 66, 61, 196, 197, 202, 203, 204, 205, 85, 86, 87, 448, 449, 450, 451, 189, 452, 453, 454, 455, 456, 457, 458, 459, 460, 461, 462, 463, 464, 465, 466, 467, 468, 469, 470, 471, 472, 473, 68, 474, 475, 476, 477, 67, 478, 479, 480, 481, 482, 483, 484, 18, 485, 267, 79, 486, 487, 488, 298, 299, 300, 301, 302, 303, 304, 305, 306, 307, 308, 309, 310, 311, 312, 313, 314, 315, 316, 317, 318, 319, 320, 321, 322, 323, 324, 325, 326, 327, 328, 329, 330, 331, 332, 333, 334, 335, 336, 337, 338, 339, 340, 341, 342, 343, 344, 345, 346, 347, 348, 349, 350, 351, 352, 353, 354, 355, 356, 357, 358, 359, 360, 361, 362, 363, 364, 365, 366, 367, 368, 369, 370, 371, 372, 373, 374, 375, 376, 377, 378, 379, 380, 381, 382, 383, 384, 385, 386, 489, 490, 491, 492, 493, 387, 388, 594, 716, 717, 718, 719, 720, 721, 722, 723, 1019, 1020, 1021, 1022, 1023, 1024, 1096, 1097, 1098, 1099, 1065, 1066, 1067, 1068, 1069, 1070, 1071, 1082, 1083, 1084, 1085, 1086, 1087, 1088, 1089, 1090, 1072, 1073] (by decide +kernel) (by decide +kernel)
set_option maxRecDepth 20000 in
theorem gL_law_X9_tried : GoodIn wsL_law (wsV RL 87 RX9 yX9_tried wsX9_tried) := goodIn_app (goodIn_of _ (by decide +kernel)) ggL_law_X9_tried
set_option maxRecDepth 20000 in
theorem ggL_law_X10_tried : GoodIn wsL_law wsX10_tried := goodIn_r _ [727, 216, 573, 728, 729, 730, 152, 153, 5, 154, 731, 732, 733, 734, 735, 217, 107, 512, 513, 514, 515, 110, 111, 112, 516, 517, 518, 519, 113, 114, 115, 251, 252, 253, 254, 104, 105, 106, 103, 102, 255, 256, 257, 258, 1025, 1026, 1027, 1028, 1029, 1030, 1031, 1032, 1033, 1034, 1035, 1036, 1037, 1038, 1039, 1040, 1041, 1042, 1043, 1044, 1045, 1046, 1047, 1048, 1049, 1050, 1051, 1052, 1053, 1054, 1055, 1056, 1057, 1058, 1059, 1060, 1061, 1062, 1063, 1064] (by decide +kernel) (by decide +kernel)
set_option maxRecDepth 20000 in
theorem gL_law_X10_tried : GoodIn wsL_law (wsV RL 90 RX10 yX10_tried wsX10_tried) := goodIn_app (goodIn_of _ (by decide +kernel)) ggL_law_X10_tried
set_option maxRecDepth 20000 in
theorem ggL_law_X9_lot : GoodIn wsL_law wsX9_lot := goodIn_r _ [739, 15, 581, 582, 412, 413, 414, 14, 415, 47, 137, 138, 2, 139, 706, 707, 708, 709, 710, 711, 712, 41, 588, 713, 714, 715, 10, 11, 593, 444, 445, 446, 48, 49, 447, 199, 200, 40, 201, 63, 64, 65, 62, 66, 61, 196, 197, 202, 203, 204, 205, 85, 86, 87, 448, 449, 450, 451, 189, 452, 453, 454, 455, 456, 457, 458, 459, 460, 461, 462, 463, 464, 465, 466, 467, 468, 469, 470, 471, 472, 473, 68, 474, 475, 476, 477, 67, 478, 479, 480, 481, 482, 483, 484, 18, 485, 267, 79, 486, 487, 488, 298, 299, 300, 301, 302, 303, 304, 305, 306, 307, 308, 309, 310, 311, 312, 313, 314, 315, 316, 317, 318, 319, 320, 321, 322, 323, 324, 325, 326, 327, 328, 329, 330, 331, 332, 333, 334, 335, 336, 337, 338, 339, 340, 341, 342, 343, 344, 345, 346, 347, 348, 349, 350, 351, 352, 353, 354, 355, 356, 357, 358, 359, 360, 361, 362, 363, 364, 365, 366, 367, 368, 369, 370, 371, 372, 373, 374, 375, 376, 377, 378, 379, 380, 381, 382, 383, 384, 385, 386, 489, 490, 491, 492, 493, 387, 388, 594, 716, 717, 718, 719, 720, 721, 722, 723, 740, 741, 742, 743, 744, 745, 746, 747, 748, 749, 750, 607, 608, 609, 610, 611, 612, 1019, 1020, 1021, 1022, 1023, 1024, 1065, 1066, 1067, 1068, 1069, 1070, 1071, 1096, 1097, 1098, 1099, 1082, 1083, 1084, 1085, 1086, 1087, 1088, 1089, 1090, 1072, 1073] (by decide +kernel) (by decide +kernel)
set_option maxRecDepth 20000 in
theorem gL_law_X9_lot : GoodIn wsL_law (wsV RL 91 RX9 yX9_lot wsX9_lot) := goodIn_app (goodIn_of _ (by decide +kernel)) ggL_law_X9_lot
set_option maxRecDepth 20000 in
theorem ggL_law_X10_lot : GoodIn wsL_law wsX10_lot := goodIn_r _ [754, 216, 617, 618, 728, 735, 729, 730, 152, 153, 5, 154, 218, 219, 220, 731, 732, 733, 734, 217, 107, 512, 513, 514, 515, 110, 111, 112, 516, 517, 518, 519, 113, 114, 115, 251, 252, 253, 254, 104, 105, 106, 103, 102, 255, 256, 257, 258, 755, 756, 757, 758, 759, 760, 626, 627, 628, 1025, 1026, 1027, 1028, 1029, 1030, 1031, 1032, 1033, 1034, 1035, 1036, 1037, 1038, 1039, 1040, 1041, 1042, 1043, 1044, 1045, 1046, 1047, 1048, 1049, 1050, 1051, 1052, 1053, 1054, 1055, 1056, 1057, 1058, 1059, 1060, 1061, 1062, 1063, 1064] (by decide +kernel) (by decide +kernel)
set_option maxRecDepth 20000 in
theorem gL_law_X10_lot : GoodIn wsL_law (wsV RL 94 RX10 yX10_lot wsX10_lot) := goodIn_app (goodIn_of _ (by decide +kernel)) ggL_law_X10_lot
set_option maxRecDepth 20000 in
theorem ggL_law_X9_changed : GoodIn wsL_law wsX9_changed := goodIn_r _ [764, 582, 15, 184, 137, 138, 2, 139, 765, 766, 767, 40, 768, 769, 711, 712, 189, 61, 713, 714, 715, 10, 11, 196, 197, 456, 457, 458, 459, 66, 770, 717, 718, 719, 720, 721, 722, 723, 740, 741, 742, 743, 744, 331, 86, 332, 745, 746, 747, 748, 749, 750, 607, 608, 609, 610, 611, 612, 1019, 1020, 1021, 1022, 1023, 1024, 1065, 1066, 1067, 1068, 1069, 1070, 1071, 1096, 1097, 1098, 1099, 1082, 1083, 1084, 1085, 1086, 1087, 1088, 1089, 1090] (by decide +kernel) (by decide +kernel)
set_option maxRecDepth 20000 in
theorem gL_law_X9_changed : GoodIn wsL_law (wsV RL 95 RX9 yX9_changed wsX9_changed) := goodIn_app (goodIn_of _ (by decide +kernel)) ggL_law_X9_changed
set_option maxRecDepth 20000 in
theorem ggL_law_X10_changed : GoodIn wsL_law wsX10_changed := goodIn_r _ [774, 575, 618, 217, 107, 102, 152, 153, 5, 154, 218, 219, 220, 755, 756, 757, 758, 759, 760, 626, 627, 628, 1025, 1026, 1027, 1028, 1029, 1030, 1031, 1032, 1033, 1034, 1035, 1036, 1037, 1038, 1039, 1040, 1041, 1042, 1043, 1044, 1045, 1046, 1047, 1048, 1049, 1050, 1051, 1052, 1053, 1054, 1055, 1056, 1057, 1058, 1059, 1060, 1061, 1062, 1063, 1064] (by decide +kernel) (by decide +kernel)
set_option maxRecDepth 20000 in
theorem gL_law_X10_changed : GoodIn wsL_law (wsV RL 98 RX10 yX10_changed wsX10_changed) := goodIn_app (goodIn_of _ (by decide +kernel)) ggL_law_X10_changed
set_option maxRecDepth 20000 in
theorem ggL_law_X9_engraved : GoodIn wsL_law wsX9_engraved := goodIn_r _ [778, 15, 184, 137, 138, 2, 139, 779, 780, 781, 40, 782, 189, 63, 196, 197, 783, 784, 785, 456, 457, 458, 459, 66, 1019, 1020, 1021, 1022, 1023, 1024, 1065, 1066, 1067, 1068, 1069, 1070, 1071, 1082, 1083, 1084, 1085, 1086, 1087, 1088, 1089, 1090] (by decide +kernel) (by decide +kernel)
set_option maxRecDepth 20000 in
theorem gL_law_X9_engraved : GoodIn wsL_law (wsV RL 99 RX9 yX9_engraved wsX9_engraved) := goodIn_app (goodIn_of _ (by decide +kernel)) ggL_law_X9_engraved
set_option maxRecDepth 20000 in
theorem ggL_law_X10_engraved : GoodIn wsL_law wsX10_engraved := goodIn_r _ [789, 218, 219, 5, 220, 152, 153, 154, 790, 791, 792, 793, 217, 104, 107, 1025, 1026, 1027, 1028, 1029, 1030, 1031, 1032, 1033, 1034, 1035, 1036, 1037, 1038, 1039, 1040, 1041, 1042, 1043, 1044, 1045, 1046, 1047, 1048, 1049, 1050, 1051, 1052, 1053, 1054, 1055, 1056, 1057, 1058, 1059, 1060, 1061, 1062, 1063, 1064] (by decide +kernel) (by decide +kernel)
set_option maxRecDepth 20000 in
theorem gL_law_X10_engraved : GoodIn wsL_law (wsV RL 102 RX10 yX10_engraved wsX10_engraved) := goodIn_app (goodIn_of _ (by decide +kernel)) ggL_law_X10_engraved
set_option maxRecDepth 20000 in
theorem ggL_law_X9_right : GoodIn wsL_law wsX9_right := goodIn_r _ [797, 15, 184, 137, 138, 2, 139, 779, 780, 781, 40, 782, 189, 63, 196, 197, 783, 784, 785, 456, 457, 458, 459, 66, 1019, 1020, 1021, 1022, 1023, 1024, 1065, 1066, 1067, 1068, 1069, 1070, 1071, 1082, 1083, 1084, 1085, 1086, 1087, 1088, 1089, 1090] (by decide +kernel) (by decide +kernel)
set_option maxRecDepth 20000 in
theorem gL_law_X9_right : GoodIn wsL_law (wsV RL 103 RX9 yX9_right wsX9_right) := goodIn_app (goodIn_of _ (by decide +kernel)) ggL_law_X9_right
set_option maxRecDepth 20000 in
theorem ggL_law_X10_right : GoodIn wsL_law wsX10_right := goodIn_r _ [801, 802, 152, 153, 5, 154, 790, 791, 792, 793, 217, 104, 107, 1025, 1026, 1027, 1028, 1029, 1030, 1031, 1032, 1033, 1034, 1035, 1036, 1037, 1038, 1039, 1040, 1041, 1042, 1043, 1044, 1045, 1046, 1047, 1048, 1049, 1050, 1051, 1052, 1053, 1054, 1055, 1056, 1057, 1058, 1059, 1060, 1061, 1062, 1063, 1064] (by decide +kernel) (by decide +kernel)
set_option maxRecDepth 20000 in
theorem gL_law_X10_right : GoodIn wsL_law (wsV RL 106 RX10 yX10_right wsX10_right) := goodIn_app (goodIn_of _ (by decide +kernel)) ggL_law_X10_right
set_option maxRecDepth 20000 in
theorem ggL_law_X9_glass : GoodIn wsL_law wsX9_glass := goodIn_r _ [806, 15, 807, 137, 138, 2, 139, 808, 809, 810, 811, 812, 813, 44, 814, 815, 72, 73, 74, 75, 190, 191, 1019, 1020, 1021, 1022, 1023, 1024, 1065, 1066, 1067, 1068, 1069, 1070, 1071, 1091, 1092, 1093, 1094, 1095] (by decide +kernel) (by decide +kernel)
set_option maxRecDepth 20000 in
theorem gL_law_X9_glass : GoodIn wsL_law (wsV RL 107 RX9 yX9_glass wsX9_glass) := goodIn_app (goodIn_of _ (by decide +kernel)) ggL_law_X9_glass
set_option maxRecDepth 20000 in
theorem ggL_law_X10_glass : GoodIn wsL_law wsX10_glass := goodIn_r _ [819, 246, 151, 215, 820, 116, 117, 118, 119, 152, 153, 5, 154, 1025, 1026, 1027, 1028, 1029, 1030, 1031, 1032, 1033, 1034, 1035, 1036, 1037, 1038, 1039, 1040, 1041, 1042, 1043, 1044, 1045, 1046, 1047, 1048, 1049, 1050, 1051, 1052, 1053, 1054, 1055, 1056, 1057, 1058, 1059, 1060, 1061, 1062, 1063, 1064] (by decide +kernel) (by decide +kernel)
set_option maxRecDepth 20000 in
theorem gL_law_X10_glass : GoodIn wsL_law (wsV RL 110 RX10 yX10_glass wsX10_glass) := goodIn_app (goodIn_of _ (by decide +kernel)) ggL_law_X10_glass
set_option maxRecDepth 20000 in
theorem ggL_law_X9_clear : GoodIn wsL_law wsX9_clear := goodIn_r _ [824, 15, 807, 825, 826, 827, 44, 828, 815, 1019, 1020, 1021, 1022, 1023, 1024, 1065, 1066, 1067, 1068, 1069, 1070, 1071, 1091, 1092, 1093, 1094, 1095] (by decide +kernel) (by decide +kernel)
set_option maxRecDepth 20000 in
theorem gL_law_X9_clear : GoodIn wsL_law (wsV RL 111 RX9 yX9_clear wsX9_clear) := goodIn_app (goodIn_of _ (by decide +kernel)) ggL_law_X9_clear
set_option maxRecDepth 20000 in
theorem ggL_law_X10_clear : GoodIn wsL_law wsX10_clear := goodIn_r _ [832, 820, 1025, 1026, 1027, 1028, 1029, 1030, 1031, 1032, 1033, 1034, 1035, 1036, 1037, 1038, 1039, 1040, 1041, 1042, 1043, 1044, 1045, 1046, 1047, 1048, 1049, 1050, 1051, 1052, 1053, 1054, 1055, 1056, 1057, 1058, 1059, 1060, 1061, 1062, 1063, 1064] (by decide +kernel) (by decide +kernel)
set_option maxRecDepth 20000 in
theorem gL_law_X10_clear : GoodIn wsL_law (wsV RL 114 RX10 yX10_clear wsX10_clear) := goodIn_app (goodIn_of _ (by decide +kernel)) ggL_law_X10_clear
set_option maxRecDepth 20000 in
theorem ggL_law_X9_may : GoodIn wsL_law wsX9_may := goodIn_r _ [836, 15, 807, 568, 837, 838, 839, 44, 840, 841, 842, 843, 844, 845, 846, 847, 848, 815, 72, 73, 849, 145, 86, 146, 850, 85, 87, 74, 75, 196, 2, 197, 851, 852, 853, 854, 855, 674, 856, 808, 809, 810, 137, 138, 139, 857, 1019, 1020, 1021, 1022, 1023, 1024, 1065, 1066, 1067, 1068, 1069, 1070, 1071, 1091, 1092, 1093, 1094, 1095] (by decide +kernel) (by decide +kernel)
set_option maxRecDepth 20000 in
theorem gL_law_X9_may : GoodIn wsL_law (wsV RL 115 RX9 yX9_may wsX9_may) := goodIn_app (goodIn_of _ (by decide +kernel)) ggL_law_X9_may
set_option maxRecDepth 20000 in
theorem ggL_law_X10_may : GoodIn wsL_law wsX10_may := goodIn_r _ [861, 246, 862, 863, 864, 5, 865, 866, 867, 868, 869, 820, 870, 871, 872, 873, 116, 117, 118, 131, 119, 155, 156, 157, 874, 875, 876, 152, 153, 154, 1025, 1026, 1027, 1028, 1029, 1030, 1031, 1032, 1033, 1034, 1035, 1036, 1037, 1038, 1039, 1040, 1041, 1042, 1043, 1044, 1045, 1046, 1047, 1048, 1049, 1050, 1051, 1052, 1053, 1054, 1055, 1056, 1057, 1058, 1059, 1060, 1061, 1062, 1063, 1064] (by decide +kernel) (by decide +kernel)
set_option maxRecDepth 20000 in
theorem gL_law_X10_may : GoodIn wsL_law (wsV RL 118 RX10 yX10_may wsX10_may) := goodIn_app (goodIn_of _ (by decide +kernel)) ggL_law_X10_may
set_option maxRecDepth 20000 in
theorem ggL_law_X9_low : GoodIn wsL_law wsX9_low := goodIn_r _ [880, 582, 15, 807, 568, 583, 808, 809, 2, 810, 137, 138, 139, 837, 838, 839, 44, 840, 841, 842, 843, 844, 845, 846, 847, 848, 815, 72, 73, 849, 145, 86, 146, 850, 85, 87, 74, 75, 196, 197, 851, 852, 853, 854, 855, 674, 856, 857, 607, 608, 609, 610, 611, 612, 1019, 1020, 1021, 1022, 1023, 1024, 1065, 1066, 1067, 1068, 1069, 1070, 1071, 1091, 1092, 1093, 1094, 1095] (by decide +kernel) (by decide +kernel)
set_option maxRecDepth 20000 in
theorem gL_law_X9_low : GoodIn wsL_law (wsV RL 119 RX9 yX9_low wsX9_low) := goodIn_app (goodIn_of _ (by decide +kernel)) ggL_law_X9_low
set_option maxRecDepth 20000 in
theorem ggL_law_X10_low : GoodIn wsL_law wsX10_low := goodIn_r _ [884, 246, 618, 620, 152, 153, 5, 154, 218, 219, 220, 862, 863, 864, 865, 866, 867, 868, 869, 820, 870, 871, 872, 873, 116, 117, 118, 131, 119, 155, 156, 157, 874, 875, 876, 626, 627, 628, 1025, 1026, 1027, 1028, 1029, 1030, 1031, 1032, 1033, 1034, 1035, 1036, 1037, 1038, 1039, 1040, 1041, 1042, 1043, 1044, 1045, 1046, 1047, 1048, 1049, 1050, 1051, 1052, 1053, 1054, 1055, 1056, 1057, 1058, 1059, 1060, 1061, 1062, 1063, 1064] (by decide +kernel) (by decide +kernel)
set_option maxRecDepth 20000 in
theorem gL_law_X10_low : GoodIn wsL_law (wsV RL 123 RX10 yX10_low wsX10_low) := goodIn_app (goodIn_of _ (by decide +kernel)) ggL_law_X10_low
set_option maxRecDepth 20000 in
theorem ggL_law_X9_hay : GoodIn wsL_law wsX9_hay := goodIn_r _ [888, 889, 890, 891, 892, 893, 894, 895, 10, 11, 896, 897, 898, 899, 900, 901, 902, 903, 904, 905, 138, 2, 139, 196, 197, 137, 906, 907, 908, 909, 910, 85, 86, 87, 911, 912, 913, 914, 915, 916, 917, 918, 919, 920, 921, 922, 1100, 1101, 1102, 1103, 1104, 1105] (by decide +kernel) (by decide +kernel)
set_option maxRecDepth 20000 in
theorem gL_law_X9_hay : GoodIn wsL_law (wsV RL 124 RX9 yX9_hay wsX9_hay) := goodIn_app (goodIn_of _ (by decide +kernel)) ggL_law_X9_hay
set_option maxRecDepth 20000 in
theorem ggL_law_X10_hay : GoodIn wsL_law wsX10_hay := goodIn_r _ [926, 121, 927, 928, 5, 929, 179, 216, 930, 151, 152, 153, 154, 931, 932, 933, 934, 120, 122, 1025, 1026, 1027, 1028, 1029, 1030, 1031, 1032, 1033, 1034, 1035, 1036, 1037, 1038, 1039, 1040, 1041, 1042, 1043, 1044, 1045, 1046, 1047, 1048, 1049, 1050, 1051, 1052, 1053, 1054, 1055, 1056, 1057, 1058, 1059, 1060, 1061, 1062, 1063, 1064] (by decide +kernel) (by decide +kernel)
set_option maxRecDepth 20000 in
theorem gL_law_X10_hay : GoodIn wsL_law (wsV RL 128 RX10 yX10_hay wsX10_hay) := goodIn_app (goodIn_of _ (by decide +kernel)) ggL_law_X10_hay
set_option maxRecDepth 20000 in
theorem ggL_law_X9_does : GoodIn wsL_law wsX9_does := goodIn_r _ [938, 889, 890, 891, 892, 893, 894, 895, 10, 11, 896, 897, 898, 899, 900, 901, 902, 903, 904, 905, 138, 2, 139, 196, 197, 137, 939, 940, 941, 942, 943, 907, 908, 909, 910, 85, 86, 87, 911, 912, 913, 914, 915, 916, 917, 918, 919, 920, 921, 922, 1100, 1101, 1102, 1103, 1104, 1105] (by decide +kernel) (by decide +kernel)
set_option maxRecDepth 20000 in
theorem gL_law_X9_does : GoodIn wsL_law (wsV RL 129 RX9 yX9_does wsX9_does) := goodIn_app (goodIn_of _ (by decide +kernel)) ggL_law_X9_does
set_option maxRecDepth 20000 in
theorem ggL_law_X10_does : GoodIn wsL_law wsX10_does := goodIn_r _ [947, 122, 927, 928, 5, 929, 179, 216, 930, 151, 152, 153, 154, 931, 932, 933, 934, 120, 121, 1025, 1026, 1027, 1028, 1029, 1030, 1031, 1032, 1033, 1034, 1035, 1036, 1037, 1038, 1039, 1040, 1041, 1042, 1043, 1044, 1045, 1046, 1047, 1048, 1049, 1050, 1051, 1052, 1053, 1054, 1055, 1056, 1057, 1058, 1059, 1060, 1061, 1062, 1063, 1064] (by decide +kernel) (by decide +kernel)
set_option maxRecDepth 20000 in
theorem gL_law_X10_does : GoodIn wsL_law (wsV RL 132 RX10 yX10_does wsX10_does) := goodIn_app (goodIn_of _ (by decide +kernel)) ggL_law_X10_does
set_option maxRecDepth 20000 in
theorem ggL_law_X9_believed : GoodIn wsL_law wsX9_believed := goodIn_r _ [951, 952, 953, 15, 440, 441, 2, 442, 137, 138, 139, 954, 955, 956, 14, 957, 41, 588, 593, 444, 445, 446, 48, 49, 447, 199, 200, 40, 201, 63, 64, 65, 62, 66, 61, 196, 197, 202, 203, 204, 205, 85, 86, 87, 448, 449, 450, 451, 189, 452, 453, 454, 455, 456, 457, 458, 459, 460, 461, 462, 463, 464, 465, 466, 467, 468, 469, 470, 471, 472, 473, 68, 474, 475, 476, 477, 67, 478, 479, 480, 481, 413, 414, 415, 47, 482, 483, 484, 18, 485, 267, 79, 486, 487, 488, 298, 299, 300, 301, 302, 303, 304, 305, 306, 307, 308, 309, 310, 311, 312, 313, 314, 315, 316, 317, 318, 319, 320, 321, 322, 323, 324, 325, 326, 327, 328, 329, 330, 331, 332, 333, 334, 335, 336, 337, 338, 339, 340, 341, 342, 343, 344, 345, 346, 347, 348, 349, 350, 351, 352, 353, 354, 355, 356, 357, 358, 359, 360, 361, 362, 363, 364, 365, 366, 367, 368, 369, 370, 371, 372, 373, 374, 375, 376, 377, 378, 379, 380, 381, 382, 383, 384, 385, 386, 489, 490, 491, 492, 493, 387, 388, 594, 1019, 1020, 1021, 1022, 1023, 1024, 1065, 1066, 1067, 1068, 1069, 1070, 1071, 1082, 1083, 1084, 1085, 1086, 1087, 1088, 1089, 1090, 1072, 1073] (by decide +kernel) (by decide +kernel)
set_option maxRecDepth 20000 in
theorem gL_law_X9_believed : GoodIn wsL_law (wsV RL 133 RX9 yX9_believed wsX9_believed) := goodIn_app (goodIn_of _ (by decide +kernel)) ggL_law_X9_believed
set_option maxRecDepth 20000 in
theorem ggL_law_X10_believed : GoodIn wsL_law wsX10_believed := goodIn_r _ [961, 962, 930, 963, 217, 107, 498, 499, 5, 500, 246, 152, 153, 154, 501, 502, 503, 504, 108, 130, 505, 506, 507, 508, 103, 102, 509, 510, 511, 512, 513, 514, 515, 110, 111, 112, 516, 517, 518, 519, 113, 114, 115, 251, 252, 253, 254, 104, 105, 106, 255, 256, 257, 258, 520, 521, 522, 523, 524, 525, 526, 527, 528, 529, 530, 531, 129, 532, 533, 534, 535, 1025, 1026, 1027, 1028, 1029, 1030, 1031, 1032, 1033, 1034, 1035, 1036, 1037, 1038, 1039, 1040, 1041, 1042, 1043, 1044, 1045, 1046, 1047, 1048, 1049, 1050, 1051, 1052, 1053, 1054, 1055, 1056, 1057, 1058, 1059, 1060, 1061, 1062, 1063, 1064] (by decide +kernel) (by decide +kernel)
set_option maxRecDepth 20000 in
theorem gL_law_X10_believed : GoodIn wsL_law (wsV RL 137 RX10 yX10_believed wsX10_believed) := goodIn_app (goodIn_of _ (by decide +kernel)) ggL_law_X10_believed
set_option maxRecDepth 20000 in
theorem ggL_law_X9_image : GoodIn wsL_law wsX9_image := goodIn_r _ [967, 20, 12, 13, 14, 15, 137, 138, 2, 139, 30, 31, 32, 33, 10, 11, 34, 35, 36, 37, 38, 39, 40, 41, 42, 43, 44, 45, 46, 47, 48, 49, 50, 17, 18, 51, 52, 53, 54, 55, 56, 57, 58, 59, 60, 61, 62, 63, 64, 65, 66, 67, 68, 69, 70, 71, 72, 73, 74, 75, 76, 77, 78, 79, 968, 969, 970, 971, 972, 973, 974, 975, 976, 977, 978, 979, 189, 420, 421, 422, 331, 86, 332, 423, 424, 425, 426, 980, 981, 982, 983, 815, 481, 413, 414, 415, 984, 417, 418, 419, 267, 1019, 1020, 1021, 1022, 1023, 1024, 1065, 1066, 1067, 1068, 1069, 1070, 1071, 1079, 1080, 1081, 1082, 1083, 1084, 1085, 1086, 1087, 1088, 1089, 1090, 1091, 1092, 1093, 1094, 1095, 1072, 1073] (by decide +kernel) (by decide +kernel)
set_option maxRecDepth 20000 in
theorem gL_law_X9_image : GoodIn wsL_law (wsV RL 138 RX9 yX9_image wsX9_image) := goodIn_app (goodIn_of _ (by decide +kernel)) ggL_law_X9_image
set_option maxRecDepth 20000 in
theorem ggL_law_X10_image : GoodIn wsL_law wsX10_image := goodIn_r _ [988, 989, 990, 125, 218, 219, 5, 220, 152, 153, 154, 991, 992, 993, 994, 126, 127, 128, 217, 129, 130, 131, 820, 102, 103, 104, 105, 106, 107, 108, 110, 111, 112, 113, 114, 115, 116, 117, 118, 119, 995, 996, 997, 998, 123, 1025, 1026, 1027, 1028, 1029, 1030, 1031, 1032, 1033, 1034, 1035, 1036, 1037, 1038, 1039, 1040, 1041, 1042, 1043, 1044, 1045, 1046, 1047, 1048, 1049, 1050, 1051, 1052, 1053, 1054, 1055, 1056, 1057, 1058, 1059, 1060, 1061, 1062, 1063, 1064] (by decide +kernel) (by decide +kernel)
set_option maxRecDepth 20000 in
theorem gL_law_X10_image : GoodIn wsL_law (wsV RL 141 RX10 yX10_image wsX10_image) := goodIn_app (goodIn_of _ (by decide +kernel)) ggL_law_X10_image
set_option maxRecDepth 20000 in
theorem ggL_law_X9_restore : GoodIn wsL_law wsX9_restore := goodIn_r _ [1002, 20, 15, 137, 138, 2, 139, 968, 969, 970, 14, 971, 37, 41, 45, 47, 48, 49, 50, 972, 973, 974, 36, 975, 54, 55, 56, 976, 977, 978, 40, 979, 189, 61, 62, 63, 64, 65, 66, 67, 68, 420, 421, 422, 331, 86, 332, 423, 424, 425, 426, 980, 981, 982, 44, 983, 815, 72, 73, 74, 75, 481, 413, 414, 415, 984, 417, 418, 18, 419, 267, 79, 1019, 1020, 1021, 1022, 1023, 1024, 1065, 1066, 1067, 1068, 1069, 1070, 1071, 1079, 1080, 1081, 1082, 1083, 1084, 1085, 1086, 1087, 1088, 1089, 1090, 1091, 1092, 1093, 1094, 1095, 1072, 1073] (by decide +kernel) (by decide +kernel)
set_option maxRecDepth 20000 in
theorem gL_law_X9_restore : GoodIn wsL_law (wsV RL 142 RX9 yX9_restore wsX9_restore) := goodIn_app (goodIn_of _ (by decide +kernel)) ggL_law_X9_restore
set_option maxRecDepth 20000 in
theorem ggL_law_X10_restore : GoodIn wsL_law wsX10_restore := goodIn_r _ [1006, 125, 989, 990, 218, 219, 5, 220, 152, 153, 154, 991, 992, 993, 994, 126, 127, 128, 217, 129, 130, 131, 820, 102, 103, 104, 105, 106, 107, 108, 110, 111, 112, 113, 114, 115, 116, 117, 118, 119, 995, 996, 997, 998, 123, 1025, 1026, 1027, 1028, 1029, 1030, 1031, 1032, 1033, 1034, 1035, 1036, 1037, 1038, 1039, 1040, 1041, 1042, 1043, 1044, 1045, 1046, 1047, 1048, 1049, 1050, 1051, 1052, 1053, 1054, 1055, 1056, 1057, 1058, 1059, 1060, 1061, 1062, 1063, 1064] (by decide +kernel) (by decide +kernel)
set_option maxRecDepth 20000 in
theorem gL_law_X10_restore : GoodIn wsL_law (wsV RL 145 RX10 yX10_restore wsX10_restore) := goodIn_app (goodIn_of _ (by decide +kernel)) ggL_law_X10_restore
set_option maxRecDepth 20000 in
theorem ggL_law_X9_told : GoodIn wsL_law wsX9_told := goodIn_r _ [1010, 15, 184, 1011, 19, 411, 136, 1012, 174, 540, 567, 568, 807, 1013, 137, 138, 2, 139, 412, 413, 414, 14, 415, 47, 427, 428, 429, 18, 430, 267, 79, 196, 197, 1019, 1020, 1021, 1022, 1023, 1024, 1065, 1066, 1067, 1068, 1069, 1070, 1071, 1082, 1083, 1084, 1085, 1086, 1087, 1088, 1089, 1090, 1072, 1073, 1079, 1080, 1081, 1091, 1092, 1093, 1094, 1095] (by decide +kernel) (by decide +kernel)
set_option maxRecDepth 20000 in
theorem gL_law_X9_told : GoodIn wsL_law (wsV RL 146 RX9 yX9_told wsX9_told) := goodIn_app (goodIn_of _ (by decide +kernel)) ggL_law_X9_told
set_option maxRecDepth 20000 in
theorem ggL_law_X10_told : GoodIn wsL_law wsX10_told := goodIn_r _ [1017, 575, 1018, 110, 217, 274, 127, 128, 129, 130, 131, 820, 152, 153, 5, 154, 1025, 1026, 1027, 1028, 1029, 1030, 1031, 1032, 1033, 1034, 1035, 1036, 1037, 1038, 1039, 1040, 1041, 1042, 1043, 1044, 1045, 1046, 1047, 1048, 1049, 1050, 1051, 1052, 1053, 1054, 1055, 1056, 1057, 1058, 1059, 1060, 1061, 1062, 1063, 1064] (by decide +kernel) (by decide +kernel)
set_option maxRecDepth 20000 in
theorem gL_law_X10_told : GoodIn wsL_law (wsV RL 149 RX10 yX10_told wsX10_told) := goodIn_app (goodIn_of _ (by decide +kernel)) ggL_law_X10_told
