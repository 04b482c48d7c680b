set_option maxRecDepth 20000 in
theorem ggL_law_X11_init : GoodIn wsL_law wsX11_init := goodIn_r _ [9, 10, 11, 12, 13, 14, 15, 16, 17, 18, 19, 20, 21, 22, 23, 24, 25, 26, 27, 28, 29, 30, 31, 32, 33, 34, 35, 36, 37, 38, 39, 40, 41, 42, 43, 44, 45, 46, 47, 48, 49, 50, 51, 52, 53, 54, 55, 56, 57, 58, 59, 60, 61, 62, 63, 64, 65, 66, 67, 68, 69, 70, 71, 72, 73, 74, 75, 76, 77, 78, 79, 80, 81, 82, 83, 84, 85, 86, 87, 88, 89, 90, 91, 92, 93, 94, 95, 96, 97, 98, 99, 100, 101, 102, 103, 104, 105, 106, 107, 108, 109, 110, 111, 112, 113, 114, 115, 116, 117, 118, 119, 120, 121, 122, 123, 1021, 1022, 1023, 1024, 1025, 1026, 1027, 1028, 1029, 1030, 1031, 1032, 1067, 1068, 1069, 1070, 1071, 1072, 1073, 1074, 1075, 1076, 1077, 1078, 1079, 1080, 1081, 1082, 1083, 1084, 1085, 1086, 1087, 1088, 1089, 1090, 1091, 1092, 1093, 1094, 1095, 1096, 1097, 1098, 1099, 1100, 1101, 1102, 1103] (by decide +kernel) (by decide +kernel)
set_option maxRecDepth 20000 in
theorem gL_law_X11_init : GoodIn wsL_law (wsX11_init) := ggL_law_X11_init
set_option maxRecDepth 20000 in
theorem ggL_law_X12_init : GoodIn wsL_law wsX12_init := goodIn_r _ [126, 127, 11, 12, 74, 128, 129, 130, 131, 132, 133, 134, 135, 136, 137, 138, 139, 140, 141, 122, 142, 143, 144, 145, 146, 147, 148, 149, 150, 151, 152, 1033, 1034, 1035, 1036, 1037, 1038, 1039, 1040, 1041, 1042, 1043, 1044, 1045, 1046, 1047, 1048, 1049, 1050, 1051, 1052, 1053, 1054, 1055, 1056, 1057, 1058, 1059, 1060, 1061, 1062, 1063, 1064, 1065, 1066] (by decide +kernel) (by decide +kernel)
set_option maxRecDepth 20000 in
theorem gL_law_X12_init : GoodIn wsL_law (wsX12_init) := ggL_law_X12_init
set_option maxRecDepth 20000 in
theorem ggL_law_X11_place : GoodIn wsL_law wsX11_place := goodIn_r _ [156, 32, 157, 158, 159, 160, 2, 161, 54, 55, 53, 29, 30, 31, 69, 70, 71, 11, 12, 72, 73, 74, 75, 76, 77, 78, 79, 162, 163, 164, 165, 166, 167, 168, 169, 1021, 1022, 1023, 1024, 1025, 1026, 1027, 1028, 1029, 1030, 1031, 1032, 1067, 1068, 1069, 1070, 1071, 1072, 1073] (by decide +kernel) (by decide +kernel)
set_option maxRecDepth 20000 in
theorem gL_law_X11_place : GoodIn wsL_law (wsV RL 13 RX11 yX11_place wsX11_place) := goodIn_app (goodIn_of _ (by decide +kernel)) ggL_law_X11_place
set_option maxRecDepth 20000 in
theorem ggL_law_X12_place : GoodIn wsL_law wsX12_place := goodIn_r _ [173, 174, 175, 176, 177, 178, 5, 179, 180, 135, 136, 137, 181, 128, 129, 130, 131, 132, 134, 1033, 1034, 1035, 1036, 1037, 1038, 1039, 1040, 1041, 1042, 1043, 1044, 1045, 1046, 1047, 1048, 1049, 1050, 1051, 1052, 1053, 1054, 1055, 1056, 1057, 1058, 1059, 1060, 1061, 1062, 1063, 1064, 1065, 1066] (by decide +kernel) (by decide +kernel)
set_option maxRecDepth 20000 in
theorem gL_law_X12_place : GoodIn wsL_law (wsV RL 17 RX12 yX12_place wsX12_place) := goodIn_app (goodIn_of _ (by decide +kernel)) ggL_law_X12_place
set_option maxRecDepth 20000 in
theorem ggL_law_X11_line : GoodIn wsL_law wsX11_line := goodIn_r _ [185, 56, 28, 186, 187, 188, 2, 189, 190, 32, 191, 192, 193, 194, 195, 196, 31, 197, 198, 199, 200, 201, 72, 158, 159, 160, 161, 54, 55, 53, 29, 30, 69, 70, 71, 11, 12, 73, 74, 75, 76, 77, 78, 79, 162, 163, 164, 165, 166, 167, 168, 169, 202, 203, 204, 205, 15, 206, 207, 208, 209, 210, 211, 212, 27, 213, 214, 215, 216, 217, 218, 219, 220, 221, 222, 223, 224, 225, 226, 227, 228, 229, 230, 231, 232, 233, 234, 235, 236, 1021, 1022, 1023, 1024, 1025, 1026, 1027, 1028, 1029, 1030, 1031, 1032, 1067, 1068, 1069, 1070, 1071, 1072, 1073] (by decide +kernel) (by decide +kernel)
set_option maxRecDepth 20000 in
theorem gL_law_X11_line : GoodIn wsL_law (wsV RL 18 RX11 yX11_line wsX11_line) := goodIn_app (goodIn_of _ (by decide +kernel)) ggL_law_X11_line
set_option maxRecDepth 20000 in
theorem ggL_law_X12_line : GoodIn wsL_law wsX12_line := goodIn_r _ [240, 174, 181, 241, 242, 243, 5, 244, 245, 175, 246, 247, 248, 249, 250, 176, 177, 178, 179, 180, 135, 136, 137, 128, 129, 130, 131, 132, 134, 251, 252, 253, 254, 255, 256, 1033, 1034, 1035, 1036, 1037, 1038, 1039, 1040, 1041, 1042, 1043, 1044, 1045, 1046, 1047, 1048, 1049, 1050, 1051, 1052, 1053, 1054, 1055, 1056, 1057, 1058, 1059, 1060, 1061, 1062, 1063, 1064, 1065, 1066] (by decide +kernel) (by decide +kernel)
set_option maxRecDepth 20000 in
theorem gL_law_X12_line : GoodIn wsL_law (wsV RL 22 RX12 yX12_line wsX12_line) := goodIn_app (goodIn_of _ (by decide +kernel)) ggL_law_X12_line
set_option maxRecDepth 20000 in
theorem ggL_law_X11_widen : GoodIn wsL_law wsX11_widen := goodIn_r _ [260, 32, 28, 261, 262, 263, 56, 264, 265, 266, 31, 267, 73, 268, 269, 270, 271, 272, 24, 273, 274, 275, 276, 15, 277, 278, 279, 280, 27, 281, 282, 283, 284, 285, 286, 287, 288, 289, 76, 158, 159, 160, 2, 161, 54, 55, 53, 29, 30, 69, 70, 71, 11, 12, 72, 74, 75, 77, 78, 79, 162, 163, 164, 165, 166, 167, 168, 169, 290, 291, 292, 293, 294, 295, 296, 297, 298, 299, 300, 301, 302, 303, 304, 305, 306, 307, 1021, 1022, 1023, 1024, 1025, 1026, 1027, 1028, 1029, 1030, 1031, 1032, 1067, 1068, 1069, 1070, 1071, 1072, 1073] (by decide +kernel) (by decide +kernel)
set_option maxRecDepth 20000 in
theorem gL_law_X11_widen : GoodIn wsL_law (wsV RL 23 RX11 yX11_widen wsX11_widen) := goodIn_app (goodIn_of _ (by decide +kernel)) ggL_law_X11_widen
set_option maxRecDepth 20000 in
theorem ggL_law_X12_widen : GoodIn wsL_law wsX12_widen := goodIn_r _ [311, 174, 246, 134, 131, 255, 312, 313, 314, 5, 315, 181, 248, 249, 250, 316, 317, 318, 319, 128, 132, 176, 177, 178, 179, 180, 135, 136, 137, 175, 129, 130, 320, 321, 322, 323, 324, 325, 1033, 1034, 1035, 1036, 1037, 1038, 1039, 1040, 1041, 1042, 1043, 1044, 1045, 1046, 1047, 1048, 1049, 1050, 1051, 1052, 1053, 1054, 1055, 1056, 1057, 1058, 1059, 1060, 1061, 1062, 1063, 1064, 1065, 1066] (by decide +kernel) (by decide +kernel)
set_option maxRecDepth 20000 in
theorem gL_law_X12_widen : GoodIn wsL_law (wsV RL 27 RX12 yX12_widen wsX12_widen) := goodIn_app (goodIn_of _ (by decide +kernel)) ggL_law_X12_widen
set_option maxRecDepth 20000 in
theorem ggL_law_X11_width : GoodIn wsL_law wsX11_width := goodIn_r _ [329, 32, 263, 264, 265, 266, 31, 267, 73, 286, 287, 288, 289, 76, 158, 159, 160, 2, 161, 54, 55, 53, 29, 30, 69, 70, 71, 11, 12, 72, 74, 75, 77, 78, 79, 162, 163, 164, 165, 166, 167, 168, 169, 1021, 1022, 1023, 1024, 1025, 1026, 1027, 1028, 1029, 1030, 1031, 1032, 1067, 1068, 1069, 1070, 1071, 1072, 1073] (by decide +kernel) (by decide +kernel)
set_option maxRecDepth 20000 in
theorem gL_law_X11_width : GoodIn wsL_law (wsV RL 28 RX11 yX11_width wsX11_width) := goodIn_app (goodIn_of _ (by decide +kernel)) ggL_law_X11_width
set_option maxRecDepth 20000 in
theorem ggL_law_X12_width : GoodIn wsL_law wsX12_width := goodIn_r _ [333, 174, 246, 134, 131, 312, 313, 314, 5, 315, 181, 248, 249, 250, 176, 177, 178, 179, 180, 135, 136, 137, 175, 128, 129, 130, 132, 1033, 1034, 1035, 1036, 1037, 1038, 1039, 1040, 1041, 1042, 1043, 1044, 1045, 1046, 1047, 1048, 1049, 1050, 1051, 1052, 1053, 1054, 1055, 1056, 1057, 1058, 1059, 1060, 1061, 1062, 1063, 1064, 1065, 1066] (by decide +kernel) (by decide +kernel)
set_option maxRecDepth 20000 in
theorem gL_law_X12_width : GoodIn wsL_law (wsV RL 31 RX12 yX12_width wsX12_width) := goodIn_app (goodIn_of _ (by decide +kernel)) ggL_law_X12_width
