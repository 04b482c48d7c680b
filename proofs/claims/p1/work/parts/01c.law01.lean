set_option maxRecDepth 20000 in
theorem ggL_law_X11_merge : GoodIn wsL_law wsX11_merge := goodIn_r _ [337, 32, 338, 339, 340, 341, 342, 343, 344, 194, 195, 196, 31, 197, 198, 199, 200, 201, 72, 158, 159, 160, 2, 161, 54, 55, 53, 29, 30, 69, 70, 71, 11, 12, 73, 74, 75, 76, 77, 78, 79, 162, 163, 164, 165, 166, 167, 168, 169, 345, 346, 347, 348, 349, 287, 288, 289, 350, 351, 352, 1021, 1022, 1023, 1024, 1025, 1026, 1027, 1028, 1029, 1030, 1031, 1032, 1067, 1068, 1069, 1070, 1071, 1072, 1073] (by decide +kernel) (by decide +kernel)
set_option maxRecDepth 20000 in
theorem gL_law_X11_merge : GoodIn wsL_law (wsV RL 32 RX11 yX11_merge wsX11_merge) := goodIn_app (goodIn_of _ (by decide +kernel)) ggL_law_X11_merge
set_option maxRecDepth 20000 in
theorem ggL_law_X12_merge : GoodIn wsL_law wsX12_merge := goodIn_r _ [356, 174, 181, 134, 129, 130, 175, 357, 358, 359, 5, 360, 361, 362, 363, 364, 248, 249, 250, 176, 177, 178, 179, 180, 135, 136, 137, 128, 131, 132, 1033, 1034, 1035, 1036, 1037, 1038, 1039, 1040, 1041, 1042, 1043, 1044, 1045, 1046, 1047, 1048, 1049, 1050, 1051, 1052, 1053, 1054, 1055, 1056, 1057, 1058, 1059, 1060, 1061, 1062, 1063, 1064, 1065, 1066] (by decide +kernel) (by decide +kernel)
set_option maxRecDepth 20000 in
theorem gL_law_X12_merge : GoodIn wsL_law (wsV RL 35 RX12 yX12_merge wsX12_merge) := goodIn_app (goodIn_of _ (by decide +kernel)) ggL_law_X12_merge
set_option maxRecDepth 20000 in
theorem ggL_law_X11_undo : GoodIn wsL_law wsX11_undo := goodIn_r _ [368, 55, 53, 54, 32, 162, 163, 164, 31, 165, 72, 73, 75, 166, 167, 168, 169, 76, 77, 78, 79, 1021, 1022, 1023, 1024, 1025, 1026, 1027, 1028, 1029, 1030, 1031, 1032, 1067, 1068, 1069, 1070, 1071, 1072, 1073] (by decide +kernel) (by decide +kernel)
set_option maxRecDepth 20000 in
theorem gL_law_X11_undo : GoodIn wsL_law (wsV RL 36 RX11 yX11_undo wsX11_undo) := goodIn_app (goodIn_of _ (by decide +kernel)) ggL_law_X11_undo
set_option maxRecDepth 20000 in
theorem ggL_law_X12_undo : GoodIn wsL_law wsX12_undo := goodIn_r _ [372, 174, 180, 135, 175, 136, 181, 128, 137, 129, 130, 131, 132, 134, 1033, 1034, 1035, 1036, 1037, 1038, 1039, 1040, 1041, 1042, 1043, 1044, 1045, 1046, 1047, 1048, 1049, 1050, 1051, 1052, 1053, 1054, 1055, 1056, 1057, 1058, 1059, 1060, 1061, 1062, 1063, 1064, 1065, 1066] (by decide +kernel) (by decide +kernel)
set_option maxRecDepth 20000 in
theorem gL_law_X12_undo : GoodIn wsL_law (wsV RL 39 RX12 yX12_undo wsX12_undo) := goodIn_app (goodIn_of _ (by decide +kernel)) ggL_law_X12_undo
set_option maxRecDepth 20000 in
theorem ggL_law_X11_told : GoodIn wsL_law wsX11_told := goodIn_r _ [376, 32, 261, 377, 378, 263, 262, 264, 265, 266, 31, 267, 73, 286, 287, 288, 289, 76, 1021, 1022, 1023, 1024, 1025, 1026, 1027, 1028, 1029, 1030, 1031, 1032, 1067, 1068, 1069, 1070, 1071, 1072, 1073] (by decide +kernel) (by decide +kernel)
set_option maxRecDepth 20000 in
theorem gL_law_X11_told : GoodIn wsL_law (wsV RL 40 RX11 yX11_told wsX11_told) := goodIn_app (goodIn_of _ (by decide +kernel)) ggL_law_X11_told
set_option maxRecDepth 20000 in
theorem ggL_law_X12_told : GoodIn wsL_law wsX12_told := goodIn_r _ [382, 174, 383, 134, 128, 129, 130, 131, 132, 312, 313, 314, 5, 315, 181, 248, 249, 250, 1033, 1034, 1035, 1036, 1037, 1038, 1039, 1040, 1041, 1042, 1043, 1044, 1045, 1046, 1047, 1048, 1049, 1050, 1051, 1052, 1053, 1054, 1055, 1056, 1057, 1058, 1059, 1060, 1061, 1062, 1063, 1064, 1065, 1066] (by decide +kernel) (by decide +kernel)
set_option maxRecDepth 20000 in
theorem gL_law_X12_told : GoodIn wsL_law (wsV RL 43 RX12 yX12_told wsX12_told) := goodIn_app (goodIn_of _ (by decide +kernel)) ggL_law_X12_told
set_option maxRecDepth 20000 in
theorem ggL_law_X11_ask : GoodIn wsL_law wsX11_ask := goodIn_r _ [387, 32, 28, 261, 56, 262, 263, 264, 265, 266, 31, 267, 73, 290, 291, 292, 293, 294, 24, 295, 296, 297, 298, 15, 299, 300, 301, 302, 27, 303, 304, 305, 306, 284, 307, 268, 269, 270, 271, 272, 273, 274, 275, 276, 277, 278, 279, 280, 281, 282, 283, 285, 388, 389, 390, 391, 392, 393, 394, 395, 18, 396, 397, 398, 399, 400, 401, 402, 403, 21, 404, 405, 406, 407, 408, 409, 410, 411, 412, 413, 414, 415, 416, 417, 418, 419, 420, 1021, 1022, 1023, 1024, 1025, 1026, 1027, 1028, 1029, 1030, 1031, 1032, 1067, 1068, 1069, 1070, 1071, 1072, 1073] (by decide +kernel) (by decide +kernel)
set_option maxRecDepth 20000 in
theorem gL_law_X11_ask : GoodIn wsL_law (wsV RL 44 RX11 yX11_ask wsX11_ask) := goodIn_app (goodIn_of _ (by decide +kernel)) ggL_law_X11_ask
set_option maxRecDepth 20000 in
theorem ggL_law_X12_ask : GoodIn wsL_law wsX12_ask := goodIn_r _ [424, 174, 425, 255, 128, 247, 426, 427, 312, 313, 314, 5, 315, 181, 248, 249, 250, 320, 321, 322, 323, 324, 325, 246, 316, 317, 318, 319, 132, 428, 429, 430, 431, 131, 1033, 1034, 1035, 1036, 1037, 1038, 1039, 1040, 1041, 1042, 1043, 1044, 1045, 1046, 1047, 1048, 1049, 1050, 1051, 1052, 1053, 1054, 1055, 1056, 1057, 1058, 1059, 1060, 1061, 1062, 1063, 1064, 1065, 1066] (by decide +kernel) (by decide +kernel)
set_option maxRecDepth 20000 in
theorem gL_law_X12_ask : GoodIn wsL_law (wsV RL 47 RX12 yX12_ask wsX12_ask) := goodIn_app (goodIn_of _ (by decide +kernel)) ggL_law_X12_ask
set_option maxRecDepth 20000 in
theorem ggL_law_X11_most : GoodIn wsL_law wsX11_most := goodIn_r _ [435, 32, 194, 195, 196, 31, 197, 198, 199, 200, 201, 72, 436, 437, 438, 2, 439, 36, 440, 441, 442, 35, 443, 92, 444, 85, 445, 446, 93, 447, 88, 89, 448, 449, 450, 451, 452, 453, 454, 287, 288, 289, 76, 455, 406, 407, 408, 15, 409, 410, 411, 412, 18, 413, 414, 398, 456, 416, 417, 418, 419, 21, 420, 457, 458, 459, 460, 461, 462, 463, 464, 87, 86, 465, 167, 168, 169, 466, 467, 468, 469, 90, 470, 471, 472, 473, 91, 474, 475, 476, 477, 478, 479, 339, 340, 341, 480, 481, 482, 483, 1021, 1022, 1023, 1024, 1025, 1026, 1027, 1028, 1029, 1030, 1031, 1032, 1067, 1068, 1069, 1070, 1071, 1072, 1073, 1074, 1075, 1076, 1077, 1078, 1079, 1080, 1081, 1082] (by decide +kernel) (by decide +kernel)
set_option maxRecDepth 20000 in
theorem gL_law_X11_most : GoodIn wsL_law (wsV RL 48 RX11 yX11_most wsX11_most) := goodIn_app (goodIn_of _ (by decide +kernel)) ggL_law_X11_most
set_option maxRecDepth 20000 in
theorem ggL_law_X12_most : GoodIn wsL_law wsX12_most := goodIn_r _ [487, 174, 357, 358, 359, 5, 360, 361, 362, 363, 364, 175, 248, 249, 250, 488, 489, 490, 491, 492, 493, 494, 495, 496, 181, 134, 129, 130, 497, 498, 499, 500, 144, 128, 428, 429, 430, 431, 131, 501, 502, 503, 1033, 1034, 1035, 1036, 1037, 1038, 1039, 1040, 1041, 1042, 1043, 1044, 1045, 1046, 1047, 1048, 1049, 1050, 1051, 1052, 1053, 1054, 1055, 1056, 1057, 1058, 1059, 1060, 1061, 1062, 1063, 1064, 1065, 1066] (by decide +kernel) (by decide +kernel)
set_option maxRecDepth 20000 in
theorem gL_law_X12_most : GoodIn wsL_law (wsV RL 51 RX12 yX12_most wsX12_most) := goodIn_app (goodIn_of _ (by decide +kernel)) ggL_law_X12_most
