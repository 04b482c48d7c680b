set_option maxRecDepth 20000 in
theorem ggL_law_X11_map : GoodIn wsL_law wsX11_map := goodIn_r _ [866, 57, 52, 867, 868, 2, 869, 870, 871, 872, 873, 874, 875, 876, 877, 878, 51, 879, 119, 120, 121, 880, 451, 452, 453, 1021, 1022, 1023, 1024, 1025, 1026, 1027, 1028, 1029, 1030, 1031, 1032, 1100, 1101, 1102, 1103] (by decide +kernel) (by decide +kernel)
set_option maxRecDepth 20000 in
theorem gL_law_X11_map : GoodIn wsL_law (wsV RL 114 RX11 yX11_map wsX11_map) := goodIn_app (goodIn_of _ (by decide +kernel)) ggL_law_X11_map
set_option maxRecDepth 20000 in
theorem ggL_law_X12_map : GoodIn wsL_law wsX12_map := goodIn_r _ [884, 174, 885, 886, 425, 138, 139, 140, 141, 248, 249, 5, 250, 887, 888, 889, 890, 1033, 1034, 1035, 1036, 1037, 1038, 1039, 1040, 1041, 1042, 1043, 1044, 1045, 1046, 1047, 1048, 1049, 1050, 1051, 1052, 1053, 1054, 1055, 1056, 1057, 1058, 1059, 1060, 1061, 1062, 1063, 1064, 1065, 1066] (by decide +kernel) (by decide +kernel)
set_option maxRecDepth 20000 in
theorem gL_law_X12_map : GoodIn wsL_law (wsV RL 117 RX12 yX12_map wsX12_map) := goodIn_app (goodIn_of _ (by decide +kernel)) ggL_law_X12_map
set_option maxRecDepth 20000 in
theorem ggL_law_X11_row : GoodIn wsL_law wsX11_row := goodIn_r _ [894, 57, 52, 895, 896, 897, 2, 898, 870, 871, 872, 899, 900, 901, 51, 902, 120, 903, 904, 905, 906, 907, 908, 909, 910, 121, 123, 1021, 1022, 1023, 1024, 1025, 1026, 1027, 1028, 1029, 1030, 1031, 1032, 1100, 1101, 1102, 1103] (by decide +kernel) (by decide +kernel)
set_option maxRecDepth 20000 in
theorem gL_law_X11_row : GoodIn wsL_law (wsV RL 118 RX11 yX11_row wsX11_row) := goodIn_app (goodIn_of _ (by decide +kernel)) ggL_law_X11_row
set_option maxRecDepth 20000 in
theorem ggL_law_X12_row : GoodIn wsL_law wsX12_row := goodIn_r _ [914, 174, 885, 886, 138, 140, 141, 142, 248, 249, 5, 250, 887, 888, 889, 890, 1033, 1034, 1035, 1036, 1037, 1038, 1039, 1040, 1041, 1042, 1043, 1044, 1045, 1046, 1047, 1048, 1049, 1050, 1051, 1052, 1053, 1054, 1055, 1056, 1057, 1058, 1059, 1060, 1061, 1062, 1063, 1064, 1065, 1066] (by decide +kernel) (by decide +kernel)
set_option maxRecDepth 20000 in
theorem gL_law_X12_row : GoodIn wsL_law (wsV RL 121 RX12 yX12_row wsX12_row) := goodIn_app (goodIn_of _ (by decide +kernel)) ggL_law_X12_row
set_option maxRecDepth 20000 in
theorem ggL_law_X11_put : GoodIn wsL_law wsX11_put := goodIn_r _ [918, 57, 52, 919, 920, 921, 2, 922, 923, 924, 870, 871, 872, 873, 874, 875, 899, 900, 901, 51, 902, 120, 903, 904, 905, 906, 925, 926, 927, 928, 119, 123, 1021, 1022, 1023, 1024, 1025, 1026, 1027, 1028, 1029, 1030, 1031, 1032, 1100, 1101, 1102, 1103] (by decide +kernel) (by decide +kernel)
set_option maxRecDepth 20000 in
theorem gL_law_X11_put : GoodIn wsL_law (wsV RL 124 RX11 yX11_put wsX11_put) := goodIn_app (goodIn_of _ (by decide +kernel)) ggL_law_X11_put
set_option maxRecDepth 20000 in
theorem ggL_law_X12_put : GoodIn wsL_law wsX12_put := goodIn_r _ [932, 174, 885, 142, 933, 934, 935, 5, 936, 886, 425, 138, 139, 140, 141, 248, 249, 250, 887, 888, 889, 890, 1033, 1034, 1035, 1036, 1037, 1038, 1039, 1040, 1041, 1042, 1043, 1044, 1045, 1046, 1047, 1048, 1049, 1050, 1051, 1052, 1053, 1054, 1055, 1056, 1057, 1058, 1059, 1060, 1061, 1062, 1063, 1064, 1065, 1066] (by decide +kernel) (by decide +kernel)
set_option maxRecDepth 20000 in
theorem gL_law_X12_put : GoodIn wsL_law (wsV RL 128 RX12 yX12_put wsX12_put) := goodIn_app (goodIn_of _ (by decide +kernel)) ggL_law_X12_put
set_option maxRecDepth 20000 in
theorem ggL_law_X11_copy : GoodIn wsL_law wsX11_copy := goodIn_r _ [940, 52, 57, 870, 871, 2, 872, 941, 942, 943, 51, 944, 121, 945, 900, 901, 902, 120, 946, 904, 905, 906, 947, 948, 949, 950, 951, 952, 953, 954, 123, 955, 167, 168, 169, 1021, 1022, 1023, 1024, 1025, 1026, 1027, 1028, 1029, 1030, 1031, 1032, 1100, 1101, 1102, 1103] (by decide +kernel) (by decide +kernel)
set_option maxRecDepth 20000 in
theorem gL_law_X11_copy : GoodIn wsL_law (wsV RL 129 RX11 yX11_copy wsX11_copy) := goodIn_app (goodIn_of _ (by decide +kernel)) ggL_law_X11_copy
set_option maxRecDepth 20000 in
theorem ggL_law_X12_copy : GoodIn wsL_law wsX12_copy := goodIn_r _ [959, 174, 885, 886, 138, 140, 141, 143, 142, 248, 249, 5, 250, 887, 888, 889, 890, 960, 961, 962, 1033, 1034, 1035, 1036, 1037, 1038, 1039, 1040, 1041, 1042, 1043, 1044, 1045, 1046, 1047, 1048, 1049, 1050, 1051, 1052, 1053, 1054, 1055, 1056, 1057, 1058, 1059, 1060, 1061, 1062, 1063, 1064, 1065, 1066] (by decide +kernel) (by decide +kernel)
set_option maxRecDepth 20000 in
theorem gL_law_X12_copy : GoodIn wsL_law (wsV RL 133 RX12 yX12_copy wsX12_copy) := goodIn_app (goodIn_of _ (by decide +kernel)) ggL_law_X12_copy
set_option maxRecDepth 20000 in
theorem ggL_law_X11_item : GoodIn wsL_law wsX11_item := goodIn_r _ [966, 57, 52, 919, 920, 921, 2, 922, 923, 924, 870, 871, 872, 873, 874, 875, 899, 900, 901, 51, 902, 120, 903, 904, 905, 906, 967, 968, 969, 970, 123, 1021, 1022, 1023, 1024, 1025, 1026, 1027, 1028, 1029, 1030, 1031, 1032, 1100, 1101, 1102, 1103] (by decide +kernel) (by decide +kernel)
set_option maxRecDepth 20000 in
theorem gL_law_X11_item : GoodIn wsL_law (wsV RL 134 RX11 yX11_item wsX11_item) := goodIn_app (goodIn_of _ (by decide +kernel)) ggL_law_X11_item
set_option maxRecDepth 20000 in
theorem ggL_law_X12_item : GoodIn wsL_law wsX12_item := goodIn_r _ [974, 174, 885, 142, 933, 934, 935, 5, 936, 886, 425, 138, 139, 140, 141, 248, 249, 250, 1033, 1034, 1035, 1036, 1037, 1038, 1039, 1040, 1041, 1042, 1043, 1044, 1045, 1046, 1047, 1048, 1049, 1050, 1051, 1052, 1053, 1054, 1055, 1056, 1057, 1058, 1059, 1060, 1061, 1062, 1063, 1064, 1065, 1066] (by decide +kernel) (by decide +kernel)
set_option maxRecDepth 20000 in
theorem gL_law_X12_item : GoodIn wsL_law (wsV RL 138 RX12 yX12_item wsX12_item) := goodIn_app (goodIn_of _ (by decide +kernel)) ggL_law_X12_item
