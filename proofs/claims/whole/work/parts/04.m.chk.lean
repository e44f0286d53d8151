theorem zw_60 : ∀ w ∈ zmw 60, w ∈ lw_tbl := z_sub [979, 79, 977, 978] (by decide +kernel)
theorem zk_60 : zmk 60 = true := by decide +kernel
theorem zw_61 : ∀ w ∈ zmw 61, w ∈ lw_tbl := z_sub [1002, 79, 1000, 1001] (by decide +kernel)
theorem zk_61 : zmk 61 = true := by decide +kernel
theorem zw_62 : ∀ w ∈ zmw 62, w ∈ lw_tbl := z_sub [1022, 79, 1021, 41] (by decide +kernel)
theorem zk_62 : zmk 62 = true := by decide +kernel
theorem zw_63 : ∀ w ∈ zmw 63, w ∈ lw_tbl := z_sub [1046, 79, 1045, 44] (by decide +kernel)
theorem zk_63 : zmk 63 = true := by decide +kernel
theorem zw_64 : ∀ w ∈ zmw 64, w ∈ lw_tbl := z_sub [1018, 79, 1017, 40] (by decide +kernel)
theorem zk_64 : zmk 64 = true := by decide +kernel
theorem zw_65 : ∀ w ∈ zmw 65, w ∈ lw_tbl := z_sub [1014, 79, 1013, 39] (by decide +kernel)
theorem zk_65 : zmk 65 = true := by decide +kernel
theorem zw_66 : ∀ w ∈ zmw 66, w ∈ lw_tbl := z_sub [1038, 79, 1037, 42] (by decide +kernel)
theorem zk_66 : zmk 66 = true := by decide +kernel
theorem zw_67 : ∀ w ∈ zmw 67, w ∈ lw_tbl := z_sub [1042, 79, 1041, 43] (by decide +kernel)
theorem zk_67 : zmk 67 = true := by decide +kernel
theorem zw_68 : ∀ w ∈ zmw 68, w ∈ lw_tbl := z_sub [1010, 79, 1009, 38] (by decide +kernel)
theorem zk_68 : zmk 68 = true := by decide +kernel
theorem zw_69 : ∀ w ∈ zmw 69, w ∈ lw_tbl := z_sub [1006, 79, 1004, 1005] (by decide +kernel)
theorem zk_69 : zmk 69 = true := by decide +kernel
theorem zw_70 : ∀ w ∈ zmw 70, w ∈ lw_tbl := z_sub [1065, 79, 1064] (by decide +kernel)
theorem zk_70 : zmk 70 = true := by decide +kernel
theorem zw_71 : ∀ w ∈ zmw 71, w ∈ lw_tbl := z_sub [1054, 79, 1053, 45] (by decide +kernel)
theorem zk_71 : zmk 71 = true := by decide +kernel
theorem zw_72 : ∀ w ∈ zmw 72, w ∈ lw_tbl := z_sub [1062, 79, 1061, 47] (by decide +kernel)
theorem zk_72 : zmk 72 = true := by decide +kernel
theorem zw_73 : ∀ w ∈ zmw 73, w ∈ lw_tbl := z_sub [1050, 79, 1048, 1049] (by decide +kernel)
theorem zk_73 : zmk 73 = true := by decide +kernel
theorem zw_74 : ∀ w ∈ zmw 74, w ∈ lw_tbl := z_sub [1072, 79, 1071] (by decide +kernel)
theorem zk_74 : zmk 74 = true := by decide +kernel
theorem zw_75 : ∀ w ∈ zmw 75, w ∈ lw_tbl := z_sub [1076, 79, 1075, 48] (by decide +kernel)
theorem zk_75 : zmk 75 = true := by decide +kernel
theorem zw_76 : ∀ w ∈ zmw 76, w ∈ lw_tbl := z_sub [1080, 79, 1079, 49] (by decide +kernel)
theorem zk_76 : zmk 76 = true := by decide +kernel
theorem zw_77 : ∀ w ∈ zmw 77, w ∈ lw_tbl := z_sub [1069, 79, 1067, 1068] (by decide +kernel)
theorem zk_77 : zmk 77 = true := by decide +kernel
theorem zw_78 : ∀ w ∈ zmw 78, w ∈ lw_tbl := z_sub [1128, 79, 1127, 56] (by decide +kernel)
theorem zk_78 : zmk 78 = true := by decide +kernel
theorem zw_79 : ∀ w ∈ zmw 79, w ∈ lw_tbl := z_sub [1124, 79, 1123, 55] (by decide +kernel)
theorem zk_79 : zmk 79 = true := by decide +kernel
theorem zw_80 : ∀ w ∈ zmw 80, w ∈ lw_tbl := z_sub [1120, 79, 1119, 54] (by decide +kernel)
theorem zk_80 : zmk 80 = true := by decide +kernel
theorem zw_81 : ∀ w ∈ zmw 81, w ∈ lw_tbl := z_sub [1116, 79, 1115, 53] (by decide +kernel)
theorem zk_81 : zmk 81 = true := by decide +kernel
theorem zw_82 : ∀ w ∈ zmw 82, w ∈ lw_tbl := z_sub [1096, 79, 1095, 51] (by decide +kernel)
theorem zk_82 : zmk 82 = true := by decide +kernel
theorem zw_83 : ∀ w ∈ zmw 83, w ∈ lw_tbl := z_sub [1092, 79, 1091, 50] (by decide +kernel)
theorem zk_83 : zmk 83 = true := by decide +kernel
theorem zw_84 : ∀ w ∈ zmw 84, w ∈ lw_tbl := z_sub [1084, 79, 1082, 1083] (by decide +kernel)
theorem zk_84 : zmk 84 = true := by decide +kernel
theorem zw_85 : ∀ w ∈ zmw 85, w ∈ lw_tbl := z_sub [1088, 79, 1086, 1087] (by decide +kernel)
theorem zk_85 : zmk 85 = true := by decide +kernel
theorem zw_86 : ∀ w ∈ zmw 86, w ∈ lw_tbl := z_sub [1100, 79, 1098, 1099] (by decide +kernel)
theorem zk_86 : zmk 86 = true := by decide +kernel
theorem zw_87 : ∀ w ∈ zmw 87, w ∈ lw_tbl := z_sub [1104, 79, 1102, 1103] (by decide +kernel)
theorem zk_87 : zmk 87 = true := by decide +kernel
theorem zw_88 : ∀ w ∈ zmw 88, w ∈ lw_tbl := z_sub [1132, 79, 1131, 57] (by decide +kernel)
theorem zk_88 : zmk 88 = true := by decide +kernel
theorem zw_89 : ∀ w ∈ zmw 89, w ∈ lw_tbl := z_sub [1136, 79, 1135, 58] (by decide +kernel)
theorem zk_89 : zmk 89 = true := by decide +kernel
theorem zw_90 : ∀ w ∈ zmw 90, w ∈ lw_tbl := z_sub [1112, 79, 1111, 52] (by decide +kernel)
theorem zk_90 : zmk 90 = true := by decide +kernel
theorem zw_91 : ∀ w ∈ zmw 91, w ∈ lw_tbl := z_sub [1108, 79, 1106, 1107] (by decide +kernel)
theorem zk_91 : zmk 91 = true := by decide +kernel
theorem zw_92 : ∀ w ∈ zmw 92, w ∈ lw_tbl := z_sub [1148, 79, 1146, 1147] (by decide +kernel)
theorem zk_92 : zmk 92 = true := by decide +kernel
theorem zw_93 : ∀ w ∈ zmw 93, w ∈ lw_tbl := z_sub [1155, 79, 1154] (by decide +kernel)
theorem zk_93 : zmk 93 = true := by decide +kernel
theorem zw_94 : ∀ w ∈ zmw 94, w ∈ lw_tbl := z_sub [1159, 79, 1158, 61] (by decide +kernel)
theorem zk_94 : zmk 94 = true := by decide +kernel
theorem zw_95 : ∀ w ∈ zmw 95, w ∈ lw_tbl := z_sub [1163, 79, 1162, 62] (by decide +kernel)
theorem zk_95 : zmk 95 = true := by decide +kernel
theorem zw_96 : ∀ w ∈ zmw 96, w ∈ lw_tbl := z_sub [1167, 79, 1166, 63] (by decide +kernel)
theorem zk_96 : zmk 96 = true := by decide +kernel
theorem zw_97 : ∀ w ∈ zmw 97, w ∈ lw_tbl := z_sub [1152, 79, 1150, 1151] (by decide +kernel)
theorem zk_97 : zmk 97 = true := by decide +kernel
theorem zw_98 : ∀ w ∈ zmw 98, w ∈ lw_tbl := z_sub [1179, 79, 1178, 65] (by decide +kernel)
theorem zk_98 : zmk 98 = true := by decide +kernel
theorem zw_99 : ∀ w ∈ zmw 99, w ∈ lw_tbl := z_sub [1175, 79, 1174, 64] (by decide +kernel)
theorem zk_99 : zmk 99 = true := by decide +kernel
theorem zw_100 : ∀ w ∈ zmw 100, w ∈ lw_tbl := z_sub [1171, 79, 1169, 1170] (by decide +kernel)
theorem zk_100 : zmk 100 = true := by decide +kernel
theorem zw_101 : ∀ w ∈ zmw 101, w ∈ lw_tbl := z_sub [1183, 79, 1181, 1182] (by decide +kernel)
theorem zk_101 : zmk 101 = true := by decide +kernel
theorem zw_102 : ∀ w ∈ zmw 102, w ∈ lw_tbl := z_sub [1187, 79, 1185, 1186] (by decide +kernel)
theorem zk_102 : zmk 102 = true := by decide +kernel
theorem zw_103 : ∀ w ∈ zmw 103, w ∈ lw_tbl := z_sub [1191, 79, 1189, 1190] (by decide +kernel)
theorem zk_103 : zmk 103 = true := by decide +kernel
theorem zw_104 : ∀ w ∈ zmw 104, w ∈ lw_tbl := z_sub [250, 75, 249] (by decide +kernel)
theorem zk_104 : zmk 104 = true := by decide +kernel
theorem zw_105 : ∀ w ∈ zmw 105, w ∈ lw_tbl := z_sub [705, 75, 703, 704] (by decide +kernel)
theorem zk_105 : zmk 105 = true := by decide +kernel
theorem zw_106 : ∀ w ∈ zmw 106, w ∈ lw_tbl := z_sub [683, 75, 681, 682] (by decide +kernel)
theorem zk_106 : zmk 106 = true := by decide +kernel
theorem zw_107 : ∀ w ∈ zmw 107, w ∈ lw_tbl := z_sub [752, 75, 750, 751] (by decide +kernel)
theorem zk_107 : zmk 107 = true := by decide +kernel
theorem zw_108 : ∀ w ∈ zmw 108, w ∈ lw_tbl := z_sub [727, 75, 725, 726] (by decide +kernel)
theorem zk_108 : zmk 108 = true := by decide +kernel
theorem zw_109 : ∀ w ∈ zmw 109, w ∈ lw_tbl := z_sub [731, 75, 729, 730] (by decide +kernel)
theorem zk_109 : zmk 109 = true := by decide +kernel
theorem zw_110 : ∀ w ∈ zmw 110, w ∈ lw_tbl := z_sub [762, 75, 760, 761] (by decide +kernel)
theorem zk_110 : zmk 110 = true := by decide +kernel
theorem zw_111 : ∀ w ∈ zmw 111, w ∈ lw_tbl := z_sub [329, 78, 328] (by decide +kernel)
theorem zk_111 : zmk 111 = true := by decide +kernel
theorem zw_112 : ∀ w ∈ zmw 112, w ∈ lw_tbl := z_sub [655, 78, 654] (by decide +kernel)
theorem zk_112 : zmk 112 = true := by decide +kernel
theorem zw_113 : ∀ w ∈ zmw 113, w ∈ lw_tbl := z_sub [660, 78, 658, 659] (by decide +kernel)
theorem zk_113 : zmk 113 = true := by decide +kernel
theorem zw_114 : ∀ w ∈ zmw 114, w ∈ lw_tbl := z_sub [671, 78, 669, 670] (by decide +kernel)
theorem zk_114 : zmk 114 = true := by decide +kernel
theorem zw_115 : ∀ w ∈ zmw 115, w ∈ lw_tbl := z_sub [305, 77, 304] (by decide +kernel)
theorem zk_115 : zmk 115 = true := by decide +kernel
theorem zw_116 : ∀ w ∈ zmw 116, w ∈ lw_tbl := z_sub [598, 77, 596, 597] (by decide +kernel)
theorem zk_116 : zmk 116 = true := by decide +kernel
theorem zw_117 : ∀ w ∈ zmw 117, w ∈ lw_tbl := z_sub [608, 77, 607, 14] (by decide +kernel)
theorem zk_117 : zmk 117 = true := by decide +kernel
theorem zw_118 : ∀ w ∈ zmw 118, w ∈ lw_tbl := z_sub [612, 77, 611, 15] (by decide +kernel)
theorem zk_118 : zmk 118 = true := by decide +kernel
theorem zw_119 : ∀ w ∈ zmw 119, w ∈ lw_tbl := z_sub [617, 77, 616, 16] (by decide +kernel)
theorem zk_119 : zmk 119 = true := by decide +kernel
