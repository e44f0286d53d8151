theorem zw_0 : ∀ w ∈ zmw 0, w ∈ lw_tbl := z_sub [87, 67, 86] (by decide +kernel)
theorem zk_0 : zmk 0 = true := by decide +kernel
theorem zw_1 : ∀ w ∈ zmw 1, w ∈ lw_tbl := z_sub [415, 67, 413, 414] (by decide +kernel)
theorem zk_1 : zmk 1 = true := by decide +kernel
theorem zw_2 : ∀ w ∈ zmw 2, w ∈ lw_tbl := z_sub [432, 67, 430, 431] (by decide +kernel)
theorem zk_2 : zmk 2 = true := by decide +kernel
theorem zw_3 : ∀ w ∈ zmw 3, w ∈ lw_tbl := z_sub [440, 67, 438, 439] (by decide +kernel)
theorem zk_3 : zmk 3 = true := by decide +kernel
theorem zw_4 : ∀ w ∈ zmw 4, w ∈ lw_tbl := z_sub [455, 67, 453, 454] (by decide +kernel)
theorem zk_4 : zmk 4 = true := by decide +kernel
theorem zw_5 : ∀ w ∈ zmw 5, w ∈ lw_tbl := z_sub [467, 67, 465, 466] (by decide +kernel)
theorem zk_5 : zmk 5 = true := by decide +kernel
theorem zw_6 : ∀ w ∈ zmw 6, w ∈ lw_tbl := z_sub [471, 67, 469, 470] (by decide +kernel)
theorem zk_6 : zmk 6 = true := by decide +kernel
theorem zw_7 : ∀ w ∈ zmw 7, w ∈ lw_tbl := z_sub [498, 67, 496, 497] (by decide +kernel)
theorem zk_7 : zmk 7 = true := by decide +kernel
theorem zw_8 : ∀ w ∈ zmw 8, w ∈ lw_tbl := z_sub [502, 67, 500, 501] (by decide +kernel)
theorem zk_8 : zmk 8 = true := by decide +kernel
theorem zw_9 : ∀ w ∈ zmw 9, w ∈ lw_tbl := z_sub [552, 67, 550, 551] (by decide +kernel)
theorem zk_9 : zmk 9 = true := by decide +kernel
theorem zw_10 : ∀ w ∈ zmw 10, w ∈ lw_tbl := z_sub [594, 67, 592, 593] (by decide +kernel)
theorem zk_10 : zmk 10 = true := by decide +kernel
theorem zw_11 : ∀ w ∈ zmw 11, w ∈ lw_tbl := z_sub [621, 67, 619, 620] (by decide +kernel)
theorem zk_11 : zmk 11 = true := by decide +kernel
theorem zw_12 : ∀ w ∈ zmw 12, w ∈ lw_tbl := z_sub [629, 67, 627, 628] (by decide +kernel)
theorem zk_12 : zmk 12 = true := by decide +kernel
theorem zw_13 : ∀ w ∈ zmw 13, w ∈ lw_tbl := z_sub [652, 67, 650, 651] (by decide +kernel)
theorem zk_13 : zmk 13 = true := by decide +kernel
theorem zw_14 : ∀ w ∈ zmw 14, w ∈ lw_tbl := z_sub [664, 67, 662, 663] (by decide +kernel)
theorem zk_14 : zmk 14 = true := by decide +kernel
theorem zw_15 : ∀ w ∈ zmw 15, w ∈ lw_tbl := z_sub [675, 67, 673, 674] (by decide +kernel)
theorem zk_15 : zmk 15 = true := by decide +kernel
theorem zw_16 : ∀ w ∈ zmw 16, w ∈ lw_tbl := z_sub [740, 67, 738, 739] (by decide +kernel)
theorem zk_16 : zmk 16 = true := by decide +kernel
theorem zw_17 : ∀ w ∈ zmw 17, w ∈ lw_tbl := z_sub [748, 67, 746, 747] (by decide +kernel)
theorem zk_17 : zmk 17 = true := by decide +kernel
theorem zw_18 : ∀ w ∈ zmw 18, w ∈ lw_tbl := z_sub [766, 67, 764, 765] (by decide +kernel)
theorem zk_18 : zmk 18 = true := by decide +kernel
theorem zw_19 : ∀ w ∈ zmw 19, w ∈ lw_tbl := z_sub [787, 67, 785, 786] (by decide +kernel)
theorem zk_19 : zmk 19 = true := by decide +kernel
theorem zw_20 : ∀ w ∈ zmw 20, w ∈ lw_tbl := z_sub [791, 67, 789, 790] (by decide +kernel)
theorem zk_20 : zmk 20 = true := by decide +kernel
theorem zw_21 : ∀ w ∈ zmw 21, w ∈ lw_tbl := z_sub [795, 67, 793, 794] (by decide +kernel)
theorem zk_21 : zmk 21 = true := by decide +kernel
theorem zw_22 : ∀ w ∈ zmw 22, w ∈ lw_tbl := z_sub [418, 67, 417] (by decide +kernel)
theorem zk_22 : zmk 22 = true := by decide +kernel
theorem zw_23 : ∀ w ∈ zmw 23, w ∈ lw_tbl := z_sub [590, 67, 589] (by decide +kernel)
theorem zk_23 : zmk 23 = true := by decide +kernel
theorem zw_24 : ∀ w ∈ zmw 24, w ∈ lw_tbl := z_sub [667, 67, 666] (by decide +kernel)
theorem zk_24 : zmk 24 = true := by decide +kernel
theorem zw_25 : ∀ w ∈ zmw 25, w ∈ lw_tbl := z_sub [444, 67, 443, 0] (by decide +kernel)
theorem zk_25 : zmk 25 = true := by decide +kernel
theorem zw_26 : ∀ w ∈ zmw 26, w ∈ lw_tbl := z_sub [744, 67, 743, 21] (by decide +kernel)
theorem zk_26 : zmk 26 = true := by decide +kernel
theorem zw_27 : ∀ w ∈ zmw 27, w ∈ lw_tbl := z_sub [758, 67, 757, 22] (by decide +kernel)
theorem zk_27 : zmk 27 = true := by decide +kernel
theorem zw_28 : ∀ w ∈ zmw 28, w ∈ lw_tbl := z_sub [771, 67, 770, 23] (by decide +kernel)
theorem zk_28 : zmk 28 = true := by decide +kernel
theorem zw_29 : ∀ w ∈ zmw 29, w ∈ lw_tbl := z_sub [779, 67, 778, 25] (by decide +kernel)
theorem zk_29 : zmk 29 = true := by decide +kernel
theorem zw_30 : ∀ w ∈ zmw 30, w ∈ lw_tbl := z_sub [783, 67, 782, 26] (by decide +kernel)
theorem zk_30 : zmk 30 = true := by decide +kernel
theorem zw_31 : ∀ w ∈ zmw 31, w ∈ lw_tbl := z_sub [775, 67, 774, 24] (by decide +kernel)
theorem zk_31 : zmk 31 = true := by decide +kernel
theorem zw_32 : ∀ w ∈ zmw 32, w ∈ lw_tbl := z_sub [801, 79, 800] (by decide +kernel)
theorem zk_32 : zmk 32 = true := by decide +kernel
theorem zw_33 : ∀ w ∈ zmw 33, w ∈ lw_tbl := z_sub [1031, 79, 1030] (by decide +kernel)
theorem zk_33 : zmk 33 = true := by decide +kernel
theorem zw_34 : ∀ w ∈ zmw 34, w ∈ lw_tbl := z_sub [1028, 79, 1027] (by decide +kernel)
theorem zk_34 : zmk 34 = true := by decide +kernel
theorem zw_35 : ∀ w ∈ zmw 35, w ∈ lw_tbl := z_sub [1034, 79, 1033] (by decide +kernel)
theorem zk_35 : zmk 35 = true := by decide +kernel
theorem zw_36 : ∀ w ∈ zmw 36, w ∈ lw_tbl := z_sub [1025, 79, 1024] (by decide +kernel)
theorem zk_36 : zmk 36 = true := by decide +kernel
theorem zw_37 : ∀ w ∈ zmw 37, w ∈ lw_tbl := z_sub [928, 79, 927] (by decide +kernel)
theorem zk_37 : zmk 37 = true := by decide +kernel
theorem zw_38 : ∀ w ∈ zmw 38, w ∈ lw_tbl := z_sub [948, 79, 947, 30] (by decide +kernel)
theorem zk_38 : zmk 38 = true := by decide +kernel
theorem zw_39 : ∀ w ∈ zmw 39, w ∈ lw_tbl := z_sub [932, 79, 931, 27] (by decide +kernel)
theorem zk_39 : zmk 39 = true := by decide +kernel
theorem zw_40 : ∀ w ∈ zmw 40, w ∈ lw_tbl := z_sub [944, 79, 943, 29] (by decide +kernel)
theorem zk_40 : zmk 40 = true := by decide +kernel
theorem zw_41 : ∀ w ∈ zmw 41, w ∈ lw_tbl := z_sub [959, 79, 958] (by decide +kernel)
theorem zk_41 : zmk 41 = true := by decide +kernel
theorem zw_42 : ∀ w ∈ zmw 42, w ∈ lw_tbl := z_sub [971, 79, 970, 33] (by decide +kernel)
theorem zk_42 : zmk 42 = true := by decide +kernel
theorem zw_43 : ∀ w ∈ zmw 43, w ∈ lw_tbl := z_sub [967, 79, 966, 32] (by decide +kernel)
theorem zk_43 : zmk 43 = true := by decide +kernel
theorem zw_44 : ∀ w ∈ zmw 44, w ∈ lw_tbl := z_sub [1058, 79, 1057, 46] (by decide +kernel)
theorem zk_44 : zmk 44 = true := by decide +kernel
theorem zw_45 : ∀ w ∈ zmw 45, w ∈ lw_tbl := z_sub [1144, 79, 1143, 60] (by decide +kernel)
theorem zk_45 : zmk 45 = true := by decide +kernel
theorem zw_46 : ∀ w ∈ zmw 46, w ∈ lw_tbl := z_sub [1140, 79, 1139, 59] (by decide +kernel)
theorem zk_46 : zmk 46 = true := by decide +kernel
theorem zw_47 : ∀ w ∈ zmw 47, w ∈ lw_tbl := z_sub [925, 79, 924] (by decide +kernel)
theorem zk_47 : zmk 47 = true := by decide +kernel
theorem zw_48 : ∀ w ∈ zmw 48, w ∈ lw_tbl := z_sub [940, 79, 939, 28] (by decide +kernel)
theorem zk_48 : zmk 48 = true := by decide +kernel
theorem zw_49 : ∀ w ∈ zmw 49, w ∈ lw_tbl := z_sub [922, 79, 920, 921] (by decide +kernel)
theorem zk_49 : zmk 49 = true := by decide +kernel
theorem zw_50 : ∀ w ∈ zmw 50, w ∈ lw_tbl := z_sub [936, 79, 934, 935] (by decide +kernel)
theorem zk_50 : zmk 50 = true := by decide +kernel
theorem zw_51 : ∀ w ∈ zmw 51, w ∈ lw_tbl := z_sub [956, 79, 955, 31] (by decide +kernel)
theorem zk_51 : zmk 51 = true := by decide +kernel
theorem zw_52 : ∀ w ∈ zmw 52, w ∈ lw_tbl := z_sub [952, 79, 950, 951] (by decide +kernel)
theorem zk_52 : zmk 52 = true := by decide +kernel
theorem zw_53 : ∀ w ∈ zmw 53, w ∈ lw_tbl := z_sub [963, 79, 961, 962] (by decide +kernel)
theorem zk_53 : zmk 53 = true := by decide +kernel
theorem zw_54 : ∀ w ∈ zmw 54, w ∈ lw_tbl := z_sub [975, 79, 973, 974] (by decide +kernel)
theorem zk_54 : zmk 54 = true := by decide +kernel
theorem zw_55 : ∀ w ∈ zmw 55, w ∈ lw_tbl := z_sub [990, 79, 989, 35] (by decide +kernel)
theorem zk_55 : zmk 55 = true := by decide +kernel
theorem zw_56 : ∀ w ∈ zmw 56, w ∈ lw_tbl := z_sub [986, 79, 985] (by decide +kernel)
theorem zk_56 : zmk 56 = true := by decide +kernel
theorem zw_57 : ∀ w ∈ zmw 57, w ∈ lw_tbl := z_sub [983, 79, 982, 34] (by decide +kernel)
theorem zk_57 : zmk 57 = true := by decide +kernel
theorem zw_58 : ∀ w ∈ zmw 58, w ∈ lw_tbl := z_sub [994, 79, 993, 36] (by decide +kernel)
theorem zk_58 : zmk 58 = true := by decide +kernel
theorem zw_59 : ∀ w ∈ zmw 59, w ∈ lw_tbl := z_sub [998, 79, 997, 37] (by decide +kernel)
theorem zk_59 : zmk 59 = true := by decide +kernel
