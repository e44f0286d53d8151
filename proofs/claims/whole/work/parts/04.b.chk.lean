theorem zd_46 : zdec zm_46 = true := by decide +kernel
theorem zl_46 : ∀ w ∈ zlinks zm_46, w ∈ lw_tbl := z_sub [1141, 1055, 1055, 1055] (by decide +kernel)
theorem zd_47 : zdec zm_47 = true := by decide +kernel
theorem zl_47 : ∀ w ∈ zlinks zm_47, w ∈ lw_tbl := z_sub [] (by decide +kernel)
theorem zd_48 : zdec zm_48 = true := by decide +kernel
theorem zl_48 : ∀ w ∈ zlinks zm_48, w ∈ lw_tbl := z_sub [941] (by decide +kernel)
theorem zd_49 : zdec zm_49 = true := by decide +kernel
theorem zl_49 : ∀ w ∈ zlinks zm_49, w ∈ lw_tbl := z_sub [923, 926, 929, 929] (by decide +kernel)
theorem zd_50 : zdec zm_50 = true := by decide +kernel
theorem zl_50 : ∀ w ∈ zlinks zm_50, w ∈ lw_tbl := z_sub [923, 937, 929] (by decide +kernel)
theorem zd_51 : zdec zm_51 = true := by decide +kernel
theorem zl_51 : ∀ w ∈ zlinks zm_51, w ∈ lw_tbl := z_sub [937, 937] (by decide +kernel)
theorem zd_52 : zdec zm_52 = true := by decide +kernel
theorem zl_52 : ∀ w ∈ zlinks zm_52, w ∈ lw_tbl := z_sub [923, 926, 953, 926, 957, 929] (by decide +kernel)
theorem zd_53 : zdec zm_53 = true := by decide +kernel
theorem zl_53 : ∀ w ∈ zlinks zm_53, w ∈ lw_tbl := z_sub [923, 926, 953, 964] (by decide +kernel)
theorem zd_54 : zdec zm_54 = true := by decide +kernel
theorem zl_54 : ∀ w ∈ zlinks zm_54, w ∈ lw_tbl := z_sub [923, 941] (by decide +kernel)
theorem zd_55 : zdec zm_55 = true := by decide +kernel
theorem zl_55 : ∀ w ∈ zlinks zm_55, w ∈ lw_tbl := z_sub [804] (by decide +kernel)
theorem zd_56 : zdec zm_56 = true := by decide +kernel
theorem zl_56 : ∀ w ∈ zlinks zm_56, w ∈ lw_tbl := z_sub [] (by decide +kernel)
theorem zd_57 : zdec zm_57 = true := by decide +kernel
theorem zl_57 : ∀ w ∈ zlinks zm_57, w ∈ lw_tbl := z_sub [926, 926, 984, 984, 984, 984, 987, 987, 987, 984, 987, 984, 984, 987, 812] (by decide +kernel)
theorem zd_58 : zdec zm_58 = true := by decide +kernel
theorem zl_58 : ∀ w ∈ zlinks zm_58, w ∈ lw_tbl := z_sub [810, 810, 810, 810, 810] (by decide +kernel)
theorem zd_59 : zdec zm_59 = true := by decide +kernel
theorem zl_59 : ∀ w ∈ zlinks zm_59, w ∈ lw_tbl := z_sub [811, 811, 811, 811, 811] (by decide +kernel)
theorem zd_60 : zdec zm_60 = true := by decide +kernel
theorem zl_60 : ∀ w ∈ zlinks zm_60, w ∈ lw_tbl := z_sub [980, 991, 804, 804, 805, 806, 807, 808, 809, 810, 991, 811, 995, 812, 812, 812, 804, 804] (by decide +kernel)
theorem zd_61 : zdec zm_61 = true := by decide +kernel
theorem zl_61 : ∀ w ∈ zlinks zm_61, w ∈ lw_tbl := z_sub [987, 811] (by decide +kernel)
theorem zd_62 : zdec zm_62 = true := by decide +kernel
theorem zl_62 : ∀ w ∈ zlinks zm_62, w ∈ lw_tbl := z_sub [805, 806, 805, 830, 807, 830, 808, 964, 806, 964, 830, 807, 964, 830, 807, 830, 808, 964] (by decide +kernel)
theorem zd_63 : zdec zm_63 = true := by decide +kernel
theorem zl_63 : ∀ w ∈ zlinks zm_63, w ∈ lw_tbl := z_sub [837, 836, 837, 837, 836, 1026, 1032, 837, 837] (by decide +kernel)
theorem zd_64 : zdec zm_64 = true := by decide +kernel
theorem zl_64 : ∀ w ∈ zlinks zm_64, w ∈ lw_tbl := z_sub [831, 832] (by decide +kernel)
theorem zd_65 : zdec zm_65 = true := by decide +kernel
theorem zl_65 : ∀ w ∈ zlinks zm_65, w ∈ lw_tbl := z_sub [1015, 831, 805, 832, 832, 1019, 808, 809, 833, 833, 1023, 833, 1026, 833, 1032, 1035, 833, 1039, 837, 830, 806, 941, 830, 807, 1015] (by decide +kernel)
theorem zd_66 : zdec zm_66 = true := by decide +kernel
theorem zl_66 : ∀ w ∈ zlinks zm_66, w ∈ lw_tbl := z_sub [806, 834, 830, 833, 805, 833, 805, 833, 1032, 833, 1026, 830, 941, 834, 941, 808] (by decide +kernel)
theorem zd_67 : zdec zm_67 = true := by decide +kernel
theorem zl_67 : ∀ w ∈ zlinks zm_67, w ∈ lw_tbl := z_sub [941, 834, 830, 835, 830, 836, 830, 830, 808, 830, 834, 830, 835, 1043] (by decide +kernel)
theorem zd_68 : zdec zm_68 = true := by decide +kernel
theorem zl_68 : ∀ w ∈ zlinks zm_68, w ∈ lw_tbl := z_sub [830, 830, 830, 1011] (by decide +kernel)
theorem zd_69 : zdec zm_69 = true := by decide +kernel
theorem zl_69 : ∀ w ∈ zlinks zm_69, w ∈ lw_tbl := z_sub [923, 987, 811, 811, 937, 811, 937, 811, 811, 1007] (by decide +kernel)
theorem zd_70 : zdec zm_70 = true := by decide +kernel
theorem zl_70 : ∀ w ∈ zlinks zm_70, w ∈ lw_tbl := z_sub [] (by decide +kernel)
theorem zd_71 : zdec zm_71 = true := by decide +kernel
theorem zl_71 : ∀ w ∈ zlinks zm_71, w ∈ lw_tbl := z_sub [1055, 941, 838, 964, 964, 964, 964, 838, 839, 929, 929, 839, 968, 957, 964, 929, 929, 957, 1059, 929, 957, 1059, 929] (by decide +kernel)
