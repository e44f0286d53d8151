theorem zd_72 : zdec zm_72 = true := by decide +kernel
theorem zl_72 : ∀ w ∈ zlinks zm_72, w ∈ lw_tbl := z_sub [839, 839, 964, 964, 1063] (by decide +kernel)
theorem zd_73 : zdec zm_73 = true := by decide +kernel
theorem zl_73 : ∀ w ∈ zlinks zm_73, w ∈ lw_tbl := z_sub [923, 1051, 941] (by decide +kernel)
theorem zd_74 : zdec zm_74 = true := by decide +kernel
theorem zl_74 : ∀ w ∈ zlinks zm_74, w ∈ lw_tbl := z_sub [] (by decide +kernel)
theorem zd_75 : zdec zm_75 = true := by decide +kernel
theorem zl_75 : ∀ w ∈ zlinks zm_75, w ∈ lw_tbl := z_sub [840, 968, 968, 964, 964, 1070, 840, 968, 964, 840, 964, 1070, 964, 840, 964, 1070] (by decide +kernel)
theorem zd_76 : zdec zm_76 = true := by decide +kernel
theorem zl_76 : ∀ w ∈ zlinks zm_76, w ∈ lw_tbl := z_sub [840] (by decide +kernel)
theorem zd_77 : zdec zm_77 = true := by decide +kernel
theorem zl_77 : ∀ w ∈ zlinks zm_77, w ∈ lw_tbl := z_sub [923, 923, 945, 945, 1070, 945, 945, 1070, 941, 941, 840, 840, 840, 1073, 840, 1077] (by decide +kernel)
theorem zd_78 : zdec zm_78 = true := by decide +kernel
theorem zl_78 : ∀ w ∈ zlinks zm_78, w ∈ lw_tbl := z_sub [941, 1055, 929, 945, 929, 957, 964, 929, 957, 964, 929, 957, 964, 929] (by decide +kernel)
theorem zd_79 : zdec zm_79 = true := by decide +kernel
theorem zl_79 : ∀ w ∈ zlinks zm_79, w ∈ lw_tbl := z_sub [941, 964, 964] (by decide +kernel)
theorem zd_80 : zdec zm_80 = true := by decide +kernel
theorem zl_80 : ∀ w ∈ zlinks zm_80, w ∈ lw_tbl := z_sub [941, 964, 968] (by decide +kernel)
theorem zd_81 : zdec zm_81 = true := by decide +kernel
theorem zl_81 : ∀ w ∈ zlinks zm_81, w ∈ lw_tbl := z_sub [829, 829, 1117, 1121, 957, 957, 829, 1055, 829, 929, 829, 829, 968, 829, 1125, 941, 829, 929, 829, 957, 957, 929, 829, 829, 929, 829] (by decide +kernel)
theorem zd_82 : zdec zm_82 = true := by decide +kernel
theorem zl_82 : ∀ w ∈ zlinks zm_82, w ∈ lw_tbl := z_sub [815, 816, 964, 814, 1007, 957, 929] (by decide +kernel)
theorem zd_83 : zdec zm_83 = true := by decide +kernel
theorem zl_83 : ∀ w ∈ zlinks zm_83, w ∈ lw_tbl := z_sub [813, 937, 937, 1093] (by decide +kernel)
theorem zd_84 : zdec zm_84 = true := by decide +kernel
theorem zl_84 : ∀ w ∈ zlinks zm_84, w ∈ lw_tbl := z_sub [987, 811, 926, 926, 813, 814, 813, 815, 813, 816, 813, 813, 813, 813] (by decide +kernel)
theorem zd_85 : zdec zm_85 = true := by decide +kernel
theorem zl_85 : ∀ w ∈ zlinks zm_85, w ∈ lw_tbl := z_sub [923, 1055, 1089, 1055] (by decide +kernel)
theorem zd_86 : zdec zm_86 = true := by decide +kernel
theorem zl_86 : ∀ w ∈ zlinks zm_86, w ∈ lw_tbl := z_sub [926, 926, 926, 987, 811, 926, 926, 817, 818, 817, 819, 817, 820, 817, 821, 817, 817, 817, 817] (by decide +kernel)
theorem zd_87 : zdec zm_87 = true := by decide +kernel
theorem zl_87 : ∀ w ∈ zlinks zm_87, w ∈ lw_tbl := z_sub [817, 926, 987, 811, 822, 823, 822, 824, 822, 822, 822] (by decide +kernel)
theorem zd_88 : zdec zm_88 = true := by decide +kernel
theorem zl_88 : ∀ w ∈ zlinks zm_88, w ∈ lw_tbl := z_sub [941, 929, 957, 929, 957, 929] (by decide +kernel)
theorem zd_89 : zdec zm_89 = true := by decide +kernel
theorem zl_89 : ∀ w ∈ zlinks zm_89, w ∈ lw_tbl := z_sub [1055, 941, 822, 823, 957, 824, 1007, 929] (by decide +kernel)
theorem zd_90 : zdec zm_90 = true := by decide +kernel
theorem zl_90 : ∀ w ∈ zlinks zm_90, w ∈ lw_tbl := z_sub [1055, 820, 1113, 829, 821, 1007, 1129, 1133, 1089, 1055] (by decide +kernel)
theorem zd_91 : zdec zm_91 = true := by decide +kernel
theorem zl_91 : ∀ w ∈ zlinks zm_91, w ∈ lw_tbl := z_sub [817, 923, 1109, 1055, 1137, 825] (by decide +kernel)
theorem zd_92 : zdec zm_92 = true := by decide +kernel
theorem zl_92 : ∀ w ∈ zlinks zm_92, w ∈ lw_tbl := z_sub [825, 923, 1055] (by decide +kernel)
theorem zd_93 : zdec zm_93 = true := by decide +kernel
theorem zl_93 : ∀ w ∈ zlinks zm_93, w ∈ lw_tbl := z_sub [] (by decide +kernel)
theorem zd_94 : zdec zm_94 = true := by decide +kernel
theorem zl_94 : ∀ w ∈ zlinks zm_94, w ∈ lw_tbl := z_sub [1141] (by decide +kernel)
theorem zd_95 : zdec zm_95 = true := by decide +kernel
theorem zl_95 : ∀ w ∈ zlinks zm_95, w ∈ lw_tbl := z_sub [826, 827, 827, 1055] (by decide +kernel)
