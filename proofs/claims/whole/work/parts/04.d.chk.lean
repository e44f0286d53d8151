theorem zd_96 : zdec zm_96 = true := by decide +kernel
theorem zl_96 : ∀ w ∈ zlinks zm_96, w ∈ lw_tbl := z_sub [826, 1137, 826] (by decide +kernel)
theorem zd_97 : zdec zm_97 = true := by decide +kernel
theorem zl_97 : ∀ w ∈ zlinks zm_97, w ∈ lw_tbl := z_sub [1153, 923, 1055, 1051, 827, 1156, 827, 1055, 827, 1160, 1164, 827] (by decide +kernel)
theorem zd_98 : zdec zm_98 = true := by decide +kernel
theorem zl_98 : ∀ w ∈ zlinks zm_98, w ∈ lw_tbl := z_sub [1109, 819, 1051, 826, 1156, 826, 1055, 828, 826] (by decide +kernel)
theorem zd_99 : zdec zm_99 = true := by decide +kernel
theorem zl_99 : ∀ w ∈ zlinks zm_99, w ∈ lw_tbl := z_sub [826, 828, 828, 817, 818, 1176] (by decide +kernel)
theorem zd_100 : zdec zm_100 = true := by decide +kernel
theorem zl_100 : ∀ w ∈ zlinks zm_100, w ∈ lw_tbl := z_sub [1160, 828, 1172, 1160, 1164] (by decide +kernel)
theorem zd_101 : zdec zm_101 = true := by decide +kernel
theorem zl_101 : ∀ w ∈ zlinks zm_101, w ∈ lw_tbl := z_sub [1153, 826] (by decide +kernel)
theorem zd_102 : zdec zm_102 = true := by decide +kernel
theorem zl_102 : ∀ w ∈ zlinks zm_102, w ∈ lw_tbl := z_sub [1153, 826, 923, 1055] (by decide +kernel)
theorem zd_103 : zdec zm_103 = true := by decide +kernel
theorem zl_103 : ∀ w ∈ zlinks zm_103, w ∈ lw_tbl := z_sub [1153, 987, 811, 826, 826, 1007, 1063] (by decide +kernel)
theorem zd_104 : zdec zm_104 = true := by decide +kernel
theorem zl_104 : ∀ w ∈ zlinks zm_104, w ∈ lw_tbl := z_sub [251, 257, 252, 254, 254, 252, 253] (by decide +kernel)
theorem zd_105 : zdec zm_105 = true := by decide +kernel
theorem zl_105 : ∀ w ∈ zlinks zm_105, w ∈ lw_tbl := z_sub [257, 254] (by decide +kernel)
theorem zd_106 : zdec zm_106 = true := by decide +kernel
theorem zl_106 : ∀ w ∈ zlinks zm_106, w ∈ lw_tbl := z_sub [254, 257, 684, 257, 257] (by decide +kernel)
theorem zd_107 : zdec zm_107 = true := by decide +kernel
theorem zl_107 : ∀ w ∈ zlinks zm_107, w ∈ lw_tbl := z_sub [257, 254, 732, 753, 754] (by decide +kernel)
theorem zd_108 : zdec zm_108 = true := by decide +kernel
theorem zl_108 : ∀ w ∈ zlinks zm_108, w ∈ lw_tbl := z_sub [254, 254, 254, 254] (by decide +kernel)
theorem zd_109 : zdec zm_109 = true := by decide +kernel
theorem zl_109 : ∀ w ∈ zlinks zm_109, w ∈ lw_tbl := z_sub [257, 254, 254, 732, 736] (by decide +kernel)
theorem zd_110 : zdec zm_110 = true := by decide +kernel
theorem zl_110 : ∀ w ∈ zlinks zm_110, w ∈ lw_tbl := z_sub [257, 254, 254, 684, 257, 257] (by decide +kernel)
theorem zd_111 : zdec zm_111 = true := by decide +kernel
theorem zl_111 : ∀ w ∈ zlinks zm_111, w ∈ lw_tbl := z_sub [330, 331, 333, 335, 337, 339, 341, 343, 346, 348] (by decide +kernel)
theorem zd_112 : zdec zm_112 = true := by decide +kernel
theorem zl_112 : ∀ w ∈ zlinks zm_112, w ∈ lw_tbl := z_sub [656] (by decide +kernel)
theorem zd_113 : zdec zm_113 = true := by decide +kernel
theorem zl_113 : ∀ w ∈ zlinks zm_113, w ∈ lw_tbl := z_sub [331, 333, 335, 337, 339, 341] (by decide +kernel)
theorem zd_114 : zdec zm_114 = true := by decide +kernel
theorem zl_114 : ∀ w ∈ zlinks zm_114, w ∈ lw_tbl := z_sub [346, 343, 348, 343, 343, 343, 343] (by decide +kernel)
theorem zd_115 : zdec zm_115 = true := by decide +kernel
theorem zl_115 : ∀ w ∈ zlinks zm_115, w ∈ lw_tbl := z_sub [306, 309, 310, 307, 308, 311, 307, 308, 312] (by decide +kernel)
theorem zd_116 : zdec zm_116 = true := by decide +kernel
theorem zl_116 : ∀ w ∈ zlinks zm_116, w ∈ lw_tbl := z_sub [311, 312, 310, 599, 600, 600, 169, 605] (by decide +kernel)
theorem zd_117 : zdec zm_117 = true := by decide +kernel
theorem zl_117 : ∀ w ∈ zlinks zm_117, w ∈ lw_tbl := z_sub [311, 169, 312, 169, 309, 609, 310, 310, 605, 310] (by decide +kernel)
theorem zd_118 : zdec zm_118 = true := by decide +kernel
theorem zl_118 : ∀ w ∈ zlinks zm_118, w ∈ lw_tbl := z_sub [310, 311, 613, 312, 613, 600, 614, 614] (by decide +kernel)
theorem zd_119 : zdec zm_119 = true := by decide +kernel
theorem zl_119 : ∀ w ∈ zlinks zm_119, w ∈ lw_tbl := z_sub [309, 309, 600, 309, 309, 600] (by decide +kernel)
theorem zd_120 : zdec zm_120 = true := by decide +kernel
theorem zl_120 : ∀ w ∈ zlinks zm_120, w ∈ lw_tbl := z_sub [312, 604, 311, 604] (by decide +kernel)
theorem zd_121 : zdec zm_121 = true := by decide +kernel
theorem zl_121 : ∀ w ∈ zlinks zm_121, w ∈ lw_tbl := z_sub [160, 184, 185, 161, 163, 186, 183] (by decide +kernel)
theorem zd_122 : zdec zm_122 = true := by decide +kernel
theorem zl_122 : ∀ w ∈ zlinks zm_122, w ∈ lw_tbl := z_sub [186, 184, 184, 183, 511] (by decide +kernel)
theorem zd_123 : zdec zm_123 = true := by decide +kernel
theorem zl_123 : ∀ w ∈ zlinks zm_123, w ∈ lw_tbl := z_sub [107, 110, 186, 175, 110, 184, 113, 184, 116, 515, 186, 184, 113, 184, 116, 516, 183, 116, 511, 517, 183, 116, 511, 183, 119, 511, 520, 183, 116, 511, 183, 119, 511, 523, 526, 530, 534] (by decide +kernel)
theorem zd_124 : zdec zm_124 = true := by decide +kernel
theorem zl_124 : ∀ w ∈ zlinks zm_124, w ∈ lw_tbl := z_sub [184, 110, 186, 173, 184, 110, 183, 116, 511, 523, 184, 110] (by decide +kernel)
theorem zd_125 : zdec zm_125 = true := by decide +kernel
theorem zl_125 : ∀ w ∈ zlinks zm_125, w ∈ lw_tbl := z_sub [184, 110, 186, 173, 184, 110, 183, 116, 511, 520, 184, 110] (by decide +kernel)
theorem zd_126 : zdec zm_126 = true := by decide +kernel
theorem zl_126 : ∀ w ∈ zlinks zm_126, w ∈ lw_tbl := z_sub [184, 184, 184, 110, 184, 113, 185, 538, 186, 173, 183, 116, 541, 185, 545, 185, 184, 184, 185] (by decide +kernel)
theorem zd_127 : zdec zm_127 = true := by decide +kernel
theorem zl_127 : ∀ w ∈ zlinks zm_127, w ∈ lw_tbl := z_sub [184, 186, 173, 185, 185, 184, 185, 185, 511, 520, 523] (by decide +kernel)
theorem zd_128 : zdec zm_128 = true := by decide +kernel
theorem zl_128 : ∀ w ∈ zlinks zm_128, w ∈ lw_tbl := z_sub [186, 173, 185, 185] (by decide +kernel)
theorem zd_129 : zdec zm_129 = true := by decide +kernel
theorem zl_129 : ∀ w ∈ zlinks zm_129, w ∈ lw_tbl := z_sub [] (by decide +kernel)
theorem zd_130 : zdec zm_130 = true := by decide +kernel
theorem zl_130 : ∀ w ∈ zlinks zm_130, w ∈ lw_tbl := z_sub [] (by decide +kernel)
