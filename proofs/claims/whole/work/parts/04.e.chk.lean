theorem zd_131 : zdec zm_131 = true := by decide +kernel
theorem zl_131 : ∀ w ∈ zlinks zm_131, w ∈ lw_tbl := z_sub [] (by decide +kernel)
theorem zd_132 : zdec zm_132 = true := by decide +kernel
theorem zl_132 : ∀ w ∈ zlinks zm_132, w ∈ lw_tbl := z_sub [105, 106, 109, 112, 115, 118, 121, 123, 127] (by decide +kernel)
theorem zd_133 : zdec zm_133 = true := by decide +kernel
theorem zl_133 : ∀ w ∈ zlinks zm_133, w ∈ lw_tbl := z_sub [98, 99, 146, 148, 146, 99, 102] (by decide +kernel)
theorem zd_134 : zdec zm_134 = true := by decide +kernel
theorem zl_134 : ∀ w ∈ zlinks zm_134, w ∈ lw_tbl := z_sub [148, 476, 146, 124] (by decide +kernel)
theorem zd_135 : zdec zm_135 = true := by decide +kernel
theorem zl_135 : ∀ w ∈ zlinks zm_135, w ∈ lw_tbl := z_sub [476, 476, 476, 476, 476, 476, 477, 477, 477, 476, 477, 476, 476, 477, 146, 128] (by decide +kernel)
theorem zd_136 : zdec zm_136 = true := by decide +kernel
theorem zl_136 : ∀ w ∈ zlinks zm_136, w ∈ lw_tbl := z_sub [148, 476, 146, 122] (by decide +kernel)
theorem zd_137 : zdec zm_137 = true := by decide +kernel
theorem zl_137 : ∀ w ∈ zlinks zm_137, w ∈ lw_tbl := z_sub [146, 148, 108, 111, 114, 117, 120, 485, 124, 488, 148, 148, 148] (by decide +kernel)
theorem zd_138 : zdec zm_138 = true := by decide +kernel
theorem zl_138 : ∀ w ∈ zlinks zm_138, w ∈ lw_tbl := z_sub [108, 108, 111, 108, 111, 114, 114, 117] (by decide +kernel)
theorem zd_139 : zdec zm_139 = true := by decide +kernel
theorem zl_139 : ∀ w ∈ zlinks zm_139, w ∈ lw_tbl := z_sub [146, 117, 122, 122, 124, 124, 128, 128, 108, 108, 146, 120, 122, 122, 492, 122, 124, 124, 124, 128, 128, 128, 108, 108, 124, 111, 124, 108, 124, 111, 114, 124, 128] (by decide +kernel)
theorem zd_140 : zdec zm_140 = true := by decide +kernel
theorem zl_140 : ∀ w ∈ zlinks zm_140, w ∈ lw_tbl := z_sub [284, 285, 286, 287, 288, 289, 290] (by decide +kernel)
theorem zd_141 : zdec zm_141 = true := by decide +kernel
theorem zl_141 : ∀ w ∈ zlinks zm_141, w ∈ lw_tbl := z_sub [287, 557, 287, 168, 564, 573, 574, 584] (by decide +kernel)
theorem zd_142 : zdec zm_142 = true := by decide +kernel
theorem zl_142 : ∀ w ∈ zlinks zm_142, w ∈ lw_tbl := z_sub [288, 287, 568, 287, 568, 287, 568, 287, 568, 289, 569, 289, 290, 290, 289, 288, 288] (by decide +kernel)
theorem zd_143 : zdec zm_143 = true := by decide +kernel
theorem zl_143 : ∀ w ∈ zlinks zm_143, w ∈ lw_tbl := z_sub [288, 288] (by decide +kernel)
theorem zd_144 : zdec zm_144 = true := by decide +kernel
theorem zl_144 : ∀ w ∈ zlinks zm_144, w ∈ lw_tbl := z_sub [290, 287, 568, 578, 289, 287, 579, 583] (by decide +kernel)
theorem zd_145 : zdec zm_145 = true := by decide +kernel
theorem zl_145 : ∀ w ∈ zlinks zm_145, w ∈ lw_tbl := z_sub [289, 289, 287, 568, 290, 290, 290, 290, 568, 588, 578] (by decide +kernel)
theorem zd_146 : zdec zm_146 = true := by decide +kernel
theorem zl_146 : ∀ w ∈ zlinks zm_146, w ∈ lw_tbl := z_sub [243, 244, 245, 267, 246, 248, 268, 265, 266] (by decide +kernel)
theorem zd_147 : zdec zm_147 = true := by decide +kernel
theorem zl_147 : ∀ w ∈ zlinks zm_147, w ∈ lw_tbl := z_sub [268, 258, 268, 680, 336, 685, 268, 258, 268, 255, 265, 342, 712, 340, 170, 713, 266, 723, 268, 724, 268, 258] (by decide +kernel)
theorem zd_148 : zdec zm_148 = true := by decide +kernel
theorem zl_148 : ∀ w ∈ zlinks zm_148, w ∈ lw_tbl := z_sub [268, 258, 268, 255, 336, 338, 689, 170, 176, 336, 694, 336, 698] (by decide +kernel)
theorem zd_149 : zdec zm_149 = true := by decide +kernel
theorem zl_149 : ∀ w ∈ zlinks zm_149, w ∈ lw_tbl := z_sub [170, 692, 693] (by decide +kernel)
theorem zd_150 : zdec zm_150 = true := by decide +kernel
theorem zl_150 : ∀ w ∈ zlinks zm_150, w ∈ lw_tbl := z_sub [697, 697] (by decide +kernel)
theorem zd_151 : zdec zm_151 = true := by decide +kernel
theorem zl_151 : ∀ w ∈ zlinks zm_151, w ∈ lw_tbl := z_sub [694, 693, 170, 268, 702, 176, 268, 680, 176, 268, 680, 706, 176, 170, 694] (by decide +kernel)
theorem zd_152 : zdec zm_152 = true := by decide +kernel
theorem zl_152 : ∀ w ∈ zlinks zm_152, w ∈ lw_tbl := z_sub [340, 717, 267, 721, 344, 347, 267, 170, 267, 170, 265, 267, 349, 712, 722] (by decide +kernel)
theorem zd_153 : zdec zm_153 = true := by decide +kernel
theorem zl_153 : ∀ w ∈ zlinks zm_153, w ∈ lw_tbl := z_sub [208, 209, 211, 213] (by decide +kernel)
theorem zd_154 : zdec zm_154 = true := by decide +kernel
theorem zl_154 : ∀ w ∈ zlinks zm_154, w ∈ lw_tbl := z_sub [201, 202, 224, 225, 222, 223, 224, 202, 205] (by decide +kernel)
theorem zd_155 : zdec zm_155 = true := by decide +kernel
theorem zl_155 : ∀ w ∈ zlinks zm_155, w ∈ lw_tbl := z_sub [224, 225, 210, 224, 225, 212, 224, 225, 214, 225, 225, 225] (by decide +kernel)
theorem zd_156 : zdec zm_156 = true := by decide +kernel
theorem zl_156 : ∀ w ∈ zlinks zm_156, w ∈ lw_tbl := z_sub [225, 224, 635] (by decide +kernel)
theorem zd_157 : zdec zm_157 = true := by decide +kernel
theorem zl_157 : ∀ w ∈ zlinks zm_157, w ∈ lw_tbl := z_sub [172, 223, 210, 125, 212, 639, 214, 640, 222, 210, 643, 644] (by decide +kernel)
theorem zd_158 : zdec zm_158 = true := by decide +kernel
theorem zl_158 : ∀ w ∈ zlinks zm_158, w ∈ lw_tbl := z_sub [] (by decide +kernel)
theorem zd_159 : zdec zm_159 = true := by decide +kernel
theorem zl_159 : ∀ w ∈ zlinks zm_159, w ∈ lw_tbl := z_sub [212, 639, 212, 212, 214, 647, 214, 648] (by decide +kernel)
theorem zd_160 : zdec zm_160 = true := by decide +kernel
theorem zl_160 : ∀ w ∈ zlinks zm_160, w ∈ lw_tbl := z_sub [166, 167, 174] (by decide +kernel)
theorem zd_161 : zdec zm_161 = true := by decide +kernel
theorem zl_161 : ∀ w ∈ zlinks zm_161, w ∈ lw_tbl := z_sub [] (by decide +kernel)
theorem zd_162 : zdec zm_162 = true := by decide +kernel
theorem zl_162 : ∀ w ∈ zlinks zm_162, w ∈ lw_tbl := z_sub [460, 174, 449] (by decide +kernel)
