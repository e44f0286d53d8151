theorem zw_120 : ∀ w ∈ zmw 120, w ∈ lw_tbl := z_sub [603, 77, 602, 13] (by decide +kernel)
theorem zk_120 : zmk 120 = true := by decide +kernel
theorem zw_121 : ∀ w ∈ zmw 121, w ∈ lw_tbl := z_sub [159, 70, 158] (by decide +kernel)
theorem zk_121 : zmk 121 = true := by decide +kernel
theorem zw_122 : ∀ w ∈ zmw 122, w ∈ lw_tbl := z_sub [510, 70, 508, 509] (by decide +kernel)
theorem zk_122 : zmk 122 = true := by decide +kernel
theorem zw_123 : ∀ w ∈ zmw 123, w ∈ lw_tbl := z_sub [514, 70, 513, 3] (by decide +kernel)
theorem zk_123 : zmk 123 = true := by decide +kernel
theorem zw_124 : ∀ w ∈ zmw 124, w ∈ lw_tbl := z_sub [529, 70, 528, 4] (by decide +kernel)
theorem zk_124 : zmk 124 = true := by decide +kernel
theorem zw_125 : ∀ w ∈ zmw 125, w ∈ lw_tbl := z_sub [533, 70, 532, 5] (by decide +kernel)
theorem zk_125 : zmk 125 = true := by decide +kernel
theorem zw_126 : ∀ w ∈ zmw 126, w ∈ lw_tbl := z_sub [537, 70, 536, 6] (by decide +kernel)
theorem zk_126 : zmk 126 = true := by decide +kernel
theorem zw_127 : ∀ w ∈ zmw 127, w ∈ lw_tbl := z_sub [544, 70, 543, 7] (by decide +kernel)
theorem zk_127 : zmk 127 = true := by decide +kernel
theorem zw_128 : ∀ w ∈ zmw 128, w ∈ lw_tbl := z_sub [548, 70, 547, 8] (by decide +kernel)
theorem zk_128 : zmk 128 = true := by decide +kernel
theorem zw_129 : ∀ w ∈ zmw 129, w ∈ lw_tbl := z_sub [519, 70, 518] (by decide +kernel)
theorem zk_129 : zmk 129 = true := by decide +kernel
theorem zw_130 : ∀ w ∈ zmw 130, w ∈ lw_tbl := z_sub [522, 70, 521] (by decide +kernel)
theorem zk_130 : zmk 130 = true := by decide +kernel
theorem zw_131 : ∀ w ∈ zmw 131, w ∈ lw_tbl := z_sub [525, 70, 524] (by decide +kernel)
theorem zk_131 : zmk 131 = true := by decide +kernel
theorem zw_132 : ∀ w ∈ zmw 132, w ∈ lw_tbl := z_sub [104, 69, 103] (by decide +kernel)
theorem zk_132 : zmk 132 = true := by decide +kernel
theorem zw_133 : ∀ w ∈ zmw 133, w ∈ lw_tbl := z_sub [97, 68, 96] (by decide +kernel)
theorem zk_133 : zmk 133 = true := by decide +kernel
theorem zw_134 : ∀ w ∈ zmw 134, w ∈ lw_tbl := z_sub [506, 68, 504, 505] (by decide +kernel)
theorem zk_134 : zmk 134 = true := by decide +kernel
theorem zw_135 : ∀ w ∈ zmw 135, w ∈ lw_tbl := z_sub [475, 68, 473, 474] (by decide +kernel)
theorem zk_135 : zmk 135 = true := by decide +kernel
theorem zw_136 : ∀ w ∈ zmw 136, w ∈ lw_tbl := z_sub [480, 68, 479, 1] (by decide +kernel)
theorem zk_136 : zmk 136 = true := by decide +kernel
theorem zw_137 : ∀ w ∈ zmw 137, w ∈ lw_tbl := z_sub [484, 68, 482, 483] (by decide +kernel)
theorem zk_137 : zmk 137 = true := by decide +kernel
theorem zw_138 : ∀ w ∈ zmw 138, w ∈ lw_tbl := z_sub [487, 68, 486] (by decide +kernel)
theorem zk_138 : zmk 138 = true := by decide +kernel
theorem zw_139 : ∀ w ∈ zmw 139, w ∈ lw_tbl := z_sub [491, 68, 490, 2] (by decide +kernel)
theorem zk_139 : zmk 139 = true := by decide +kernel
theorem zw_140 : ∀ w ∈ zmw 140, w ∈ lw_tbl := z_sub [283, 76, 282] (by decide +kernel)
theorem zk_140 : zmk 140 = true := by decide +kernel
theorem zw_141 : ∀ w ∈ zmw 141, w ∈ lw_tbl := z_sub [556, 76, 554, 555] (by decide +kernel)
theorem zk_141 : zmk 141 = true := by decide +kernel
theorem zw_142 : ∀ w ∈ zmw 142, w ∈ lw_tbl := z_sub [567, 76, 566, 9] (by decide +kernel)
theorem zk_142 : zmk 142 = true := by decide +kernel
theorem zw_143 : ∀ w ∈ zmw 143, w ∈ lw_tbl := z_sub [572, 76, 571, 10] (by decide +kernel)
theorem zk_143 : zmk 143 = true := by decide +kernel
theorem zw_144 : ∀ w ∈ zmw 144, w ∈ lw_tbl := z_sub [577, 76, 576, 11] (by decide +kernel)
theorem zk_144 : zmk 144 = true := by decide +kernel
theorem zw_145 : ∀ w ∈ zmw 145, w ∈ lw_tbl := z_sub [587, 76, 586, 12] (by decide +kernel)
theorem zk_145 : zmk 145 = true := by decide +kernel
theorem zw_146 : ∀ w ∈ zmw 146, w ∈ lw_tbl := z_sub [242, 74, 241] (by decide +kernel)
theorem zk_146 : zmk 146 = true := by decide +kernel
theorem zw_147 : ∀ w ∈ zmw 147, w ∈ lw_tbl := z_sub [679, 74, 677, 678] (by decide +kernel)
theorem zk_147 : zmk 147 = true := by decide +kernel
theorem zw_148 : ∀ w ∈ zmw 148, w ∈ lw_tbl := z_sub [688, 74, 687, 18] (by decide +kernel)
theorem zk_148 : zmk 148 = true := by decide +kernel
theorem zw_149 : ∀ w ∈ zmw 149, w ∈ lw_tbl := z_sub [691, 74, 690] (by decide +kernel)
theorem zk_149 : zmk 149 = true := by decide +kernel
theorem zw_150 : ∀ w ∈ zmw 150, w ∈ lw_tbl := z_sub [696, 74, 695] (by decide +kernel)
theorem zk_150 : zmk 150 = true := by decide +kernel
theorem zw_151 : ∀ w ∈ zmw 151, w ∈ lw_tbl := z_sub [701, 74, 700, 19] (by decide +kernel)
theorem zk_151 : zmk 151 = true := by decide +kernel
theorem zw_152 : ∀ w ∈ zmw 152, w ∈ lw_tbl := z_sub [716, 74, 715, 20] (by decide +kernel)
theorem zk_152 : zmk 152 = true := by decide +kernel
theorem zw_153 : ∀ w ∈ zmw 153, w ∈ lw_tbl := z_sub [207, 73, 206] (by decide +kernel)
theorem zk_153 : zmk 153 = true := by decide +kernel
theorem zw_154 : ∀ w ∈ zmw 154, w ∈ lw_tbl := z_sub [200, 72, 199] (by decide +kernel)
theorem zk_154 : zmk 154 = true := by decide +kernel
theorem zw_155 : ∀ w ∈ zmw 155, w ∈ lw_tbl := z_sub [625, 72, 623, 624] (by decide +kernel)
theorem zk_155 : zmk 155 = true := by decide +kernel
theorem zw_156 : ∀ w ∈ zmw 156, w ∈ lw_tbl := z_sub [634, 72, 632, 633] (by decide +kernel)
theorem zk_156 : zmk 156 = true := by decide +kernel
theorem zw_157 : ∀ w ∈ zmw 157, w ∈ lw_tbl := z_sub [638, 72, 637, 17] (by decide +kernel)
theorem zk_157 : zmk 157 = true := by decide +kernel
theorem zw_158 : ∀ w ∈ zmw 158, w ∈ lw_tbl := z_sub [642, 72, 641] (by decide +kernel)
theorem zk_158 : zmk 158 = true := by decide +kernel
theorem zw_159 : ∀ w ∈ zmw 159, w ∈ lw_tbl := z_sub [646, 72, 645] (by decide +kernel)
theorem zk_159 : zmk 159 = true := by decide +kernel
theorem zw_160 : ∀ w ∈ zmw 160, w ∈ lw_tbl := z_sub [165, 71, 164] (by decide +kernel)
theorem zk_160 : zmk 160 = true := by decide +kernel
theorem zw_161 : ∀ w ∈ zmw 161, w ∈ lw_tbl := z_sub [451, 71, 450] (by decide +kernel)
theorem zk_161 : zmk 161 = true := by decide +kernel
theorem zw_162 : ∀ w ∈ zmw 162, w ∈ lw_tbl := z_sub [459, 71, 457, 458] (by decide +kernel)
theorem zk_162 : zmk 162 = true := by decide +kernel
theorem zw_163 : ∀ w ∈ zmw 163, w ∈ lw_tbl := z_sub [448, 71, 446, 447] (by decide +kernel)
theorem zk_163 : zmk 163 = true := by decide +kernel
theorem zw_164 : ∀ w ∈ zmw 164, w ∈ lw_tbl := z_sub [463, 71, 461, 462] (by decide +kernel)
theorem zk_164 : zmk 164 = true := by decide +kernel
theorem zw_165 : ∀ w ∈ zmw 165, w ∈ lw_tbl := z_sub [582, 71, 580, 581] (by decide +kernel)
theorem zk_165 : zmk 165 = true := by decide +kernel
theorem zw_166 : ∀ w ∈ zmw 166, w ∈ lw_tbl := z_sub [436, 71, 434, 435] (by decide +kernel)
theorem zk_166 : zmk 166 = true := by decide +kernel
theorem zw_167 : ∀ w ∈ zmw 167, w ∈ lw_tbl := z_sub [422, 71, 420, 421] (by decide +kernel)
theorem zk_167 : zmk 167 = true := by decide +kernel
theorem zw_168 : ∀ w ∈ zmw 168, w ∈ lw_tbl := z_sub [560, 71, 558, 559] (by decide +kernel)
theorem zk_168 : zmk 168 = true := by decide +kernel
theorem zw_169 : ∀ w ∈ zmw 169, w ∈ lw_tbl := z_sub [735, 71, 733, 734] (by decide +kernel)
theorem zk_169 : zmk 169 = true := by decide +kernel
theorem zw_170 : ∀ w ∈ zmw 170, w ∈ lw_tbl := z_sub [709, 71, 707, 708] (by decide +kernel)
theorem zk_170 : zmk 170 = true := by decide +kernel
theorem zw_171 : ∀ w ∈ zmw 171, w ∈ lw_tbl := z_sub [720, 71, 718, 719] (by decide +kernel)
theorem zk_171 : zmk 171 = true := by decide +kernel
theorem zw_172 : ∀ w ∈ zmw 172, w ∈ lw_tbl := z_sub [540, 80, 539] (by decide +kernel)
theorem zk_172 : zmk 172 = true := by decide +kernel
theorem zw_173 : ∀ w ∈ zmw 173, w ∈ lw_tbl := z_sub [425, 80, 424] (by decide +kernel)
theorem zk_173 : zmk 173 = true := by decide +kernel
theorem zw_174 : ∀ w ∈ zmw 174, w ∈ lw_tbl := z_sub [428, 80, 427] (by decide +kernel)
theorem zk_174 : zmk 174 = true := by decide +kernel
theorem z_step {P : Nat → Prop} {n : Nat} (h : P n) (k : ∀ x, n + 1 ≤ x → x < 175 → P x) : ∀ x, n ≤ x → x < 175 → P x := fun x h1 h2 => if e : x = n then e ▸ h else k x (by omega) h2
set_option maxRecDepth 20000 in
theorem z_mw : ∀ x, 0 ≤ x → x < 175 → ∀ w ∈ zmw x, w ∈ lw_tbl := z_step (P := fun x => ∀ w ∈ zmw x, w ∈ lw_tbl) zw_0 (z_step zw_1 (z_step zw_2 (z_step zw_3 (z_step zw_4 (z_step zw_5 (z_step zw_6 (z_step zw_7 (z_step zw_8 (z_step zw_9 (z_step zw_10 (z_step zw_11 (z_step zw_12 (z_step zw_13 (z_step zw_14 (z_step zw_15 (z_step zw_16 (z_step zw_17 (z_step zw_18 (z_step zw_19 (z_step zw_20 (z_step zw_21 (z_step zw_22 (z_step zw_23 (z_step zw_24 (z_step zw_25 (z_step zw_26 (z_step zw_27 (z_step zw_28 (z_step zw_29 (z_step zw_30 (z_step zw_31 (z_step zw_32 (z_step zw_33 (z_step zw_34 (z_step zw_35 (z_step zw_36 (z_step zw_37 (z_step zw_38 (z_step zw_39 (z_step zw_40 (z_step zw_41 (z_step zw_42 (z_step zw_43 (z_step zw_44 (z_step zw_45 (z_step zw_46 (z_step zw_47 (z_step zw_48 (z_step zw_49 (z_step zw_50 (z_step zw_51 (z_step zw_52 (z_step zw_53 (z_step zw_54 (z_step zw_55 (z_step zw_56 (z_step zw_57 (z_step zw_58 (z_step zw_59 (z_step zw_60 (z_step zw_61 (z_step zw_62 (z_step zw_63 (z_step zw_64 (z_step zw_65 (z_step zw_66 (z_step zw_67 (z_step zw_68 (z_step zw_69 (z_step zw_70 (z_step zw_71 (z_step zw_72 (z_step zw_73 (z_step zw_74 (z_step zw_75 (z_step zw_76 (z_step zw_77 (z_step zw_78 (z_step zw_79 (z_step zw_80 (z_step zw_81 (z_step zw_82 (z_step zw_83 (z_step zw_84 (z_step zw_85 (z_step zw_86 (z_step zw_87 (z_step zw_88 (z_step zw_89 (z_step zw_90 (z_step zw_91 (z_step zw_92 (z_step zw_93 (z_step zw_94 (z_step zw_95 (z_step zw_96 (z_step zw_97 (z_step zw_98 (z_step zw_99 (z_step zw_100 (z_step zw_101 (z_step zw_102 (z_step zw_103 (z_step zw_104 (z_step zw_105 (z_step zw_106 (z_step zw_107 (z_step zw_108 (z_step zw_109 (z_step zw_110 (z_step zw_111 (z_step zw_112 (z_step zw_113 (z_step zw_114 (z_step zw_115 (z_step zw_116 (z_step zw_117 (z_step zw_118 (z_step zw_119 (z_step zw_120 (z_step zw_121 (z_step zw_122 (z_step zw_123 (z_step zw_124 (z_step zw_125 (z_step zw_126 (z_step zw_127 (z_step zw_128 (z_step zw_129 (z_step zw_130 (z_step zw_131 (z_step zw_132 (z_step zw_133 (z_step zw_134 (z_step zw_135 (z_step zw_136 (z_step zw_137 (z_step zw_138 (z_step zw_139 (z_step zw_140 (z_step zw_141 (z_step zw_142 (z_step zw_143 (z_step zw_144 (z_step zw_145 (z_step zw_146 (z_step zw_147 (z_step zw_148 (z_step zw_149 (z_step zw_150 (z_step zw_151 (z_step zw_152 (z_step zw_153 (z_step zw_154 (z_step zw_155 (z_step zw_156 (z_step zw_157 (z_step zw_158 (z_step zw_159 (z_step zw_160 (z_step zw_161 (z_step zw_162 (z_step zw_163 (z_step zw_164 (z_step zw_165 (z_step zw_166 (z_step zw_167 (z_step zw_168 (z_step zw_169 (z_step zw_170 (z_step zw_171 (z_step zw_172 (z_step zw_173 (z_step zw_174 (fun x h1 h2 => absurd h1 (by omega))))))))))))))))))))))))))))))))))))))))))))))))))))))))))))))))))))))))))))))))))))))))))))))))))))))))))))))))))))))))))))))))))))))))))))))))))))))))))))))))))))))))))))))))
set_option maxRecDepth 20000 in
theorem z_mk : ∀ x, 0 ≤ x → x < 175 → zmk x = true := z_step (P := fun x => zmk x = true) zk_0 (z_step zk_1 (z_step zk_2 (z_step zk_3 (z_step zk_4 (z_step zk_5 (z_step zk_6 (z_step zk_7 (z_step zk_8 (z_step zk_9 (z_step zk_10 (z_step zk_11 (z_step zk_12 (z_step zk_13 (z_step zk_14 (z_step zk_15 (z_step zk_16 (z_step zk_17 (z_step zk_18 (z_step zk_19 (z_step zk_20 (z_step zk_21 (z_step zk_22 (z_step zk_23 (z_step zk_24 (z_step zk_25 (z_step zk_26 (z_step zk_27 (z_step zk_28 (z_step zk_29 (z_step zk_30 (z_step zk_31 (z_step zk_32 (z_step zk_33 (z_step zk_34 (z_step zk_35 (z_step zk_36 (z_step zk_37 (z_step zk_38 (z_step zk_39 (z_step zk_40 (z_step zk_41 (z_step zk_42 (z_step zk_43 (z_step zk_44 (z_step zk_45 (z_step zk_46 (z_step zk_47 (z_step zk_48 (z_step zk_49 (z_step zk_50 (z_step zk_51 (z_step zk_52 (z_step zk_53 (z_step zk_54 (z_step zk_55 (z_step zk_56 (z_step zk_57 (z_step zk_58 (z_step zk_59 (z_step zk_60 (z_step zk_61 (z_step zk_62 (z_step zk_63 (z_step zk_64 (z_step zk_65 (z_step zk_66 (z_step zk_67 (z_step zk_68 (z_step zk_69 (z_step zk_70 (z_step zk_71 (z_step zk_72 (z_step zk_73 (z_step zk_74 (z_step zk_75 (z_step zk_76 (z_step zk_77 (z_step zk_78 (z_step zk_79 (z_step zk_80 (z_step zk_81 (z_step zk_82 (z_step zk_83 (z_step zk_84 (z_step zk_85 (z_step zk_86 (z_step zk_87 (z_step zk_88 (z_step zk_89 (z_step zk_90 (z_step zk_91 (z_step zk_92 (z_step zk_93 (z_step zk_94 (z_step zk_95 (z_step zk_96 (z_step zk_97 (z_step zk_98 (z_step zk_99 (z_step zk_100 (z_step zk_101 (z_step zk_102 (z_step zk_103 (z_step zk_104 (z_step zk_105 (z_step zk_106 (z_step zk_107 (z_step zk_108 (z_step zk_109 (z_step zk_110 (z_step zk_111 (z_step zk_112 (z_step zk_113 (z_step zk_114 (z_step zk_115 (z_step zk_116 (z_step zk_117 (z_step zk_118 (z_step zk_119 (z_step zk_120 (z_step zk_121 (z_step zk_122 (z_step zk_123 (z_step zk_124 (z_step zk_125 (z_step zk_126 (z_step zk_127 (z_step zk_128 (z_step zk_129 (z_step zk_130 (z_step zk_131 (z_step zk_132 (z_step zk_133 (z_step zk_134 (z_step zk_135 (z_step zk_136 (z_step zk_137 (z_step zk_138 (z_step zk_139 (z_step zk_140 (z_step zk_141 (z_step zk_142 (z_step zk_143 (z_step zk_144 (z_step zk_145 (z_step zk_146 (z_step zk_147 (z_step zk_148 (z_step zk_149 (z_step zk_150 (z_step zk_151 (z_step zk_152 (z_step zk_153 (z_step zk_154 (z_step zk_155 (z_step zk_156 (z_step zk_157 (z_step zk_158 (z_step zk_159 (z_step zk_160 (z_step zk_161 (z_step zk_162 (z_step zk_163 (z_step zk_164 (z_step zk_165 (z_step zk_166 (z_step zk_167 (z_step zk_168 (z_step zk_169 (z_step zk_170 (z_step zk_171 (z_step zk_172 (z_step zk_173 (z_step zk_174 (fun x h1 h2 => absurd h1 (by omega))))))))))))))))))))))))))))))))))))))))))))))))))))))))))))))))))))))))))))))))))))))))))))))))))))))))))))))))))))))))))))))))))))))))))))))))))))))))))))))))))))))))))))))))
theorem zc_0 : ∀ w ∈ u_ws (zFC 0) (zFT 0) (zFN 0), w ∈ lw_tbl := z_sub [383, 385, 387, 389, 391, 393, 395, 397, 399, 401, 403, 405, 407, 409] (by decide +kernel)
theorem zi_0 : ∀ w ∈ ([.instantiable (zFC 0) (zFN 0), .initialized (zFC 0)] : List Cond), w ∈ lw_tbl := z_sub [84, 67] (by decide +kernel)
theorem zc_1 : ∀ w ∈ u_ws (zFC 1) (zFT 1) (zFN 1), w ∈ lw_tbl := z_sub [150, 152] (by decide +kernel)
theorem zi_1 : ∀ w ∈ ([.instantiable (zFC 1) (zFN 1), .initialized (zFC 1)] : List Cond), w ∈ lw_tbl := z_sub [94, 68] (by decide +kernel)
theorem zc_2 : ∀ w ∈ u_ws (zFC 2) (zFT 2) (zFN 2), w ∈ lw_tbl := z_sub [129, 131, 133, 135, 137, 139, 141, 143] (by decide +kernel)
theorem zi_2 : ∀ w ∈ ([.instantiable (zFC 2) (zFN 2), .initialized (zFC 2)] : List Cond), w ∈ lw_tbl := z_sub [101, 69] (by decide +kernel)
theorem zc_3 : ∀ w ∈ u_ws (zFC 3) (zFT 3) (zFN 3), w ∈ lw_tbl := z_sub [187, 189, 191, 193] (by decide +kernel)
theorem zi_3 : ∀ w ∈ ([.instantiable (zFC 3) (zFN 3), .initialized (zFC 3)] : List Cond), w ∈ lw_tbl := z_sub [156, 70] (by decide +kernel)
theorem zc_4 : ∀ w ∈ u_ws (zFC 4) (zFT 4) (zFN 4), w ∈ lw_tbl := z_sub [177, 179] (by decide +kernel)
theorem zi_4 : ∀ w ∈ ([.instantiable (zFC 4) (zFN 4), .initialized (zFC 4)] : List Cond), w ∈ lw_tbl := z_sub [162, 71] (by decide +kernel)
theorem zc_5 : ∀ w ∈ u_ws (zFC 5) (zFT 5) (zFN 5), w ∈ lw_tbl := z_sub [227, 229, 231, 233] (by decide +kernel)
theorem zi_5 : ∀ w ∈ ([.instantiable (zFC 5) (zFN 5), .initialized (zFC 5)] : List Cond), w ∈ lw_tbl := z_sub [197, 72] (by decide +kernel)
theorem zc_6 : ∀ w ∈ u_ws (zFC 6) (zFT 6) (zFN 6), w ∈ lw_tbl := z_sub [215, 217, 219] (by decide +kernel)
theorem zi_6 : ∀ w ∈ ([.instantiable (zFC 6) (zFN 6), .initialized (zFC 6)] : List Cond), w ∈ lw_tbl := z_sub [204, 73] (by decide +kernel)
theorem zc_7 : ∀ w ∈ u_ws (zFC 7) (zFT 7) (zFN 7), w ∈ lw_tbl := z_sub [270, 272, 274, 276] (by decide +kernel)
theorem zi_7 : ∀ w ∈ ([.instantiable (zFC 7) (zFN 7), .initialized (zFC 7)] : List Cond), w ∈ lw_tbl := z_sub [239, 74] (by decide +kernel)
theorem zc_8 : ∀ w ∈ u_ws (zFC 8) (zFT 8) (zFN 8), w ∈ lw_tbl := z_sub [260, 262] (by decide +kernel)
theorem zi_8 : ∀ w ∈ ([.instantiable (zFC 8) (zFN 8), .initialized (zFC 8)] : List Cond), w ∈ lw_tbl := z_sub [247, 75] (by decide +kernel)
theorem zc_9 : ∀ w ∈ u_ws (zFC 9) (zFT 9) (zFN 9), w ∈ lw_tbl := z_sub [291, 293, 295, 297] (by decide +kernel)
theorem zi_9 : ∀ w ∈ ([.instantiable (zFC 9) (zFN 9), .initialized (zFC 9)] : List Cond), w ∈ lw_tbl := z_sub [280, 76] (by decide +kernel)
theorem zc_10 : ∀ w ∈ u_ws (zFC 10) (zFT 10) (zFN 10), w ∈ lw_tbl := z_sub [313, 315, 317, 319] (by decide +kernel)
theorem zi_10 : ∀ w ∈ ([.instantiable (zFC 10) (zFN 10), .initialized (zFC 10)] : List Cond), w ∈ lw_tbl := z_sub [302, 77] (by decide +kernel)
theorem zc_11 : ∀ w ∈ u_ws (zFC 11) (zFT 11) (zFN 11), w ∈ lw_tbl := z_sub [350, 352, 354, 356, 358, 360, 362, 364, 366] (by decide +kernel)
theorem zi_11 : ∀ w ∈ ([.instantiable (zFC 11) (zFN 11), .initialized (zFC 11)] : List Cond), w ∈ lw_tbl := z_sub [326, 78] (by decide +kernel)
theorem zc_12 : ∀ w ∈ u_ws (zFC 12) (zFT 12) (zFN 12), w ∈ lw_tbl := z_sub [841, 843, 845, 847, 849, 851, 853, 855, 857, 859, 861, 863, 865, 867, 869, 871, 873, 875, 877, 879, 881, 883, 885, 887, 889, 891, 893, 895, 897, 899, 901, 903, 905, 907, 909, 911, 913, 915] (by decide +kernel)
theorem zi_12 : ∀ w ∈ ([.instantiable (zFC 12) (zFN 12), .initialized (zFC 12)] : List Cond), w ∈ lw_tbl := z_sub [798, 79] (by decide +kernel)
theorem z_cls (ci : Nat) (h : ci < 13) : (∀ w ∈ u_ws (zFC ci) (zFT ci) (zFN ci), w ∈ lw_tbl) ∧ ∀ w ∈ ([.instantiable (zFC ci) (zFN ci), .initialized (zFC ci)] : List Cond), w ∈ lw_tbl := by
  match ci, h with
  | 0, _ => exact ⟨zc_0, zi_0⟩
  | 1, _ => exact ⟨zc_1, zi_1⟩
  | 2, _ => exact ⟨zc_2, zi_2⟩
  | 3, _ => exact ⟨zc_3, zi_3⟩
  | 4, _ => exact ⟨zc_4, zi_4⟩
  | 5, _ => exact ⟨zc_5, zi_5⟩
  | 6, _ => exact ⟨zc_6, zi_6⟩
  | 7, _ => exact ⟨zc_7, zi_7⟩
  | 8, _ => exact ⟨zc_8, zi_8⟩
  | 9, _ => exact ⟨zc_9, zi_9⟩
  | 10, _ => exact ⟨zc_10, zi_10⟩
  | 11, _ => exact ⟨zc_11, zi_11⟩
  | 12, _ => exact ⟨zc_12, zi_12⟩
theorem z_fy : ∀ ci, ci < 13 → ∀ k, k < zFN ci → parseFieldDescriptor (zFT ci k).2.2.1 = some (zFy ci k) := by decide +kernel
theorem z_fn : ∀ ci, ci < 13 → ∀ a, a < zFN ci → ∀ b, b < zFN ci → a ≠ b → (zFT ci a).2.1 ≠ (zFT ci b).2.1 := by decide +kernel
theorem z_fd : ∀ ci, ci < 13 → ∀ k, k < zFN ci → (zFT ci k).1 = zFC ci ∧ defaultValue (zFy ci k) = zdf ci k := by decide +kernel
theorem z_gen : ∀ w ∈ ([.arrayClass .int, .arrayClass .byte, .arrayClass .boolean, .instanceMethod objectInit, .code objectInit ⟨#[0xb1]⟩ 1 none, .native arraycopyName, .static arraycopyName, .initialized "java/lang/System", .static Lib.Math.max.name, .initialized "java/lang/Math", .code Lib.Math.max.name Lib.Math.max.code 2 (some .int), .arrayOver (.object "ThreeValues$Structure"), .arrayOver (.object "ThreeValues$Formula"), .arrayOver (.object "ThreeValues$Rule"), .arrayOver (.object "ThreeValues$Edge"), .arrayOver (.object "ThreeValues$Bag")] : List Cond), w ∈ lw_tbl := z_sub [182, 918, 300, 89, 90, 563, 562, 82, 493, 81, 494, 92, 100, 203, 237, 323] (by decide +kernel)
