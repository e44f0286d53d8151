theorem zd_163 : zdec zm_163 = true := by decide +kernel
theorem zl_163 : ∀ w ∈ zlinks zm_163, w ∈ lw_tbl := z_sub [174, 449] (by decide +kernel)
theorem zd_164 : zdec zm_164 = true := by decide +kernel
theorem zl_164 : ∀ w ∈ zlinks zm_164, w ∈ lw_tbl := z_sub [174] (by decide +kernel)
theorem zd_165 : zdec zm_165 = true := by decide +kernel
theorem zl_165 : ∀ w ∈ zlinks zm_165, w ∈ lw_tbl := z_sub [174] (by decide +kernel)
theorem zd_166 : zdec zm_166 = true := by decide +kernel
theorem zl_166 : ∀ w ∈ zlinks zm_166, w ∈ lw_tbl := z_sub [174] (by decide +kernel)
theorem zd_167 : zdec zm_167 = true := by decide +kernel
theorem zl_167 : ∀ w ∈ zlinks zm_167, w ∈ lw_tbl := z_sub [174, 423, 167] (by decide +kernel)
theorem zd_168 : zdec zm_168 = true := by decide +kernel
theorem zl_168 : ∀ w ∈ zlinks zm_168, w ∈ lw_tbl := z_sub [174, 174, 561, 167, 167] (by decide +kernel)
theorem zd_169 : zdec zm_169 = true := by decide +kernel
theorem zl_169 : ∀ w ∈ zlinks zm_169, w ∈ lw_tbl := z_sub [167, 167, 167, 167, 167, 174, 174, 174, 174] (by decide +kernel)
theorem zd_170 : zdec zm_170 = true := by decide +kernel
theorem zl_170 : ∀ w ∈ zlinks zm_170, w ∈ lw_tbl := z_sub [167, 167, 167, 174, 174, 561, 710, 711, 710, 711, 710, 711] (by decide +kernel)
theorem zd_171 : zdec zm_171 = true := by decide +kernel
theorem zl_171 : ∀ w ∈ zlinks zm_171, w ∈ lw_tbl := z_sub [167, 711, 167, 711, 167, 167] (by decide +kernel)
theorem zd_172 : zdec zm_172 = true := by decide +kernel
theorem zl_172 : ∀ w ∈ zlinks zm_172, w ∈ lw_tbl := z_sub [] (by decide +kernel)
theorem zd_173 : zdec zm_173 = true := by decide +kernel
theorem zl_173 : ∀ w ∈ zlinks zm_173, w ∈ lw_tbl := z_sub [426] (by decide +kernel)
theorem zd_174 : zdec zm_174 = true := by decide +kernel
theorem zl_174 : ∀ w ∈ zlinks zm_174, w ∈ lw_tbl := z_sub [] (by decide +kernel)
