theorem zdP_2 : zdecP zm_175 260 130 = true := by decide +kernel
theorem zdP_3 : zdecP zm_175 390 130 = true := by decide +kernel
