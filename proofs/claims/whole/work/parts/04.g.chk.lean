theorem zdP_0 : zdecP zm_175 0 130 = true := by decide +kernel
theorem zdP_1 : zdecP zm_175 130 130 = true := by decide +kernel
