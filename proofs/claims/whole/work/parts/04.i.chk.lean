theorem zdP_4 : zdecP zm_175 520 130 = true := by decide +kernel
theorem zdP_5 : zdecP zm_175 650 130 = true := by decide +kernel
