theorem zdP_6 : zdecP zm_175 780 130 = true := by decide +kernel
theorem zdP_7 : zdecP zm_175 910 130 = true := by decide +kernel
