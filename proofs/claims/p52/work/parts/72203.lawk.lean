theorem chL_13 : fL (cdL_13, csLaw_13) = true := by decide +kernel
theorem chL_14 : fL (cdL_14, csLaw_14) = true := by decide +kernel
theorem chL_15 : fL (cdL_15, csLaw_15) = true := by decide +kernel
theorem chL_16 : fL (cdL_16, csLaw_16) = true := by decide +kernel
theorem chL_17 : fL (cdL_17, csLaw_17) = true := by decide +kernel
theorem chL_18 : fL (cdL_18, csLaw_18) = true := by decide +kernel
theorem chL_19 : fL (cdL_19, csLaw_19) = true := by decide +kernel
theorem chL_20 : fL (cdL_20, csLaw_20) = true := by decide +kernel
