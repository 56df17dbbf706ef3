theorem chL_7 : fL (cdL_7, csLaw_7) = true := by decide +kernel
theorem chL_8 : fL (cdL_8, csLaw_8) = true := by decide +kernel
theorem chL_9 : fL (cdL_9, csLaw_9) = true := by decide +kernel
theorem chL_10 : fL (cdL_10, csLaw_10) = true := by decide +kernel
theorem chL_11 : fL (cdL_11, csLaw_11) = true := by decide +kernel
theorem chL_12 : fL (cdL_12, csLaw_12) = true := by decide +kernel
theorem chL_13 : fL (cdL_13, csLaw_13) = true := by decide +kernel
