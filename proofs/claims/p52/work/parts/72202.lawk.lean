theorem chL_5 : fL (cdL_5, csLaw_5) = true := by decide +kernel
theorem chL_6 : fL (cdL_6, csLaw_6) = true := by decide +kernel
theorem chL_7 : fL (cdL_7, csLaw_7) = true := by decide +kernel
theorem chL_8 : fL (cdL_8, csLaw_8) = true := by decide +kernel
theorem chL_9 : fL (cdL_9, csLaw_9) = true := by decide +kernel
theorem chL_10 : fL (cdL_10, csLaw_10) = true := by decide +kernel
theorem chL_11 : fL (cdL_11, csLaw_11) = true := by decide +kernel
theorem chL_12 : fL (cdL_12, csLaw_12) = true := by decide +kernel
