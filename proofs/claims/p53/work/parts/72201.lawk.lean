theorem chL_3 : fL (cdL_3, csLaw_3) = true := by decide +kernel
theorem chL_4 : fL (cdL_4, csLaw_4) = true := by decide +kernel
theorem chL_5 : fL (cdL_5, csLaw_5) = true := by decide +kernel
theorem chL_6 : fL (cdL_6, csLaw_6) = true := by decide +kernel
