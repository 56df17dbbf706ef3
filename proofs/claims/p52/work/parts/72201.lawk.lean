theorem chL_2 : fL (cdL_2, csLaw_2) = true := by decide +kernel
theorem chL_3 : fL (cdL_3, csLaw_3) = true := by decide +kernel
theorem chL_4 : fL (cdL_4, csLaw_4) = true := by decide +kernel
