theorem chL_20 : fL (cdL_20, csLaw_20) = true := by decide +kernel
theorem chL_21 : fL (cdL_21, csLaw_21) = true := by decide +kernel
theorem chL_22 : fL (cdL_22, csLaw_22) = true := by decide +kernel
theorem chL_23 : fL (cdL_23, csLaw_23) = true := by decide +kernel
theorem chL_24 : fL (cdL_24, csLaw_24) = true := by decide +kernel
theorem chL_25 : fL (cdL_25, csLaw_25) = true := by decide +kernel
