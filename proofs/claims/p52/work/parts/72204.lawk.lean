theorem chL_21 : fL (cdL_21, csLaw_21) = true := by decide +kernel
theorem chL_22 : fL (cdL_22, csLaw_22) = true := by decide +kernel
theorem chL_23 : fL (cdL_23, csLaw_23) = true := by decide +kernel
theorem chL_24 : fL (cdL_24, csLaw_24) = true := by decide +kernel
theorem chL_25 : fL (cdL_25, csLaw_25) = true := by decide +kernel
theorem chL_26 : fL (cdL_26, csLaw_26) = true := by decide +kernel
theorem chL_27 : fL (cdL_27, csLaw_27) = true := by decide +kernel
