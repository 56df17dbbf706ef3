theorem chL_26 : fL (cdL_26, csLaw_26) = true := by decide +kernel
theorem chL_27 : fL (cdL_27, csLaw_27) = true := by decide +kernel
theorem chL_28 : fL (cdL_28, csLaw_28) = true := by decide +kernel
theorem chL_29 : fL (cdL_29, csLaw_29) = true := by decide +kernel
theorem chL_30 : fL (cdL_30, csLaw_30) = true := by decide +kernel
theorem chL_31 : fL (cdL_31, csLaw_31) = true := by decide +kernel
theorem chL_32 : fL (cdL_32, csLaw_32) = true := by decide +kernel
theorem chL_33 : fL (cdL_33, csLaw_33) = true := by decide +kernel
