theorem chL_34 : fL (cdL_34, csLaw_34) = true := by decide +kernel
theorem chL_35 : fL (cdL_35, csLaw_35) = true := by decide +kernel
theorem chL_36 : fL (cdL_36, csLaw_36) = true := by decide +kernel
theorem chL_37 : fL (cdL_37, csLaw_37) = true := by decide +kernel
theorem chL_38 : fL (cdL_38, csLaw_38) = true := by decide +kernel
