theorem chL_37 : fL (cdL_37, csLaw_37) = true := by decide +kernel
theorem chL_38 : fL (cdL_38, csLaw_38) = true := by decide +kernel
theorem chL_39 : fL (cdL_39, csLaw_39) = true := by decide +kernel
theorem chL_40 : fL (cdL_40, csLaw_40) = true := by decide +kernel
theorem chL_41 : fL (cdL_41, csLaw_41) = true := by decide +kernel
theorem chL_42 : fL (cdL_42, csLaw_42) = true := by decide +kernel
theorem chL_43 : fL (cdL_43, csLaw_43) = true := by decide +kernel
theorem chL_44 : fL (cdL_44, csLaw_44) = true := by decide +kernel
