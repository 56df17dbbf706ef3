theorem chL_85 : fL (cdL_85, csLaw_85) = true := by decide +kernel
theorem chL_86 : fL (cdL_86, csLaw_86) = true := by decide +kernel
theorem chL_87 : fL (cdL_87, csLaw_87) = true := by decide +kernel
