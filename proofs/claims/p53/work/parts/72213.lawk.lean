theorem chL_133 : fL (cdL_133, csLaw_133) = true := by decide +kernel
theorem chL_134 : fL (cdL_134, csLaw_134) = true := by decide +kernel
