theorem chL_181 : fL (cdL_181, csLaw_181) = true := by decide +kernel
theorem chL_182 : fL (cdL_182, csLaw_182) = true := by decide +kernel
