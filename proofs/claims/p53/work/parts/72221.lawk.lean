theorem chL_229 : fL (cdL_229, csLaw_229) = true := by decide +kernel
theorem chL_230 : fL (cdL_230, csLaw_230) = true := by decide +kernel
