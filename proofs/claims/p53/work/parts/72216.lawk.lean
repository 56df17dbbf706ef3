theorem chL_175 : fL (cdL_175, csLaw_175) = true := by decide +kernel
theorem chL_176 : fL (cdL_176, csLaw_176) = true := by decide +kernel
theorem chL_177 : fL (cdL_177, csLaw_177) = true := by decide +kernel
theorem chL_178 : fL (cdL_178, csLaw_178) = true := by decide +kernel
theorem chL_179 : fL (cdL_179, csLaw_179) = true := by decide +kernel
theorem chL_180 : fL (cdL_180, csLaw_180) = true := by decide +kernel
