theorem chL_223 : fL (cdL_223, csLaw_223) = true := by decide +kernel
theorem chL_224 : fL (cdL_224, csLaw_224) = true := by decide +kernel
theorem chL_225 : fL (cdL_225, csLaw_225) = true := by decide +kernel
theorem chL_226 : fL (cdL_226, csLaw_226) = true := by decide +kernel
theorem chL_227 : fL (cdL_227, csLaw_227) = true := by decide +kernel
theorem chL_228 : fL (cdL_228, csLaw_228) = true := by decide +kernel
