theorem chL_2 : fL (cdL_2, csLaw_2) = true := by decide +kernel
