theorem chL_128 : fL (cdL_128, csLaw_128) = true := by decide +kernel
theorem chL_129 : fL (cdL_129, csLaw_129) = true := by decide +kernel
theorem chL_130 : fL (cdL_130, csLaw_130) = true := by decide +kernel
theorem chL_131 : fL (cdL_131, csLaw_131) = true := by decide +kernel
theorem chL_132 : fL (cdL_132, csLaw_132) = true := by decide +kernel
