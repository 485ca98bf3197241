theorem xchkI_13 : xchkI 13 = true := by decide +kernel
theorem xchkI_14 : xchkI 14 = true := by decide +kernel
theorem xchkI_15 : xchkI 15 = true := by decide +kernel
theorem xchkI_16 : xchkI 16 = true := by decide +kernel
theorem xchkI_17 : xchkI 17 = true := by decide +kernel
