theorem xchkI_12 : xchkI 12 = true := by decide +kernel
