theorem xchkC_0 : xchkC 0 = true := by decide +kernel
theorem xchkC_1 : xchkC 1 = true := by decide +kernel
theorem xchkC_2 : xchkC 2 = true := by decide +kernel
theorem xchkC_3 : xchkC 3 = true := by decide +kernel
theorem xchkC_4 : xchkC 4 = true := by decide +kernel
theorem xchkC_5 : xchkC 5 = true := by decide +kernel
theorem xchkC_6 : xchkC 6 = true := by decide +kernel
theorem xchkC_7 : xchkC 7 = true := by decide +kernel
theorem xchkC_8 : xchkC 8 = true := by decide +kernel
theorem xchkC_9 : xchkC 9 = true := by decide +kernel
theorem xchkC_10 : xchkC 10 = true := by decide +kernel
theorem xchkC_11 : xchkC 11 = true := by decide +kernel
theorem xchkC_12 : xchkC 12 = true := by decide +kernel
theorem xchkC_13 : xchkC 13 = true := by decide +kernel
theorem xchkC_14 : xchkC 14 = true := by decide +kernel
theorem xchkC_15 : xchkC 15 = true := by decide +kernel
theorem xchkC_16 : xchkC 16 = true := by decide +kernel
theorem xchkC_17 : xchkC 17 = true := by decide +kernel
theorem xchkC_all : ∀ oc, oc < 18 → xchkC oc = true
  | 0, _ => xchkC_0
  | 1, _ => xchkC_1
  | 2, _ => xchkC_2
  | 3, _ => xchkC_3
  | 4, _ => xchkC_4
  | 5, _ => xchkC_5
  | 6, _ => xchkC_6
  | 7, _ => xchkC_7
  | 8, _ => xchkC_8
  | 9, _ => xchkC_9
  | 10, _ => xchkC_10
  | 11, _ => xchkC_11
  | 12, _ => xchkC_12
  | 13, _ => xchkC_13
  | 14, _ => xchkC_14
  | 15, _ => xchkC_15
  | 16, _ => xchkC_16
  | 17, _ => xchkC_17
  | n + 18, h => absurd h (by omega)
