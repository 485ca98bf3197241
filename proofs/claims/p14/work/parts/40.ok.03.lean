theorem xchkK_0 : xchkK 0 = true := by decide +kernel
theorem xchkK_1 : xchkK 1 = true := by decide +kernel
theorem xchkK_2 : xchkK 2 = true := by decide +kernel
theorem xchkK_3 : xchkK 3 = true := by decide +kernel
theorem xchkK_4 : xchkK 4 = true := by decide +kernel
theorem xchkK_5 : xchkK 5 = true := by decide +kernel
theorem xchkK_6 : xchkK 6 = true := by decide +kernel
theorem xchkK_7 : xchkK 7 = true := by decide +kernel
theorem xchkK_8 : xchkK 8 = true := by decide +kernel
theorem xchkK_9 : xchkK 9 = true := by decide +kernel
theorem xchkK_10 : xchkK 10 = true := by decide +kernel
theorem xchkK_11 : xchkK 11 = true := by decide +kernel
theorem xchkK_12 : xchkK 12 = true := by decide +kernel
theorem xchkK_13 : xchkK 13 = true := by decide +kernel
theorem xchkK_14 : xchkK 14 = true := by decide +kernel
theorem xchkK_15 : xchkK 15 = true := by decide +kernel
theorem xchkK_16 : xchkK 16 = true := by decide +kernel
theorem xchkK_17 : xchkK 17 = true := by decide +kernel
theorem xchkK_all : ∀ oc, oc < 18 → xchkK oc = true
  | 0, _ => xchkK_0
  | 1, _ => xchkK_1
  | 2, _ => xchkK_2
  | 3, _ => xchkK_3
  | 4, _ => xchkK_4
  | 5, _ => xchkK_5
  | 6, _ => xchkK_6
  | 7, _ => xchkK_7
  | 8, _ => xchkK_8
  | 9, _ => xchkK_9
  | 10, _ => xchkK_10
  | 11, _ => xchkK_11
  | 12, _ => xchkK_12
  | 13, _ => xchkK_13
  | 14, _ => xchkK_14
  | 15, _ => xchkK_15
  | 16, _ => xchkK_16
  | 17, _ => xchkK_17
  | n + 18, h => absurd h (by omega)
