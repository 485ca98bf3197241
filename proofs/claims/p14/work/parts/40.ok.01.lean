theorem xchkF_0 : xchkF 0 = true := by decide +kernel
theorem xchkF_1 : xchkF 1 = true := by decide +kernel
theorem xchkF_2 : xchkF 2 = true := by decide +kernel
theorem xchkF_3 : xchkF 3 = true := by decide +kernel
theorem xchkF_4 : xchkF 4 = true := by decide +kernel
theorem xchkF_5 : xchkF 5 = true := by decide +kernel
theorem xchkF_6 : xchkF 6 = true := by decide +kernel
theorem xchkF_7 : xchkF 7 = true := by decide +kernel
theorem xchkF_8 : xchkF 8 = true := by decide +kernel
theorem xchkF_9 : xchkF 9 = true := by decide +kernel
theorem xchkF_10 : xchkF 10 = true := by decide +kernel
theorem xchkF_11 : xchkF 11 = true := by decide +kernel
theorem xchkF_12 : xchkF 12 = true := by decide +kernel
theorem xchkF_13 : xchkF 13 = true := by decide +kernel
theorem xchkF_14 : xchkF 14 = true := by decide +kernel
theorem xchkF_15 : xchkF 15 = true := by decide +kernel
theorem xchkF_16 : xchkF 16 = true := by decide +kernel
theorem xchkF_17 : xchkF 17 = true := by decide +kernel
theorem xchkF_all : ∀ oc, oc < 18 → xchkF oc = true
  | 0, _ => xchkF_0
  | 1, _ => xchkF_1
  | 2, _ => xchkF_2
  | 3, _ => xchkF_3
  | 4, _ => xchkF_4
  | 5, _ => xchkF_5
  | 6, _ => xchkF_6
  | 7, _ => xchkF_7
  | 8, _ => xchkF_8
  | 9, _ => xchkF_9
  | 10, _ => xchkF_10
  | 11, _ => xchkF_11
  | 12, _ => xchkF_12
  | 13, _ => xchkF_13
  | 14, _ => xchkF_14
  | 15, _ => xchkF_15
  | 16, _ => xchkF_16
  | 17, _ => xchkF_17
  | n + 18, h => absurd h (by omega)
