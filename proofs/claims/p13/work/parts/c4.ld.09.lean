section
theorem ok_cio_15_1 (j : Nat) : okp (cio_15_1 j) := by
  unfold cio_15_1
  repeat' (first | exact okp_n | exact okp_s (by decide) | refine okp_c ?_ ?_)
theorem ok_cio_15 (j : Nat) : okp (cio_15 j) := by
  unfold cio_15
  repeat' (first | exact okp_n | exact okp_s (by decide) | exact ok_cio_15_0 j | exact ok_cio_15_1 j | refine okp_c ?_ ?_)
theorem ok_cio_18 (j : Nat) : okp (cio_18 j) := by
  unfold cio_18
  repeat' (first | exact okp_n | exact okp_s (by decide) | refine okp_c ?_ ?_)
theorem ok_cio_22_0 (j : Nat) : okp (cio_22_0 j) := by
  unfold cio_22_0
  repeat' (first | exact okp_n | exact okp_s (by decide) | refine okp_c ?_ ?_)
theorem ok_cio_22_1 (j : Nat) : okp (cio_22_1 j) := by
  unfold cio_22_1
  repeat' (first | exact okp_n | exact okp_s (by decide) | refine okp_c ?_ ?_)
theorem ok_cio_22 (j : Nat) : okp (cio_22 j) := by
  unfold cio_22
  repeat' (first | exact okp_n | exact okp_s (by decide) | exact ok_cio_22_0 j | exact ok_cio_22_1 j | refine okp_c ?_ ?_)
theorem ok_cio_27 (j : Nat) : okp (cio_27 j) := by
  unfold cio_27
  repeat' (first | exact okp_n | exact okp_s (by decide) | refine okp_c ?_ ?_)
theorem ok_cio_33 (j : Nat) : okp (cio_33 j) := by
  unfold cio_33
  repeat' (first | exact okp_n | exact okp_s (by decide) | refine okp_c ?_ ?_)
theorem ok_cio_35 (j : Nat) : okp (cio_35 j) := by
  unfold cio_35
  repeat' (first | exact okp_n | exact okp_s (by decide) | refine okp_c ?_ ?_)
theorem ok_cio_44_0 (j : Nat) : okp (cio_44_0 j) := by
  unfold cio_44_0
  repeat' (first | exact okp_n | exact okp_s (by decide) | refine okp_c ?_ ?_)
theorem ok_cio_44_1 (j : Nat) : okp (cio_44_1 j) := by
  unfold cio_44_1
  repeat' (first | exact okp_n | exact okp_s (by decide) | refine okp_c ?_ ?_)
theorem ok_cio_44 (j : Nat) : okp (cio_44 j) := by
  unfold cio_44
  repeat' (first | exact okp_n | exact okp_s (by decide) | exact ok_cio_44_0 j | exact ok_cio_44_1 j | refine okp_c ?_ ?_)
theorem ok_cio_47 (j : Nat) : okp (cio_47 j) := by
  unfold cio_47
  repeat' (first | exact okp_n | exact okp_s (by decide) | refine okp_c ?_ ?_)
theorem ok_cio_52 (j : Nat) : okp (cio_52 j) := by
  unfold cio_52
  repeat' (first | exact okp_n | exact okp_s (by decide) | refine okp_c ?_ ?_)
theorem ok_cir_0 (j : Nat) : okp (cir_0 j) := by
  unfold cir_0
  repeat' (first | exact okp_n | exact okp_s (by decide) | refine okp_c ?_ ?_)
theorem ok_cir_1 (j : Nat) : okp (cir_1 j) := by
  unfold cir_1
  repeat' (first | exact okp_n | exact okp_s (by decide) | refine okp_c ?_ ?_)
theorem ok_cir_2 (j : Nat) : okp (cir_2 j) := by
  unfold cir_2
  repeat' (first | exact okp_n | exact okp_s (by decide) | refine okp_c ?_ ?_)
theorem ok_cir_3 (j : Nat) : okp (cir_3 j) := by
  unfold cir_3
  repeat' (first | exact okp_n | exact okp_s (by decide) | refine okp_c ?_ ?_)
theorem ok_cir (j : Nat) : okp (cir j) := by
  unfold cir
  repeat' (first | exact okp_n | exact okp_s (by decide) | exact ok_cir_0 j | exact ok_cir_1 j | exact ok_cir_2 j | exact ok_cir_3 j | refine okp_c ?_ ?_)
theorem ok_cio (K j : Nat) : okp (cio K j) := by
  unfold cio
  repeat' (first | exact okp_n | exact ok_cio_1 j | exact ok_cio_9 j | exact ok_cio_14 j | exact ok_cio_15 j | exact ok_cio_18 j | exact ok_cio_22 j | exact ok_cio_27 j | exact ok_cio_33 j | exact ok_cio_35 j | exact ok_cio_44 j | exact ok_cio_47 j | exact ok_cio_52 j | refine okp_c ?_ ?_)
end
