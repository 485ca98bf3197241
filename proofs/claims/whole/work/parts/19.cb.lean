/-! ===== comparisons by whole numbers ===== -/
theorem cbt_eq {x y : Int32} (h : x.toInt = y.toInt) : ix_cb .eq x y = true := decide_eq_true (Int32.toInt_inj.mp h)
theorem cbf_eq {x y : Int32} (h : ¬ x.toInt = y.toInt) : ix_cb .eq x y = false := decide_eq_false (fun q => h (by rw [q]))
theorem cbt_ne {x y : Int32} (h : ¬ x.toInt = y.toInt) : ix_cb .ne x y = true := decide_eq_true (fun q => h (by rw [q]))
theorem cbf_ne {x y : Int32} (h : x.toInt = y.toInt) : ix_cb .ne x y = false := decide_eq_false (fun q => q (Int32.toInt_inj.mp h))
theorem cbt_lt {x y : Int32} (h : x.toInt < y.toInt) : ix_cb .lt x y = true := decide_eq_true (Int32.lt_iff_toInt_lt.mpr h)
theorem cbf_lt {x y : Int32} (h : ¬ x.toInt < y.toInt) : ix_cb .lt x y = false := decide_eq_false (fun q => h (Int32.lt_iff_toInt_lt.mp q))
theorem cbt_ge {x y : Int32} (h : y.toInt ≤ x.toInt) : ix_cb .ge x y = true := decide_eq_true (Int32.le_iff_toInt_le.mpr h)
theorem cbf_ge {x y : Int32} (h : ¬ y.toInt ≤ x.toInt) : ix_cb .ge x y = false := decide_eq_false (fun q => h (Int32.le_iff_toInt_le.mp q))
theorem cbt_gt {x y : Int32} (h : y.toInt < x.toInt) : ix_cb .gt x y = true := decide_eq_true (Int32.lt_iff_toInt_lt.mpr h)
theorem cbf_gt {x y : Int32} (h : ¬ y.toInt < x.toInt) : ix_cb .gt x y = false := decide_eq_false (fun q => h (Int32.lt_iff_toInt_lt.mp q))
theorem cbt_le {x y : Int32} (h : x.toInt ≤ y.toInt) : ix_cb .le x y = true := decide_eq_true (Int32.le_iff_toInt_le.mpr h)
theorem cbf_le {x y : Int32} (h : ¬ x.toInt ≤ y.toInt) : ix_cb .le x y = false := decide_eq_false (fun q => h (Int32.le_iff_toInt_le.mp q))
theorem lgc_lt {x y : Int64} (h : x.toInt < y.toInt) : lg_cmp x y = -1 := by
  have h1 : ¬ x > y := fun q => by have := Int64.lt_iff_toInt_lt.mp q; omega
  have h2 : ¬ x = y := fun q => by rw [q] at h; omega
  unfold lg_cmp
  rw [if_neg h1, if_neg h2]
theorem lgc_gt {x y : Int64} (h : y.toInt < x.toInt) : lg_cmp x y = 1 := by
  unfold lg_cmp
  rw [if_pos (Int64.lt_iff_toInt_lt.mpr h)]
theorem lgc_eq {x y : Int64} (h : x.toInt = y.toInt) : lg_cmp x y = 0 := by
  have e : x = y := Int64.toInt_inj.mp h
  have h1 : ¬ x > y := fun q => by have := Int64.lt_iff_toInt_lt.mp q; omega
  unfold lg_cmp
  rw [if_neg h1, if_pos e]
theorem cbl {cd : Jvm.ClassFile.Cond} {v w : Int32} {b : Bool} (h : v = w) (h2 : ix_cb cd w 0 = b) : ix_cb cd v 0 = b := by rw [h]; exact h2
