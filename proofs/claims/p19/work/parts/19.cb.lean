/-! ===== comparisons by whole numbers ===== -/
theorem cbt_eq {x y : Int32} (h : x.toInt = y.toInt) : ix_cb .eq x y = true := decide_eq_true (Int32.toInt_inj.mp h)
theorem cbf_eq {x y : Int32} (h : ¬ x.toInt = y.toInt) : ix_cb .eq x y = false := decide_eq_false (fun q => h (by rw [q]))
theorem cbt_ne {x y : Int32} (h : ¬ x.toInt = y.toInt) : ix_cb .ne x y = true := decide_eq_true (fun q => h (by rw [q]))
theorem cbf_ne {x y : Int32} (h : x.toInt = y.toInt) : ix_cb .ne x y = false := decide_eq_false (fun q => q (Int32.toInt_inj.mp h))
theorem cbt_lt {x y : Int32} (h : x.toInt < y.toInt) : ix_cb .lt x y = true := decide_eq_true (Int32.lt_iff_toInt_lt.mpr h)
theorem cbf_lt {x y : Int32} (h : ¬ x.toInt < y.toInt) : ix_cb .lt x y = false := decide_eq_false (fun q => h (Int32.lt_iff_toInt_lt.mp q))
theorem cbt_ge {x y : Int32} (h : y.toInt ≤ x.toInt) : ix_cb .ge x y = true := decide_eq_true (Int32.le_iff_toInt_le.mpr h)
theorem cbf_ge {x y : Int32} (h : ¬ y.toInt ≤ x.toInt) : ix_cb .ge x y = false := decide_eq_false (fun q => h (Int32.le_iff_toInt_le.mp q))
theorem cbt_gt {x y : Int32} (h : y.toInt < x.toInt) : ix_cb .gt x y = true := decide_eq_true (Int32.lt_iff_toInt_lt.mpr h)
theorem cbf_gt {x y : Int32} (h : ¬ y.toInt < x.toInt) : ix_cb .gt x y = false := decide_eq_false (fun q => h (Int32.lt_iff_toInt_lt.mp q))
theorem cbt_le {x y : Int32} (h : x.toInt ≤ y.toInt) : ix_cb .le x y = true := decide_eq_true (Int32.le_iff_toInt_le.mpr h)
theorem cbf_le {x y : Int32} (h : ¬ x.toInt ≤ y.toInt) : ix_cb .le x y = false := decide_eq_false (fun q => h (Int32.le_iff_toInt_le.mp q))
theorem lgc_lt {x y : Int64} (h : x.toInt < y.toInt) : lg_cmp x y = -1 := by
  have h1 : ¬ x > y := fun q => by have := Int64.lt_iff_toInt_lt.mp q; omega
  have h2 : ¬ x = y := fun q => by rw [q] at h; omega
  unfold lg_cmp
  rw [if_neg h1, if_neg h2]
theorem lgc_gt {x y : Int64} (h : y.toInt < x.toInt) : lg_cmp x y = 1 := by
  unfold lg_cmp
  rw [if_pos (Int64.lt_iff_toInt_lt.mpr h)]
theorem lgc_eq {x y : Int64} (h : x.toInt = y.toInt) : lg_cmp x y = 0 := by
  have e : x = y := Int64.toInt_inj.mp h
  have h1 : ¬ x > y := fun q => by have := Int64.lt_iff_toInt_lt.mp q; omega
  unfold lg_cmp
  rw [if_neg h1, if_pos e]
theorem cbl {cd : Jvm.ClassFile.Cond} {v w : Int32} {b : Bool} (h : v = w) (h2 : ix_cb cd w 0 = b) : ix_cb cd v 0 = b := by rw [h]; exact h2
theorem lgc_tri (x y : Int64) : (x.toInt < y.toInt ∧ lg_cmp x y = -1) ∨ (x.toInt = y.toInt ∧ lg_cmp x y = 0) ∨ (y.toInt < x.toInt ∧ lg_cmp x y = 1) := by
  rcases Int.lt_trichotomy x.toInt y.toInt with h | h | h
  · exact Or.inl ⟨h, lgc_lt h⟩
  · exact Or.inr (Or.inl ⟨h, lgc_eq h⟩)
  · exact Or.inr (Or.inr ⟨h, lgc_gt h⟩)
theorem clt_lt {x y : Int64} (h : x.toInt < y.toInt) : ix_cb .lt (lg_cmp x y) 0 = true := by
  rcases lgc_tri x y with ⟨h1, e⟩ | ⟨h1, e⟩ | ⟨h1, e⟩ <;> first | (exfalso; omega) | (rw [e]; decide)
theorem clf_lt {x y : Int64} (h : ¬ (x.toInt < y.toInt)) : ix_cb .lt (lg_cmp x y) 0 = false := by
  rcases lgc_tri x y with ⟨h1, e⟩ | ⟨h1, e⟩ | ⟨h1, e⟩ <;> first | (exfalso; omega) | (rw [e]; decide)
theorem clt_ge {x y : Int64} (h : y.toInt ≤ x.toInt) : ix_cb .ge (lg_cmp x y) 0 = true := by
  rcases lgc_tri x y with ⟨h1, e⟩ | ⟨h1, e⟩ | ⟨h1, e⟩ <;> first | (exfalso; omega) | (rw [e]; decide)
theorem clf_ge {x y : Int64} (h : ¬ (y.toInt ≤ x.toInt)) : ix_cb .ge (lg_cmp x y) 0 = false := by
  rcases lgc_tri x y with ⟨h1, e⟩ | ⟨h1, e⟩ | ⟨h1, e⟩ <;> first | (exfalso; omega) | (rw [e]; decide)
theorem clt_gt {x y : Int64} (h : y.toInt < x.toInt) : ix_cb .gt (lg_cmp x y) 0 = true := by
  rcases lgc_tri x y with ⟨h1, e⟩ | ⟨h1, e⟩ | ⟨h1, e⟩ <;> first | (exfalso; omega) | (rw [e]; decide)
theorem clf_gt {x y : Int64} (h : ¬ (y.toInt < x.toInt)) : ix_cb .gt (lg_cmp x y) 0 = false := by
  rcases lgc_tri x y with ⟨h1, e⟩ | ⟨h1, e⟩ | ⟨h1, e⟩ <;> first | (exfalso; omega) | (rw [e]; decide)
theorem clt_le {x y : Int64} (h : x.toInt ≤ y.toInt) : ix_cb .le (lg_cmp x y) 0 = true := by
  rcases lgc_tri x y with ⟨h1, e⟩ | ⟨h1, e⟩ | ⟨h1, e⟩ <;> first | (exfalso; omega) | (rw [e]; decide)
theorem clf_le {x y : Int64} (h : ¬ (x.toInt ≤ y.toInt)) : ix_cb .le (lg_cmp x y) 0 = false := by
  rcases lgc_tri x y with ⟨h1, e⟩ | ⟨h1, e⟩ | ⟨h1, e⟩ <;> first | (exfalso; omega) | (rw [e]; decide)
theorem clt_eq {x y : Int64} (h : x.toInt = y.toInt) : ix_cb .eq (lg_cmp x y) 0 = true := by
  rcases lgc_tri x y with ⟨h1, e⟩ | ⟨h1, e⟩ | ⟨h1, e⟩ <;> first | (exfalso; omega) | (rw [e]; decide)
theorem clf_eq {x y : Int64} (h : ¬ (x.toInt = y.toInt)) : ix_cb .eq (lg_cmp x y) 0 = false := by
  rcases lgc_tri x y with ⟨h1, e⟩ | ⟨h1, e⟩ | ⟨h1, e⟩ <;> first | (exfalso; omega) | (rw [e]; decide)
theorem clt_ne {x y : Int64} (h : ¬ x.toInt = y.toInt) : ix_cb .ne (lg_cmp x y) 0 = true := by
  rcases lgc_tri x y with ⟨h1, e⟩ | ⟨h1, e⟩ | ⟨h1, e⟩ <;> first | (exfalso; omega) | (rw [e]; decide)
theorem clf_ne {x y : Int64} (h : x.toInt = y.toInt) : ix_cb .ne (lg_cmp x y) 0 = false := by
  rcases lgc_tri x y with ⟨h1, e⟩ | ⟨h1, e⟩ | ⟨h1, e⟩ <;> first | (exfalso; omega) | (rw [e]; decide)
theorem sub_ok {x y : Int32} (h : -2147483648 ≤ x.toInt - y.toInt ∧ x.toInt - y.toInt ≤ 2147483647) : (x - y).toInt = x.toInt - y.toInt := by
  rw [Int32.toInt_sub]
  exact Int.bmod_eq_of_le (by omega) (by omega)
section IXSW
variable {T : ix_T} {f : ix_F} {M : ix_M}
theorem ix_n_tswo {pc t : Nat} {ls : ix_L} {st : List Value} {hp : ix_H} {dflt lo hi : Int} {offs : Array Int} {x : Int32} (hi0 : M.2.2.2.2.2.2 pc = some (.tableswitch dflt lo hi offs)) (ht : ix_tg pc dflt = some t) (hc : x.toInt < lo ∨ hi < x.toInt) : ix_n T f M 1 (pc, ls, .int x :: st, hp) = some (.inl (t, ls, st, hp)) := by
  refine ix_n_s ?_
  rw [ix_one_sem T f M pc ls _ hp hi0, fxk_tsw (res := .inl (t, ls, st, hp)) (by
    unfold fx_tsw
    simp only [if_pos hc, ht])]
end IXSW
