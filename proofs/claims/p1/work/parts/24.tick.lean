/-! ===== tick on a fresh object: the class, the law ===== -/
def xcC (t : Int32) : ix_C := .inr (0, [.ref 1, .int 0, .ref 2, .ref 3, .ref 9, .ref 10, .ref 11, .ref 14, .int t, .ref 15, .ref 413, .ref 421, .ref 523, .ref 524, .ref 525])
def xcH (t : Int32) : ix_H := (688, 70427, ix_up xh0 0 (xcC t))
section XTICKC
variable (A : Nat → Option (Nat × (Nat → Int32))) (K d : Nat) (n t : Int32)
set_option maxRecDepth 100000 in
theorem xag_0 : ix_n (xT A) (ix_run (xT A) K d) xm_51 2 (0, [(0, .ref 15), (1, .int t)], [], xcH t) = some (.inl (2, [(2, .int 0), (0, .ref 15), (1, .int t)], [], xcH t)) := iy_n_ok (iy_run_ok _ _ _) rfl
set_option maxRecDepth 100000 in
theorem xag_a0 : ix_n (xT A) (ix_run (xT A) K d) xm_51 9 (2, [(2, .int 0), (0, .ref 15), (1, .int t)], [], xcH t) = some (.inl (18, [(2, .int 0), (0, .ref 15), (1, .int t)], [.int t, .int 0], xcH t)) := iy_n_ok (iy_run_ok _ _ _) rfl
set_option maxRecDepth 100000 in
theorem xag_b0 : ix_n (xT A) (ix_run (xT A) K d) xm_51 8 (21, [(2, .int 0), (0, .ref 15), (1, .int t)], [], xcH t) = some (.inl (2, [(2, .int 1), (0, .ref 15), (1, .int t)], [], xcH t)) := by
  have z : ix_n (xT A) (ix_run (xT A) K d) xm_51 8 (21, [(2, .int 0), (0, .ref 15), (1, .int t)], [], xcH t) = some (.inl (2, [(2, .int 1), (0, .ref 15), (1, .int t)], [], ix_put (xcH t) 29 xk_29)) := iy_n_ok (iy_run_ok _ _ _) rfl
  rw [xput_same (hp := xcH t) (a := 29) (c := xk_29) rfl] at z
  exact z
set_option maxRecDepth 100000 in
theorem xag_a1 : ix_n (xT A) (ix_run (xT A) K d) xm_51 9 (2, [(2, .int 1), (0, .ref 15), (1, .int t)], [], xcH t) = some (.inl (18, [(2, .int 1), (0, .ref 15), (1, .int t)], [.int t, .int 0], xcH t)) := iy_n_ok (iy_run_ok _ _ _) rfl
set_option maxRecDepth 100000 in
theorem xag_b1 : ix_n (xT A) (ix_run (xT A) K d) xm_51 8 (21, [(2, .int 1), (0, .ref 15), (1, .int t)], [], xcH t) = some (.inl (2, [(2, .int 2), (0, .ref 15), (1, .int t)], [], xcH t)) := by
  have z : ix_n (xT A) (ix_run (xT A) K d) xm_51 8 (21, [(2, .int 1), (0, .ref 15), (1, .int t)], [], xcH t) = some (.inl (2, [(2, .int 2), (0, .ref 15), (1, .int t)], [], ix_put (xcH t) 45 xk_45)) := iy_n_ok (iy_run_ok _ _ _) rfl
  rw [xput_same (hp := xcH t) (a := 45) (c := xk_45) rfl] at z
  exact z
set_option maxRecDepth 100000 in
theorem xag_a2 : ix_n (xT A) (ix_run (xT A) K d) xm_51 9 (2, [(2, .int 2), (0, .ref 15), (1, .int t)], [], xcH t) = some (.inl (18, [(2, .int 2), (0, .ref 15), (1, .int t)], [.int t, .int 0], xcH t)) := iy_n_ok (iy_run_ok _ _ _) rfl
set_option maxRecDepth 100000 in
theorem xag_b2 : ix_n (xT A) (ix_run (xT A) K d) xm_51 8 (21, [(2, .int 2), (0, .ref 15), (1, .int t)], [], xcH t) = some (.inl (2, [(2, .int 3), (0, .ref 15), (1, .int t)], [], xcH t)) := by
  have z : ix_n (xT A) (ix_run (xT A) K d) xm_51 8 (21, [(2, .int 2), (0, .ref 15), (1, .int t)], [], xcH t) = some (.inl (2, [(2, .int 3), (0, .ref 15), (1, .int t)], [], ix_put (xcH t) 61 xk_61)) := iy_n_ok (iy_run_ok _ _ _) rfl
  rw [xput_same (hp := xcH t) (a := 61) (c := xk_61) rfl] at z
  exact z
set_option maxRecDepth 100000 in
theorem xag_a3 : ix_n (xT A) (ix_run (xT A) K d) xm_51 9 (2, [(2, .int 3), (0, .ref 15), (1, .int t)], [], xcH t) = some (.inl (18, [(2, .int 3), (0, .ref 15), (1, .int t)], [.int t, .int 0], xcH t)) := iy_n_ok (iy_run_ok _ _ _) rfl
set_option maxRecDepth 100000 in
theorem xag_b3 : ix_n (xT A) (ix_run (xT A) K d) xm_51 8 (21, [(2, .int 3), (0, .ref 15), (1, .int t)], [], xcH t) = some (.inl (2, [(2, .int 4), (0, .ref 15), (1, .int t)], [], xcH t)) := by
  have z : ix_n (xT A) (ix_run (xT A) K d) xm_51 8 (21, [(2, .int 3), (0, .ref 15), (1, .int t)], [], xcH t) = some (.inl (2, [(2, .int 4), (0, .ref 15), (1, .int t)], [], ix_put (xcH t) 77 xk_77)) := iy_n_ok (iy_run_ok _ _ _) rfl
  rw [xput_same (hp := xcH t) (a := 77) (c := xk_77) rfl] at z
  exact z
set_option maxRecDepth 100000 in
theorem xag_a4 : ix_n (xT A) (ix_run (xT A) K d) xm_51 9 (2, [(2, .int 4), (0, .ref 15), (1, .int t)], [], xcH t) = some (.inl (18, [(2, .int 4), (0, .ref 15), (1, .int t)], [.int t, .int 0], xcH t)) := iy_n_ok (iy_run_ok _ _ _) rfl
set_option maxRecDepth 100000 in
theorem xag_b4 : ix_n (xT A) (ix_run (xT A) K d) xm_51 8 (21, [(2, .int 4), (0, .ref 15), (1, .int t)], [], xcH t) = some (.inl (2, [(2, .int 5), (0, .ref 15), (1, .int t)], [], xcH t)) := by
  have z : ix_n (xT A) (ix_run (xT A) K d) xm_51 8 (21, [(2, .int 4), (0, .ref 15), (1, .int t)], [], xcH t) = some (.inl (2, [(2, .int 5), (0, .ref 15), (1, .int t)], [], ix_put (xcH t) 93 xk_93)) := iy_n_ok (iy_run_ok _ _ _) rfl
  rw [xput_same (hp := xcH t) (a := 93) (c := xk_93) rfl] at z
  exact z
set_option maxRecDepth 100000 in
theorem xag_a5 : ix_n (xT A) (ix_run (xT A) K d) xm_51 9 (2, [(2, .int 5), (0, .ref 15), (1, .int t)], [], xcH t) = some (.inl (18, [(2, .int 5), (0, .ref 15), (1, .int t)], [.int t, .int 0], xcH t)) := iy_n_ok (iy_run_ok _ _ _) rfl
set_option maxRecDepth 100000 in
theorem xag_b5 : ix_n (xT A) (ix_run (xT A) K d) xm_51 8 (21, [(2, .int 5), (0, .ref 15), (1, .int t)], [], xcH t) = some (.inl (2, [(2, .int 6), (0, .ref 15), (1, .int t)], [], xcH t)) := by
  have z : ix_n (xT A) (ix_run (xT A) K d) xm_51 8 (21, [(2, .int 5), (0, .ref 15), (1, .int t)], [], xcH t) = some (.inl (2, [(2, .int 6), (0, .ref 15), (1, .int t)], [], ix_put (xcH t) 109 xk_109)) := iy_n_ok (iy_run_ok _ _ _) rfl
  rw [xput_same (hp := xcH t) (a := 109) (c := xk_109) rfl] at z
  exact z
set_option maxRecDepth 100000 in
theorem xag_a6 : ix_n (xT A) (ix_run (xT A) K d) xm_51 9 (2, [(2, .int 6), (0, .ref 15), (1, .int t)], [], xcH t) = some (.inl (18, [(2, .int 6), (0, .ref 15), (1, .int t)], [.int t, .int 0], xcH t)) := iy_n_ok (iy_run_ok _ _ _) rfl
set_option maxRecDepth 100000 in
theorem xag_b6 : ix_n (xT A) (ix_run (xT A) K d) xm_51 8 (21, [(2, .int 6), (0, .ref 15), (1, .int t)], [], xcH t) = some (.inl (2, [(2, .int 7), (0, .ref 15), (1, .int t)], [], xcH t)) := by
  have z : ix_n (xT A) (ix_run (xT A) K d) xm_51 8 (21, [(2, .int 6), (0, .ref 15), (1, .int t)], [], xcH t) = some (.inl (2, [(2, .int 7), (0, .ref 15), (1, .int t)], [], ix_put (xcH t) 125 xk_125)) := iy_n_ok (iy_run_ok _ _ _) rfl
  rw [xput_same (hp := xcH t) (a := 125) (c := xk_125) rfl] at z
  exact z
set_option maxRecDepth 100000 in
theorem xag_a7 : ix_n (xT A) (ix_run (xT A) K d) xm_51 9 (2, [(2, .int 7), (0, .ref 15), (1, .int t)], [], xcH t) = some (.inl (18, [(2, .int 7), (0, .ref 15), (1, .int t)], [.int t, .int 0], xcH t)) := iy_n_ok (iy_run_ok _ _ _) rfl
set_option maxRecDepth 100000 in
theorem xag_b7 : ix_n (xT A) (ix_run (xT A) K d) xm_51 8 (21, [(2, .int 7), (0, .ref 15), (1, .int t)], [], xcH t) = some (.inl (2, [(2, .int 8), (0, .ref 15), (1, .int t)], [], xcH t)) := by
  have z : ix_n (xT A) (ix_run (xT A) K d) xm_51 8 (21, [(2, .int 7), (0, .ref 15), (1, .int t)], [], xcH t) = some (.inl (2, [(2, .int 8), (0, .ref 15), (1, .int t)], [], ix_put (xcH t) 141 xk_141)) := iy_n_ok (iy_run_ok _ _ _) rfl
  rw [xput_same (hp := xcH t) (a := 141) (c := xk_141) rfl] at z
  exact z
set_option maxRecDepth 100000 in
theorem xag_a8 : ix_n (xT A) (ix_run (xT A) K d) xm_51 9 (2, [(2, .int 8), (0, .ref 15), (1, .int t)], [], xcH t) = some (.inl (18, [(2, .int 8), (0, .ref 15), (1, .int t)], [.int t, .int 0], xcH t)) := iy_n_ok (iy_run_ok _ _ _) rfl
set_option maxRecDepth 100000 in
theorem xag_b8 : ix_n (xT A) (ix_run (xT A) K d) xm_51 8 (21, [(2, .int 8), (0, .ref 15), (1, .int t)], [], xcH t) = some (.inl (2, [(2, .int 9), (0, .ref 15), (1, .int t)], [], xcH t)) := by
  have z : ix_n (xT A) (ix_run (xT A) K d) xm_51 8 (21, [(2, .int 8), (0, .ref 15), (1, .int t)], [], xcH t) = some (.inl (2, [(2, .int 9), (0, .ref 15), (1, .int t)], [], ix_put (xcH t) 157 xk_157)) := iy_n_ok (iy_run_ok _ _ _) rfl
  rw [xput_same (hp := xcH t) (a := 157) (c := xk_157) rfl] at z
  exact z
set_option maxRecDepth 100000 in
theorem xag_a9 : ix_n (xT A) (ix_run (xT A) K d) xm_51 9 (2, [(2, .int 9), (0, .ref 15), (1, .int t)], [], xcH t) = some (.inl (18, [(2, .int 9), (0, .ref 15), (1, .int t)], [.int t, .int 0], xcH t)) := iy_n_ok (iy_run_ok _ _ _) rfl
set_option maxRecDepth 100000 in
theorem xag_b9 : ix_n (xT A) (ix_run (xT A) K d) xm_51 8 (21, [(2, .int 9), (0, .ref 15), (1, .int t)], [], xcH t) = some (.inl (2, [(2, .int 10), (0, .ref 15), (1, .int t)], [], xcH t)) := by
  have z : ix_n (xT A) (ix_run (xT A) K d) xm_51 8 (21, [(2, .int 9), (0, .ref 15), (1, .int t)], [], xcH t) = some (.inl (2, [(2, .int 10), (0, .ref 15), (1, .int t)], [], ix_put (xcH t) 173 xk_173)) := iy_n_ok (iy_run_ok _ _ _) rfl
  rw [xput_same (hp := xcH t) (a := 173) (c := xk_173) rfl] at z
  exact z
set_option maxRecDepth 100000 in
theorem xag_a10 : ix_n (xT A) (ix_run (xT A) K d) xm_51 9 (2, [(2, .int 10), (0, .ref 15), (1, .int t)], [], xcH t) = some (.inl (18, [(2, .int 10), (0, .ref 15), (1, .int t)], [.int t, .int 0], xcH t)) := iy_n_ok (iy_run_ok _ _ _) rfl
set_option maxRecDepth 100000 in
theorem xag_b10 : ix_n (xT A) (ix_run (xT A) K d) xm_51 8 (21, [(2, .int 10), (0, .ref 15), (1, .int t)], [], xcH t) = some (.inl (2, [(2, .int 11), (0, .ref 15), (1, .int t)], [], xcH t)) := by
  have z : ix_n (xT A) (ix_run (xT A) K d) xm_51 8 (21, [(2, .int 10), (0, .ref 15), (1, .int t)], [], xcH t) = some (.inl (2, [(2, .int 11), (0, .ref 15), (1, .int t)], [], ix_put (xcH t) 189 xk_189)) := iy_n_ok (iy_run_ok _ _ _) rfl
  rw [xput_same (hp := xcH t) (a := 189) (c := xk_189) rfl] at z
  exact z
set_option maxRecDepth 100000 in
theorem xag_a11 : ix_n (xT A) (ix_run (xT A) K d) xm_51 9 (2, [(2, .int 11), (0, .ref 15), (1, .int t)], [], xcH t) = some (.inl (18, [(2, .int 11), (0, .ref 15), (1, .int t)], [.int t, .int 0], xcH t)) := iy_n_ok (iy_run_ok _ _ _) rfl
set_option maxRecDepth 100000 in
theorem xag_b11 : ix_n (xT A) (ix_run (xT A) K d) xm_51 8 (21, [(2, .int 11), (0, .ref 15), (1, .int t)], [], xcH t) = some (.inl (2, [(2, .int 12), (0, .ref 15), (1, .int t)], [], xcH t)) := by
  have z : ix_n (xT A) (ix_run (xT A) K d) xm_51 8 (21, [(2, .int 11), (0, .ref 15), (1, .int t)], [], xcH t) = some (.inl (2, [(2, .int 12), (0, .ref 15), (1, .int t)], [], ix_put (xcH t) 205 xk_205)) := iy_n_ok (iy_run_ok _ _ _) rfl
  rw [xput_same (hp := xcH t) (a := 205) (c := xk_205) rfl] at z
  exact z
set_option maxRecDepth 100000 in
theorem xag_a12 : ix_n (xT A) (ix_run (xT A) K d) xm_51 9 (2, [(2, .int 12), (0, .ref 15), (1, .int t)], [], xcH t) = some (.inl (18, [(2, .int 12), (0, .ref 15), (1, .int t)], [.int t, .int 0], xcH t)) := iy_n_ok (iy_run_ok _ _ _) rfl
set_option maxRecDepth 100000 in
theorem xag_b12 : ix_n (xT A) (ix_run (xT A) K d) xm_51 8 (21, [(2, .int 12), (0, .ref 15), (1, .int t)], [], xcH t) = some (.inl (2, [(2, .int 13), (0, .ref 15), (1, .int t)], [], xcH t)) := by
  have z : ix_n (xT A) (ix_run (xT A) K d) xm_51 8 (21, [(2, .int 12), (0, .ref 15), (1, .int t)], [], xcH t) = some (.inl (2, [(2, .int 13), (0, .ref 15), (1, .int t)], [], ix_put (xcH t) 221 xk_221)) := iy_n_ok (iy_run_ok _ _ _) rfl
  rw [xput_same (hp := xcH t) (a := 221) (c := xk_221) rfl] at z
  exact z
set_option maxRecDepth 100000 in
theorem xag_a13 : ix_n (xT A) (ix_run (xT A) K d) xm_51 9 (2, [(2, .int 13), (0, .ref 15), (1, .int t)], [], xcH t) = some (.inl (18, [(2, .int 13), (0, .ref 15), (1, .int t)], [.int t, .int 0], xcH t)) := iy_n_ok (iy_run_ok _ _ _) rfl
set_option maxRecDepth 100000 in
theorem xag_b13 : ix_n (xT A) (ix_run (xT A) K d) xm_51 8 (21, [(2, .int 13), (0, .ref 15), (1, .int t)], [], xcH t) = some (.inl (2, [(2, .int 14), (0, .ref 15), (1, .int t)], [], xcH t)) := by
  have z : ix_n (xT A) (ix_run (xT A) K d) xm_51 8 (21, [(2, .int 13), (0, .ref 15), (1, .int t)], [], xcH t) = some (.inl (2, [(2, .int 14), (0, .ref 15), (1, .int t)], [], ix_put (xcH t) 237 xk_237)) := iy_n_ok (iy_run_ok _ _ _) rfl
  rw [xput_same (hp := xcH t) (a := 237) (c := xk_237) rfl] at z
  exact z
set_option maxRecDepth 100000 in
theorem xag_a14 : ix_n (xT A) (ix_run (xT A) K d) xm_51 9 (2, [(2, .int 14), (0, .ref 15), (1, .int t)], [], xcH t) = some (.inl (18, [(2, .int 14), (0, .ref 15), (1, .int t)], [.int t, .int 0], xcH t)) := iy_n_ok (iy_run_ok _ _ _) rfl
set_option maxRecDepth 100000 in
theorem xag_b14 : ix_n (xT A) (ix_run (xT A) K d) xm_51 8 (21, [(2, .int 14), (0, .ref 15), (1, .int t)], [], xcH t) = some (.inl (2, [(2, .int 15), (0, .ref 15), (1, .int t)], [], xcH t)) := by
  have z : ix_n (xT A) (ix_run (xT A) K d) xm_51 8 (21, [(2, .int 14), (0, .ref 15), (1, .int t)], [], xcH t) = some (.inl (2, [(2, .int 15), (0, .ref 15), (1, .int t)], [], ix_put (xcH t) 253 xk_253)) := iy_n_ok (iy_run_ok _ _ _) rfl
  rw [xput_same (hp := xcH t) (a := 253) (c := xk_253) rfl] at z
  exact z
set_option maxRecDepth 100000 in
theorem xag_a15 : ix_n (xT A) (ix_run (xT A) K d) xm_51 9 (2, [(2, .int 15), (0, .ref 15), (1, .int t)], [], xcH t) = some (.inl (18, [(2, .int 15), (0, .ref 15), (1, .int t)], [.int t, .int 0], xcH t)) := iy_n_ok (iy_run_ok _ _ _) rfl
set_option maxRecDepth 100000 in
theorem xag_b15 : ix_n (xT A) (ix_run (xT A) K d) xm_51 8 (21, [(2, .int 15), (0, .ref 15), (1, .int t)], [], xcH t) = some (.inl (2, [(2, .int 16), (0, .ref 15), (1, .int t)], [], xcH t)) := by
  have z : ix_n (xT A) (ix_run (xT A) K d) xm_51 8 (21, [(2, .int 15), (0, .ref 15), (1, .int t)], [], xcH t) = some (.inl (2, [(2, .int 16), (0, .ref 15), (1, .int t)], [], ix_put (xcH t) 269 xk_269)) := iy_n_ok (iy_run_ok _ _ _) rfl
  rw [xput_same (hp := xcH t) (a := 269) (c := xk_269) rfl] at z
  exact z
set_option maxRecDepth 100000 in
theorem xag_a16 : ix_n (xT A) (ix_run (xT A) K d) xm_51 9 (2, [(2, .int 16), (0, .ref 15), (1, .int t)], [], xcH t) = some (.inl (18, [(2, .int 16), (0, .ref 15), (1, .int t)], [.int t, .int 0], xcH t)) := iy_n_ok (iy_run_ok _ _ _) rfl
set_option maxRecDepth 100000 in
theorem xag_b16 : ix_n (xT A) (ix_run (xT A) K d) xm_51 8 (21, [(2, .int 16), (0, .ref 15), (1, .int t)], [], xcH t) = some (.inl (2, [(2, .int 17), (0, .ref 15), (1, .int t)], [], xcH t)) := by
  have z : ix_n (xT A) (ix_run (xT A) K d) xm_51 8 (21, [(2, .int 16), (0, .ref 15), (1, .int t)], [], xcH t) = some (.inl (2, [(2, .int 17), (0, .ref 15), (1, .int t)], [], ix_put (xcH t) 285 xk_285)) := iy_n_ok (iy_run_ok _ _ _) rfl
  rw [xput_same (hp := xcH t) (a := 285) (c := xk_285) rfl] at z
  exact z
set_option maxRecDepth 100000 in
theorem xag_a17 : ix_n (xT A) (ix_run (xT A) K d) xm_51 9 (2, [(2, .int 17), (0, .ref 15), (1, .int t)], [], xcH t) = some (.inl (18, [(2, .int 17), (0, .ref 15), (1, .int t)], [.int t, .int 0], xcH t)) := iy_n_ok (iy_run_ok _ _ _) rfl
set_option maxRecDepth 100000 in
theorem xag_b17 : ix_n (xT A) (ix_run (xT A) K d) xm_51 8 (21, [(2, .int 17), (0, .ref 15), (1, .int t)], [], xcH t) = some (.inl (2, [(2, .int 18), (0, .ref 15), (1, .int t)], [], xcH t)) := by
  have z : ix_n (xT A) (ix_run (xT A) K d) xm_51 8 (21, [(2, .int 17), (0, .ref 15), (1, .int t)], [], xcH t) = some (.inl (2, [(2, .int 18), (0, .ref 15), (1, .int t)], [], ix_put (xcH t) 301 xk_301)) := iy_n_ok (iy_run_ok _ _ _) rfl
  rw [xput_same (hp := xcH t) (a := 301) (c := xk_301) rfl] at z
  exact z
set_option maxRecDepth 100000 in
theorem xag_a18 : ix_n (xT A) (ix_run (xT A) K d) xm_51 9 (2, [(2, .int 18), (0, .ref 15), (1, .int t)], [], xcH t) = some (.inl (18, [(2, .int 18), (0, .ref 15), (1, .int t)], [.int t, .int 0], xcH t)) := iy_n_ok (iy_run_ok _ _ _) rfl
set_option maxRecDepth 100000 in
theorem xag_b18 : ix_n (xT A) (ix_run (xT A) K d) xm_51 8 (21, [(2, .int 18), (0, .ref 15), (1, .int t)], [], xcH t) = some (.inl (2, [(2, .int 19), (0, .ref 15), (1, .int t)], [], xcH t)) := by
  have z : ix_n (xT A) (ix_run (xT A) K d) xm_51 8 (21, [(2, .int 18), (0, .ref 15), (1, .int t)], [], xcH t) = some (.inl (2, [(2, .int 19), (0, .ref 15), (1, .int t)], [], ix_put (xcH t) 317 xk_317)) := iy_n_ok (iy_run_ok _ _ _) rfl
  rw [xput_same (hp := xcH t) (a := 317) (c := xk_317) rfl] at z
  exact z
set_option maxRecDepth 100000 in
theorem xag_a19 : ix_n (xT A) (ix_run (xT A) K d) xm_51 9 (2, [(2, .int 19), (0, .ref 15), (1, .int t)], [], xcH t) = some (.inl (18, [(2, .int 19), (0, .ref 15), (1, .int t)], [.int t, .int 0], xcH t)) := iy_n_ok (iy_run_ok _ _ _) rfl
set_option maxRecDepth 100000 in
theorem xag_b19 : ix_n (xT A) (ix_run (xT A) K d) xm_51 8 (21, [(2, .int 19), (0, .ref 15), (1, .int t)], [], xcH t) = some (.inl (2, [(2, .int 20), (0, .ref 15), (1, .int t)], [], xcH t)) := by
  have z : ix_n (xT A) (ix_run (xT A) K d) xm_51 8 (21, [(2, .int 19), (0, .ref 15), (1, .int t)], [], xcH t) = some (.inl (2, [(2, .int 20), (0, .ref 15), (1, .int t)], [], ix_put (xcH t) 333 xk_333)) := iy_n_ok (iy_run_ok _ _ _) rfl
  rw [xput_same (hp := xcH t) (a := 333) (c := xk_333) rfl] at z
  exact z
set_option maxRecDepth 100000 in
theorem xag_a20 : ix_n (xT A) (ix_run (xT A) K d) xm_51 9 (2, [(2, .int 20), (0, .ref 15), (1, .int t)], [], xcH t) = some (.inl (18, [(2, .int 20), (0, .ref 15), (1, .int t)], [.int t, .int 0], xcH t)) := iy_n_ok (iy_run_ok _ _ _) rfl
set_option maxRecDepth 100000 in
theorem xag_b20 : ix_n (xT A) (ix_run (xT A) K d) xm_51 8 (21, [(2, .int 20), (0, .ref 15), (1, .int t)], [], xcH t) = some (.inl (2, [(2, .int 21), (0, .ref 15), (1, .int t)], [], xcH t)) := by
  have z : ix_n (xT A) (ix_run (xT A) K d) xm_51 8 (21, [(2, .int 20), (0, .ref 15), (1, .int t)], [], xcH t) = some (.inl (2, [(2, .int 21), (0, .ref 15), (1, .int t)], [], ix_put (xcH t) 349 xk_349)) := iy_n_ok (iy_run_ok _ _ _) rfl
  rw [xput_same (hp := xcH t) (a := 349) (c := xk_349) rfl] at z
  exact z
set_option maxRecDepth 100000 in
theorem xag_a21 : ix_n (xT A) (ix_run (xT A) K d) xm_51 9 (2, [(2, .int 21), (0, .ref 15), (1, .int t)], [], xcH t) = some (.inl (18, [(2, .int 21), (0, .ref 15), (1, .int t)], [.int t, .int 0], xcH t)) := iy_n_ok (iy_run_ok _ _ _) rfl
set_option maxRecDepth 100000 in
theorem xag_b21 : ix_n (xT A) (ix_run (xT A) K d) xm_51 8 (21, [(2, .int 21), (0, .ref 15), (1, .int t)], [], xcH t) = some (.inl (2, [(2, .int 22), (0, .ref 15), (1, .int t)], [], xcH t)) := by
  have z : ix_n (xT A) (ix_run (xT A) K d) xm_51 8 (21, [(2, .int 21), (0, .ref 15), (1, .int t)], [], xcH t) = some (.inl (2, [(2, .int 22), (0, .ref 15), (1, .int t)], [], ix_put (xcH t) 365 xk_365)) := iy_n_ok (iy_run_ok _ _ _) rfl
  rw [xput_same (hp := xcH t) (a := 365) (c := xk_365) rfl] at z
  exact z
set_option maxRecDepth 100000 in
theorem xag_a22 : ix_n (xT A) (ix_run (xT A) K d) xm_51 9 (2, [(2, .int 22), (0, .ref 15), (1, .int t)], [], xcH t) = some (.inl (18, [(2, .int 22), (0, .ref 15), (1, .int t)], [.int t, .int 0], xcH t)) := iy_n_ok (iy_run_ok _ _ _) rfl
set_option maxRecDepth 100000 in
theorem xag_b22 : ix_n (xT A) (ix_run (xT A) K d) xm_51 8 (21, [(2, .int 22), (0, .ref 15), (1, .int t)], [], xcH t) = some (.inl (2, [(2, .int 23), (0, .ref 15), (1, .int t)], [], xcH t)) := by
  have z : ix_n (xT A) (ix_run (xT A) K d) xm_51 8 (21, [(2, .int 22), (0, .ref 15), (1, .int t)], [], xcH t) = some (.inl (2, [(2, .int 23), (0, .ref 15), (1, .int t)], [], ix_put (xcH t) 381 xk_381)) := iy_n_ok (iy_run_ok _ _ _) rfl
  rw [xput_same (hp := xcH t) (a := 381) (c := xk_381) rfl] at z
  exact z
set_option maxRecDepth 100000 in
theorem xag_a23 : ix_n (xT A) (ix_run (xT A) K d) xm_51 9 (2, [(2, .int 23), (0, .ref 15), (1, .int t)], [], xcH t) = some (.inl (18, [(2, .int 23), (0, .ref 15), (1, .int t)], [.int t, .int 0], xcH t)) := iy_n_ok (iy_run_ok _ _ _) rfl
set_option maxRecDepth 100000 in
theorem xag_b23 : ix_n (xT A) (ix_run (xT A) K d) xm_51 8 (21, [(2, .int 23), (0, .ref 15), (1, .int t)], [], xcH t) = some (.inl (2, [(2, .int 24), (0, .ref 15), (1, .int t)], [], xcH t)) := by
  have z : ix_n (xT A) (ix_run (xT A) K d) xm_51 8 (21, [(2, .int 23), (0, .ref 15), (1, .int t)], [], xcH t) = some (.inl (2, [(2, .int 24), (0, .ref 15), (1, .int t)], [], ix_put (xcH t) 397 xk_397)) := iy_n_ok (iy_run_ok _ _ _) rfl
  rw [xput_same (hp := xcH t) (a := 397) (c := xk_397) rfl] at z
  exact z
set_option maxRecDepth 100000 in
theorem xage (hz : ¬ t.toInt < (0 : Int32).toInt) : ix_R (xT A) (ix_run (xT A) K d) xm_51 438 (0, lv_args 0 [.ref 15, .int t], [], xcH t) (none, xcH t) := (ix_R.step 2 (xag_0 A K d t) (ix_R.step 9 (xag_a0 A K d t) (ix_R.step 1 (ix_n_icmpf (pc := 18) rfl rfl (cbf_gt hz)) (ix_R.step 8 (xag_b0 A K d t) (ix_R.step 9 (xag_a1 A K d t) (ix_R.step 1 (ix_n_icmpf (pc := 18) rfl rfl (cbf_gt hz)) (ix_R.step 8 (xag_b1 A K d t) (ix_R.step 9 (xag_a2 A K d t) (ix_R.step 1 (ix_n_icmpf (pc := 18) rfl rfl (cbf_gt hz)) (ix_R.step 8 (xag_b2 A K d t) (ix_R.step 9 (xag_a3 A K d t) (ix_R.step 1 (ix_n_icmpf (pc := 18) rfl rfl (cbf_gt hz)) (ix_R.step 8 (xag_b3 A K d t) (ix_R.step 9 (xag_a4 A K d t) (ix_R.step 1 (ix_n_icmpf (pc := 18) rfl rfl (cbf_gt hz)) (ix_R.step 8 (xag_b4 A K d t) (ix_R.step 9 (xag_a5 A K d t) (ix_R.step 1 (ix_n_icmpf (pc := 18) rfl rfl (cbf_gt hz)) (ix_R.step 8 (xag_b5 A K d t) (ix_R.step 9 (xag_a6 A K d t) (ix_R.step 1 (ix_n_icmpf (pc := 18) rfl rfl (cbf_gt hz)) (ix_R.step 8 (xag_b6 A K d t) (ix_R.step 9 (xag_a7 A K d t) (ix_R.step 1 (ix_n_icmpf (pc := 18) rfl rfl (cbf_gt hz)) (ix_R.step 8 (xag_b7 A K d t) (ix_R.step 9 (xag_a8 A K d t) (ix_R.step 1 (ix_n_icmpf (pc := 18) rfl rfl (cbf_gt hz)) (ix_R.step 8 (xag_b8 A K d t) (ix_R.step 9 (xag_a9 A K d t) (ix_R.step 1 (ix_n_icmpf (pc := 18) rfl rfl (cbf_gt hz)) (ix_R.step 8 (xag_b9 A K d t) (ix_R.step 9 (xag_a10 A K d t) (ix_R.step 1 (ix_n_icmpf (pc := 18) rfl rfl (cbf_gt hz)) (ix_R.step 8 (xag_b10 A K d t) (ix_R.step 9 (xag_a11 A K d t) (ix_R.step 1 (ix_n_icmpf (pc := 18) rfl rfl (cbf_gt hz)) (ix_R.step 8 (xag_b11 A K d t) (ix_R.step 9 (xag_a12 A K d t) (ix_R.step 1 (ix_n_icmpf (pc := 18) rfl rfl (cbf_gt hz)) (ix_R.step 8 (xag_b12 A K d t) (ix_R.step 9 (xag_a13 A K d t) (ix_R.step 1 (ix_n_icmpf (pc := 18) rfl rfl (cbf_gt hz)) (ix_R.step 8 (xag_b13 A K d t) (ix_R.step 9 (xag_a14 A K d t) (ix_R.step 1 (ix_n_icmpf (pc := 18) rfl rfl (cbf_gt hz)) (ix_R.step 8 (xag_b14 A K d t) (ix_R.step 9 (xag_a15 A K d t) (ix_R.step 1 (ix_n_icmpf (pc := 18) rfl rfl (cbf_gt hz)) (ix_R.step 8 (xag_b15 A K d t) (ix_R.step 9 (xag_a16 A K d t) (ix_R.step 1 (ix_n_icmpf (pc := 18) rfl rfl (cbf_gt hz)) (ix_R.step 8 (xag_b16 A K d t) (ix_R.step 9 (xag_a17 A K d t) (ix_R.step 1 (ix_n_icmpf (pc := 18) rfl rfl (cbf_gt hz)) (ix_R.step 8 (xag_b17 A K d t) (ix_R.step 9 (xag_a18 A K d t) (ix_R.step 1 (ix_n_icmpf (pc := 18) rfl rfl (cbf_gt hz)) (ix_R.step 8 (xag_b18 A K d t) (ix_R.step 9 (xag_a19 A K d t) (ix_R.step 1 (ix_n_icmpf (pc := 18) rfl rfl (cbf_gt hz)) (ix_R.step 8 (xag_b19 A K d t) (ix_R.step 9 (xag_a20 A K d t) (ix_R.step 1 (ix_n_icmpf (pc := 18) rfl rfl (cbf_gt hz)) (ix_R.step 8 (xag_b20 A K d t) (ix_R.step 9 (xag_a21 A K d t) (ix_R.step 1 (ix_n_icmpf (pc := 18) rfl rfl (cbf_gt hz)) (ix_R.step 8 (xag_b21 A K d t) (ix_R.step 9 (xag_a22 A K d t) (ix_R.step 1 (ix_n_icmpf (pc := 18) rfl rfl (cbf_gt hz)) (ix_R.step 8 (xag_b22 A K d t) (ix_R.step 9 (xag_a23 A K d t) (ix_R.step 1 (ix_n_icmpf (pc := 18) rfl rfl (cbf_gt hz)) (ix_R.step 8 (xag_b23 A K d t) (ix_R.fin 4 (iy_n_ok (iy_run_ok _ _ _) rfl)))))))))))))))))))))))))))))))))))))))))))))))))))))))))))))))))))))))))))
set_option maxRecDepth 100000 in
theorem xct_p : ix_n (xT A) (ix_run (xT A) K d) xm_18 1 (27, [(2, .int 0), (0, .ref 0), (1, .int n)], [.int t, .ref 0], xhp0) = some (.inl (30, [(2, .int 0), (0, .ref 0), (1, .int n)], [], xcH t)) := by
  have y := ix_n_put (T := xT A) (f := ix_run (xT A) K d) (M := xm_18) (pc := 27) (a := 0) (ls := [(2, .int 0), (0, .ref 0), (1, .int n)]) (st := []) (hp := xhp0) (v := .int t) rfl rfl rfl (Nat.le_of_ble_eq_true rfl) rfl rfl rfl
  exact y
set_option maxRecDepth 100000 in
theorem xct_0 : ix_n (xT A) (ix_run (xT A) K d) xm_18 2 (30, [(2, .int 0), (0, .ref 0), (1, .int n)], [], xcH t) = some (.inl (32, [(3, .int 0), (2, .int 0), (0, .ref 0), (1, .int n)], [], xcH t)) := iy_n_ok (iy_run_ok _ _ _) rfl
set_option maxRecDepth 100000 in
theorem xct_a0 : ix_n (xT A) (ix_run (xT A) K d) xm_18 10 (32, [(3, .int 0), (2, .int 0), (0, .ref 0), (1, .int n)], [], xcH t) = some (.inl (51, [(3, .int 0), (2, .int 0), (0, .ref 0), (1, .int n)], [.int t, .int 0], xcH t)) := iy_n_ok (iy_run_ok _ _ _) rfl
set_option maxRecDepth 100000 in
theorem xct_b0 : ix_n (xT A) (ix_run (xT A) K d) xm_18 8 (54, [(3, .int 0), (2, .int 0), (0, .ref 0), (1, .int n)], [], xcH t) = some (.inl (32, [(3, .int 1), (2, .int 0), (0, .ref 0), (1, .int n)], [], xcH t)) := by
  have z : ix_n (xT A) (ix_run (xT A) K d) xm_18 8 (54, [(3, .int 0), (2, .int 0), (0, .ref 0), (1, .int n)], [], xcH t) = some (.inl (32, [(3, .int 1), (2, .int 0), (0, .ref 0), (1, .int n)], [], ix_put (xcH t) 574 xk_574)) := iy_n_ok (iy_run_ok _ _ _) rfl
  rw [xput_same (hp := xcH t) (a := 574) (c := xk_574) rfl] at z
  exact z
set_option maxRecDepth 100000 in
theorem xct_a1 : ix_n (xT A) (ix_run (xT A) K d) xm_18 10 (32, [(3, .int 1), (2, .int 0), (0, .ref 0), (1, .int n)], [], xcH t) = some (.inl (51, [(3, .int 1), (2, .int 0), (0, .ref 0), (1, .int n)], [.int t, .int 0], xcH t)) := iy_n_ok (iy_run_ok _ _ _) rfl
set_option maxRecDepth 100000 in
theorem xct_b1 : ix_n (xT A) (ix_run (xT A) K d) xm_18 8 (54, [(3, .int 1), (2, .int 0), (0, .ref 0), (1, .int n)], [], xcH t) = some (.inl (32, [(3, .int 2), (2, .int 0), (0, .ref 0), (1, .int n)], [], xcH t)) := by
  have z : ix_n (xT A) (ix_run (xT A) K d) xm_18 8 (54, [(3, .int 1), (2, .int 0), (0, .ref 0), (1, .int n)], [], xcH t) = some (.inl (32, [(3, .int 2), (2, .int 0), (0, .ref 0), (1, .int n)], [], ix_put (xcH t) 577 xk_577)) := iy_n_ok (iy_run_ok _ _ _) rfl
  rw [xput_same (hp := xcH t) (a := 577) (c := xk_577) rfl] at z
  exact z
set_option maxRecDepth 100000 in
theorem xct_a2 : ix_n (xT A) (ix_run (xT A) K d) xm_18 10 (32, [(3, .int 2), (2, .int 0), (0, .ref 0), (1, .int n)], [], xcH t) = some (.inl (51, [(3, .int 2), (2, .int 0), (0, .ref 0), (1, .int n)], [.int t, .int 0], xcH t)) := iy_n_ok (iy_run_ok _ _ _) rfl
set_option maxRecDepth 100000 in
theorem xct_b2 : ix_n (xT A) (ix_run (xT A) K d) xm_18 8 (54, [(3, .int 2), (2, .int 0), (0, .ref 0), (1, .int n)], [], xcH t) = some (.inl (32, [(3, .int 3), (2, .int 0), (0, .ref 0), (1, .int n)], [], xcH t)) := by
  have z : ix_n (xT A) (ix_run (xT A) K d) xm_18 8 (54, [(3, .int 2), (2, .int 0), (0, .ref 0), (1, .int n)], [], xcH t) = some (.inl (32, [(3, .int 3), (2, .int 0), (0, .ref 0), (1, .int n)], [], ix_put (xcH t) 580 xk_580)) := iy_n_ok (iy_run_ok _ _ _) rfl
  rw [xput_same (hp := xcH t) (a := 580) (c := xk_580) rfl] at z
  exact z
set_option maxRecDepth 100000 in
theorem xct_a3 : ix_n (xT A) (ix_run (xT A) K d) xm_18 10 (32, [(3, .int 3), (2, .int 0), (0, .ref 0), (1, .int n)], [], xcH t) = some (.inl (51, [(3, .int 3), (2, .int 0), (0, .ref 0), (1, .int n)], [.int t, .int 0], xcH t)) := iy_n_ok (iy_run_ok _ _ _) rfl
set_option maxRecDepth 100000 in
theorem xct_b3 : ix_n (xT A) (ix_run (xT A) K d) xm_18 8 (54, [(3, .int 3), (2, .int 0), (0, .ref 0), (1, .int n)], [], xcH t) = some (.inl (32, [(3, .int 4), (2, .int 0), (0, .ref 0), (1, .int n)], [], xcH t)) := by
  have z : ix_n (xT A) (ix_run (xT A) K d) xm_18 8 (54, [(3, .int 3), (2, .int 0), (0, .ref 0), (1, .int n)], [], xcH t) = some (.inl (32, [(3, .int 4), (2, .int 0), (0, .ref 0), (1, .int n)], [], ix_put (xcH t) 583 xk_583)) := iy_n_ok (iy_run_ok _ _ _) rfl
  rw [xput_same (hp := xcH t) (a := 583) (c := xk_583) rfl] at z
  exact z
set_option maxRecDepth 100000 in
theorem xct_a4 : ix_n (xT A) (ix_run (xT A) K d) xm_18 10 (32, [(3, .int 4), (2, .int 0), (0, .ref 0), (1, .int n)], [], xcH t) = some (.inl (51, [(3, .int 4), (2, .int 0), (0, .ref 0), (1, .int n)], [.int t, .int 0], xcH t)) := iy_n_ok (iy_run_ok _ _ _) rfl
set_option maxRecDepth 100000 in
theorem xct_b4 : ix_n (xT A) (ix_run (xT A) K d) xm_18 8 (54, [(3, .int 4), (2, .int 0), (0, .ref 0), (1, .int n)], [], xcH t) = some (.inl (32, [(3, .int 5), (2, .int 0), (0, .ref 0), (1, .int n)], [], xcH t)) := by
  have z : ix_n (xT A) (ix_run (xT A) K d) xm_18 8 (54, [(3, .int 4), (2, .int 0), (0, .ref 0), (1, .int n)], [], xcH t) = some (.inl (32, [(3, .int 5), (2, .int 0), (0, .ref 0), (1, .int n)], [], ix_put (xcH t) 586 xk_586)) := iy_n_ok (iy_run_ok _ _ _) rfl
  rw [xput_same (hp := xcH t) (a := 586) (c := xk_586) rfl] at z
  exact z
set_option maxRecDepth 100000 in
theorem xct_a5 : ix_n (xT A) (ix_run (xT A) K d) xm_18 10 (32, [(3, .int 5), (2, .int 0), (0, .ref 0), (1, .int n)], [], xcH t) = some (.inl (51, [(3, .int 5), (2, .int 0), (0, .ref 0), (1, .int n)], [.int t, .int 0], xcH t)) := iy_n_ok (iy_run_ok _ _ _) rfl
set_option maxRecDepth 100000 in
theorem xct_b5 : ix_n (xT A) (ix_run (xT A) K d) xm_18 8 (54, [(3, .int 5), (2, .int 0), (0, .ref 0), (1, .int n)], [], xcH t) = some (.inl (32, [(3, .int 6), (2, .int 0), (0, .ref 0), (1, .int n)], [], xcH t)) := by
  have z : ix_n (xT A) (ix_run (xT A) K d) xm_18 8 (54, [(3, .int 5), (2, .int 0), (0, .ref 0), (1, .int n)], [], xcH t) = some (.inl (32, [(3, .int 6), (2, .int 0), (0, .ref 0), (1, .int n)], [], ix_put (xcH t) 589 xk_589)) := iy_n_ok (iy_run_ok _ _ _) rfl
  rw [xput_same (hp := xcH t) (a := 589) (c := xk_589) rfl] at z
  exact z
set_option maxRecDepth 100000 in
theorem xct_a6 : ix_n (xT A) (ix_run (xT A) K d) xm_18 10 (32, [(3, .int 6), (2, .int 0), (0, .ref 0), (1, .int n)], [], xcH t) = some (.inl (51, [(3, .int 6), (2, .int 0), (0, .ref 0), (1, .int n)], [.int t, .int 0], xcH t)) := iy_n_ok (iy_run_ok _ _ _) rfl
set_option maxRecDepth 100000 in
theorem xct_b6 : ix_n (xT A) (ix_run (xT A) K d) xm_18 8 (54, [(3, .int 6), (2, .int 0), (0, .ref 0), (1, .int n)], [], xcH t) = some (.inl (32, [(3, .int 7), (2, .int 0), (0, .ref 0), (1, .int n)], [], xcH t)) := by
  have z : ix_n (xT A) (ix_run (xT A) K d) xm_18 8 (54, [(3, .int 6), (2, .int 0), (0, .ref 0), (1, .int n)], [], xcH t) = some (.inl (32, [(3, .int 7), (2, .int 0), (0, .ref 0), (1, .int n)], [], ix_put (xcH t) 592 xk_592)) := iy_n_ok (iy_run_ok _ _ _) rfl
  rw [xput_same (hp := xcH t) (a := 592) (c := xk_592) rfl] at z
  exact z
set_option maxRecDepth 100000 in
theorem xct_a7 : ix_n (xT A) (ix_run (xT A) K d) xm_18 10 (32, [(3, .int 7), (2, .int 0), (0, .ref 0), (1, .int n)], [], xcH t) = some (.inl (51, [(3, .int 7), (2, .int 0), (0, .ref 0), (1, .int n)], [.int t, .int 0], xcH t)) := iy_n_ok (iy_run_ok _ _ _) rfl
set_option maxRecDepth 100000 in
theorem xct_b7 : ix_n (xT A) (ix_run (xT A) K d) xm_18 8 (54, [(3, .int 7), (2, .int 0), (0, .ref 0), (1, .int n)], [], xcH t) = some (.inl (32, [(3, .int 8), (2, .int 0), (0, .ref 0), (1, .int n)], [], xcH t)) := by
  have z : ix_n (xT A) (ix_run (xT A) K d) xm_18 8 (54, [(3, .int 7), (2, .int 0), (0, .ref 0), (1, .int n)], [], xcH t) = some (.inl (32, [(3, .int 8), (2, .int 0), (0, .ref 0), (1, .int n)], [], ix_put (xcH t) 595 xk_595)) := iy_n_ok (iy_run_ok _ _ _) rfl
  rw [xput_same (hp := xcH t) (a := 595) (c := xk_595) rfl] at z
  exact z
set_option maxRecDepth 100000 in
theorem xct_c : ix_n (xT A) (ix_run (xT A) K d) xm_18 7 (32, [(3, .int 8), (2, .int 0), (0, .ref 0), (1, .int n)], [], xcH t) = some (.inl (78, [(3, .int 8), (2, .int 0), (0, .ref 0), (1, .int n)], [.int t, .ref 15], xcH t)) := iy_n_ok (iy_run_ok _ _ _) rfl
end XTICKC
set_option maxRecDepth 100000 in
theorem xct_d (A : Nat → Option (Nat × (Nat → Int32))) (d : Nat) (n t : Int32) : ix_n (xT A) (ix_run (xT A) 20 (d + 1)) xm_18 43 (81, [(3, .int 8), (2, .int 0), (0, .ref 0), (1, .int n)], [], xcH t) = some (.inl (104, [(3, .int 4), (2, .int 0), (0, .ref 0), (1, .int n)], [.int t], xcH t)) := iy_n_ok (iy_run_ok _ _ _) rfl
set_option maxRecDepth 100000 in
theorem xctick1 (A : Nat → Option (Nat × (Nat → Int32))) (d : Nat) (n t : Int32) (hz : ¬ t.toInt < (0 : Int32).toInt) (hK : 438 ≤ 2 ^ 20) : ix_R (xT A) (ix_run (xT A) 20 (d + 1)) xm_18 206 (30, [(2, .int 0), (0, .ref 0), (1, .int n)], [], xcH t) (some (.int t), xcH t) := (ix_R.step 2 (xct_0 A 20 (d + 1) n t) (ix_R.step 10 (xct_a0 A 20 (d + 1) n t) (ix_R.step 1 (ix_n_icmpf (pc := 51) rfl rfl (cbf_gt hz)) (ix_R.step 8 (xct_b0 A 20 (d + 1) n t) (ix_R.step 10 (xct_a1 A 20 (d + 1) n t) (ix_R.step 1 (ix_n_icmpf (pc := 51) rfl rfl (cbf_gt hz)) (ix_R.step 8 (xct_b1 A 20 (d + 1) n t) (ix_R.step 10 (xct_a2 A 20 (d + 1) n t) (ix_R.step 1 (ix_n_icmpf (pc := 51) rfl rfl (cbf_gt hz)) (ix_R.step 8 (xct_b2 A 20 (d + 1) n t) (ix_R.step 10 (xct_a3 A 20 (d + 1) n t) (ix_R.step 1 (ix_n_icmpf (pc := 51) rfl rfl (cbf_gt hz)) (ix_R.step 8 (xct_b3 A 20 (d + 1) n t) (ix_R.step 10 (xct_a4 A 20 (d + 1) n t) (ix_R.step 1 (ix_n_icmpf (pc := 51) rfl rfl (cbf_gt hz)) (ix_R.step 8 (xct_b4 A 20 (d + 1) n t) (ix_R.step 10 (xct_a5 A 20 (d + 1) n t) (ix_R.step 1 (ix_n_icmpf (pc := 51) rfl rfl (cbf_gt hz)) (ix_R.step 8 (xct_b5 A 20 (d + 1) n t) (ix_R.step 10 (xct_a6 A 20 (d + 1) n t) (ix_R.step 1 (ix_n_icmpf (pc := 51) rfl rfl (cbf_gt hz)) (ix_R.step 8 (xct_b6 A 20 (d + 1) n t) (ix_R.step 10 (xct_a7 A 20 (d + 1) n t) (ix_R.step 1 (ix_n_icmpf (pc := 51) rfl rfl (cbf_gt hz)) (ix_R.step 8 (xct_b7 A 20 (d + 1) n t) (ix_R.step 7 (xct_c A 20 (d + 1) n t) (ix_R.step 1 ((ix_n_call (Or.inl ⟨_, rfl⟩) rfl (ix_cal_v rfl (Or.inl rfl) rfl rfl rfl ⟨rfl, Nat.le_of_ble_eq_true rfl, Nat.le_of_ble_eq_true rfl⟩ (ix_R.run (N := 438) rfl (Nat.le_of_ble_eq_true rfl) (xage A 20 d t hz) hK)))) (ix_R.step 43 (xct_d A d n t) (ix_R.fin 1 (ix_n_reti rfl rfl rfl))))))))))))))))))))))))))))))
set_option maxRecDepth 100000 in
theorem xctick (A : Nat → Option (Nat × (Nat → Int32))) (d : Nat) (n : Int32) (hn : 1 ≤ n.toInt ∧ n.toInt ≤ 1000) (hK : 438 ≤ 2 ^ 20) : ix_R (xT A) (ix_run (xT A) 20 (d + 1)) xm_18 221 (0, lv_args 0 [.ref 0, .int n], [], xhp0) (some (.int (0 + n)), xcH (0 + n)) := by
  have e0 : (0 : Int32).toInt = 0 := rfl
  have e1 : (1 : Int32).toInt = 1 := rfl
  have e2 : (1000 : Int32).toInt = 1000 := rfl
  exact ix_R.step 2 (σ' := (2, [(0, .ref 0), (1, .int n)], [.int 1, .int n], xhp0)) (iy_n_ok (iy_run_ok _ _ _) rfl) (ix_R.step 1 (ix_n_icmpf rfl rfl (cbf_lt (by omega))) (ix_R.step 2 (σ' := (9, [(0, .ref 0), (1, .int n)], [.int 1000, .int n], xhp0)) (iy_n_ok (iy_run_ok _ _ _) rfl) (ix_R.step 1 (ix_n_icmpt rfl rfl (cbt_le (by omega))) (ix_R.step 8 (σ' := (27, [(2, .int 0), (0, .ref 0), (1, .int n)], [.int (0 + n), .ref 0], xhp0)) (iy_n_ok (iy_run_ok _ _ _) rfl) (ix_R.step 1 (xct_p A 20 (d + 1) n (0 + n)) (xctick1 A d n (0 + n) (by rw [add_ok (by omega)]; omega) hK))))))
set_option maxRecDepth 100000 in
set_option maxHeartbeats 4000000 in
theorem xrtick (A : Nat → Option (Nat × (Nat → Int32))) (xs : Nat → Int32) (h1 : 1 ≤ (xs 1).toInt ∧ (xs 1).toInt ≤ 1000) : ix_R (xT A) (ix_run (xT A) 20 7) xm_102 600018 (0, lv_args 0 [.ref 598, .int (xs 1)], [], xcH (0 + xs 1)) (some (.int (xs 1)), xtH (xcH (0 + xs 1)).2.2 (xs 1)) := (ix_R.step 4 (iy_n_ok (iy_run_ok _ _ _) rfl) (ix_R.step 1 (ix_n_call (Or.inr (Or.inr ⟨_, rfl⟩)) rfl (ix_cal_s rfl (Or.inl rfl) ⟨Nat.le_of_ble_eq_true rfl, Nat.le_of_ble_eq_true rfl⟩ (ix_R.run (N := 11) rfl (Nat.le_of_ble_eq_true rfl) (ix_R.step 3 (iy_n_ok (iy_run_ok _ _ _) rfl) (ix_R.step 1 (ix_n_iff rfl rfl (clf_lt (x := (xs 1).toInt64) (y := 1) (by rw [Int32.toInt_toInt64]; have e9 : (1 : Int64).toInt = 1 := rfl; omega))) (ix_R.step 3 (iy_n_ok (iy_run_ok _ _ _) rfl) (ix_R.step 1 (ix_n_iff rfl rfl (clf_gt (x := (xs 1).toInt64) (y := 1000) (by rw [Int32.toInt_toInt64]; have e9 : (1000 : Int64).toInt = 1000 := rfl; omega))) (ix_R.fin 3 (iy_n_ok (iy_run_ok _ _ _) rfl)))))) (Nat.le_of_ble_eq_true rfl)))) (ix_R.step 3 (iy_n_ok (iy_run_ok _ _ _) rfl) (xtloop0 rfl rfl rfl rfl rfl rfl rfl rfl ⟨by omega, by omega⟩))))
set_option maxRecDepth 100000 in
set_option maxHeartbeats 4000000 in
theorem xo_17_mid (xs : Nat → Int32) (h1 : 1 ≤ (xs 1).toInt ∧ (xs 1).toInt ≤ 1000) : ∃ (N : Nat) (hp : ix_H), N ≤ 2 ^ 15 ∧ ix_R (xTT 6 xs) (ix_run (xTT 6 xs) 20 8) xm_law N (741, xLS, [], xhp0) (some (.int 1), hp) ∧ hp.1 ≤ 600000 ∧ hp.2.1 ≤ 7302250 :=
  ⟨25, _, Nat.le_of_ble_eq_true rfl, ix_R.step 6 (σ' := (747, xLS, [.int (xs 1), .ref 0], xhp0)) (iy_n_ok (iy_run_ok _ _ _) rfl) (ix_R.step 1 (ix_n_call (Or.inl ⟨_, rfl⟩) rfl (ix_cal_v rfl (Or.inl rfl) rfl rfl rfl ⟨rfl, Nat.le_of_ble_eq_true rfl, Nat.le_of_ble_eq_true rfl⟩ (ix_R.run (N := 221) rfl (Nat.le_of_ble_eq_true rfl) (xctick _ 6 (xs 1) h1 (Nat.le_of_ble_eq_true rfl)) (Nat.le_of_ble_eq_true rfl)))) (ix_R.step 6 (σ' := (756, xLS, [.int (xs 1), .ref 598, .int (0 + xs 1)], xcH (0 + xs 1))) (iy_n_ok (iy_run_ok _ _ _) rfl) (ix_R.step 1 (ix_n_call (Or.inl ⟨_, rfl⟩) rfl (ix_cal_v rfl (Or.inl rfl) rfl rfl rfl ⟨rfl, Nat.le_of_ble_eq_true rfl, Nat.le_of_ble_eq_true rfl⟩ (ix_R.run (N := 600018) rfl (Nat.le_of_ble_eq_true rfl) (xrtick _ xs h1) (Nat.le_of_ble_eq_true rfl)))) (ix_R.step 1 (ix_n_icmpt rfl rfl (cbt_eq (x := 0 + xs 1) (y := xs 1) (by rw [Int32.zero_add]))) (ix_R.fin 10 (iy_n_ok (iy_run_ok _ _ _) rfl)))))), Nat.le_of_ble_eq_true rfl, Nat.le_of_ble_eq_true rfl⟩
