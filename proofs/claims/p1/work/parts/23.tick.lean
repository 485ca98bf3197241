/-! ===== tick on a fresh object: the reference's turns ===== -/
theorem ix_up_id {h : Nat → ix_C} {a : Nat} {c : ix_C} (e : h a = c) : ix_up h a c = h := by
  funext j
  by_cases hj : j = a
  · subst hj
    rw [ix_up_self, e]
  · rw [ix_up_ne h c hj]
theorem ix_up_up (h : Nat → ix_C) (a : Nat) (c c' : ix_C) : ix_up (ix_up h a c) a c' = ix_up h a c' := by
  funext j
  by_cases hj : j = a
  · subst hj
    rw [ix_up_self, ix_up_self]
  · rw [ix_up_ne _ c' hj, ix_up_ne _ c hj, ix_up_ne _ c' hj]
theorem xput_same {hp : ix_H} {a : Nat} {c : ix_C} (e : hp.2.2 a = c) : ix_put hp a c = hp := by
  show (hp.1, hp.2.1, ix_up hp.2.2 a c) = hp
  rw [ix_up_id e]
theorem xupd_id {f : Nat → Int32} {k : Nat} {x : Int32} (e : f k = x) : upd f k x = f := by
  funext j
  unfold upd
  split
  · rename_i h
    subst h
    exact e.symm
  · rfl
theorem ix_R.le {T : ix_T} {f : ix_F} {M : ix_M} {N N' : Nat} {σ : ix_S} {r : Option Value × ix_H} (h : ix_R T f M N σ r) (hN : N ≤ N') : ix_R T f M N' σ r := by
  obtain ⟨n, h1, h2⟩ := h
  exact ⟨n, Nat.le_trans h1 hN, h2⟩
def xtC (t : Int32) : ix_C := .inr (12, [.ref 599, .int 0, .int t, .ref 600, .ref 601, .ref 602, .int 0, .ref 603, .ref 604, .ref 605, .int 0, .int 0, .int 0, .int (-1), .int (-1), .int (-1), .int (-1), .ref 606, .ref 607, .ref 608, .ref 609, .ref 610, .ref 611, .ref 612, .ref 613, .ref 614, .ref 615, .ref 616, .ref 617, .ref 618, .ref 619, .ref 620, .ref 621, .ref 622, .int 0, .ref 623, .ref 624, .ref 625, .ref 626, .ref 627, .ref 628, .ref 629, .ref 630, .ref 631, .ref 632, .ref 633, .ref 634, .ref 635, .ref 636, .ref 637, .ref 638, .ref 639, .ref 640, .ref 641, .ref 642, .ref 643, .ref 644, .ref 645, .ref 646, .int 0, .int 0, .long 0, .long 0, .int 0, .int 0, .int 0, .int 0, .ref 647, .ref 648, .ref 649, .ref 650, .ref 651, .int 0, .int 0, .int 0, .int 0, .int 0, .long 0, .long 0, .int 0, .int 0, .int (-1), .int 0, .int 0, .ref 652, .ref 653, .ref 654, .ref 655, .int 0, .int 0, .int 0, .ref 656, .ref 657, .ref 658, .ref 659, .ref 660, .int 0, .ref 661, .ref 662, .ref 663, .int 0, .int 0, .int 0, .ref 664, .ref 665, .ref 666, .ref 667, .int 0, .ref 668, .ref 669, .int 0, .int 0, .int 0, .ref 670, .ref 671, .ref 672, .ref 673, .ref 674, .ref 675, .ref 676, .ref 677, .ref 678, .int 0, .ref 679, .ref 680, .ref 681, .ref 682, .ref 683, .ref 684, .ref 685, .ref 686, .int 0, .int 0, .int 0, .int 0, .int 0, .int 0, .int 0, .int 0, .long 0, .int 0, .int 0, .long 0, .int 0, .int 0, .int 0, .ref 687, .int 0])
def xtH (h : Nat → ix_C) (t : Int32) : ix_H := (688, 70427, ix_up (ix_up (ix_up (ix_up (ix_up h 625 xk_625) 624 xk_624) 627 xk_627) 606 xk_606) 598 (xtC t))
theorem xtH_time (h : Nat → ix_C) (t t' : Int32) : ix_put (xtH h t) 598 (xtC t') = xtH h t' := by
  show (688, 70427, ix_up (ix_up _ 598 (xtC t)) 598 (xtC t')) = xtH h t'
  rw [ix_up_up]
  rfl
theorem xtH_g (h : Nat → ix_C) (t : Int32) (k : Nat) : ix_put (xtH h t) 606 (.inl (2, 8, .inl (upd (fun _ => 0) k 0))) = xtH h t := by
  refine xput_same ?_
  rw [xupd_id (f := fun _ => 0) (k := k) (x := 0) rfl]
  rfl
theorem xtH_f (h : Nat → ix_C) (t : Int32) (k : Nat) : ix_put (xtH h t) 627 (.inl (2, 24, .inl (upd (fun _ => 0) k 0))) = xtH h t := by
  refine xput_same ?_
  rw [xupd_id (f := fun _ => 0) (k := k) (x := 0) rfl]
  rfl
theorem xtH_b (h : Nat → ix_C) (t : Int32) (k : Nat) : ix_put (xtH h t) 624 (.inl (0, 4, .inl (upd (fun _ => 0) k 0))) = xtH h t := by
  refine xput_same ?_
  rw [xupd_id (f := fun _ => 0) (k := k) (x := 0) rfl]
  rfl
theorem xtH_is {hp : ix_H} (e0 : hp.1 = 688) (e1 : hp.2.1 = 70427) (e2 : hp.2.2 598 = xtC 0) (e3 : hp.2.2 606 = xk_606) (e4 : hp.2.2 627 = xk_627) (e5 : hp.2.2 624 = xk_624) (e6 : hp.2.2 625 = xk_625) : xtH hp.2.2 0 = hp := by
  obtain ⟨n, k, h⟩ := hp
  simp only at e0 e1 e2 e3 e4 e5 e6
  subst e0
  subst e1
  unfold xtH
  simp only
  rw [ix_up_id e6, ix_up_id e5, ix_up_id e4, ix_up_id e3, ix_up_id e2]
section XTICK
variable (A : Nat → Option (Nat × (Nat → Int32))) (K d : Nat) (h : Nat → ix_C) (k n : Int32)
set_option maxRecDepth 100000 in
theorem xtk0_t1 : ix_n (xT A) (ix_run (xT A) K d) xm_102 5 (22, [(2, .int k), (0, .ref 598), (1, .int n)], [], xtH h k) = some (.inl (29, [(2, .int k), (0, .ref 598), (1, .int n)], [.int (k + 1), .ref 598], xtH h k)) := iy_n_ok (iy_run_ok _ _ _) rfl
set_option maxRecDepth 100000 in
theorem xtk0_t2 : ix_n (xT A) (ix_run (xT A) K d) xm_102 1 (29, [(2, .int k), (0, .ref 598), (1, .int n)], [.int (k + 1), .ref 598], xtH h k) = some (.inl (32, [(2, .int k), (0, .ref 598), (1, .int n)], [], xtH h (k + 1))) := by
  have y := ix_n_put (T := xT A) (f := ix_run (xT A) K d) (M := xm_102) (pc := 29) (a := 598) (ls := [(2, .int k), (0, .ref 598), (1, .int n)]) (st := []) (hp := xtH h k) (v := .int (k + 1)) rfl rfl rfl (Nat.le_of_ble_eq_true rfl) rfl rfl rfl
  have z : ix_n (xT A) (ix_run (xT A) K d) xm_102 1 (29, [(2, .int k), (0, .ref 598), (1, .int n)], [.int (k + 1), .ref 598], xtH h k) = some (.inl (32, [(2, .int k), (0, .ref 598), (1, .int n)], [], ix_put (xtH h k) 598 (xtC (k + 1)))) := y
  rw [xtH_time] at z
  exact z
set_option maxRecDepth 100000 in
theorem xtk0_t3 : ix_n (xT A) (ix_run (xT A) K d) xm_102 2 (32, [(2, .int k), (0, .ref 598), (1, .int n)], [], xtH h (k + 1)) = some (.inl (34, [(3, .int 0), (2, .int k), (0, .ref 598), (1, .int n)], [], xtH h (k + 1))) := iy_n_ok (iy_run_ok _ _ _) rfl
set_option maxRecDepth 100000 in
theorem xtk0_g0 : ix_n (xT A) (ix_run (xT A) K d) xm_102 15 (34, [(3, .int 0), (2, .int k), (0, .ref 598), (1, .int n)], [], xtH h (k + 1)) = some (.inl (34, [(3, .int 1), (2, .int k), (0, .ref 598), (1, .int n)], [], xtH h (k + 1))) := by
  have z : ix_n (xT A) (ix_run (xT A) K d) xm_102 15 (34, [(3, .int 0), (2, .int k), (0, .ref 598), (1, .int n)], [], xtH h (k + 1)) = some (.inl (34, [(3, .int 1), (2, .int k), (0, .ref 598), (1, .int n)], [], ix_put (xtH h (k + 1)) 606 (.inl (2, 8, .inl (upd (fun _ => 0) 0 0))))) := iy_n_ok (iy_run_ok _ _ _) rfl
  rw [xtH_g] at z
  exact z
set_option maxRecDepth 100000 in
theorem xtk0_g1 : ix_n (xT A) (ix_run (xT A) K d) xm_102 15 (34, [(3, .int 1), (2, .int k), (0, .ref 598), (1, .int n)], [], xtH h (k + 1)) = some (.inl (34, [(3, .int 2), (2, .int k), (0, .ref 598), (1, .int n)], [], xtH h (k + 1))) := by
  have z : ix_n (xT A) (ix_run (xT A) K d) xm_102 15 (34, [(3, .int 1), (2, .int k), (0, .ref 598), (1, .int n)], [], xtH h (k + 1)) = some (.inl (34, [(3, .int 2), (2, .int k), (0, .ref 598), (1, .int n)], [], ix_put (xtH h (k + 1)) 606 (.inl (2, 8, .inl (upd (fun _ => 0) 1 0))))) := iy_n_ok (iy_run_ok _ _ _) rfl
  rw [xtH_g] at z
  exact z
set_option maxRecDepth 100000 in
theorem xtk0_g2 : ix_n (xT A) (ix_run (xT A) K d) xm_102 15 (34, [(3, .int 2), (2, .int k), (0, .ref 598), (1, .int n)], [], xtH h (k + 1)) = some (.inl (34, [(3, .int 3), (2, .int k), (0, .ref 598), (1, .int n)], [], xtH h (k + 1))) := by
  have z : ix_n (xT A) (ix_run (xT A) K d) xm_102 15 (34, [(3, .int 2), (2, .int k), (0, .ref 598), (1, .int n)], [], xtH h (k + 1)) = some (.inl (34, [(3, .int 3), (2, .int k), (0, .ref 598), (1, .int n)], [], ix_put (xtH h (k + 1)) 606 (.inl (2, 8, .inl (upd (fun _ => 0) 2 0))))) := iy_n_ok (iy_run_ok _ _ _) rfl
  rw [xtH_g] at z
  exact z
set_option maxRecDepth 100000 in
theorem xtk0_g3 : ix_n (xT A) (ix_run (xT A) K d) xm_102 15 (34, [(3, .int 3), (2, .int k), (0, .ref 598), (1, .int n)], [], xtH h (k + 1)) = some (.inl (34, [(3, .int 4), (2, .int k), (0, .ref 598), (1, .int n)], [], xtH h (k + 1))) := by
  have z : ix_n (xT A) (ix_run (xT A) K d) xm_102 15 (34, [(3, .int 3), (2, .int k), (0, .ref 598), (1, .int n)], [], xtH h (k + 1)) = some (.inl (34, [(3, .int 4), (2, .int k), (0, .ref 598), (1, .int n)], [], ix_put (xtH h (k + 1)) 606 (.inl (2, 8, .inl (upd (fun _ => 0) 3 0))))) := iy_n_ok (iy_run_ok _ _ _) rfl
  rw [xtH_g] at z
  exact z
set_option maxRecDepth 100000 in
theorem xtk0_g4 : ix_n (xT A) (ix_run (xT A) K d) xm_102 15 (34, [(3, .int 4), (2, .int k), (0, .ref 598), (1, .int n)], [], xtH h (k + 1)) = some (.inl (34, [(3, .int 5), (2, .int k), (0, .ref 598), (1, .int n)], [], xtH h (k + 1))) := by
  have z : ix_n (xT A) (ix_run (xT A) K d) xm_102 15 (34, [(3, .int 4), (2, .int k), (0, .ref 598), (1, .int n)], [], xtH h (k + 1)) = some (.inl (34, [(3, .int 5), (2, .int k), (0, .ref 598), (1, .int n)], [], ix_put (xtH h (k + 1)) 606 (.inl (2, 8, .inl (upd (fun _ => 0) 4 0))))) := iy_n_ok (iy_run_ok _ _ _) rfl
  rw [xtH_g] at z
  exact z
set_option maxRecDepth 100000 in
theorem xtk0_g5 : ix_n (xT A) (ix_run (xT A) K d) xm_102 15 (34, [(3, .int 5), (2, .int k), (0, .ref 598), (1, .int n)], [], xtH h (k + 1)) = some (.inl (34, [(3, .int 6), (2, .int k), (0, .ref 598), (1, .int n)], [], xtH h (k + 1))) := by
  have z : ix_n (xT A) (ix_run (xT A) K d) xm_102 15 (34, [(3, .int 5), (2, .int k), (0, .ref 598), (1, .int n)], [], xtH h (k + 1)) = some (.inl (34, [(3, .int 6), (2, .int k), (0, .ref 598), (1, .int n)], [], ix_put (xtH h (k + 1)) 606 (.inl (2, 8, .inl (upd (fun _ => 0) 5 0))))) := iy_n_ok (iy_run_ok _ _ _) rfl
  rw [xtH_g] at z
  exact z
set_option maxRecDepth 100000 in
theorem xtk0_g6 : ix_n (xT A) (ix_run (xT A) K d) xm_102 15 (34, [(3, .int 6), (2, .int k), (0, .ref 598), (1, .int n)], [], xtH h (k + 1)) = some (.inl (34, [(3, .int 7), (2, .int k), (0, .ref 598), (1, .int n)], [], xtH h (k + 1))) := by
  have z : ix_n (xT A) (ix_run (xT A) K d) xm_102 15 (34, [(3, .int 6), (2, .int k), (0, .ref 598), (1, .int n)], [], xtH h (k + 1)) = some (.inl (34, [(3, .int 7), (2, .int k), (0, .ref 598), (1, .int n)], [], ix_put (xtH h (k + 1)) 606 (.inl (2, 8, .inl (upd (fun _ => 0) 6 0))))) := iy_n_ok (iy_run_ok _ _ _) rfl
  rw [xtH_g] at z
  exact z
set_option maxRecDepth 100000 in
theorem xtk0_g7 : ix_n (xT A) (ix_run (xT A) K d) xm_102 15 (34, [(3, .int 7), (2, .int k), (0, .ref 598), (1, .int n)], [], xtH h (k + 1)) = some (.inl (34, [(3, .int 8), (2, .int k), (0, .ref 598), (1, .int n)], [], xtH h (k + 1))) := by
  have z : ix_n (xT A) (ix_run (xT A) K d) xm_102 15 (34, [(3, .int 7), (2, .int k), (0, .ref 598), (1, .int n)], [], xtH h (k + 1)) = some (.inl (34, [(3, .int 8), (2, .int k), (0, .ref 598), (1, .int n)], [], ix_put (xtH h (k + 1)) 606 (.inl (2, 8, .inl (upd (fun _ => 0) 7 0))))) := iy_n_ok (iy_run_ok _ _ _) rfl
  rw [xtH_g] at z
  exact z
set_option maxRecDepth 100000 in
theorem xtk0_ge : ix_n (xT A) (ix_run (xT A) K d) xm_102 5 (34, [(3, .int 8), (2, .int k), (0, .ref 598), (1, .int n)], [], xtH h (k + 1)) = some (.inl (81, [(3, .int 0), (2, .int k), (0, .ref 598), (1, .int n)], [], xtH h (k + 1))) := iy_n_ok (iy_run_ok _ _ _) rfl
set_option maxRecDepth 100000 in
theorem xtk0_f0 : ix_n (xT A) (ix_run (xT A) K d) xm_102 15 (81, [(3, .int 0), (2, .int k), (0, .ref 598), (1, .int n)], [], xtH h (k + 1)) = some (.inl (81, [(3, .int 1), (2, .int k), (0, .ref 598), (1, .int n)], [], xtH h (k + 1))) := by
  have z : ix_n (xT A) (ix_run (xT A) K d) xm_102 15 (81, [(3, .int 0), (2, .int k), (0, .ref 598), (1, .int n)], [], xtH h (k + 1)) = some (.inl (81, [(3, .int 1), (2, .int k), (0, .ref 598), (1, .int n)], [], ix_put (xtH h (k + 1)) 627 (.inl (2, 24, .inl (upd (fun _ => 0) 0 0))))) := iy_n_ok (iy_run_ok _ _ _) rfl
  rw [xtH_f] at z
  exact z
set_option maxRecDepth 100000 in
theorem xtk0_f1 : ix_n (xT A) (ix_run (xT A) K d) xm_102 15 (81, [(3, .int 1), (2, .int k), (0, .ref 598), (1, .int n)], [], xtH h (k + 1)) = some (.inl (81, [(3, .int 2), (2, .int k), (0, .ref 598), (1, .int n)], [], xtH h (k + 1))) := by
  have z : ix_n (xT A) (ix_run (xT A) K d) xm_102 15 (81, [(3, .int 1), (2, .int k), (0, .ref 598), (1, .int n)], [], xtH h (k + 1)) = some (.inl (81, [(3, .int 2), (2, .int k), (0, .ref 598), (1, .int n)], [], ix_put (xtH h (k + 1)) 627 (.inl (2, 24, .inl (upd (fun _ => 0) 1 0))))) := iy_n_ok (iy_run_ok _ _ _) rfl
  rw [xtH_f] at z
  exact z
set_option maxRecDepth 100000 in
theorem xtk0_f2 : ix_n (xT A) (ix_run (xT A) K d) xm_102 15 (81, [(3, .int 2), (2, .int k), (0, .ref 598), (1, .int n)], [], xtH h (k + 1)) = some (.inl (81, [(3, .int 3), (2, .int k), (0, .ref 598), (1, .int n)], [], xtH h (k + 1))) := by
  have z : ix_n (xT A) (ix_run (xT A) K d) xm_102 15 (81, [(3, .int 2), (2, .int k), (0, .ref 598), (1, .int n)], [], xtH h (k + 1)) = some (.inl (81, [(3, .int 3), (2, .int k), (0, .ref 598), (1, .int n)], [], ix_put (xtH h (k + 1)) 627 (.inl (2, 24, .inl (upd (fun _ => 0) 2 0))))) := iy_n_ok (iy_run_ok _ _ _) rfl
  rw [xtH_f] at z
  exact z
set_option maxRecDepth 100000 in
theorem xtk0_f3 : ix_n (xT A) (ix_run (xT A) K d) xm_102 15 (81, [(3, .int 3), (2, .int k), (0, .ref 598), (1, .int n)], [], xtH h (k + 1)) = some (.inl (81, [(3, .int 4), (2, .int k), (0, .ref 598), (1, .int n)], [], xtH h (k + 1))) := by
  have z : ix_n (xT A) (ix_run (xT A) K d) xm_102 15 (81, [(3, .int 3), (2, .int k), (0, .ref 598), (1, .int n)], [], xtH h (k + 1)) = some (.inl (81, [(3, .int 4), (2, .int k), (0, .ref 598), (1, .int n)], [], ix_put (xtH h (k + 1)) 627 (.inl (2, 24, .inl (upd (fun _ => 0) 3 0))))) := iy_n_ok (iy_run_ok _ _ _) rfl
  rw [xtH_f] at z
  exact z
set_option maxRecDepth 100000 in
theorem xtk0_f4 : ix_n (xT A) (ix_run (xT A) K d) xm_102 15 (81, [(3, .int 4), (2, .int k), (0, .ref 598), (1, .int n)], [], xtH h (k + 1)) = some (.inl (81, [(3, .int 5), (2, .int k), (0, .ref 598), (1, .int n)], [], xtH h (k + 1))) := by
  have z : ix_n (xT A) (ix_run (xT A) K d) xm_102 15 (81, [(3, .int 4), (2, .int k), (0, .ref 598), (1, .int n)], [], xtH h (k + 1)) = some (.inl (81, [(3, .int 5), (2, .int k), (0, .ref 598), (1, .int n)], [], ix_put (xtH h (k + 1)) 627 (.inl (2, 24, .inl (upd (fun _ => 0) 4 0))))) := iy_n_ok (iy_run_ok _ _ _) rfl
  rw [xtH_f] at z
  exact z
set_option maxRecDepth 100000 in
theorem xtk0_f5 : ix_n (xT A) (ix_run (xT A) K d) xm_102 15 (81, [(3, .int 5), (2, .int k), (0, .ref 598), (1, .int n)], [], xtH h (k + 1)) = some (.inl (81, [(3, .int 6), (2, .int k), (0, .ref 598), (1, .int n)], [], xtH h (k + 1))) := by
  have z : ix_n (xT A) (ix_run (xT A) K d) xm_102 15 (81, [(3, .int 5), (2, .int k), (0, .ref 598), (1, .int n)], [], xtH h (k + 1)) = some (.inl (81, [(3, .int 6), (2, .int k), (0, .ref 598), (1, .int n)], [], ix_put (xtH h (k + 1)) 627 (.inl (2, 24, .inl (upd (fun _ => 0) 5 0))))) := iy_n_ok (iy_run_ok _ _ _) rfl
  rw [xtH_f] at z
  exact z
set_option maxRecDepth 100000 in
theorem xtk0_f6 : ix_n (xT A) (ix_run (xT A) K d) xm_102 15 (81, [(3, .int 6), (2, .int k), (0, .ref 598), (1, .int n)], [], xtH h (k + 1)) = some (.inl (81, [(3, .int 7), (2, .int k), (0, .ref 598), (1, .int n)], [], xtH h (k + 1))) := by
  have z : ix_n (xT A) (ix_run (xT A) K d) xm_102 15 (81, [(3, .int 6), (2, .int k), (0, .ref 598), (1, .int n)], [], xtH h (k + 1)) = some (.inl (81, [(3, .int 7), (2, .int k), (0, .ref 598), (1, .int n)], [], ix_put (xtH h (k + 1)) 627 (.inl (2, 24, .inl (upd (fun _ => 0) 6 0))))) := iy_n_ok (iy_run_ok _ _ _) rfl
  rw [xtH_f] at z
  exact z
set_option maxRecDepth 100000 in
theorem xtk0_f7 : ix_n (xT A) (ix_run (xT A) K d) xm_102 15 (81, [(3, .int 7), (2, .int k), (0, .ref 598), (1, .int n)], [], xtH h (k + 1)) = some (.inl (81, [(3, .int 8), (2, .int k), (0, .ref 598), (1, .int n)], [], xtH h (k + 1))) := by
  have z : ix_n (xT A) (ix_run (xT A) K d) xm_102 15 (81, [(3, .int 7), (2, .int k), (0, .ref 598), (1, .int n)], [], xtH h (k + 1)) = some (.inl (81, [(3, .int 8), (2, .int k), (0, .ref 598), (1, .int n)], [], ix_put (xtH h (k + 1)) 627 (.inl (2, 24, .inl (upd (fun _ => 0) 7 0))))) := iy_n_ok (iy_run_ok _ _ _) rfl
  rw [xtH_f] at z
  exact z
set_option maxRecDepth 100000 in
theorem xtk0_f8 : ix_n (xT A) (ix_run (xT A) K d) xm_102 15 (81, [(3, .int 8), (2, .int k), (0, .ref 598), (1, .int n)], [], xtH h (k + 1)) = some (.inl (81, [(3, .int 9), (2, .int k), (0, .ref 598), (1, .int n)], [], xtH h (k + 1))) := by
  have z : ix_n (xT A) (ix_run (xT A) K d) xm_102 15 (81, [(3, .int 8), (2, .int k), (0, .ref 598), (1, .int n)], [], xtH h (k + 1)) = some (.inl (81, [(3, .int 9), (2, .int k), (0, .ref 598), (1, .int n)], [], ix_put (xtH h (k + 1)) 627 (.inl (2, 24, .inl (upd (fun _ => 0) 8 0))))) := iy_n_ok (iy_run_ok _ _ _) rfl
  rw [xtH_f] at z
  exact z
set_option maxRecDepth 100000 in
theorem xtk0_f9 : ix_n (xT A) (ix_run (xT A) K d) xm_102 15 (81, [(3, .int 9), (2, .int k), (0, .ref 598), (1, .int n)], [], xtH h (k + 1)) = some (.inl (81, [(3, .int 10), (2, .int k), (0, .ref 598), (1, .int n)], [], xtH h (k + 1))) := by
  have z : ix_n (xT A) (ix_run (xT A) K d) xm_102 15 (81, [(3, .int 9), (2, .int k), (0, .ref 598), (1, .int n)], [], xtH h (k + 1)) = some (.inl (81, [(3, .int 10), (2, .int k), (0, .ref 598), (1, .int n)], [], ix_put (xtH h (k + 1)) 627 (.inl (2, 24, .inl (upd (fun _ => 0) 9 0))))) := iy_n_ok (iy_run_ok _ _ _) rfl
  rw [xtH_f] at z
  exact z
set_option maxRecDepth 100000 in
theorem xtk0_f10 : ix_n (xT A) (ix_run (xT A) K d) xm_102 15 (81, [(3, .int 10), (2, .int k), (0, .ref 598), (1, .int n)], [], xtH h (k + 1)) = some (.inl (81, [(3, .int 11), (2, .int k), (0, .ref 598), (1, .int n)], [], xtH h (k + 1))) := by
  have z : ix_n (xT A) (ix_run (xT A) K d) xm_102 15 (81, [(3, .int 10), (2, .int k), (0, .ref 598), (1, .int n)], [], xtH h (k + 1)) = some (.inl (81, [(3, .int 11), (2, .int k), (0, .ref 598), (1, .int n)], [], ix_put (xtH h (k + 1)) 627 (.inl (2, 24, .inl (upd (fun _ => 0) 10 0))))) := iy_n_ok (iy_run_ok _ _ _) rfl
  rw [xtH_f] at z
  exact z
set_option maxRecDepth 100000 in
theorem xtk0_f11 : ix_n (xT A) (ix_run (xT A) K d) xm_102 15 (81, [(3, .int 11), (2, .int k), (0, .ref 598), (1, .int n)], [], xtH h (k + 1)) = some (.inl (81, [(3, .int 12), (2, .int k), (0, .ref 598), (1, .int n)], [], xtH h (k + 1))) := by
  have z : ix_n (xT A) (ix_run (xT A) K d) xm_102 15 (81, [(3, .int 11), (2, .int k), (0, .ref 598), (1, .int n)], [], xtH h (k + 1)) = some (.inl (81, [(3, .int 12), (2, .int k), (0, .ref 598), (1, .int n)], [], ix_put (xtH h (k + 1)) 627 (.inl (2, 24, .inl (upd (fun _ => 0) 11 0))))) := iy_n_ok (iy_run_ok _ _ _) rfl
  rw [xtH_f] at z
  exact z
set_option maxRecDepth 100000 in
theorem xtk0_f12 : ix_n (xT A) (ix_run (xT A) K d) xm_102 15 (81, [(3, .int 12), (2, .int k), (0, .ref 598), (1, .int n)], [], xtH h (k + 1)) = some (.inl (81, [(3, .int 13), (2, .int k), (0, .ref 598), (1, .int n)], [], xtH h (k + 1))) := by
  have z : ix_n (xT A) (ix_run (xT A) K d) xm_102 15 (81, [(3, .int 12), (2, .int k), (0, .ref 598), (1, .int n)], [], xtH h (k + 1)) = some (.inl (81, [(3, .int 13), (2, .int k), (0, .ref 598), (1, .int n)], [], ix_put (xtH h (k + 1)) 627 (.inl (2, 24, .inl (upd (fun _ => 0) 12 0))))) := iy_n_ok (iy_run_ok _ _ _) rfl
  rw [xtH_f] at z
  exact z
set_option maxRecDepth 100000 in
theorem xtk0_f13 : ix_n (xT A) (ix_run (xT A) K d) xm_102 15 (81, [(3, .int 13), (2, .int k), (0, .ref 598), (1, .int n)], [], xtH h (k + 1)) = some (.inl (81, [(3, .int 14), (2, .int k), (0, .ref 598), (1, .int n)], [], xtH h (k + 1))) := by
  have z : ix_n (xT A) (ix_run (xT A) K d) xm_102 15 (81, [(3, .int 13), (2, .int k), (0, .ref 598), (1, .int n)], [], xtH h (k + 1)) = some (.inl (81, [(3, .int 14), (2, .int k), (0, .ref 598), (1, .int n)], [], ix_put (xtH h (k + 1)) 627 (.inl (2, 24, .inl (upd (fun _ => 0) 13 0))))) := iy_n_ok (iy_run_ok _ _ _) rfl
  rw [xtH_f] at z
  exact z
set_option maxRecDepth 100000 in
theorem xtk0_f14 : ix_n (xT A) (ix_run (xT A) K d) xm_102 15 (81, [(3, .int 14), (2, .int k), (0, .ref 598), (1, .int n)], [], xtH h (k + 1)) = some (.inl (81, [(3, .int 15), (2, .int k), (0, .ref 598), (1, .int n)], [], xtH h (k + 1))) := by
  have z : ix_n (xT A) (ix_run (xT A) K d) xm_102 15 (81, [(3, .int 14), (2, .int k), (0, .ref 598), (1, .int n)], [], xtH h (k + 1)) = some (.inl (81, [(3, .int 15), (2, .int k), (0, .ref 598), (1, .int n)], [], ix_put (xtH h (k + 1)) 627 (.inl (2, 24, .inl (upd (fun _ => 0) 14 0))))) := iy_n_ok (iy_run_ok _ _ _) rfl
  rw [xtH_f] at z
  exact z
set_option maxRecDepth 100000 in
theorem xtk0_f15 : ix_n (xT A) (ix_run (xT A) K d) xm_102 15 (81, [(3, .int 15), (2, .int k), (0, .ref 598), (1, .int n)], [], xtH h (k + 1)) = some (.inl (81, [(3, .int 16), (2, .int k), (0, .ref 598), (1, .int n)], [], xtH h (k + 1))) := by
  have z : ix_n (xT A) (ix_run (xT A) K d) xm_102 15 (81, [(3, .int 15), (2, .int k), (0, .ref 598), (1, .int n)], [], xtH h (k + 1)) = some (.inl (81, [(3, .int 16), (2, .int k), (0, .ref 598), (1, .int n)], [], ix_put (xtH h (k + 1)) 627 (.inl (2, 24, .inl (upd (fun _ => 0) 15 0))))) := iy_n_ok (iy_run_ok _ _ _) rfl
  rw [xtH_f] at z
  exact z
set_option maxRecDepth 100000 in
theorem xtk0_f16 : ix_n (xT A) (ix_run (xT A) K d) xm_102 15 (81, [(3, .int 16), (2, .int k), (0, .ref 598), (1, .int n)], [], xtH h (k + 1)) = some (.inl (81, [(3, .int 17), (2, .int k), (0, .ref 598), (1, .int n)], [], xtH h (k + 1))) := by
  have z : ix_n (xT A) (ix_run (xT A) K d) xm_102 15 (81, [(3, .int 16), (2, .int k), (0, .ref 598), (1, .int n)], [], xtH h (k + 1)) = some (.inl (81, [(3, .int 17), (2, .int k), (0, .ref 598), (1, .int n)], [], ix_put (xtH h (k + 1)) 627 (.inl (2, 24, .inl (upd (fun _ => 0) 16 0))))) := iy_n_ok (iy_run_ok _ _ _) rfl
  rw [xtH_f] at z
  exact z
set_option maxRecDepth 100000 in
theorem xtk0_f17 : ix_n (xT A) (ix_run (xT A) K d) xm_102 15 (81, [(3, .int 17), (2, .int k), (0, .ref 598), (1, .int n)], [], xtH h (k + 1)) = some (.inl (81, [(3, .int 18), (2, .int k), (0, .ref 598), (1, .int n)], [], xtH h (k + 1))) := by
  have z : ix_n (xT A) (ix_run (xT A) K d) xm_102 15 (81, [(3, .int 17), (2, .int k), (0, .ref 598), (1, .int n)], [], xtH h (k + 1)) = some (.inl (81, [(3, .int 18), (2, .int k), (0, .ref 598), (1, .int n)], [], ix_put (xtH h (k + 1)) 627 (.inl (2, 24, .inl (upd (fun _ => 0) 17 0))))) := iy_n_ok (iy_run_ok _ _ _) rfl
  rw [xtH_f] at z
  exact z
set_option maxRecDepth 100000 in
theorem xtk0_f18 : ix_n (xT A) (ix_run (xT A) K d) xm_102 15 (81, [(3, .int 18), (2, .int k), (0, .ref 598), (1, .int n)], [], xtH h (k + 1)) = some (.inl (81, [(3, .int 19), (2, .int k), (0, .ref 598), (1, .int n)], [], xtH h (k + 1))) := by
  have z : ix_n (xT A) (ix_run (xT A) K d) xm_102 15 (81, [(3, .int 18), (2, .int k), (0, .ref 598), (1, .int n)], [], xtH h (k + 1)) = some (.inl (81, [(3, .int 19), (2, .int k), (0, .ref 598), (1, .int n)], [], ix_put (xtH h (k + 1)) 627 (.inl (2, 24, .inl (upd (fun _ => 0) 18 0))))) := iy_n_ok (iy_run_ok _ _ _) rfl
  rw [xtH_f] at z
  exact z
set_option maxRecDepth 100000 in
theorem xtk0_f19 : ix_n (xT A) (ix_run (xT A) K d) xm_102 15 (81, [(3, .int 19), (2, .int k), (0, .ref 598), (1, .int n)], [], xtH h (k + 1)) = some (.inl (81, [(3, .int 20), (2, .int k), (0, .ref 598), (1, .int n)], [], xtH h (k + 1))) := by
  have z : ix_n (xT A) (ix_run (xT A) K d) xm_102 15 (81, [(3, .int 19), (2, .int k), (0, .ref 598), (1, .int n)], [], xtH h (k + 1)) = some (.inl (81, [(3, .int 20), (2, .int k), (0, .ref 598), (1, .int n)], [], ix_put (xtH h (k + 1)) 627 (.inl (2, 24, .inl (upd (fun _ => 0) 19 0))))) := iy_n_ok (iy_run_ok _ _ _) rfl
  rw [xtH_f] at z
  exact z
set_option maxRecDepth 100000 in
theorem xtk0_f20 : ix_n (xT A) (ix_run (xT A) K d) xm_102 15 (81, [(3, .int 20), (2, .int k), (0, .ref 598), (1, .int n)], [], xtH h (k + 1)) = some (.inl (81, [(3, .int 21), (2, .int k), (0, .ref 598), (1, .int n)], [], xtH h (k + 1))) := by
  have z : ix_n (xT A) (ix_run (xT A) K d) xm_102 15 (81, [(3, .int 20), (2, .int k), (0, .ref 598), (1, .int n)], [], xtH h (k + 1)) = some (.inl (81, [(3, .int 21), (2, .int k), (0, .ref 598), (1, .int n)], [], ix_put (xtH h (k + 1)) 627 (.inl (2, 24, .inl (upd (fun _ => 0) 20 0))))) := iy_n_ok (iy_run_ok _ _ _) rfl
  rw [xtH_f] at z
  exact z
set_option maxRecDepth 100000 in
theorem xtk0_f21 : ix_n (xT A) (ix_run (xT A) K d) xm_102 15 (81, [(3, .int 21), (2, .int k), (0, .ref 598), (1, .int n)], [], xtH h (k + 1)) = some (.inl (81, [(3, .int 22), (2, .int k), (0, .ref 598), (1, .int n)], [], xtH h (k + 1))) := by
  have z : ix_n (xT A) (ix_run (xT A) K d) xm_102 15 (81, [(3, .int 21), (2, .int k), (0, .ref 598), (1, .int n)], [], xtH h (k + 1)) = some (.inl (81, [(3, .int 22), (2, .int k), (0, .ref 598), (1, .int n)], [], ix_put (xtH h (k + 1)) 627 (.inl (2, 24, .inl (upd (fun _ => 0) 21 0))))) := iy_n_ok (iy_run_ok _ _ _) rfl
  rw [xtH_f] at z
  exact z
set_option maxRecDepth 100000 in
theorem xtk0_f22 : ix_n (xT A) (ix_run (xT A) K d) xm_102 15 (81, [(3, .int 22), (2, .int k), (0, .ref 598), (1, .int n)], [], xtH h (k + 1)) = some (.inl (81, [(3, .int 23), (2, .int k), (0, .ref 598), (1, .int n)], [], xtH h (k + 1))) := by
  have z : ix_n (xT A) (ix_run (xT A) K d) xm_102 15 (81, [(3, .int 22), (2, .int k), (0, .ref 598), (1, .int n)], [], xtH h (k + 1)) = some (.inl (81, [(3, .int 23), (2, .int k), (0, .ref 598), (1, .int n)], [], ix_put (xtH h (k + 1)) 627 (.inl (2, 24, .inl (upd (fun _ => 0) 22 0))))) := iy_n_ok (iy_run_ok _ _ _) rfl
  rw [xtH_f] at z
  exact z
set_option maxRecDepth 100000 in
theorem xtk0_f23 : ix_n (xT A) (ix_run (xT A) K d) xm_102 15 (81, [(3, .int 23), (2, .int k), (0, .ref 598), (1, .int n)], [], xtH h (k + 1)) = some (.inl (81, [(3, .int 24), (2, .int k), (0, .ref 598), (1, .int n)], [], xtH h (k + 1))) := by
  have z : ix_n (xT A) (ix_run (xT A) K d) xm_102 15 (81, [(3, .int 23), (2, .int k), (0, .ref 598), (1, .int n)], [], xtH h (k + 1)) = some (.inl (81, [(3, .int 24), (2, .int k), (0, .ref 598), (1, .int n)], [], ix_put (xtH h (k + 1)) 627 (.inl (2, 24, .inl (upd (fun _ => 0) 23 0))))) := iy_n_ok (iy_run_ok _ _ _) rfl
  rw [xtH_f] at z
  exact z
set_option maxRecDepth 100000 in
theorem xtk0_fe : ix_n (xT A) (ix_run (xT A) K d) xm_102 5 (81, [(3, .int 24), (2, .int k), (0, .ref 598), (1, .int n)], [], xtH h (k + 1)) = some (.inl (128, [(3, .int 0), (2, .int k), (0, .ref 598), (1, .int n)], [], xtH h (k + 1))) := iy_n_ok (iy_run_ok _ _ _) rfl
set_option maxRecDepth 100000 in
theorem xtk0_b0 : ix_n (xT A) (ix_run (xT A) K d) xm_102 22 (128, [(3, .int 0), (2, .int k), (0, .ref 598), (1, .int n)], [], xtH h (k + 1)) = some (.inl (128, [(3, .int 1), (4, .int 0), (2, .int k), (0, .ref 598), (1, .int n)], [], xtH h (k + 1))) := by
  have z : ix_n (xT A) (ix_run (xT A) K d) xm_102 22 (128, [(3, .int 0), (2, .int k), (0, .ref 598), (1, .int n)], [], xtH h (k + 1)) = some (.inl (128, [(3, .int 1), (4, .int 0), (2, .int k), (0, .ref 598), (1, .int n)], [], ix_put (xtH h (k + 1)) 624 (.inl (0, 4, .inl (upd (fun _ => 0) 0 0))))) := iy_n_ok (iy_run_ok _ _ _) rfl
  rw [xtH_b] at z
  exact z
set_option maxRecDepth 100000 in
theorem xtk0_b1 : ix_n (xT A) (ix_run (xT A) K d) xm_102 22 (128, [(3, .int 1), (4, .int 0), (2, .int k), (0, .ref 598), (1, .int n)], [], xtH h (k + 1)) = some (.inl (128, [(3, .int 2), (4, .int 0), (2, .int k), (0, .ref 598), (1, .int n)], [], xtH h (k + 1))) := by
  have z : ix_n (xT A) (ix_run (xT A) K d) xm_102 22 (128, [(3, .int 1), (4, .int 0), (2, .int k), (0, .ref 598), (1, .int n)], [], xtH h (k + 1)) = some (.inl (128, [(3, .int 2), (4, .int 0), (2, .int k), (0, .ref 598), (1, .int n)], [], ix_put (xtH h (k + 1)) 624 (.inl (0, 4, .inl (upd (fun _ => 0) 1 0))))) := iy_n_ok (iy_run_ok _ _ _) rfl
  rw [xtH_b] at z
  exact z
set_option maxRecDepth 100000 in
theorem xtk0_b2 : ix_n (xT A) (ix_run (xT A) K d) xm_102 22 (128, [(3, .int 2), (4, .int 0), (2, .int k), (0, .ref 598), (1, .int n)], [], xtH h (k + 1)) = some (.inl (128, [(3, .int 3), (4, .int 0), (2, .int k), (0, .ref 598), (1, .int n)], [], xtH h (k + 1))) := by
  have z : ix_n (xT A) (ix_run (xT A) K d) xm_102 22 (128, [(3, .int 2), (4, .int 0), (2, .int k), (0, .ref 598), (1, .int n)], [], xtH h (k + 1)) = some (.inl (128, [(3, .int 3), (4, .int 0), (2, .int k), (0, .ref 598), (1, .int n)], [], ix_put (xtH h (k + 1)) 624 (.inl (0, 4, .inl (upd (fun _ => 0) 2 0))))) := iy_n_ok (iy_run_ok _ _ _) rfl
  rw [xtH_b] at z
  exact z
set_option maxRecDepth 100000 in
theorem xtk0_b3 : ix_n (xT A) (ix_run (xT A) K d) xm_102 22 (128, [(3, .int 3), (4, .int 0), (2, .int k), (0, .ref 598), (1, .int n)], [], xtH h (k + 1)) = some (.inl (128, [(3, .int 4), (4, .int 0), (2, .int k), (0, .ref 598), (1, .int n)], [], xtH h (k + 1))) := by
  have z : ix_n (xT A) (ix_run (xT A) K d) xm_102 22 (128, [(3, .int 3), (4, .int 0), (2, .int k), (0, .ref 598), (1, .int n)], [], xtH h (k + 1)) = some (.inl (128, [(3, .int 4), (4, .int 0), (2, .int k), (0, .ref 598), (1, .int n)], [], ix_put (xtH h (k + 1)) 624 (.inl (0, 4, .inl (upd (fun _ => 0) 3 0))))) := iy_n_ok (iy_run_ok _ _ _) rfl
  rw [xtH_b] at z
  exact z
set_option maxRecDepth 100000 in
theorem xtk0_e : ix_n (xT A) (ix_run (xT A) K d) xm_102 5 (128, [(3, .int 4), (4, .int 0), (2, .int k), (0, .ref 598), (1, .int n)], [], xtH h (k + 1)) = some (.inl (17, [(2, .int (k + 1)), (3, .int 4), (4, .int 0), (0, .ref 598), (1, .int n)], [], xtH h (k + 1))) := iy_n_ok (iy_run_ok _ _ _) rfl
theorem xturn0 {N : Nat} {r : Option Value × ix_H} (hk : k.toInt < n.toInt) (z : ix_R (xT A) (ix_run (xT A) K d) xm_102 N (17, [(2, .int (k + 1)), (3, .int 4), (4, .int 0), (0, .ref 598), (1, .int n)], [], xtH h (k + 1)) r) : ix_R (xT A) (ix_run (xT A) K d) xm_102 (600 + N) (17, [(2, .int k), (0, .ref 598), (1, .int n)], [], xtH h k) r :=
  ix_R.le (ix_R.step 2 (σ' := (19, [(2, .int k), (0, .ref 598), (1, .int n)], [.int n, .int k], xtH h k)) (iy_n_ok (iy_run_ok _ _ _) rfl) (ix_R.step 1 (ix_n_icmpf rfl rfl (cbf_ge (by omega))) (ix_R.step 5 (xtk0_t1 A K d h k n) (ix_R.step 1 (xtk0_t2 A K d h k n) (ix_R.step 2 (xtk0_t3 A K d h k n) (ix_R.step 15 (xtk0_g0 A K d h k n) (ix_R.step 15 (xtk0_g1 A K d h k n) (ix_R.step 15 (xtk0_g2 A K d h k n) (ix_R.step 15 (xtk0_g3 A K d h k n) (ix_R.step 15 (xtk0_g4 A K d h k n) (ix_R.step 15 (xtk0_g5 A K d h k n) (ix_R.step 15 (xtk0_g6 A K d h k n) (ix_R.step 15 (xtk0_g7 A K d h k n) (ix_R.step 5 (xtk0_ge A K d h k n) (ix_R.step 15 (xtk0_f0 A K d h k n) (ix_R.step 15 (xtk0_f1 A K d h k n) (ix_R.step 15 (xtk0_f2 A K d h k n) (ix_R.step 15 (xtk0_f3 A K d h k n) (ix_R.step 15 (xtk0_f4 A K d h k n) (ix_R.step 15 (xtk0_f5 A K d h k n) (ix_R.step 15 (xtk0_f6 A K d h k n) (ix_R.step 15 (xtk0_f7 A K d h k n) (ix_R.step 15 (xtk0_f8 A K d h k n) (ix_R.step 15 (xtk0_f9 A K d h k n) (ix_R.step 15 (xtk0_f10 A K d h k n) (ix_R.step 15 (xtk0_f11 A K d h k n) (ix_R.step 15 (xtk0_f12 A K d h k n) (ix_R.step 15 (xtk0_f13 A K d h k n) (ix_R.step 15 (xtk0_f14 A K d h k n) (ix_R.step 15 (xtk0_f15 A K d h k n) (ix_R.step 15 (xtk0_f16 A K d h k n) (ix_R.step 15 (xtk0_f17 A K d h k n) (ix_R.step 15 (xtk0_f18 A K d h k n) (ix_R.step 15 (xtk0_f19 A K d h k n) (ix_R.step 15 (xtk0_f20 A K d h k n) (ix_R.step 15 (xtk0_f21 A K d h k n) (ix_R.step 15 (xtk0_f22 A K d h k n) (ix_R.step 15 (xtk0_f23 A K d h k n) (ix_R.step 5 (xtk0_fe A K d h k n) (ix_R.step 22 (xtk0_b0 A K d h k n) (ix_R.step 22 (xtk0_b1 A K d h k n) (ix_R.step 22 (xtk0_b2 A K d h k n) (ix_R.step 22 (xtk0_b3 A K d h k n) (ix_R.step 5 (xtk0_e A K d h k n) z)))))))))))))))))))))))))))))))))))))))))))) (by omega)
set_option maxRecDepth 100000 in
theorem xtk1_t1 : ix_n (xT A) (ix_run (xT A) K d) xm_102 5 (22, [(2, .int k), (3, .int 4), (4, .int 0), (0, .ref 598), (1, .int n)], [], xtH h k) = some (.inl (29, [(2, .int k), (3, .int 4), (4, .int 0), (0, .ref 598), (1, .int n)], [.int (k + 1), .ref 598], xtH h k)) := iy_n_ok (iy_run_ok _ _ _) rfl
set_option maxRecDepth 100000 in
theorem xtk1_t2 : ix_n (xT A) (ix_run (xT A) K d) xm_102 1 (29, [(2, .int k), (3, .int 4), (4, .int 0), (0, .ref 598), (1, .int n)], [.int (k + 1), .ref 598], xtH h k) = some (.inl (32, [(2, .int k), (3, .int 4), (4, .int 0), (0, .ref 598), (1, .int n)], [], xtH h (k + 1))) := by
  have y := ix_n_put (T := xT A) (f := ix_run (xT A) K d) (M := xm_102) (pc := 29) (a := 598) (ls := [(2, .int k), (3, .int 4), (4, .int 0), (0, .ref 598), (1, .int n)]) (st := []) (hp := xtH h k) (v := .int (k + 1)) rfl rfl rfl (Nat.le_of_ble_eq_true rfl) rfl rfl rfl
  have z : ix_n (xT A) (ix_run (xT A) K d) xm_102 1 (29, [(2, .int k), (3, .int 4), (4, .int 0), (0, .ref 598), (1, .int n)], [.int (k + 1), .ref 598], xtH h k) = some (.inl (32, [(2, .int k), (3, .int 4), (4, .int 0), (0, .ref 598), (1, .int n)], [], ix_put (xtH h k) 598 (xtC (k + 1)))) := y
  rw [xtH_time] at z
  exact z
set_option maxRecDepth 100000 in
theorem xtk1_t3 : ix_n (xT A) (ix_run (xT A) K d) xm_102 2 (32, [(2, .int k), (3, .int 4), (4, .int 0), (0, .ref 598), (1, .int n)], [], xtH h (k + 1)) = some (.inl (34, [(3, .int 0), (2, .int k), (4, .int 0), (0, .ref 598), (1, .int n)], [], xtH h (k + 1))) := iy_n_ok (iy_run_ok _ _ _) rfl
set_option maxRecDepth 100000 in
theorem xtk1_g0 : ix_n (xT A) (ix_run (xT A) K d) xm_102 15 (34, [(3, .int 0), (2, .int k), (4, .int 0), (0, .ref 598), (1, .int n)], [], xtH h (k + 1)) = some (.inl (34, [(3, .int 1), (2, .int k), (4, .int 0), (0, .ref 598), (1, .int n)], [], xtH h (k + 1))) := by
  have z : ix_n (xT A) (ix_run (xT A) K d) xm_102 15 (34, [(3, .int 0), (2, .int k), (4, .int 0), (0, .ref 598), (1, .int n)], [], xtH h (k + 1)) = some (.inl (34, [(3, .int 1), (2, .int k), (4, .int 0), (0, .ref 598), (1, .int n)], [], ix_put (xtH h (k + 1)) 606 (.inl (2, 8, .inl (upd (fun _ => 0) 0 0))))) := iy_n_ok (iy_run_ok _ _ _) rfl
  rw [xtH_g] at z
  exact z
set_option maxRecDepth 100000 in
theorem xtk1_g1 : ix_n (xT A) (ix_run (xT A) K d) xm_102 15 (34, [(3, .int 1), (2, .int k), (4, .int 0), (0, .ref 598), (1, .int n)], [], xtH h (k + 1)) = some (.inl (34, [(3, .int 2), (2, .int k), (4, .int 0), (0, .ref 598), (1, .int n)], [], xtH h (k + 1))) := by
  have z : ix_n (xT A) (ix_run (xT A) K d) xm_102 15 (34, [(3, .int 1), (2, .int k), (4, .int 0), (0, .ref 598), (1, .int n)], [], xtH h (k + 1)) = some (.inl (34, [(3, .int 2), (2, .int k), (4, .int 0), (0, .ref 598), (1, .int n)], [], ix_put (xtH h (k + 1)) 606 (.inl (2, 8, .inl (upd (fun _ => 0) 1 0))))) := iy_n_ok (iy_run_ok _ _ _) rfl
  rw [xtH_g] at z
  exact z
set_option maxRecDepth 100000 in
theorem xtk1_g2 : ix_n (xT A) (ix_run (xT A) K d) xm_102 15 (34, [(3, .int 2), (2, .int k), (4, .int 0), (0, .ref 598), (1, .int n)], [], xtH h (k + 1)) = some (.inl (34, [(3, .int 3), (2, .int k), (4, .int 0), (0, .ref 598), (1, .int n)], [], xtH h (k + 1))) := by
  have z : ix_n (xT A) (ix_run (xT A) K d) xm_102 15 (34, [(3, .int 2), (2, .int k), (4, .int 0), (0, .ref 598), (1, .int n)], [], xtH h (k + 1)) = some (.inl (34, [(3, .int 3), (2, .int k), (4, .int 0), (0, .ref 598), (1, .int n)], [], ix_put (xtH h (k + 1)) 606 (.inl (2, 8, .inl (upd (fun _ => 0) 2 0))))) := iy_n_ok (iy_run_ok _ _ _) rfl
  rw [xtH_g] at z
  exact z
set_option maxRecDepth 100000 in
theorem xtk1_g3 : ix_n (xT A) (ix_run (xT A) K d) xm_102 15 (34, [(3, .int 3), (2, .int k), (4, .int 0), (0, .ref 598), (1, .int n)], [], xtH h (k + 1)) = some (.inl (34, [(3, .int 4), (2, .int k), (4, .int 0), (0, .ref 598), (1, .int n)], [], xtH h (k + 1))) := by
  have z : ix_n (xT A) (ix_run (xT A) K d) xm_102 15 (34, [(3, .int 3), (2, .int k), (4, .int 0), (0, .ref 598), (1, .int n)], [], xtH h (k + 1)) = some (.inl (34, [(3, .int 4), (2, .int k), (4, .int 0), (0, .ref 598), (1, .int n)], [], ix_put (xtH h (k + 1)) 606 (.inl (2, 8, .inl (upd (fun _ => 0) 3 0))))) := iy_n_ok (iy_run_ok _ _ _) rfl
  rw [xtH_g] at z
  exact z
set_option maxRecDepth 100000 in
theorem xtk1_g4 : ix_n (xT A) (ix_run (xT A) K d) xm_102 15 (34, [(3, .int 4), (2, .int k), (4, .int 0), (0, .ref 598), (1, .int n)], [], xtH h (k + 1)) = some (.inl (34, [(3, .int 5), (2, .int k), (4, .int 0), (0, .ref 598), (1, .int n)], [], xtH h (k + 1))) := by
  have z : ix_n (xT A) (ix_run (xT A) K d) xm_102 15 (34, [(3, .int 4), (2, .int k), (4, .int 0), (0, .ref 598), (1, .int n)], [], xtH h (k + 1)) = some (.inl (34, [(3, .int 5), (2, .int k), (4, .int 0), (0, .ref 598), (1, .int n)], [], ix_put (xtH h (k + 1)) 606 (.inl (2, 8, .inl (upd (fun _ => 0) 4 0))))) := iy_n_ok (iy_run_ok _ _ _) rfl
  rw [xtH_g] at z
  exact z
set_option maxRecDepth 100000 in
theorem xtk1_g5 : ix_n (xT A) (ix_run (xT A) K d) xm_102 15 (34, [(3, .int 5), (2, .int k), (4, .int 0), (0, .ref 598), (1, .int n)], [], xtH h (k + 1)) = some (.inl (34, [(3, .int 6), (2, .int k), (4, .int 0), (0, .ref 598), (1, .int n)], [], xtH h (k + 1))) := by
  have z : ix_n (xT A) (ix_run (xT A) K d) xm_102 15 (34, [(3, .int 5), (2, .int k), (4, .int 0), (0, .ref 598), (1, .int n)], [], xtH h (k + 1)) = some (.inl (34, [(3, .int 6), (2, .int k), (4, .int 0), (0, .ref 598), (1, .int n)], [], ix_put (xtH h (k + 1)) 606 (.inl (2, 8, .inl (upd (fun _ => 0) 5 0))))) := iy_n_ok (iy_run_ok _ _ _) rfl
  rw [xtH_g] at z
  exact z
set_option maxRecDepth 100000 in
theorem xtk1_g6 : ix_n (xT A) (ix_run (xT A) K d) xm_102 15 (34, [(3, .int 6), (2, .int k), (4, .int 0), (0, .ref 598), (1, .int n)], [], xtH h (k + 1)) = some (.inl (34, [(3, .int 7), (2, .int k), (4, .int 0), (0, .ref 598), (1, .int n)], [], xtH h (k + 1))) := by
  have z : ix_n (xT A) (ix_run (xT A) K d) xm_102 15 (34, [(3, .int 6), (2, .int k), (4, .int 0), (0, .ref 598), (1, .int n)], [], xtH h (k + 1)) = some (.inl (34, [(3, .int 7), (2, .int k), (4, .int 0), (0, .ref 598), (1, .int n)], [], ix_put (xtH h (k + 1)) 606 (.inl (2, 8, .inl (upd (fun _ => 0) 6 0))))) := iy_n_ok (iy_run_ok _ _ _) rfl
  rw [xtH_g] at z
  exact z
set_option maxRecDepth 100000 in
theorem xtk1_g7 : ix_n (xT A) (ix_run (xT A) K d) xm_102 15 (34, [(3, .int 7), (2, .int k), (4, .int 0), (0, .ref 598), (1, .int n)], [], xtH h (k + 1)) = some (.inl (34, [(3, .int 8), (2, .int k), (4, .int 0), (0, .ref 598), (1, .int n)], [], xtH h (k + 1))) := by
  have z : ix_n (xT A) (ix_run (xT A) K d) xm_102 15 (34, [(3, .int 7), (2, .int k), (4, .int 0), (0, .ref 598), (1, .int n)], [], xtH h (k + 1)) = some (.inl (34, [(3, .int 8), (2, .int k), (4, .int 0), (0, .ref 598), (1, .int n)], [], ix_put (xtH h (k + 1)) 606 (.inl (2, 8, .inl (upd (fun _ => 0) 7 0))))) := iy_n_ok (iy_run_ok _ _ _) rfl
  rw [xtH_g] at z
  exact z
set_option maxRecDepth 100000 in
theorem xtk1_ge : ix_n (xT A) (ix_run (xT A) K d) xm_102 5 (34, [(3, .int 8), (2, .int k), (4, .int 0), (0, .ref 598), (1, .int n)], [], xtH h (k + 1)) = some (.inl (81, [(3, .int 0), (2, .int k), (4, .int 0), (0, .ref 598), (1, .int n)], [], xtH h (k + 1))) := iy_n_ok (iy_run_ok _ _ _) rfl
set_option maxRecDepth 100000 in
theorem xtk1_f0 : ix_n (xT A) (ix_run (xT A) K d) xm_102 15 (81, [(3, .int 0), (2, .int k), (4, .int 0), (0, .ref 598), (1, .int n)], [], xtH h (k + 1)) = some (.inl (81, [(3, .int 1), (2, .int k), (4, .int 0), (0, .ref 598), (1, .int n)], [], xtH h (k + 1))) := by
  have z : ix_n (xT A) (ix_run (xT A) K d) xm_102 15 (81, [(3, .int 0), (2, .int k), (4, .int 0), (0, .ref 598), (1, .int n)], [], xtH h (k + 1)) = some (.inl (81, [(3, .int 1), (2, .int k), (4, .int 0), (0, .ref 598), (1, .int n)], [], ix_put (xtH h (k + 1)) 627 (.inl (2, 24, .inl (upd (fun _ => 0) 0 0))))) := iy_n_ok (iy_run_ok _ _ _) rfl
  rw [xtH_f] at z
  exact z
set_option maxRecDepth 100000 in
theorem xtk1_f1 : ix_n (xT A) (ix_run (xT A) K d) xm_102 15 (81, [(3, .int 1), (2, .int k), (4, .int 0), (0, .ref 598), (1, .int n)], [], xtH h (k + 1)) = some (.inl (81, [(3, .int 2), (2, .int k), (4, .int 0), (0, .ref 598), (1, .int n)], [], xtH h (k + 1))) := by
  have z : ix_n (xT A) (ix_run (xT A) K d) xm_102 15 (81, [(3, .int 1), (2, .int k), (4, .int 0), (0, .ref 598), (1, .int n)], [], xtH h (k + 1)) = some (.inl (81, [(3, .int 2), (2, .int k), (4, .int 0), (0, .ref 598), (1, .int n)], [], ix_put (xtH h (k + 1)) 627 (.inl (2, 24, .inl (upd (fun _ => 0) 1 0))))) := iy_n_ok (iy_run_ok _ _ _) rfl
  rw [xtH_f] at z
  exact z
set_option maxRecDepth 100000 in
theorem xtk1_f2 : ix_n (xT A) (ix_run (xT A) K d) xm_102 15 (81, [(3, .int 2), (2, .int k), (4, .int 0), (0, .ref 598), (1, .int n)], [], xtH h (k + 1)) = some (.inl (81, [(3, .int 3), (2, .int k), (4, .int 0), (0, .ref 598), (1, .int n)], [], xtH h (k + 1))) := by
  have z : ix_n (xT A) (ix_run (xT A) K d) xm_102 15 (81, [(3, .int 2), (2, .int k), (4, .int 0), (0, .ref 598), (1, .int n)], [], xtH h (k + 1)) = some (.inl (81, [(3, .int 3), (2, .int k), (4, .int 0), (0, .ref 598), (1, .int n)], [], ix_put (xtH h (k + 1)) 627 (.inl (2, 24, .inl (upd (fun _ => 0) 2 0))))) := iy_n_ok (iy_run_ok _ _ _) rfl
  rw [xtH_f] at z
  exact z
set_option maxRecDepth 100000 in
theorem xtk1_f3 : ix_n (xT A) (ix_run (xT A) K d) xm_102 15 (81, [(3, .int 3), (2, .int k), (4, .int 0), (0, .ref 598), (1, .int n)], [], xtH h (k + 1)) = some (.inl (81, [(3, .int 4), (2, .int k), (4, .int 0), (0, .ref 598), (1, .int n)], [], xtH h (k + 1))) := by
  have z : ix_n (xT A) (ix_run (xT A) K d) xm_102 15 (81, [(3, .int 3), (2, .int k), (4, .int 0), (0, .ref 598), (1, .int n)], [], xtH h (k + 1)) = some (.inl (81, [(3, .int 4), (2, .int k), (4, .int 0), (0, .ref 598), (1, .int n)], [], ix_put (xtH h (k + 1)) 627 (.inl (2, 24, .inl (upd (fun _ => 0) 3 0))))) := iy_n_ok (iy_run_ok _ _ _) rfl
  rw [xtH_f] at z
  exact z
set_option maxRecDepth 100000 in
theorem xtk1_f4 : ix_n (xT A) (ix_run (xT A) K d) xm_102 15 (81, [(3, .int 4), (2, .int k), (4, .int 0), (0, .ref 598), (1, .int n)], [], xtH h (k + 1)) = some (.inl (81, [(3, .int 5), (2, .int k), (4, .int 0), (0, .ref 598), (1, .int n)], [], xtH h (k + 1))) := by
  have z : ix_n (xT A) (ix_run (xT A) K d) xm_102 15 (81, [(3, .int 4), (2, .int k), (4, .int 0), (0, .ref 598), (1, .int n)], [], xtH h (k + 1)) = some (.inl (81, [(3, .int 5), (2, .int k), (4, .int 0), (0, .ref 598), (1, .int n)], [], ix_put (xtH h (k + 1)) 627 (.inl (2, 24, .inl (upd (fun _ => 0) 4 0))))) := iy_n_ok (iy_run_ok _ _ _) rfl
  rw [xtH_f] at z
  exact z
set_option maxRecDepth 100000 in
theorem xtk1_f5 : ix_n (xT A) (ix_run (xT A) K d) xm_102 15 (81, [(3, .int 5), (2, .int k), (4, .int 0), (0, .ref 598), (1, .int n)], [], xtH h (k + 1)) = some (.inl (81, [(3, .int 6), (2, .int k), (4, .int 0), (0, .ref 598), (1, .int n)], [], xtH h (k + 1))) := by
  have z : ix_n (xT A) (ix_run (xT A) K d) xm_102 15 (81, [(3, .int 5), (2, .int k), (4, .int 0), (0, .ref 598), (1, .int n)], [], xtH h (k + 1)) = some (.inl (81, [(3, .int 6), (2, .int k), (4, .int 0), (0, .ref 598), (1, .int n)], [], ix_put (xtH h (k + 1)) 627 (.inl (2, 24, .inl (upd (fun _ => 0) 5 0))))) := iy_n_ok (iy_run_ok _ _ _) rfl
  rw [xtH_f] at z
  exact z
set_option maxRecDepth 100000 in
theorem xtk1_f6 : ix_n (xT A) (ix_run (xT A) K d) xm_102 15 (81, [(3, .int 6), (2, .int k), (4, .int 0), (0, .ref 598), (1, .int n)], [], xtH h (k + 1)) = some (.inl (81, [(3, .int 7), (2, .int k), (4, .int 0), (0, .ref 598), (1, .int n)], [], xtH h (k + 1))) := by
  have z : ix_n (xT A) (ix_run (xT A) K d) xm_102 15 (81, [(3, .int 6), (2, .int k), (4, .int 0), (0, .ref 598), (1, .int n)], [], xtH h (k + 1)) = some (.inl (81, [(3, .int 7), (2, .int k), (4, .int 0), (0, .ref 598), (1, .int n)], [], ix_put (xtH h (k + 1)) 627 (.inl (2, 24, .inl (upd (fun _ => 0) 6 0))))) := iy_n_ok (iy_run_ok _ _ _) rfl
  rw [xtH_f] at z
  exact z
set_option maxRecDepth 100000 in
theorem xtk1_f7 : ix_n (xT A) (ix_run (xT A) K d) xm_102 15 (81, [(3, .int 7), (2, .int k), (4, .int 0), (0, .ref 598), (1, .int n)], [], xtH h (k + 1)) = some (.inl (81, [(3, .int 8), (2, .int k), (4, .int 0), (0, .ref 598), (1, .int n)], [], xtH h (k + 1))) := by
  have z : ix_n (xT A) (ix_run (xT A) K d) xm_102 15 (81, [(3, .int 7), (2, .int k), (4, .int 0), (0, .ref 598), (1, .int n)], [], xtH h (k + 1)) = some (.inl (81, [(3, .int 8), (2, .int k), (4, .int 0), (0, .ref 598), (1, .int n)], [], ix_put (xtH h (k + 1)) 627 (.inl (2, 24, .inl (upd (fun _ => 0) 7 0))))) := iy_n_ok (iy_run_ok _ _ _) rfl
  rw [xtH_f] at z
  exact z
set_option maxRecDepth 100000 in
theorem xtk1_f8 : ix_n (xT A) (ix_run (xT A) K d) xm_102 15 (81, [(3, .int 8), (2, .int k), (4, .int 0), (0, .ref 598), (1, .int n)], [], xtH h (k + 1)) = some (.inl (81, [(3, .int 9), (2, .int k), (4, .int 0), (0, .ref 598), (1, .int n)], [], xtH h (k + 1))) := by
  have z : ix_n (xT A) (ix_run (xT A) K d) xm_102 15 (81, [(3, .int 8), (2, .int k), (4, .int 0), (0, .ref 598), (1, .int n)], [], xtH h (k + 1)) = some (.inl (81, [(3, .int 9), (2, .int k), (4, .int 0), (0, .ref 598), (1, .int n)], [], ix_put (xtH h (k + 1)) 627 (.inl (2, 24, .inl (upd (fun _ => 0) 8 0))))) := iy_n_ok (iy_run_ok _ _ _) rfl
  rw [xtH_f] at z
  exact z
set_option maxRecDepth 100000 in
theorem xtk1_f9 : ix_n (xT A) (ix_run (xT A) K d) xm_102 15 (81, [(3, .int 9), (2, .int k), (4, .int 0), (0, .ref 598), (1, .int n)], [], xtH h (k + 1)) = some (.inl (81, [(3, .int 10), (2, .int k), (4, .int 0), (0, .ref 598), (1, .int n)], [], xtH h (k + 1))) := by
  have z : ix_n (xT A) (ix_run (xT A) K d) xm_102 15 (81, [(3, .int 9), (2, .int k), (4, .int 0), (0, .ref 598), (1, .int n)], [], xtH h (k + 1)) = some (.inl (81, [(3, .int 10), (2, .int k), (4, .int 0), (0, .ref 598), (1, .int n)], [], ix_put (xtH h (k + 1)) 627 (.inl (2, 24, .inl (upd (fun _ => 0) 9 0))))) := iy_n_ok (iy_run_ok _ _ _) rfl
  rw [xtH_f] at z
  exact z
set_option maxRecDepth 100000 in
theorem xtk1_f10 : ix_n (xT A) (ix_run (xT A) K d) xm_102 15 (81, [(3, .int 10), (2, .int k), (4, .int 0), (0, .ref 598), (1, .int n)], [], xtH h (k + 1)) = some (.inl (81, [(3, .int 11), (2, .int k), (4, .int 0), (0, .ref 598), (1, .int n)], [], xtH h (k + 1))) := by
  have z : ix_n (xT A) (ix_run (xT A) K d) xm_102 15 (81, [(3, .int 10), (2, .int k), (4, .int 0), (0, .ref 598), (1, .int n)], [], xtH h (k + 1)) = some (.inl (81, [(3, .int 11), (2, .int k), (4, .int 0), (0, .ref 598), (1, .int n)], [], ix_put (xtH h (k + 1)) 627 (.inl (2, 24, .inl (upd (fun _ => 0) 10 0))))) := iy_n_ok (iy_run_ok _ _ _) rfl
  rw [xtH_f] at z
  exact z
set_option maxRecDepth 100000 in
theorem xtk1_f11 : ix_n (xT A) (ix_run (xT A) K d) xm_102 15 (81, [(3, .int 11), (2, .int k), (4, .int 0), (0, .ref 598), (1, .int n)], [], xtH h (k + 1)) = some (.inl (81, [(3, .int 12), (2, .int k), (4, .int 0), (0, .ref 598), (1, .int n)], [], xtH h (k + 1))) := by
  have z : ix_n (xT A) (ix_run (xT A) K d) xm_102 15 (81, [(3, .int 11), (2, .int k), (4, .int 0), (0, .ref 598), (1, .int n)], [], xtH h (k + 1)) = some (.inl (81, [(3, .int 12), (2, .int k), (4, .int 0), (0, .ref 598), (1, .int n)], [], ix_put (xtH h (k + 1)) 627 (.inl (2, 24, .inl (upd (fun _ => 0) 11 0))))) := iy_n_ok (iy_run_ok _ _ _) rfl
  rw [xtH_f] at z
  exact z
set_option maxRecDepth 100000 in
theorem xtk1_f12 : ix_n (xT A) (ix_run (xT A) K d) xm_102 15 (81, [(3, .int 12), (2, .int k), (4, .int 0), (0, .ref 598), (1, .int n)], [], xtH h (k + 1)) = some (.inl (81, [(3, .int 13), (2, .int k), (4, .int 0), (0, .ref 598), (1, .int n)], [], xtH h (k + 1))) := by
  have z : ix_n (xT A) (ix_run (xT A) K d) xm_102 15 (81, [(3, .int 12), (2, .int k), (4, .int 0), (0, .ref 598), (1, .int n)], [], xtH h (k + 1)) = some (.inl (81, [(3, .int 13), (2, .int k), (4, .int 0), (0, .ref 598), (1, .int n)], [], ix_put (xtH h (k + 1)) 627 (.inl (2, 24, .inl (upd (fun _ => 0) 12 0))))) := iy_n_ok (iy_run_ok _ _ _) rfl
  rw [xtH_f] at z
  exact z
set_option maxRecDepth 100000 in
theorem xtk1_f13 : ix_n (xT A) (ix_run (xT A) K d) xm_102 15 (81, [(3, .int 13), (2, .int k), (4, .int 0), (0, .ref 598), (1, .int n)], [], xtH h (k + 1)) = some (.inl (81, [(3, .int 14), (2, .int k), (4, .int 0), (0, .ref 598), (1, .int n)], [], xtH h (k + 1))) := by
  have z : ix_n (xT A) (ix_run (xT A) K d) xm_102 15 (81, [(3, .int 13), (2, .int k), (4, .int 0), (0, .ref 598), (1, .int n)], [], xtH h (k + 1)) = some (.inl (81, [(3, .int 14), (2, .int k), (4, .int 0), (0, .ref 598), (1, .int n)], [], ix_put (xtH h (k + 1)) 627 (.inl (2, 24, .inl (upd (fun _ => 0) 13 0))))) := iy_n_ok (iy_run_ok _ _ _) rfl
  rw [xtH_f] at z
  exact z
set_option maxRecDepth 100000 in
theorem xtk1_f14 : ix_n (xT A) (ix_run (xT A) K d) xm_102 15 (81, [(3, .int 14), (2, .int k), (4, .int 0), (0, .ref 598), (1, .int n)], [], xtH h (k + 1)) = some (.inl (81, [(3, .int 15), (2, .int k), (4, .int 0), (0, .ref 598), (1, .int n)], [], xtH h (k + 1))) := by
  have z : ix_n (xT A) (ix_run (xT A) K d) xm_102 15 (81, [(3, .int 14), (2, .int k), (4, .int 0), (0, .ref 598), (1, .int n)], [], xtH h (k + 1)) = some (.inl (81, [(3, .int 15), (2, .int k), (4, .int 0), (0, .ref 598), (1, .int n)], [], ix_put (xtH h (k + 1)) 627 (.inl (2, 24, .inl (upd (fun _ => 0) 14 0))))) := iy_n_ok (iy_run_ok _ _ _) rfl
  rw [xtH_f] at z
  exact z
set_option maxRecDepth 100000 in
theorem xtk1_f15 : ix_n (xT A) (ix_run (xT A) K d) xm_102 15 (81, [(3, .int 15), (2, .int k), (4, .int 0), (0, .ref 598), (1, .int n)], [], xtH h (k + 1)) = some (.inl (81, [(3, .int 16), (2, .int k), (4, .int 0), (0, .ref 598), (1, .int n)], [], xtH h (k + 1))) := by
  have z : ix_n (xT A) (ix_run (xT A) K d) xm_102 15 (81, [(3, .int 15), (2, .int k), (4, .int 0), (0, .ref 598), (1, .int n)], [], xtH h (k + 1)) = some (.inl (81, [(3, .int 16), (2, .int k), (4, .int 0), (0, .ref 598), (1, .int n)], [], ix_put (xtH h (k + 1)) 627 (.inl (2, 24, .inl (upd (fun _ => 0) 15 0))))) := iy_n_ok (iy_run_ok _ _ _) rfl
  rw [xtH_f] at z
  exact z
set_option maxRecDepth 100000 in
theorem xtk1_f16 : ix_n (xT A) (ix_run (xT A) K d) xm_102 15 (81, [(3, .int 16), (2, .int k), (4, .int 0), (0, .ref 598), (1, .int n)], [], xtH h (k + 1)) = some (.inl (81, [(3, .int 17), (2, .int k), (4, .int 0), (0, .ref 598), (1, .int n)], [], xtH h (k + 1))) := by
  have z : ix_n (xT A) (ix_run (xT A) K d) xm_102 15 (81, [(3, .int 16), (2, .int k), (4, .int 0), (0, .ref 598), (1, .int n)], [], xtH h (k + 1)) = some (.inl (81, [(3, .int 17), (2, .int k), (4, .int 0), (0, .ref 598), (1, .int n)], [], ix_put (xtH h (k + 1)) 627 (.inl (2, 24, .inl (upd (fun _ => 0) 16 0))))) := iy_n_ok (iy_run_ok _ _ _) rfl
  rw [xtH_f] at z
  exact z
set_option maxRecDepth 100000 in
theorem xtk1_f17 : ix_n (xT A) (ix_run (xT A) K d) xm_102 15 (81, [(3, .int 17), (2, .int k), (4, .int 0), (0, .ref 598), (1, .int n)], [], xtH h (k + 1)) = some (.inl (81, [(3, .int 18), (2, .int k), (4, .int 0), (0, .ref 598), (1, .int n)], [], xtH h (k + 1))) := by
  have z : ix_n (xT A) (ix_run (xT A) K d) xm_102 15 (81, [(3, .int 17), (2, .int k), (4, .int 0), (0, .ref 598), (1, .int n)], [], xtH h (k + 1)) = some (.inl (81, [(3, .int 18), (2, .int k), (4, .int 0), (0, .ref 598), (1, .int n)], [], ix_put (xtH h (k + 1)) 627 (.inl (2, 24, .inl (upd (fun _ => 0) 17 0))))) := iy_n_ok (iy_run_ok _ _ _) rfl
  rw [xtH_f] at z
  exact z
set_option maxRecDepth 100000 in
theorem xtk1_f18 : ix_n (xT A) (ix_run (xT A) K d) xm_102 15 (81, [(3, .int 18), (2, .int k), (4, .int 0), (0, .ref 598), (1, .int n)], [], xtH h (k + 1)) = some (.inl (81, [(3, .int 19), (2, .int k), (4, .int 0), (0, .ref 598), (1, .int n)], [], xtH h (k + 1))) := by
  have z : ix_n (xT A) (ix_run (xT A) K d) xm_102 15 (81, [(3, .int 18), (2, .int k), (4, .int 0), (0, .ref 598), (1, .int n)], [], xtH h (k + 1)) = some (.inl (81, [(3, .int 19), (2, .int k), (4, .int 0), (0, .ref 598), (1, .int n)], [], ix_put (xtH h (k + 1)) 627 (.inl (2, 24, .inl (upd (fun _ => 0) 18 0))))) := iy_n_ok (iy_run_ok _ _ _) rfl
  rw [xtH_f] at z
  exact z
set_option maxRecDepth 100000 in
theorem xtk1_f19 : ix_n (xT A) (ix_run (xT A) K d) xm_102 15 (81, [(3, .int 19), (2, .int k), (4, .int 0), (0, .ref 598), (1, .int n)], [], xtH h (k + 1)) = some (.inl (81, [(3, .int 20), (2, .int k), (4, .int 0), (0, .ref 598), (1, .int n)], [], xtH h (k + 1))) := by
  have z : ix_n (xT A) (ix_run (xT A) K d) xm_102 15 (81, [(3, .int 19), (2, .int k), (4, .int 0), (0, .ref 598), (1, .int n)], [], xtH h (k + 1)) = some (.inl (81, [(3, .int 20), (2, .int k), (4, .int 0), (0, .ref 598), (1, .int n)], [], ix_put (xtH h (k + 1)) 627 (.inl (2, 24, .inl (upd (fun _ => 0) 19 0))))) := iy_n_ok (iy_run_ok _ _ _) rfl
  rw [xtH_f] at z
  exact z
set_option maxRecDepth 100000 in
theorem xtk1_f20 : ix_n (xT A) (ix_run (xT A) K d) xm_102 15 (81, [(3, .int 20), (2, .int k), (4, .int 0), (0, .ref 598), (1, .int n)], [], xtH h (k + 1)) = some (.inl (81, [(3, .int 21), (2, .int k), (4, .int 0), (0, .ref 598), (1, .int n)], [], xtH h (k + 1))) := by
  have z : ix_n (xT A) (ix_run (xT A) K d) xm_102 15 (81, [(3, .int 20), (2, .int k), (4, .int 0), (0, .ref 598), (1, .int n)], [], xtH h (k + 1)) = some (.inl (81, [(3, .int 21), (2, .int k), (4, .int 0), (0, .ref 598), (1, .int n)], [], ix_put (xtH h (k + 1)) 627 (.inl (2, 24, .inl (upd (fun _ => 0) 20 0))))) := iy_n_ok (iy_run_ok _ _ _) rfl
  rw [xtH_f] at z
  exact z
set_option maxRecDepth 100000 in
theorem xtk1_f21 : ix_n (xT A) (ix_run (xT A) K d) xm_102 15 (81, [(3, .int 21), (2, .int k), (4, .int 0), (0, .ref 598), (1, .int n)], [], xtH h (k + 1)) = some (.inl (81, [(3, .int 22), (2, .int k), (4, .int 0), (0, .ref 598), (1, .int n)], [], xtH h (k + 1))) := by
  have z : ix_n (xT A) (ix_run (xT A) K d) xm_102 15 (81, [(3, .int 21), (2, .int k), (4, .int 0), (0, .ref 598), (1, .int n)], [], xtH h (k + 1)) = some (.inl (81, [(3, .int 22), (2, .int k), (4, .int 0), (0, .ref 598), (1, .int n)], [], ix_put (xtH h (k + 1)) 627 (.inl (2, 24, .inl (upd (fun _ => 0) 21 0))))) := iy_n_ok (iy_run_ok _ _ _) rfl
  rw [xtH_f] at z
  exact z
set_option maxRecDepth 100000 in
theorem xtk1_f22 : ix_n (xT A) (ix_run (xT A) K d) xm_102 15 (81, [(3, .int 22), (2, .int k), (4, .int 0), (0, .ref 598), (1, .int n)], [], xtH h (k + 1)) = some (.inl (81, [(3, .int 23), (2, .int k), (4, .int 0), (0, .ref 598), (1, .int n)], [], xtH h (k + 1))) := by
  have z : ix_n (xT A) (ix_run (xT A) K d) xm_102 15 (81, [(3, .int 22), (2, .int k), (4, .int 0), (0, .ref 598), (1, .int n)], [], xtH h (k + 1)) = some (.inl (81, [(3, .int 23), (2, .int k), (4, .int 0), (0, .ref 598), (1, .int n)], [], ix_put (xtH h (k + 1)) 627 (.inl (2, 24, .inl (upd (fun _ => 0) 22 0))))) := iy_n_ok (iy_run_ok _ _ _) rfl
  rw [xtH_f] at z
  exact z
set_option maxRecDepth 100000 in
theorem xtk1_f23 : ix_n (xT A) (ix_run (xT A) K d) xm_102 15 (81, [(3, .int 23), (2, .int k), (4, .int 0), (0, .ref 598), (1, .int n)], [], xtH h (k + 1)) = some (.inl (81, [(3, .int 24), (2, .int k), (4, .int 0), (0, .ref 598), (1, .int n)], [], xtH h (k + 1))) := by
  have z : ix_n (xT A) (ix_run (xT A) K d) xm_102 15 (81, [(3, .int 23), (2, .int k), (4, .int 0), (0, .ref 598), (1, .int n)], [], xtH h (k + 1)) = some (.inl (81, [(3, .int 24), (2, .int k), (4, .int 0), (0, .ref 598), (1, .int n)], [], ix_put (xtH h (k + 1)) 627 (.inl (2, 24, .inl (upd (fun _ => 0) 23 0))))) := iy_n_ok (iy_run_ok _ _ _) rfl
  rw [xtH_f] at z
  exact z
set_option maxRecDepth 100000 in
theorem xtk1_fe : ix_n (xT A) (ix_run (xT A) K d) xm_102 5 (81, [(3, .int 24), (2, .int k), (4, .int 0), (0, .ref 598), (1, .int n)], [], xtH h (k + 1)) = some (.inl (128, [(3, .int 0), (2, .int k), (4, .int 0), (0, .ref 598), (1, .int n)], [], xtH h (k + 1))) := iy_n_ok (iy_run_ok _ _ _) rfl
set_option maxRecDepth 100000 in
theorem xtk1_b0 : ix_n (xT A) (ix_run (xT A) K d) xm_102 22 (128, [(3, .int 0), (2, .int k), (4, .int 0), (0, .ref 598), (1, .int n)], [], xtH h (k + 1)) = some (.inl (128, [(3, .int 1), (4, .int 0), (2, .int k), (0, .ref 598), (1, .int n)], [], xtH h (k + 1))) := by
  have z : ix_n (xT A) (ix_run (xT A) K d) xm_102 22 (128, [(3, .int 0), (2, .int k), (4, .int 0), (0, .ref 598), (1, .int n)], [], xtH h (k + 1)) = some (.inl (128, [(3, .int 1), (4, .int 0), (2, .int k), (0, .ref 598), (1, .int n)], [], ix_put (xtH h (k + 1)) 624 (.inl (0, 4, .inl (upd (fun _ => 0) 0 0))))) := iy_n_ok (iy_run_ok _ _ _) rfl
  rw [xtH_b] at z
  exact z
set_option maxRecDepth 100000 in
theorem xtk1_b1 : ix_n (xT A) (ix_run (xT A) K d) xm_102 22 (128, [(3, .int 1), (4, .int 0), (2, .int k), (0, .ref 598), (1, .int n)], [], xtH h (k + 1)) = some (.inl (128, [(3, .int 2), (4, .int 0), (2, .int k), (0, .ref 598), (1, .int n)], [], xtH h (k + 1))) := by
  have z : ix_n (xT A) (ix_run (xT A) K d) xm_102 22 (128, [(3, .int 1), (4, .int 0), (2, .int k), (0, .ref 598), (1, .int n)], [], xtH h (k + 1)) = some (.inl (128, [(3, .int 2), (4, .int 0), (2, .int k), (0, .ref 598), (1, .int n)], [], ix_put (xtH h (k + 1)) 624 (.inl (0, 4, .inl (upd (fun _ => 0) 1 0))))) := iy_n_ok (iy_run_ok _ _ _) rfl
  rw [xtH_b] at z
  exact z
set_option maxRecDepth 100000 in
theorem xtk1_b2 : ix_n (xT A) (ix_run (xT A) K d) xm_102 22 (128, [(3, .int 2), (4, .int 0), (2, .int k), (0, .ref 598), (1, .int n)], [], xtH h (k + 1)) = some (.inl (128, [(3, .int 3), (4, .int 0), (2, .int k), (0, .ref 598), (1, .int n)], [], xtH h (k + 1))) := by
  have z : ix_n (xT A) (ix_run (xT A) K d) xm_102 22 (128, [(3, .int 2), (4, .int 0), (2, .int k), (0, .ref 598), (1, .int n)], [], xtH h (k + 1)) = some (.inl (128, [(3, .int 3), (4, .int 0), (2, .int k), (0, .ref 598), (1, .int n)], [], ix_put (xtH h (k + 1)) 624 (.inl (0, 4, .inl (upd (fun _ => 0) 2 0))))) := iy_n_ok (iy_run_ok _ _ _) rfl
  rw [xtH_b] at z
  exact z
set_option maxRecDepth 100000 in
theorem xtk1_b3 : ix_n (xT A) (ix_run (xT A) K d) xm_102 22 (128, [(3, .int 3), (4, .int 0), (2, .int k), (0, .ref 598), (1, .int n)], [], xtH h (k + 1)) = some (.inl (128, [(3, .int 4), (4, .int 0), (2, .int k), (0, .ref 598), (1, .int n)], [], xtH h (k + 1))) := by
  have z : ix_n (xT A) (ix_run (xT A) K d) xm_102 22 (128, [(3, .int 3), (4, .int 0), (2, .int k), (0, .ref 598), (1, .int n)], [], xtH h (k + 1)) = some (.inl (128, [(3, .int 4), (4, .int 0), (2, .int k), (0, .ref 598), (1, .int n)], [], ix_put (xtH h (k + 1)) 624 (.inl (0, 4, .inl (upd (fun _ => 0) 3 0))))) := iy_n_ok (iy_run_ok _ _ _) rfl
  rw [xtH_b] at z
  exact z
set_option maxRecDepth 100000 in
theorem xtk1_e : ix_n (xT A) (ix_run (xT A) K d) xm_102 5 (128, [(3, .int 4), (4, .int 0), (2, .int k), (0, .ref 598), (1, .int n)], [], xtH h (k + 1)) = some (.inl (17, [(2, .int (k + 1)), (3, .int 4), (4, .int 0), (0, .ref 598), (1, .int n)], [], xtH h (k + 1))) := iy_n_ok (iy_run_ok _ _ _) rfl
theorem xturn1 {N : Nat} {r : Option Value × ix_H} (hk : k.toInt < n.toInt) (z : ix_R (xT A) (ix_run (xT A) K d) xm_102 N (17, [(2, .int (k + 1)), (3, .int 4), (4, .int 0), (0, .ref 598), (1, .int n)], [], xtH h (k + 1)) r) : ix_R (xT A) (ix_run (xT A) K d) xm_102 (600 + N) (17, [(2, .int k), (3, .int 4), (4, .int 0), (0, .ref 598), (1, .int n)], [], xtH h k) r :=
  ix_R.le (ix_R.step 2 (σ' := (19, [(2, .int k), (3, .int 4), (4, .int 0), (0, .ref 598), (1, .int n)], [.int n, .int k], xtH h k)) (iy_n_ok (iy_run_ok _ _ _) rfl) (ix_R.step 1 (ix_n_icmpf rfl rfl (cbf_ge (by omega))) (ix_R.step 5 (xtk1_t1 A K d h k n) (ix_R.step 1 (xtk1_t2 A K d h k n) (ix_R.step 2 (xtk1_t3 A K d h k n) (ix_R.step 15 (xtk1_g0 A K d h k n) (ix_R.step 15 (xtk1_g1 A K d h k n) (ix_R.step 15 (xtk1_g2 A K d h k n) (ix_R.step 15 (xtk1_g3 A K d h k n) (ix_R.step 15 (xtk1_g4 A K d h k n) (ix_R.step 15 (xtk1_g5 A K d h k n) (ix_R.step 15 (xtk1_g6 A K d h k n) (ix_R.step 15 (xtk1_g7 A K d h k n) (ix_R.step 5 (xtk1_ge A K d h k n) (ix_R.step 15 (xtk1_f0 A K d h k n) (ix_R.step 15 (xtk1_f1 A K d h k n) (ix_R.step 15 (xtk1_f2 A K d h k n) (ix_R.step 15 (xtk1_f3 A K d h k n) (ix_R.step 15 (xtk1_f4 A K d h k n) (ix_R.step 15 (xtk1_f5 A K d h k n) (ix_R.step 15 (xtk1_f6 A K d h k n) (ix_R.step 15 (xtk1_f7 A K d h k n) (ix_R.step 15 (xtk1_f8 A K d h k n) (ix_R.step 15 (xtk1_f9 A K d h k n) (ix_R.step 15 (xtk1_f10 A K d h k n) (ix_R.step 15 (xtk1_f11 A K d h k n) (ix_R.step 15 (xtk1_f12 A K d h k n) (ix_R.step 15 (xtk1_f13 A K d h k n) (ix_R.step 15 (xtk1_f14 A K d h k n) (ix_R.step 15 (xtk1_f15 A K d h k n) (ix_R.step 15 (xtk1_f16 A K d h k n) (ix_R.step 15 (xtk1_f17 A K d h k n) (ix_R.step 15 (xtk1_f18 A K d h k n) (ix_R.step 15 (xtk1_f19 A K d h k n) (ix_R.step 15 (xtk1_f20 A K d h k n) (ix_R.step 15 (xtk1_f21 A K d h k n) (ix_R.step 15 (xtk1_f22 A K d h k n) (ix_R.step 15 (xtk1_f23 A K d h k n) (ix_R.step 5 (xtk1_fe A K d h k n) (ix_R.step 22 (xtk1_b0 A K d h k n) (ix_R.step 22 (xtk1_b1 A K d h k n) (ix_R.step 22 (xtk1_b2 A K d h k n) (ix_R.step 22 (xtk1_b3 A K d h k n) (ix_R.step 5 (xtk1_e A K d h k n) z)))))))))))))))))))))))))))))))))))))))))))) (by omega)
end XTICK
theorem xtloop (A : Nat → Option (Nat × (Nat → Int32))) (K d : Nat) (h : Nat → ix_C) (n : Int32) (hn : n.toInt ≤ 1000) : ∀ (m : Nat) (k : Int32), k.toInt + m = n.toInt → 0 ≤ k.toInt → ix_R (xT A) (ix_run (xT A) K d) xm_102 (600 * m + 6) (17, [(2, .int k), (3, .int 4), (4, .int 0), (0, .ref 598), (1, .int n)], [], xtH h k) (some (.int n), xtH h n)
  | 0, k, h1, h2 => by
    have e : k = n := Int32.toInt_inj.mp (by omega)
    subst e
    exact ix_R.step 2 (σ' := (19, [(2, .int k), (3, .int 4), (4, .int 0), (0, .ref 598), (1, .int k)], [.int k, .int k], xtH h k)) (iy_n_ok (iy_run_ok _ _ _) rfl) (ix_R.step 1 (ix_n_icmpt rfl rfl (cbt_ge (Int.le_refl _))) (ix_R.step 2 (σ' := (220, [(2, .int k), (3, .int 4), (4, .int 0), (0, .ref 598), (1, .int k)], [.int k], xtH h k)) (iy_n_ok (iy_run_ok _ _ _) rfl) (ix_R.fin 1 (ix_n_reti rfl rfl rfl))))
  | m + 1, k, h1, h2 => by
    have e1 : (1 : Int32).toInt = 1 := rfl
    have e : (k + 1).toInt = k.toInt + 1 := by rw [add_ok (by omega), e1]
    have z := xtloop A K d h n hn m (k + 1) (by omega) (by omega)
    exact ix_R.le (xturn1 A K d h k n (by omega) z) (by omega)
theorem xtloop0 {A : Nat → Option (Nat × (Nat → Int32))} {K d : Nat} {hp : ix_H} {n : Int32} {M : ix_M} (eM : M = xm_102) (e0 : hp.1 = 688) (e1 : hp.2.1 = 70427) (e2 : hp.2.2 598 = xtC 0) (e3 : hp.2.2 606 = xk_606) (e4 : hp.2.2 627 = xk_627) (e5 : hp.2.2 624 = xk_624) (e6 : hp.2.2 625 = xk_625) (hn : 1 ≤ n.toInt ∧ n.toInt ≤ 1000) : ix_R (xT A) (ix_run (xT A) K d) M 600010 (17, [(2, .int 0), (0, .ref 598), (1, .int n)], [], hp) (some (.int n), xtH hp.2.2 n) := by
  subst eM
  have e9 : (0 : Int32).toInt = 0 := rfl
  have e8 : (0 + 1 : Int32) = 1 := rfl
  have e7 : (1 : Int32).toInt = 1 := rfl
  have z := xtloop A K d hp.2.2 n (by omega) (n.toInt - 1).toNat 1 (by omega) (by omega)
  rw [← e8] at z
  have z2 := xturn0 A K d hp.2.2 0 n (by omega) z
  rw [xtH_is e0 e1 e2 e3 e4 e5 e6] at z2
  exact ix_R.le z2 (by omega)
