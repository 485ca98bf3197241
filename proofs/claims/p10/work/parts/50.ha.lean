section
/-! ===== the class's constructor ===== -/
noncomputable def xls1 : ix_L := [(1, .ref 0), (0, .ref 1000000)]
noncomputable def xctA : Option (ix_S ⊕ (Option Value × ix_H)) := iy_iter xt0 (iy_run xt0 14 8) xm_law 2 (0, [(0, .ref 1000000)], [], xh_e)
noncomputable def xctA_chk : Bool := match xctA with
  | some (.inl (pc, ls, st, (n, k, h))) => Nat.beq pc 8 && (decide (ls = xls1) && (decide (st = []) && (Nat.beq n 598 && (Nat.beq k 29846 && (List.range n).all (fun a => xcq (h a) (xh0 a))))))
  | _ => false
theorem xctA_ok : xctA_chk = true := by decide +kernel
theorem xctA_is : ∃ h : Nat → ix_C, ix_iter xt0 (ix_run xt0 14 8) xm_law 2 (0, [(0, .ref 1000000)], [], xh_e) = some (.inl (8, xls1, [], (598, 29846, h))) ∧ (List.range 598).all (fun a => xceq (h a) (xh0 a)) = true := by
  have h0 := xctA_ok
  unfold xctA_chk at h0
  split at h0
  · rename_i pc ls st n k h hc
    simp only [Bool.and_eq_true, decide_eq_true_eq] at h0
    obtain ⟨a1, a2, a3, a4, a5, a6⟩ := h0
    have a1 := Nat.eq_of_beq_eq_true a1
    have a4 := Nat.eq_of_beq_eq_true a4
    have a5 := Nat.eq_of_beq_eq_true a5
    subst a1; subst a2; subst a3; subst a4; subst a5
    exact ⟨h, iy_iter_ok (iy_run_ok xt0 14 8) _ _ _ hc, xcq_all a6⟩
  · cases h0
end
section
/-! ===== the reference's constructor ===== -/
noncomputable def xctB : Option (ix_S ⊕ (Option Value × ix_H)) := iy_iter xt0 (iy_run xt0 14 8) xm_law 2 (8, xls1, [], (598, 29846, xh0))
noncomputable def xctB_chk : Bool := match xctB with
  | some (.inl (pc, ls, st, (n, k, h))) => Nat.beq pc 16 && (decide (ls = xls0) && (decide (st = []) && (Nat.beq n 688 && (Nat.beq k 70427 && (List.range n).all (fun a => xcq (h a) (xh0 a))))))
  | _ => false
theorem xctB_ok : xctB_chk = true := by decide +kernel
theorem xctB_is : ∃ h : Nat → ix_C, ix_iter xt0 (ix_run xt0 14 8) xm_law 2 (8, xls1, [], (598, 29846, xh0)) = some (.inl (16, xls0, [], (688, 70427, h))) ∧ (List.range 688).all (fun a => xceq (h a) (xh0 a)) = true := by
  have h0 := xctB_ok
  unfold xctB_chk at h0
  split at h0
  · rename_i pc ls st n k h hc
    simp only [Bool.and_eq_true, decide_eq_true_eq] at h0
    obtain ⟨a1, a2, a3, a4, a5, a6⟩ := h0
    have a1 := Nat.eq_of_beq_eq_true a1
    have a4 := Nat.eq_of_beq_eq_true a4
    have a5 := Nat.eq_of_beq_eq_true a5
    subst a1; subst a2; subst a3; subst a4; subst a5
    exact ⟨h, iy_iter_ok (iy_run_ok xt0 14 8) _ _ _ hc, xcq_all a6⟩
  · cases h0
end
section
/-! ===== behind the constructors ===== -/
section XH0
variable {p : Program} {l : Launch} {e : Env} {s : State} {m : MethodId} {below : List Frame} {meth : Method} {c : Code} {b L : Nat} {xs : Nat → Int32}
/-- the law's run is what comes behind the constructors, from the cells xh0 on -/
theorem xbehind (C0 : lw_At p s m meth c b L xs) (k : ∀ (D : va_G) (aC : Nat → ClassId) (tys : List (ClassId × FieldType)) (cst : Nat → Nat) (fm : Nat), cst 0 = b → (∀ A : Nat → Option (Nat × (Nat → Int32)), (A = (fun _ => none) ∨ A = xs_A L xs fm) → ix_St (xT A) D xcl aC tys xon xTs xNs (ix_ad s.heap.size cst) s.heap.size s) → ix_End p l e room_1 s m #[Value.ref b] below meth c (lw_Z below #[Value.ref b] s) D xcl aC (ix_ad s.heap.size cst) s.heap.size 0 0 xm_law (.inl (16, xls0, [], xhp0))) : W p l e room_1 s m #[Value.ref b] below meth c s.heap [] 0 0 (lw_Z below #[Value.ref b] s) (entryFrame m ([Value.ref b] : List Value).toArray 4) := by
  obtain ⟨D, aC, tys, cst, fm, hcst, hSt⟩ := xstart C0
  obtain ⟨h1, hr1, he1⟩ := xctA_is
  obtain ⟨h2, hr2, he2⟩ := xctB_is
  refine xentry (D := D) (aC := aC) (cst := cst) C0 hcst (xstep C0 (tys := tys) (cst := cst) (hSt _ (Or.inl rfl)) (by decide) hr1 (by show 598 ≤ 600000; decide) (by show 29846 ≤ 7302250; decide) ?_)
  intro H1 locs1 arr1 hW hl
  refine xstep C0 (tys := tys) (cst := cst) (hSt _ (Or.inl rfl)) (by decide) hr2 (by show 688 ≤ 600000; decide) (by show 70427 ≤ 7302250; decide) ?_ H1 locs1 arr1 (xcongr he1 hW) hl
  intro H2 locs2 arr2 hW2 hl2
  exact k D aC tys cst fm hcst hSt H2 locs2 arr2 (xcongr he2 hW2) hl2
end XH0
end
section
/-! ===== the memory behind the two constructors ===== -/
noncomputable def jp0 : ix_C → Nat → Int
  | .inl (_, n, .inl f), j => bif Nat.blt j n then (f j).toInt else 0
  | .inl (_, n, .inr (.inl f)), j => bif Nat.blt j n then (f j).toInt else 0
  | .inr (_, vs), j => match vs[j]? with
    | some (.int v) => v.toInt
    | some (.long v) => v.toInt
    | some (.ref a) => Int.ofNat a
    | _ => 0
  | _, _ => 0
noncomputable def M0 : jm := fun a i => match i with
  | .ofNat j => bif Nat.blt a 688 then jp0 (xh0 a) j else 0
  | .negSucc _ => 0
/-- a row of numbers that has the shape of its cell -/
noncomputable def m0r (a : Nat) : Bool := match xh0 a with
  | .inl (t, n, .inl _) => (Nat.beq t 0 || Nat.beq t 2) && (Nat.beq (xsh a).1 t && Nat.beq (xsh a).2 n)
  | .inl (t, n, .inr (.inl _)) => Nat.beq t 1 && (Nat.beq (xsh a).1 t && Nat.beq (xsh a).2 n)
  | _ => false
theorem m0r_all : (List.range 688).all (fun a => m0r a || xceq (xh0 a) (jh M0 a)) = true := by decide +kernel
theorem m0r_ok {a : Nat} (ha : a < 688) (h : m0r a = true) : xceq (xh0 a) (jh M0 a) = true := by
  have hM : ∀ j : Nat, M0 a ((j : Nat) : Int) = jp0 (xh0 a) j := fun j => by
    show (bif Nat.blt a 688 then jp0 (xh0 a) j else 0) = _
    rw [Nat.blt_eq.mpr ha]
    rfl
  unfold m0r at h
  split at h
  · rename_i t n f hx
    rw [Bool.and_eq_true, Bool.or_eq_true, Bool.and_eq_true] at h
    obtain ⟨h1, h2, h3⟩ := h
    have e2 := Nat.eq_of_beq_eq_true h2
    have e3 := Nat.eq_of_beq_eq_true h3
    have hj : jh M0 a = .inl (t, n, .inl (fun j => Int32.ofInt (M0 a ((j : Nat) : Int)))) := by
      unfold jh jcell
      rw [e2, e3]
      rcases h1 with h1 | h1
      · have e1 := Nat.eq_of_beq_eq_true h1
        subst e1
        rfl
      · have e1 := Nat.eq_of_beq_eq_true h1
        subst e1
        rfl
    rw [hj, hx]
    show (Nat.beq t t && (Nat.beq n n && (List.range n).all (fun j => decide (f j = Int32.ofInt (M0 a ((j : Nat) : Int)))))) = true
    rw [Bool.and_eq_true, Bool.and_eq_true]
    refine ⟨Nat.beq_refl t, Nat.beq_refl n, List.all_eq_true.mpr (fun j hj2 => decide_eq_true ?_)⟩
    have hl := List.mem_range.mp hj2
    rw [hM j, hx]
    show f j = Int32.ofInt (bif Nat.blt j n then (f j).toInt else 0)
    rw [Nat.blt_eq.mpr hl]
    exact (Int32.ofInt_toInt _).symm
  · rename_i t n f hx
    rw [Bool.and_eq_true, Bool.and_eq_true] at h
    obtain ⟨h1, h2, h3⟩ := h
    have e2 := Nat.eq_of_beq_eq_true h2
    have e3 := Nat.eq_of_beq_eq_true h3
    have hj : jh M0 a = .inl (t, n, .inr (.inl (fun j => Int64.ofInt (M0 a ((j : Nat) : Int))))) := by
      unfold jh jcell
      rw [e2, e3]
      have e1 := Nat.eq_of_beq_eq_true h1
      subst e1
      rfl
    rw [hj, hx]
    show (Nat.beq t t && (Nat.beq n n && (List.range n).all (fun j => decide (f j = Int64.ofInt (M0 a ((j : Nat) : Int)))))) = true
    rw [Bool.and_eq_true, Bool.and_eq_true]
    refine ⟨Nat.beq_refl t, Nat.beq_refl n, List.all_eq_true.mpr (fun j hj2 => decide_eq_true ?_)⟩
    have hl := List.mem_range.mp hj2
    rw [hM j, hx]
    show f j = Int64.ofInt (bif Nat.blt j n then (f j).toInt else 0)
    rw [Nat.blt_eq.mpr hl]
    exact (Int64.ofInt_toInt _).symm
  · cases h
theorem M0_ok : (List.range 688).all (fun a => xceq (xh0 a) (jh M0 a)) = true := List.all_eq_true.mpr (fun a ha => by
  have h : (m0r a || xceq (xh0 a) (jh M0 a)) = true := List.all_eq_true.mp m0r_all a ha
  rw [Bool.or_eq_true] at h
  rcases h with q | q
  · exact m0r_ok (List.mem_range.mp ha) q
  · exact q)
section XM0
variable {p : Program} {l : Launch} {e : Env} {s : State} {m : MethodId} {below : List Frame} {meth : Method} {c : Code} {b L : Nat} {xs : Nat → Int32}
theorem xbehind2 (C0 : lw_At p s m meth c b L xs) (k : ∀ (D : va_G) (aC : Nat → ClassId) (tys : List (ClassId × FieldType)) (cst : Nat → Nat) (fm : Nat), cst 0 = b → (∀ A : Nat → Option (Nat × (Nat → Int32)), (A = (fun _ => none) ∨ A = xs_A L xs fm) → ix_St (xT A) D xcl aC tys xon xTs xNs (ix_ad s.heap.size cst) s.heap.size s) → ix_End p l e room_1 s m #[Value.ref b] below meth c (lw_Z below #[Value.ref b] s) D xcl aC (ix_ad s.heap.size cst) s.heap.size 0 0 xm_law (.inl (16, xls0, [], jH M0))) : W p l e room_1 s m #[Value.ref b] below meth c s.heap [] 0 0 (lw_Z below #[Value.ref b] s) (entryFrame m ([Value.ref b] : List Value).toArray 4) := by
  refine xbehind C0 (fun D aC tys cst fm hc hSt => ?_)
  intro H1 locs1 arr1 hW hl
  exact k D aC tys cst fm hc hSt H1 locs1 arr1 (xcongr M0_ok hW) hl
end XM0
/-! ===== the reference's invariants hold there ===== -/
theorem jnb {j c : Nat} (h : c ≤ j) : Nat.blt j c = false := by
  cases hb : Nat.blt j c with
  | false => rfl
  | true => have := Nat.blt_eq.mp hb; omega
theorem jne0 {j c : Nat} (h : c < j) : Nat.beq j c = false := by
  cases hb : Nat.beq j c with
  | false => rfl
  | true => have := Nat.eq_of_beq_eq_true hb; omega
theorem xrf0_out {j : Nat} (h : 150 ≤ j) : xrf0 j = none := by
  unfold xrf0
  rw [jnb (show 83 ≤ j by omega), jnb (show 111 ≤ j by omega), jnb (show 138 ≤ j by omega)]
  simp only [cond_false]
  unfold xrf0_5
  rw [jnb (show 142 ≤ j by omega), jnb (show 144 ≤ j by omega), jnb (show 145 ≤ j by omega), jnb (show 147 ≤ j by omega), jne0 (show 147 < j by omega)]
  simp only [cond_false]
theorem xrr0_out {a : Nat} (h : 688 ≤ a) : xrr0 a = none := by
  unfold xrr0
  rw [jnb (show 639 ≤ a by omega), jnb (show 659 ≤ a by omega), jnb (show 669 ≤ a by omega), jnb (show 679 ≤ a by omega)]
  simp only [cond_false]
  unfold xrr0_8
  rw [jnb (show 683 ≤ a by omega), jnb (show 685 ≤ a by omega), jnb (show 686 ≤ a by omega), jnb (show 687 ≤ a by omega), jne0 (show 687 < a by omega)]
  simp only [cond_false]
theorem xrf0_z : (List.range 150).all (fun j => decide (((xrf0 j).getD (-9223372036854775808, 9223372036854775807)).1 ≤ M0 598 (Int.ofNat j) ∧ M0 598 (Int.ofNat j) ≤ ((xrf0 j).getD (-9223372036854775808, 9223372036854775807)).2)) = true := by decide +kernel
noncomputable def m0n (c : ix_C) : Nat := match c with
  | .inl (_, n, _) => n
  | .inr (_, vs) => vs.length
noncomputable def m0zl : List Nat := [599, 601, 602, 603, 604, 605, 606, 607, 608, 609, 610, 611, 612, 613, 614, 615, 616, 617, 618, 619, 620, 621, 622, 623, 624, 625, 626, 627, 628, 629, 630, 631, 632, 633, 634, 635, 636, 637, 638, 639, 640, 641, 642, 643, 644, 645, 646, 651, 652, 653, 654, 655, 656, 657, 658, 659, 660, 661, 662, 663, 664, 665, 666, 667, 668, 669, 670, 671, 672, 673, 675, 676, 677, 678, 679, 680, 681, 682, 683, 684, 685, 686, 687]
theorem m0zI {a t n : Nat} (e : xh0 a = .inl (t, n, .inl (fun _ => 0))) (j : Nat) : jp0 (xh0 a) j = 0 := by
  rw [e]
  show (bif Nat.blt j n then (0 : Int32).toInt else 0) = 0
  cases Nat.blt j n <;> rfl
theorem m0zL {a t n : Nat} (e : xh0 a = .inl (t, n, .inr (.inl (fun _ => 0)))) (j : Nat) : jp0 (xh0 a) j = 0 := by
  rw [e]
  show (bif Nat.blt j n then (0 : Int64).toInt else 0) = 0
  cases Nat.blt j n <;> rfl
theorem m0zl_ok : ∀ a ∈ m0zl, ∀ j : Nat, jp0 (xh0 a) j = 0 := List.forall_mem_cons.mpr ⟨m0zI (a := 599) (t := 0) (n := 1600) rfl, List.forall_mem_cons.mpr ⟨m0zI (a := 601) (t := 0) (n := 9600) rfl, List.forall_mem_cons.mpr ⟨m0zL (a := 602) (t := 1) (n := 24) rfl, List.forall_mem_cons.mpr ⟨m0zI (a := 603) (t := 0) (n := 12) rfl, List.forall_mem_cons.mpr ⟨m0zI (a := 604) (t := 0) (n := 12) rfl, List.forall_mem_cons.mpr ⟨m0zI (a := 605) (t := 0) (n := 12) rfl, List.forall_mem_cons.mpr ⟨m0zI (a := 606) (t := 2) (n := 8) rfl, List.forall_mem_cons.mpr ⟨m0zI (a := 607) (t := 0) (n := 8) rfl, List.forall_mem_cons.mpr ⟨m0zL (a := 608) (t := 1) (n := 8) rfl, List.forall_mem_cons.mpr ⟨m0zL (a := 609) (t := 1) (n := 8) rfl, List.forall_mem_cons.mpr ⟨m0zL (a := 610) (t := 1) (n := 8) rfl, List.forall_mem_cons.mpr ⟨m0zI (a := 611) (t := 0) (n := 8) rfl, List.forall_mem_cons.mpr ⟨m0zI (a := 612) (t := 0) (n := 8) rfl, List.forall_mem_cons.mpr ⟨m0zI (a := 613) (t := 0) (n := 8) rfl, List.forall_mem_cons.mpr ⟨m0zI (a := 614) (t := 0) (n := 8) rfl, List.forall_mem_cons.mpr ⟨m0zI (a := 615) (t := 0) (n := 2880) rfl, List.forall_mem_cons.mpr ⟨m0zI (a := 616) (t := 2) (n := 2880) rfl, List.forall_mem_cons.mpr ⟨m0zI (a := 617) (t := 0) (n := 8) rfl, List.forall_mem_cons.mpr ⟨m0zI (a := 618) (t := 0) (n := 3200) rfl, List.forall_mem_cons.mpr ⟨m0zI (a := 619) (t := 0) (n := 8) rfl, List.forall_mem_cons.mpr ⟨m0zI (a := 620) (t := 0) (n := 8) rfl, List.forall_mem_cons.mpr ⟨m0zI (a := 621) (t := 0) (n := 8) rfl, List.forall_mem_cons.mpr ⟨m0zI (a := 622) (t := 0) (n := 5) rfl, List.forall_mem_cons.mpr ⟨m0zI (a := 623) (t := 0) (n := 4) rfl, List.forall_mem_cons.mpr ⟨m0zI (a := 624) (t := 0) (n := 4) rfl, List.forall_mem_cons.mpr ⟨m0zI (a := 625) (t := 0) (n := 4) rfl, List.forall_mem_cons.mpr ⟨m0zI (a := 626) (t := 0) (n := 4) rfl, List.forall_mem_cons.mpr ⟨m0zI (a := 627) (t := 2) (n := 24) rfl, List.forall_mem_cons.mpr ⟨m0zI (a := 628) (t := 2) (n := 24) rfl, List.forall_mem_cons.mpr ⟨m0zI (a := 629) (t := 0) (n := 24) rfl, List.forall_mem_cons.mpr ⟨m0zL (a := 630) (t := 1) (n := 48) rfl, List.forall_mem_cons.mpr ⟨m0zI (a := 631) (t := 0) (n := 48) rfl, List.forall_mem_cons.mpr ⟨m0zI (a := 632) (t := 2) (n := 48) rfl, List.forall_mem_cons.mpr ⟨m0zI (a := 633) (t := 0) (n := 48) rfl, List.forall_mem_cons.mpr ⟨m0zI (a := 634) (t := 2) (n := 48) rfl, List.forall_mem_cons.mpr ⟨m0zI (a := 635) (t := 0) (n := 48) rfl, List.forall_mem_cons.mpr ⟨m0zL (a := 636) (t := 1) (n := 48) rfl, List.forall_mem_cons.mpr ⟨m0zL (a := 637) (t := 1) (n := 48) rfl, List.forall_mem_cons.mpr ⟨m0zI (a := 638) (t := 0) (n := 24) rfl, List.forall_mem_cons.mpr ⟨m0zI (a := 639) (t := 0) (n := 24) rfl, List.forall_mem_cons.mpr ⟨m0zI (a := 640) (t := 0) (n := 24) rfl, List.forall_mem_cons.mpr ⟨m0zL (a := 641) (t := 1) (n := 24) rfl, List.forall_mem_cons.mpr ⟨m0zI (a := 642) (t := 0) (n := 24) rfl, List.forall_mem_cons.mpr ⟨m0zI (a := 643) (t := 2) (n := 4) rfl, List.forall_mem_cons.mpr ⟨m0zL (a := 644) (t := 1) (n := 4) rfl, List.forall_mem_cons.mpr ⟨m0zI (a := 645) (t := 0) (n := 4) rfl, List.forall_mem_cons.mpr ⟨m0zI (a := 646) (t := 0) (n := 4) rfl, List.forall_mem_cons.mpr ⟨m0zI (a := 651) (t := 0) (n := 1600) rfl, List.forall_mem_cons.mpr ⟨m0zI (a := 652) (t := 0) (n := 16) rfl, List.forall_mem_cons.mpr ⟨m0zI (a := 653) (t := 0) (n := 16) rfl, List.forall_mem_cons.mpr ⟨m0zI (a := 654) (t := 0) (n := 2200) rfl, List.forall_mem_cons.mpr ⟨m0zL (a := 655) (t := 1) (n := 2200) rfl, List.forall_mem_cons.mpr ⟨m0zL (a := 656) (t := 1) (n := 16) rfl, List.forall_mem_cons.mpr ⟨m0zI (a := 657) (t := 0) (n := 16) rfl, List.forall_mem_cons.mpr ⟨m0zI (a := 658) (t := 0) (n := 16) rfl, List.forall_mem_cons.mpr ⟨m0zI (a := 659) (t := 0) (n := 2200) rfl, List.forall_mem_cons.mpr ⟨m0zL (a := 660) (t := 1) (n := 2200) rfl, List.forall_mem_cons.mpr ⟨m0zL (a := 661) (t := 1) (n := 300) rfl, List.forall_mem_cons.mpr ⟨m0zI (a := 662) (t := 0) (n := 300) rfl, List.forall_mem_cons.mpr ⟨m0zI (a := 663) (t := 0) (n := 300) rfl, List.forall_mem_cons.mpr ⟨m0zI (a := 664) (t := 0) (n := 400) rfl, List.forall_mem_cons.mpr ⟨m0zI (a := 665) (t := 0) (n := 400) rfl, List.forall_mem_cons.mpr ⟨m0zI (a := 666) (t := 0) (n := 400) rfl, List.forall_mem_cons.mpr ⟨m0zI (a := 667) (t := 0) (n := 400) rfl, List.forall_mem_cons.mpr ⟨m0zI (a := 668) (t := 0) (n := 16) rfl, List.forall_mem_cons.mpr ⟨m0zI (a := 669) (t := 0) (n := 16) rfl, List.forall_mem_cons.mpr ⟨m0zL (a := 670) (t := 1) (n := 20) rfl, List.forall_mem_cons.mpr ⟨m0zL (a := 671) (t := 1) (n := 8) rfl, List.forall_mem_cons.mpr ⟨m0zI (a := 672) (t := 0) (n := 4) rfl, List.forall_mem_cons.mpr ⟨m0zL (a := 673) (t := 1) (n := 64) rfl, List.forall_mem_cons.mpr ⟨m0zI (a := 675) (t := 0) (n := 8) rfl, List.forall_mem_cons.mpr ⟨m0zL (a := 676) (t := 1) (n := 320) rfl, List.forall_mem_cons.mpr ⟨m0zI (a := 677) (t := 0) (n := 320) rfl, List.forall_mem_cons.mpr ⟨m0zL (a := 678) (t := 1) (n := 3520) rfl, List.forall_mem_cons.mpr ⟨m0zI (a := 679) (t := 0) (n := 9) rfl, List.forall_mem_cons.mpr ⟨m0zI (a := 680) (t := 2) (n := 9) rfl, List.forall_mem_cons.mpr ⟨m0zI (a := 681) (t := 0) (n := 9) rfl, List.forall_mem_cons.mpr ⟨m0zI (a := 682) (t := 2) (n := 9) rfl, List.forall_mem_cons.mpr ⟨m0zI (a := 683) (t := 0) (n := 9) rfl, List.forall_mem_cons.mpr ⟨m0zI (a := 684) (t := 0) (n := 9) rfl, List.forall_mem_cons.mpr ⟨m0zL (a := 685) (t := 1) (n := 1000) rfl, List.forall_mem_cons.mpr ⟨m0zL (a := 686) (t := 1) (n := 400) rfl, List.forall_mem_cons.mpr ⟨m0zI (a := 687) (t := 0) (n := 40) rfl, fun _ h => absurd h List.not_mem_nil⟩⟩⟩⟩⟩⟩⟩⟩⟩⟩⟩⟩⟩⟩⟩⟩⟩⟩⟩⟩⟩⟩⟩⟩⟩⟩⟩⟩⟩⟩⟩⟩⟩⟩⟩⟩⟩⟩⟩⟩⟩⟩⟩⟩⟩⟩⟩⟩⟩⟩⟩⟩⟩⟩⟩⟩⟩⟩⟩⟩⟩⟩⟩⟩⟩⟩⟩⟩⟩⟩⟩⟩⟩⟩⟩⟩⟩⟩⟩⟩⟩⟩⟩
theorem xrr0_z : (List.range 688).all (fun a => Nat.blt a 599 || (decide (((xrr0 a).getD (-9223372036854775808, 9223372036854775807)).1 ≤ 0 ∧ (0 : Int) ≤ ((xrr0 a).getD (-9223372036854775808, 9223372036854775807)).2) && (m0zl.any (fun b => Nat.beq a b) || (List.range (m0n (xh0 a))).all (fun j => decide (((xrr0 a).getD (-9223372036854775808, 9223372036854775807)).1 ≤ jp0 (xh0 a) j ∧ jp0 (xh0 a) j ≤ ((xrr0 a).getD (-9223372036854775808, 9223372036854775807)).2))))) = true := by decide +kernel
theorem jp0_out {c : ix_C} {j : Nat} (h : m0n c ≤ j) : jp0 c j = 0 := by
  unfold jp0
  split
  · rename_i n f
    rw [jnb (show n ≤ _ from h)]
    rfl
  · rename_i n f
    rw [jnb (show n ≤ _ from h)]
    rfl
  · rename_i vs
    have : vs[j]? = none := List.getElem?_eq_none h
    rw [this]
  · rfl
theorem M0_in {a : Nat} (h : a < 688) (j : Nat) : M0 a (Int.ofNat j) = jp0 (xh0 a) j := by
  show (bif Nat.blt a 688 then jp0 (xh0 a) j else 0) = _
  rw [Nat.blt_eq.mpr h]
  rfl
theorem M0_out {a : Nat} (h : 688 ≤ a) (i : Int) : M0 a i = 0 := by
  cases i with
  | ofNat j =>
    show (bif Nat.blt a 688 then jp0 (xh0 a) j else 0) = 0
    rw [jnb h]
    rfl
  | negSucc n => rfl
theorem m0n_598 : m0n (xh0 598) ≤ 150 := by decide +kernel
theorem xri_598 (i : Int) : xri 598 i = (xrf0 i.toNat).getD (-9223372036854775808, 9223372036854775807) := rfl
theorem xri_rw0 {a : Nat} (h : 599 ≤ a) (i : Int) : xri a i = (xrr0 a).getD (-9223372036854775808, 9223372036854775807) := by
  unfold xri
  rw [jne0 (show 598 < a by omega)]
  rfl
theorem M0_RI : RI M0 := by
  intro a i ha
  rcases Nat.lt_or_ge a 688 with h | h
  · rcases Nat.lt_or_ge a 599 with h1 | h1
    · obtain rfl : a = 598 := by omega
      rw [xri_598]
      cases i with
      | ofNat j =>
        show ((xrf0 j).getD _).1 ≤ _ ∧ _ ≤ ((xrf0 j).getD _).2
        rcases Nat.lt_or_ge j 150 with hj | hj
        · have := List.all_eq_true.mp xrf0_z j (List.mem_range.mpr hj)
          exact of_decide_eq_true this
        · rw [xrf0_out hj, M0_in h, jp0_out (Nat.le_trans m0n_598 hj)]
          decide
      | negSucc n =>
        show ((xrf0 0).getD (-9223372036854775808, 9223372036854775807)).1 ≤ (0 : Int) ∧ (0 : Int) ≤ ((xrf0 0).getD (-9223372036854775808, 9223372036854775807)).2
        decide
    · rw [xri_rw0 h1]
      have q := List.all_eq_true.mp xrr0_z a (List.mem_range.mpr h)
      rw [jnb h1, Bool.false_or, Bool.and_eq_true] at q
      cases i with
      | ofNat j =>
        rw [M0_in h]
        have q2 := q.2
        rw [Bool.or_eq_true] at q2
        rcases q2 with q2 | q2
        · obtain ⟨b, hb, e⟩ := List.any_eq_true.mp q2
          have z := m0zl_ok b hb j
          rw [← Nat.eq_of_beq_eq_true e] at z
          rw [z]
          exact of_decide_eq_true q.1
        · rcases Nat.lt_or_ge j (m0n (xh0 a)) with hj | hj
          · exact of_decide_eq_true (List.all_eq_true.mp q2 j (List.mem_range.mpr hj))
          · rw [jp0_out hj]
            exact of_decide_eq_true q.1
      | negSucc n => exact of_decide_eq_true q.1
  · rw [xri_rw0 (by omega), xrr0_out h, M0_out h]
    decide
/-- a row of zeros -/
theorem M0_row {a n t : Nat} (h : a < 688) (e : xh0 a = .inl (t, n, .inl (fun _ => 0))) (i : Int) : M0 a i = 0 := by
  cases i with
  | ofNat j =>
    rw [M0_in h, e]
    show (bif Nat.blt j n then (0 : Int32).toInt else 0) = 0
    cases Nat.blt j n <;> rfl
  | negSucc k => rfl
theorem M0_rowL {a n t : Nat} (h : a < 688) (e : xh0 a = .inl (t, n, .inr (.inl (fun _ => 0)))) (i : Int) : M0 a i = 0 := by
  cases i with
  | ofNat j =>
    rw [M0_in h, e]
    show (bif Nat.blt j n then (0 : Int64).toInt else 0) = 0
    cases Nat.blt j n <;> rfl
  | negSucc k => rfl
theorem M0_603 (i : Int) : M0 603 i = 0 := M0_row (t := 0) (n := 12) (by decide) rfl i
theorem M0_604 (i : Int) : M0 604 i = 0 := M0_row (t := 0) (n := 12) (by decide) rfl i
theorem M0_605 (i : Int) : M0 605 i = 0 := M0_row (t := 0) (n := 12) (by decide) rfl i
theorem M0_606 (i : Int) : M0 606 i = 0 := M0_row (t := 2) (n := 8) (by decide) rfl i
theorem M0_629 (i : Int) : M0 629 i = 0 := M0_row (t := 0) (n := 24) (by decide) rfl i
theorem M0_685 (i : Int) : M0 685 i = 0 := M0_rowL (t := 1) (n := 1000) (by decide) rfl i
theorem M0_RH : RH M0 := by
  intro h
  rw [M0_603, M0_604, M0_605]
  decide
theorem M0_RF : RF M0 := by
  intro f _ h
  rw [M0_629] at h
  cases h
theorem M0_RG1 : RG1 M0 := by
  intro j _ h
  exact absurd (M0_606 j) h
theorem M0_MC : MC M0 := Or.inl (by decide +kernel)
theorem M0_AS : AS M0 0 := by
  have e : M0 598 112 = 0 := by decide +kernel
  refine ⟨by rw [e]; decide, fun f j _ _ _ => ⟨fun _ => ?_, fun _ => ?_, fun _ => ?_⟩⟩ <;> rw [M0_685] <;> decide
theorem M0_t : M0 598 2 = 0 := by decide +kernel
theorem M0_FW : FWq (M0 650) := by
  have h : (List.range 14).all (fun k => (List.range 11).all (fun f => decide (M0 650 (Int.ofNat (11 * k + f)) ≠ -1 → ((k : Int) ≤ 11 → (f : Int) < fldn k) ∧ ((k : Int) = 12 → (f : Int) ≤ 4)))) = true := by decide +kernel
  intro k f h0 h1 h2 h3
  obtain ⟨K, rfl⟩ : ∃ K : Nat, k = K := ⟨k.toNat, by omega⟩
  obtain ⟨F, rfl⟩ : ∃ F : Nat, f = F := ⟨f.toNat, by omega⟩
  have q := of_decide_eq_true (List.all_eq_true.mp (List.all_eq_true.mp h K (List.mem_range.mpr (by omega))) F (List.mem_range.mpr (by omega)))
  have e : (11 * (K : Int) + (F : Int)) = Int.ofNat (11 * K + F) := by
    show _ = ((11 * K + F : Nat) : Int)
    omega
  rw [e]
  exact q
end
