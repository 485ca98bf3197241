section
/-! ===== the class's constructor ===== -/
noncomputable def xls1 : ix_L := [(1, .ref 0), (0, .ref 1000000)]
noncomputable def xctA : Option (ix_S ⊕ (Option Value × ix_H)) := iy_iter xt0 (iy_run xt0 14 8) xm_law 2 (0, [(0, .ref 1000000)], [], xh_e)
noncomputable def xchk (o : Option (ix_S ⊕ (Option Value × ix_H))) (p0 : Nat) (l0 : ix_L) (n0 k0 : Nat) : Bool := match o with
  | some (.inl (pc, ls, st, (n, k, h))) => Nat.beq pc p0 && (decide (ls = l0) && (decide (st = []) && (Nat.beq n n0 && (Nat.beq k k0 && (List.range n).all (fun a => xcq (h a) (xh0 a))))))
  | _ => false
theorem xchk_ok {o : Option (ix_S ⊕ (Option Value × ix_H))} {p0 : Nat} {l0 : ix_L} {n0 k0 : Nat} (h0 : xchk o p0 l0 n0 k0 = true) : ∃ h : Nat → ix_C, o = some (.inl (p0, l0, [], (n0, k0, h))) ∧ (List.range n0).all (fun a => xcq (h a) (xh0 a)) = true := by
  match o, h0 with
  | some (.inl (pc, ls, st, (n, k, h))), h0 =>
    have h1 : (Nat.beq pc p0 && (decide (ls = l0) && (decide (st = []) && (Nat.beq n n0 && (Nat.beq k k0 && (List.range n).all (fun a => xcq (h a) (xh0 a))))))) = true := h0
    simp only [Bool.and_eq_true, decide_eq_true_eq] at h1
    obtain ⟨a1, a2, a3, a4, a5, a6⟩ := h1
    have a1 := Nat.eq_of_beq_eq_true a1
    have a4 := Nat.eq_of_beq_eq_true a4
    have a5 := Nat.eq_of_beq_eq_true a5
    subst a1; subst a2; subst a3; subst a4; subst a5
    exact ⟨h, rfl, a6⟩
  | some (.inr _), h0 =>
    have h1 : false = true := h0
    cases h1
  | none, h0 =>
    have h1 : false = true := h0
    cases h1
theorem xctA_ok : xchk xctA 8 xls1 598 29846 = true := by decide +kernel
theorem xctA_is : ∃ h : Nat → ix_C, ix_iter xt0 (ix_run xt0 14 8) xm_law 2 (0, [(0, .ref 1000000)], [], xh_e) = some (.inl (8, xls1, [], (598, 29846, h))) ∧ (List.range 598).all (fun a => xceq (h a) (xh0 a)) = true := by
  obtain ⟨h, e, c⟩ := xchk_ok (o := xctA) (p0 := 8) (l0 := xls1) (n0 := 598) (k0 := 29846) xctA_ok
  exact ⟨h, iy_iter_ok (iy_run_ok xt0 14 8) _ _ _ e, xcq_all c⟩
end
section
/-! ===== the reference's constructor ===== -/
noncomputable def xctB : Option (ix_S ⊕ (Option Value × ix_H)) := iy_iter xt0 (iy_run xt0 14 8) xm_law 2 (8, xls1, [], (598, 29846, xh0))
theorem xctB_ok : xchk xctB 16 xls0 688 70427 = true := by decide +kernel
theorem xctB_is : ∃ h : Nat → ix_C, ix_iter xt0 (ix_run xt0 14 8) xm_law 2 (8, xls1, [], (598, 29846, xh0)) = some (.inl (16, xls0, [], (688, 70427, h))) ∧ (List.range 688).all (fun a => xceq (h a) (xh0 a)) = true := by
  obtain ⟨h, e, c⟩ := xchk_ok (o := xctB) (p0 := 16) (l0 := xls0) (n0 := 688) (k0 := 70427) xctB_ok
  exact ⟨h, iy_iter_ok (iy_run_ok xt0 14 8) _ _ _ e, xcq_all c⟩
end
section
/-! ===== behind the constructors ===== -/
section XH0
variable {p : Program} {l : Launch} {e : Env} {s : State} {m : MethodId} {below : List Frame} {meth : Method} {c : Code} {b L : Nat} {xs : Nat → Int32}
/-- the law's run is what comes behind the constructors, from the cells xh0 on -/
theorem xbehind (C0 : lw_At p s m meth c b L xs) (k : ∀ (D : va_G) (aC : Nat → ClassId) (tys : List (ClassId × FieldType)) (cst : Nat → Nat) (fm : Nat), cst 0 = b → (∀ A : Nat → Option (Nat × (Nat → Int32)), (A = (fun _ => none) ∨ A = xs_A L xs fm) → ix_St (xT A) D xcl aC tys xon xTs xNs (ix_ad s.heap.size cst) s.heap.size s) → ix_End p l e room_1 s m #[Value.ref b] below meth c (lw_Z below #[Value.ref b] s) D xcl aC (ix_ad s.heap.size cst) s.heap.size 0 0 xm_law (.inl (16, xls0, [], xhp0))) : W p l e room_1 s m #[Value.ref b] below meth c s.heap [] 0 0 (lw_Z below #[Value.ref b] s) (entryFrame m ([Value.ref b] : List Value).toArray 4) := by
  obtain ⟨D, aC, tys, cst, fm, hcst, hSt⟩ := xstart C0
  obtain ⟨h1, hr1, he1⟩ := xctA_is
  obtain ⟨h2, hr2, he2⟩ := xctB_is
  refine xentry (D := D) (aC := aC) (cst := cst) C0 hcst (xstep C0 (tys := tys) (cst := cst) (hSt _ (Or.inl rfl)) (by decide) hr1 (by show 598 ≤ 600000; decide) (by show 29846 ≤ 7302250; decide) ?_)
  intro H1 locs1 arr1 hW hl
  refine xstep C0 (tys := tys) (cst := cst) (hSt _ (Or.inl rfl)) (by decide) hr2 (by show 688 ≤ 600000; decide) (by show 70427 ≤ 7302250; decide) ?_ H1 locs1 arr1 (xcongr he1 hW) hl
  intro H2 locs2 arr2 hW2 hl2
  exact k D aC tys cst fm hcst hSt H2 locs2 arr2 (xcongr he2 hW2) hl2
end XH0
end
section
/-! ===== the memory behind the two constructors ===== -/
noncomputable def jp0 : ix_C → Nat → Int
  | .inl (_, n, .inl f), j => bif Nat.blt j n then (f j).toInt else 0
  | .inl (_, n, .inr (.inl f)), j => bif Nat.blt j n then (f j).toInt else 0
  | .inr (_, vs), j => match vs[j]? with
    | some (.int v) => v.toInt
    | some (.long v) => v.toInt
    | some (.ref a) => Int.ofNat a
    | _ => 0
  | _, _ => 0
noncomputable def M0 : jm := fun a i => match i with
  | .ofNat j => bif Nat.blt a 688 then jp0 (xh0 a) j else 0
  | .negSucc _ => 0
/-- a row of numbers that has the shape of its cell -/
noncomputable def m0r (a : Nat) : Bool := match xh0 a with
  | .inl (t, n, .inl _) => (Nat.beq t 0 || Nat.beq t 2) && (Nat.beq (xsh a).1 t && Nat.beq (xsh a).2 n)
  | .inl (t, n, .inr (.inl _)) => Nat.beq t 1 && (Nat.beq (xsh a).1 t && Nat.beq (xsh a).2 n)
  | _ => false
theorem m0r_all : (List.range 688).all (fun a => m0r a || xceq (xh0 a) (jh M0 a)) = true := by decide +kernel
theorem m0r_ok {a : Nat} (ha : a < 688) (h : m0r a = true) : xceq (xh0 a) (jh M0 a) = true := by
  have hM : ∀ j : Nat, M0 a ((j : Nat) : Int) = jp0 (xh0 a) j := fun j => by
    show (bif Nat.blt a 688 then jp0 (xh0 a) j else 0) = _
    rw [Nat.blt_eq.mpr ha]
    rfl
  unfold m0r at h
  split at h
  · rename_i t n f hx
    rw [Bool.and_eq_true, Bool.or_eq_true, Bool.and_eq_true] at h
    obtain ⟨h1, h2, h3⟩ := h
    have e2 := Nat.eq_of_beq_eq_true h2
    have e3 := Nat.eq_of_beq_eq_true h3
    have hj : jh M0 a = .inl (t, n, .inl (fun j => Int32.ofInt (M0 a ((j : Nat) : Int)))) := by
      unfold jh jcell
      rw [e2, e3]
      rcases h1 with h1 | h1
      · have e1 := Nat.eq_of_beq_eq_true h1
        subst e1
        rfl
      · have e1 := Nat.eq_of_beq_eq_true h1
        subst e1
        rfl
    rw [hj, hx]
    show (Nat.beq t t && (Nat.beq n n && (List.range n).all (fun j => decide (f j = Int32.ofInt (M0 a ((j : Nat) : Int)))))) = true
    rw [Bool.and_eq_true, Bool.and_eq_true]
    refine ⟨Nat.beq_refl t, Nat.beq_refl n, List.all_eq_true.mpr (fun j hj2 => decide_eq_true ?_)⟩
    have hl := List.mem_range.mp hj2
    rw [hM j, hx]
    show f j = Int32.ofInt (bif Nat.blt j n then (f j).toInt else 0)
    rw [Nat.blt_eq.mpr hl]
    exact (Int32.ofInt_toInt _).symm
  · rename_i t n f hx
    rw [Bool.and_eq_true, Bool.and_eq_true] at h
    obtain ⟨h1, h2, h3⟩ := h
    have e2 := Nat.eq_of_beq_eq_true h2
    have e3 := Nat.eq_of_beq_eq_true h3
    have hj : jh M0 a = .inl (t, n, .inr (.inl (fun j => Int64.ofInt (M0 a ((j : Nat) : Int))))) := by
      unfold jh jcell
      rw [e2, e3]
      have e1 := Nat.eq_of_beq_eq_true h1
      subst e1
      rfl
    rw [hj, hx]
    show (Nat.beq t t && (Nat.beq n n && (List.range n).all (fun j => decide (f j = Int64.ofInt (M0 a ((j : Nat) : Int)))))) = true
    rw [Bool.and_eq_true, Bool.and_eq_true]
    refine ⟨Nat.beq_refl t, Nat.beq_refl n, List.all_eq_true.mpr (fun j hj2 => decide_eq_true ?_)⟩
    have hl := List.mem_range.mp hj2
    rw [hM j, hx]
    show f j = Int64.ofInt (bif Nat.blt j n then (f j).toInt else 0)
    rw [Nat.blt_eq.mpr hl]
    exact (Int64.ofInt_toInt _).symm
  · cases h
theorem M0_ok : (List.range 688).all (fun a => xceq (xh0 a) (jh M0 a)) = true := List.all_eq_true.mpr (fun a ha => by
  have h : (m0r a || xceq (xh0 a) (jh M0 a)) = true := List.all_eq_true.mp m0r_all a ha
  rw [Bool.or_eq_true] at h
  rcases h with q | q
  · exact m0r_ok (List.mem_range.mp ha) q
  · exact q)
section XM0
variable {p : Program} {l : Launch} {e : Env} {s : State} {m : MethodId} {below : List Frame} {meth : Method} {c : Code} {b L : Nat} {xs : Nat → Int32}
theorem xbehind2 (C0 : lw_At p s m meth c b L xs) (k : ∀ (D : va_G) (aC : Nat → ClassId) (tys : List (ClassId × FieldType)) (cst : Nat → Nat) (fm : Nat), cst 0 = b → (∀ A : Nat → Option (Nat × (Nat → Int32)), (A = (fun _ => none) ∨ A = xs_A L xs fm) → ix_St (xT A) D xcl aC tys xon xTs xNs (ix_ad s.heap.size cst) s.heap.size s) → ix_End p l e room_1 s m #[Value.ref b] below meth c (lw_Z below #[Value.ref b] s) D xcl aC (ix_ad s.heap.size cst) s.heap.size 0 0 xm_law (.inl (16, xls0, [], jH M0))) : W p l e room_1 s m #[Value.ref b] below meth c s.heap [] 0 0 (lw_Z below #[Value.ref b] s) (entryFrame m ([Value.ref b] : List Value).toArray 4) := by
  refine xbehind C0 (fun D aC tys cst fm hc hSt => ?_)
  intro H1 locs1 arr1 hW hl
  exact k D aC tys cst fm hc hSt H1 locs1 arr1 (xcongr M0_ok hW) hl
end XM0
/-! ===== the reference's invariants hold there ===== -/
theorem jnb {j c : Nat} (h : c ≤ j) : Nat.blt j c = false := by
  cases hb : Nat.blt j c with
  | false => rfl
  | true => have := Nat.blt_eq.mp hb; omega
theorem jne0 {j c : Nat} (h : c < j) : Nat.beq j c = false := by
  cases hb : Nat.beq j c with
  | false => rfl
  | true => have := Nat.eq_of_beq_eq_true hb; omega
theorem xrf0_out {j : Nat} (h : 150 ≤ j) : xrf0 j = none := by
  unfold xrf0
  rw [jnb (show 83 ≤ j by omega), jnb (show 111 ≤ j by omega), jnb (show 138 ≤ j by omega)]
  simp only [cond_false]
  unfold xrf0_5
  rw [jnb (show 142 ≤ j by omega), jnb (show 144 ≤ j by omega), jnb (show 145 ≤ j by omega), jnb (show 147 ≤ j by omega), jne0 (show 147 < j by omega)]
  simp only [cond_false]
theorem xrr0_out {a : Nat} (h : 688 ≤ a) : xrr0 a = none := by
  unfold xrr0
  rw [jnb (show 639 ≤ a by omega), jnb (show 659 ≤ a by omega), jnb (show 669 ≤ a by omega), jnb (show 679 ≤ a by omega)]
  simp only [cond_false]
  unfold xrr0_8
  rw [jnb (show 683 ≤ a by omega), jnb (show 685 ≤ a by omega), jnb (show 686 ≤ a by omega), jnb (show 687 ≤ a by omega), jne0 (show 687 < a by omega)]
  simp only [cond_false]
theorem xrf0_z : (List.range 150).all (fun j => decide (((xrf0 j).getD (-9223372036854775808, 9223372036854775807)).1 ≤ M0 598 (Int.ofNat j) ∧ M0 598 (Int.ofNat j) ≤ ((xrf0 j).getD (-9223372036854775808, 9223372036854775807)).2)) = true := by decide +kernel
noncomputable def m0n (c : ix_C) : Nat := match c with
  | .inl (_, n, _) => n
  | .inr (_, vs) => vs.length
noncomputable def m0zl : List Nat := [599, 601, 602, 603, 604, 605, 606, 607, 608, 609, 610, 611, 612, 613, 614, 615, 616, 617, 618, 619, 620, 621, 622, 623, 624, 625, 626, 627, 628, 629, 630, 631, 632, 633, 634, 635, 636, 637, 638, 639, 640, 641, 642, 643, 644, 645, 646, 651, 652, 653, 654, 655, 656, 657, 658, 659, 660, 661, 662, 663, 664, 665, 666, 667, 668, 669, 670, 671, 672, 673, 675, 676, 677, 678, 679, 680, 681, 682, 683, 684, 685, 686, 687]
theorem m0zI {a t n : Nat} (e : xh0 a = .inl (t, n, .inl (fun _ => 0))) (j : Nat) : jp0 (xh0 a) j = 0 := by
  rw [e]
  show (bif Nat.blt j n then (0 : Int32).toInt else 0) = 0
  cases Nat.blt j n <;> rfl
theorem m0zL {a t n : Nat} (e : xh0 a = .inl (t, n, .inr (.inl (fun _ => 0)))) (j : Nat) : jp0 (xh0 a) j = 0 := by
  rw [e]
  show (bif Nat.blt j n then (0 : Int64).toInt else 0) = 0
  cases Nat.blt j n <;> rfl
theorem m0zl_ok : ∀ a ∈ m0zl, ∀ j : Nat, jp0 (xh0 a) j = 0 := List.forall_mem_cons.mpr ⟨m0zI (a := 599) (t := 0) (n := 1600) rfl, List.forall_mem_cons.mpr ⟨m0zI (a := 601) (t := 0) (n := 9600) rfl, List.forall_mem_cons.mpr ⟨m0zL (a := 602) (t := 1) (n := 24) rfl, List.forall_mem_cons.mpr ⟨m0zI (a := 603) (t := 0) (n := 12) rfl, List.forall_mem_cons.mpr ⟨m0zI (a := 604) (t := 0) (n := 12) rfl, List.forall_mem_cons.mpr ⟨m0zI (a := 605) (t := 0) (n := 12) rfl, List.forall_mem_cons.mpr ⟨m0zI (a := 606) (t := 2) (n := 8) rfl, List.forall_mem_cons.mpr ⟨m0zI (a := 607) (t := 0) (n := 8) rfl, List.forall_mem_cons.mpr ⟨m0zL (a := 608) (t := 1) (n := 8) rfl, List.forall_mem_cons.mpr ⟨m0zL (a := 609) (t := 1) (n := 8) rfl, List.forall_mem_cons.mpr ⟨m0zL (a := 610) (t := 1) (n := 8) rfl, List.forall_mem_cons.mpr ⟨m0zI (a := 611) (t := 0) (n := 8) rfl, List.forall_mem_cons.mpr ⟨m0zI (a := 612) (t := 0) (n := 8) rfl, List.forall_mem_cons.mpr ⟨m0zI (a := 613) (t := 0) (n := 8) rfl, List.forall_mem_cons.mpr ⟨m0zI (a := 614) (t := 0) (n := 8) rfl, List.forall_mem_cons.mpr ⟨m0zI (a := 615) (t := 0) (n := 2880) rfl, List.forall_mem_cons.mpr ⟨m0zI (a := 616) (t := 2) (n := 2880) rfl, List.forall_mem_cons.mpr ⟨m0zI (a := 617) (t := 0) (n := 8) rfl, List.forall_mem_cons.mpr ⟨m0zI (a := 618) (t := 0) (n := 3200) rfl, List.forall_mem_cons.mpr ⟨m0zI (a := 619) (t := 0) (n := 8) rfl, List.forall_mem_cons.mpr ⟨m0zI (a := 620) (t := 0) (n := 8) rfl, List.forall_mem_cons.mpr ⟨m0zI (a := 621) (t := 0) (n := 8) rfl, List.forall_mem_cons.mpr ⟨m0zI (a := 622) (t := 0) (n := 5) rfl, List.forall_mem_cons.mpr ⟨m0zI (a := 623) (t := 0) (n := 4) rfl, List.forall_mem_cons.mpr ⟨m0zI (a := 624) (t := 0) (n := 4) rfl, List.forall_mem_cons.mpr ⟨m0zI (a := 625) (t := 0) (n := 4) rfl, List.forall_mem_cons.mpr ⟨m0zI (a := 626) (t := 0) (n := 4) rfl, List.forall_mem_cons.mpr ⟨m0zI (a := 627) (t := 2) (n := 24) rfl, List.forall_mem_cons.mpr ⟨m0zI (a := 628) (t := 2) (n := 24) rfl, List.forall_mem_cons.mpr ⟨m0zI (a := 629) (t := 0) (n := 24) rfl, List.forall_mem_cons.mpr ⟨m0zL (a := 630) (t := 1) (n := 48) rfl, List.forall_mem_cons.mpr ⟨m0zI (a := 631) (t := 0) (n := 48) rfl, List.forall_mem_cons.mpr ⟨m0zI (a := 632) (t := 2) (n := 48) rfl, List.forall_mem_cons.mpr ⟨m0zI (a := 633) (t := 0) (n := 48) rfl, List.forall_mem_cons.mpr ⟨m0zI (a := 634) (t := 2) (n := 48) rfl, List.forall_mem_cons.mpr ⟨m0zI (a := 635) (t := 0) (n := 48) rfl, List.forall_mem_cons.mpr ⟨m0zL (a := 636) (t := 1) (n := 48) rfl, List.forall_mem_cons.mpr ⟨m0zL (a := 637) (t := 1) (n := 48) rfl, List.forall_mem_cons.mpr ⟨m0zI (a := 638) (t := 0) (n := 24) rfl, List.forall_mem_cons.mpr ⟨m0zI (a := 639) (t := 0) (n := 24) rfl, List.forall_mem_cons.mpr ⟨m0zI (a := 640) (t := 0) (n := 24) rfl, List.forall_mem_cons.mpr ⟨m0zL (a := 641) (t := 1) (n := 24) rfl, List.forall_mem_cons.mpr ⟨m0zI (a := 642) (t := 0) (n := 24) rfl, List.forall_mem_cons.mpr ⟨m0zI (a := 643) (t := 2) (n := 4) rfl, List.forall_mem_cons.mpr ⟨m0zL (a := 644) (t := 1) (n := 4) rfl, List.forall_mem_cons.mpr ⟨m0zI (a := 645) (t := 0) (n := 4) rfl, List.forall_mem_cons.mpr ⟨m0zI (a := 646) (t := 0) (n := 4) rfl, List.forall_mem_cons.mpr ⟨m0zI (a := 651) (t := 0) (n := 1600) rfl, List.forall_mem_cons.mpr ⟨m0zI (a := 652) (t := 0) (n := 16) rfl, List.forall_mem_cons.mpr ⟨m0zI (a := 653) (t := 0) (n := 16) rfl, List.forall_mem_cons.mpr ⟨m0zI (a := 654) (t := 0) (n := 2200) rfl, List.forall_mem_cons.mpr ⟨m0zL (a := 655) (t := 1) (n := 2200) rfl, List.forall_mem_cons.mpr ⟨m0zL (a := 656) (t := 1) (n := 16) rfl, List.forall_mem_cons.mpr ⟨m0zI (a := 657) (t := 0) (n := 16) rfl, List.forall_mem_cons.mpr ⟨m0zI (a := 658) (t := 0) (n := 16) rfl, List.forall_mem_cons.mpr ⟨m0zI (a := 659) (t := 0) (n := 2200) rfl, List.forall_mem_cons.mpr ⟨m0zL (a := 660) (t := 1) (n := 2200) rfl, List.forall_mem_cons.mpr ⟨m0zL (a := 661) (t := 1) (n := 300) rfl, List.forall_mem_cons.mpr ⟨m0zI (a := 662) (t := 0) (n := 300) rfl, List.forall_mem_cons.mpr ⟨m0zI (a := 663) (t := 0) (n := 300) rfl, List.forall_mem_cons.mpr ⟨m0zI (a := 664) (t := 0) (n := 400) rfl, List.forall_mem_cons.mpr ⟨m0zI (a := 665) (t := 0) (n := 400) rfl, List.forall_mem_cons.mpr ⟨m0zI (a := 666) (t := 0) (n := 400) rfl, List.forall_mem_cons.mpr ⟨m0zI (a := 667) (t := 0) (n := 400) rfl, List.forall_mem_cons.mpr ⟨m0zI (a := 668) (t := 0) (n := 16) rfl, List.forall_mem_cons.mpr ⟨m0zI (a := 669) (t := 0) (n := 16) rfl, List.forall_mem_cons.mpr ⟨m0zL (a := 670) (t := 1) (n := 20) rfl, List.forall_mem_cons.mpr ⟨m0zL (a := 671) (t := 1) (n := 8) rfl, List.forall_mem_cons.mpr ⟨m0zI (a := 672) (t := 0) (n := 4) rfl, List.forall_mem_cons.mpr ⟨m0zL (a := 673) (t := 1) (n := 64) rfl, List.forall_mem_cons.mpr ⟨m0zI (a := 675) (t := 0) (n := 8) rfl, List.forall_mem_cons.mpr ⟨m0zL (a := 676) (t := 1) (n := 320) rfl, List.forall_mem_cons.mpr ⟨m0zI (a := 677) (t := 0) (n := 320) rfl, List.forall_mem_cons.mpr ⟨m0zL (a := 678) (t := 1) (n := 3520) rfl, List.forall_mem_cons.mpr ⟨m0zI (a := 679) (t := 0) (n := 9) rfl, List.forall_mem_cons.mpr ⟨m0zI (a := 680) (t := 2) (n := 9) rfl, List.forall_mem_cons.mpr ⟨m0zI (a := 681) (t := 0) (n := 9) rfl, List.forall_mem_cons.mpr ⟨m0zI (a := 682) (t := 2) (n := 9) rfl, List.forall_mem_cons.mpr ⟨m0zI (a := 683) (t := 0) (n := 9) rfl, List.forall_mem_cons.mpr ⟨m0zI (a := 684) (t := 0) (n := 9) rfl, List.forall_mem_cons.mpr ⟨m0zL (a := 685) (t := 1) (n := 1000) rfl, List.forall_mem_cons.mpr ⟨m0zL (a := 686) (t := 1) (n := 400) rfl, List.forall_mem_cons.mpr ⟨m0zI (a := 687) (t := 0) (n := 40) rfl, fun _ h => absurd h List.not_mem_nil⟩⟩⟩⟩⟩⟩⟩⟩⟩⟩⟩⟩⟩⟩⟩⟩⟩⟩⟩⟩⟩⟩⟩⟩⟩⟩⟩⟩⟩⟩⟩⟩⟩⟩⟩⟩⟩⟩⟩⟩⟩⟩⟩⟩⟩⟩⟩⟩⟩⟩⟩⟩⟩⟩⟩⟩⟩⟩⟩⟩⟩⟩⟩⟩⟩⟩⟩⟩⟩⟩⟩⟩⟩⟩⟩⟩⟩⟩⟩⟩⟩⟩⟩
theorem xrr0_z : (List.range 688).all (fun a => Nat.blt a 599 || (decide (((xrr0 a).getD (-9223372036854775808, 9223372036854775807)).1 ≤ 0 ∧ (0 : Int) ≤ ((xrr0 a).getD (-9223372036854775808, 9223372036854775807)).2) && (m0zl.any (fun b => Nat.beq a b) || (List.range (m0n (xh0 a))).all (fun j => decide (((xrr0 a).getD (-9223372036854775808, 9223372036854775807)).1 ≤ jp0 (xh0 a) j ∧ jp0 (xh0 a) j ≤ ((xrr0 a).getD (-9223372036854775808, 9223372036854775807)).2))))) = true := by decide +kernel
theorem jp0_out {c : ix_C} {j : Nat} (h : m0n c ≤ j) : jp0 c j = 0 := by
  unfold jp0
  split
  · rename_i n f
    rw [jnb (show n ≤ _ from h)]
    rfl
  · rename_i n f
    rw [jnb (show n ≤ _ from h)]
    rfl
  · rename_i vs
    have : vs[j]? = none := List.getElem?_eq_none h
    rw [this]
  · rfl
theorem M0_in {a : Nat} (h : a < 688) (j : Nat) : M0 a (Int.ofNat j) = jp0 (xh0 a) j := by
  show (bif Nat.blt a 688 then jp0 (xh0 a) j else 0) = _
  rw [Nat.blt_eq.mpr h]
  rfl
theorem M0_out {a : Nat} (h : 688 ≤ a) (i : Int) : M0 a i = 0 := by
  cases i with
  | ofNat j =>
    show (bif Nat.blt a 688 then jp0 (xh0 a) j else 0) = 0
    rw [jnb h]
    rfl
  | negSucc n => rfl
theorem m0n_598 : m0n (xh0 598) ≤ 150 := by decide +kernel
theorem xri_598 (i : Int) : xri 598 i = (xrf0 i.toNat).getD (-9223372036854775808, 9223372036854775807) := rfl
theorem xri_rw0 {a : Nat} (h : 599 ≤ a) (i : Int) : xri a i = (xrr0 a).getD (-9223372036854775808, 9223372036854775807) := by
  unfold xri
  rw [jne0 (show 598 < a by omega)]
  rfl
theorem M0_RI : RI M0 := by
  intro a i ha
  rcases Nat.lt_or_ge a 688 with h | h
  · rcases Nat.lt_or_ge a 599 with h1 | h1
    · obtain rfl : a = 598 := by omega
      rw [xri_598]
      cases i with
      | ofNat j =>
        show ((xrf0 j).getD _).1 ≤ _ ∧ _ ≤ ((xrf0 j).getD _).2
        rcases Nat.lt_or_ge j 150 with hj | hj
        · have := List.all_eq_true.mp xrf0_z j (List.mem_range.mpr hj)
          exact of_decide_eq_true this
        · rw [xrf0_out hj, M0_in h, jp0_out (Nat.le_trans m0n_598 hj)]
          decide
      | negSucc n =>
        show ((xrf0 0).getD (-9223372036854775808, 9223372036854775807)).1 ≤ (0 : Int) ∧ (0 : Int) ≤ ((xrf0 0).getD (-9223372036854775808, 9223372036854775807)).2
        decide
    · rw [xri_rw0 h1]
      have q := List.all_eq_true.mp xrr0_z a (List.mem_range.mpr h)
      rw [jnb h1, Bool.false_or, Bool.and_eq_true] at q
      cases i with
      | ofNat j =>
        rw [M0_in h]
        have q2 := q.2
        rw [Bool.or_eq_true] at q2
        rcases q2 with q2 | q2
        · obtain ⟨b, hb, e⟩ := List.any_eq_true.mp q2
          have z := m0zl_ok b hb j
          rw [← Nat.eq_of_beq_eq_true e] at z
          rw [z]
          exact of_decide_eq_true q.1
        · rcases Nat.lt_or_ge j (m0n (xh0 a)) with hj | hj
          · exact of_decide_eq_true (List.all_eq_true.mp q2 j (List.mem_range.mpr hj))
          · rw [jp0_out hj]
            exact of_decide_eq_true q.1
      | negSucc n => exact of_decide_eq_true q.1
  · rw [xri_rw0 (by omega), xrr0_out h, M0_out h]
    decide
/-- a row of zeros -/
theorem M0_row {a n t : Nat} (h : a < 688) (e : xh0 a = .inl (t, n, .inl (fun _ => 0))) (i : Int) : M0 a i = 0 := by
  cases i with
  | ofNat j =>
    rw [M0_in h, e]
    show (bif Nat.blt j n then (0 : Int32).toInt else 0) = 0
    cases Nat.blt j n <;> rfl
  | negSucc k => rfl
theorem M0_rowL {a n t : Nat} (h : a < 688) (e : xh0 a = .inl (t, n, .inr (.inl (fun _ => 0)))) (i : Int) : M0 a i = 0 := by
  cases i with
  | ofNat j =>
    rw [M0_in h, e]
    show (bif Nat.blt j n then (0 : Int64).toInt else 0) = 0
    cases Nat.blt j n <;> rfl
  | negSucc k => rfl
theorem M0_603 (i : Int) : M0 603 i = 0 := M0_row (t := 0) (n := 12) (by decide) rfl i
theorem M0_604 (i : Int) : M0 604 i = 0 := M0_row (t := 0) (n := 12) (by decide) rfl i
theorem M0_605 (i : Int) : M0 605 i = 0 := M0_row (t := 0) (n := 12) (by decide) rfl i
theorem M0_606 (i : Int) : M0 606 i = 0 := M0_row (t := 2) (n := 8) (by decide) rfl i
theorem M0_629 (i : Int) : M0 629 i = 0 := M0_row (t := 0) (n := 24) (by decide) rfl i
theorem M0_685 (i : Int) : M0 685 i = 0 := M0_rowL (t := 1) (n := 1000) (by decide) rfl i
theorem M0_RH : RH M0 := by
  intro h
  rw [M0_603, M0_604, M0_605]
  decide
theorem M0_RF : RF M0 := by
  intro f _ h
  rw [M0_629] at h
  cases h
theorem M0_RG1 : RG1 M0 := by
  intro j _ h
  exact absurd (M0_606 j) h
theorem M0_MC : MC M0 := Or.inl (by decide +kernel)
theorem M0_AS : AS M0 0 := by
  have e : M0 598 112 = 0 := by decide +kernel
  refine ⟨by rw [e]; decide, fun f j _ _ _ => ⟨fun _ => ?_, fun _ => ?_, fun _ => ?_⟩⟩ <;> rw [M0_685] <;> decide
theorem M0_t : M0 598 2 = 0 := by decide +kernel
theorem M0_FW : FWq (M0 650) := by
  have h : (List.range 14).all (fun k => (List.range 11).all (fun f => decide (M0 650 (Int.ofNat (11 * k + f)) ≠ -1 → ((k : Int) ≤ 11 → (f : Int) < fldn k) ∧ ((k : Int) = 12 → (f : Int) ≤ 4)))) = true := by decide +kernel
  intro k f h0 h1 h2 h3
  obtain ⟨K, rfl⟩ : ∃ K : Nat, k = K := ⟨k.toNat, by omega⟩
  obtain ⟨F, rfl⟩ : ∃ F : Nat, f = F := ⟨f.toNat, by omega⟩
  have q := of_decide_eq_true (List.all_eq_true.mp (List.all_eq_true.mp h K (List.mem_range.mpr (by omega))) F (List.mem_range.mpr (by omega)))
  have e : (11 * (K : Int) + (F : Int)) = Int.ofNat (11 * K + F) := by
    show _ = ((11 * K + F : Nat) : Int)
    omega
  rw [e]
  exact q
end
section
/-! ===== the class: what its cells may hold, by kind ===== -/
section JL2
variable {A : Nat → Option (Nat × (Nat → Int32))} {D : Nat} {m : ix_M} {pc : Nat} {ls : ix_L} {st : List Value} {M : jm} {Q : Option Value → jm → Prop}
theorem jr.acpL {idx mid na a d n0 n1 : Nat} {sp dp n : Int} (hi : m.2.2.2.2.2.2 pc = some (.invokestatic idx)) (h1 : ix_tI (xT A) m.1 idx = some (7, mid, na)) (hc : ix_cats st ≤ 8) (ha : a < xNc) (hs : xsh a = (1, n0)) (hd : d < xNc) (ht : xsh d = (1, n1)) (hn0 : n0 ≤ 2000000) (hn1 : n1 ≤ 2000000) (hsp : 0 ≤ sp) (hdp : 0 ≤ dp) (hn : 0 ≤ n) (h0 : sp + n ≤ (n0 : Nat)) (h2 : dp + n ≤ (n1 : Nat)) (k : jr A D m (pc + 3) ls st (jcpy M a sp d dp n) Q) : jr A D m pc ls (.int (Int32.ofInt n) :: .int (Int32.ofInt dp) :: .ref d :: .int (Int32.ofInt sp) :: .ref a :: st) M Q := by
  refine jr_c1 (Or.inr (Or.inr ⟨_, rfl⟩)) hi (fun f => ?_) k
  obtain ⟨p1, p2⟩ := jnn hsp (by omega)
  obtain ⟨q1, q2⟩ := jnn hdp (by omega)
  obtain ⟨r1, r2⟩ := jnn hn (by omega)
  unfold ix_cal
  simp only [h1]
  unfold ix_acp
  simp only [jarr1 ha hs, jarr1 hd ht]
  rw [p2, q2, r2, if_pos ⟨p1, q1, r1, by omega, by omega, hc⟩]
  congr 2
  refine jH_cpy M ?_
  rw [ht]
  show _ = Sum.inl (1, n1, Sum.inr (Sum.inl _))
  congr 3
  congr 2
  funext j
  unfold va_cpy jcpy
  by_cases hj : dp.toNat ≤ j ∧ j < dp.toNat + n.toNat
  · rw [if_pos hj, if_pos ⟨rfl, by omega, by omega⟩]
    show Int64.ofInt (M a ((sp.toNat + (j - dp.toNat) : Nat) : Int)) = Int64.ofInt (M a (sp + ((j : Int) - dp)))
    rw [show (((sp.toNat + (j - dp.toNat) : Nat) : Int)) = sp + ((j : Int) - dp) by omega]
  · rw [if_neg hj, if_neg (by omega)]
end JL2
noncomputable def cio_1 (j : Nat) : Option (Int × Int) := bif Nat.blt j 6 then (bif Nat.blt j 2 then (bif Nat.blt j 1 then (bif Nat.beq j 0 then some (((0 : Int), (1 : Int))) else none) else (bif Nat.beq j 1 then some (((0 : Int), (1 : Int))) else none)) else (bif Nat.blt j 5 then (bif Nat.beq j 2 then some (((-2147483648 : Int), (2147483647 : Int))) else none) else (bif Nat.beq j 5 then some (((-2147483648 : Int), (2147483647 : Int))) else none))) else (bif Nat.blt j 13 then (bif Nat.blt j 12 then (bif Nat.beq j 6 then some (((-2147483648 : Int), (2147483647 : Int))) else none) else (bif Nat.beq j 12 then some (((0 : Int), (1 : Int))) else none)) else (bif Nat.blt j 14 then (bif Nat.beq j 13 then some (((-2147483648 : Int), (2147483647 : Int))) else none) else (bif Nat.blt j 15 then (bif Nat.beq j 14 then some (((-9223372036854775808 : Int), (9223372036854775807 : Int))) else none) else (bif Nat.beq j 15 then some (((-2147483648 : Int), (2147483647 : Int))) else none))))
noncomputable def cio_9 (j : Nat) : Option (Int × Int) := bif Nat.blt j 3 then (bif Nat.blt j 1 then (bif Nat.beq j 0 then some (((16 : Int), (17 : Int))) else none) else (bif Nat.beq j 1 then some (((16 : Int), (17 : Int))) else none)) else (bif Nat.blt j 4 then (bif Nat.beq j 3 then some (((-2147483648 : Int), (2147483647 : Int))) else none) else (bif Nat.blt j 5 then (bif Nat.beq j 4 then some (((-2147483648 : Int), (2147483647 : Int))) else none) else (bif Nat.beq j 5 then some (((0 : Int), (1 : Int))) else none)))
noncomputable def cio_14 (j : Nat) : Option (Int × Int) := bif Nat.blt j 1 then (bif Nat.beq j 0 then some (((0 : Int), (15 : Int))) else none) else (bif Nat.blt j 2 then (bif Nat.beq j 1 then some (((-2147483648 : Int), (2147483647 : Int))) else none) else (bif Nat.beq j 2 then some (((0 : Int), (1 : Int))) else none))
noncomputable def cio_15_0 (j : Nat) : Option (Int × Int) := bif Nat.blt j 3 then (bif Nat.blt j 1 then (bif Nat.beq j 0 then some (((0 : Int), (1 : Int))) else none) else (bif Nat.blt j 2 then (bif Nat.beq j 1 then some (((-2147483648 : Int), (2147483647 : Int))) else none) else (bif Nat.beq j 2 then some (((-9223372036854775808 : Int), (9223372036854775807 : Int))) else none))) else (bif Nat.blt j 4 then (bif Nat.beq j 3 then some (((-9223372036854775808 : Int), (9223372036854775807 : Int))) else none) else (bif Nat.blt j 5 then (bif Nat.beq j 4 then some (((-9223372036854775808 : Int), (9223372036854775807 : Int))) else none) else (bif Nat.beq j 5 then some (((-9223372036854775808 : Int), (9223372036854775807 : Int))) else none)))
noncomputable def cio_15_1 (j : Nat) : Option (Int × Int) := bif Nat.blt j 11 then (bif Nat.blt j 7 then (bif Nat.beq j 6 then some (((-2147483648 : Int), (2147483647 : Int))) else none) else (bif Nat.blt j 8 then (bif Nat.beq j 7 then some (((-1 : Int), (70000 : Int))) else none) else (bif Nat.beq j 8 then some (((-2147483648 : Int), (2147483647 : Int))) else none))) else (bif Nat.blt j 12 then (bif Nat.beq j 11 then some (((-1 : Int), (400 : Int))) else none) else (bif Nat.blt j 13 then (bif Nat.beq j 12 then some (((-1 : Int), (400 : Int))) else none) else (bif Nat.beq j 13 then some (((-1 : Int), (404 : Int))) else none)))
noncomputable def cio_15 (j : Nat) : Option (Int × Int) := bif Nat.blt j 6 then (cio_15_0 j) else (cio_15_1 j)
noncomputable def cio_18 (j : Nat) : Option (Int × Int) := bif Nat.blt j 5 then (bif Nat.blt j 4 then (bif Nat.beq j 3 then some (((0 : Int), (12 : Int))) else none) else (bif Nat.beq j 4 then some (((-2147483648 : Int), (2147483647 : Int))) else none)) else (bif Nat.blt j 6 then (bif Nat.beq j 5 then some (((-2147483648 : Int), (2147483647 : Int))) else none) else (bif Nat.blt j 7 then (bif Nat.beq j 6 then some (((-2147483648 : Int), (2147483647 : Int))) else none) else (bif Nat.beq j 7 then some (((0 : Int), (597 : Int))) else none)))
noncomputable def cio_22_0 (j : Nat) : Option (Int × Int) := bif Nat.blt j 7 then (bif Nat.blt j 4 then (bif Nat.blt j 3 then (bif Nat.beq j 2 then some (((0 : Int), (597 : Int))) else none) else (bif Nat.beq j 3 then some (((-2147483648 : Int), (2147483647 : Int))) else none)) else (bif Nat.blt j 5 then (bif Nat.beq j 4 then some (((0 : Int), (1 : Int))) else none) else (bif Nat.beq j 5 then some (((-2147483648 : Int), (2147483647 : Int))) else none))) else (bif Nat.blt j 11 then (bif Nat.blt j 9 then (bif Nat.beq j 7 then some (((0 : Int), (8 : Int))) else none) else (bif Nat.beq j 9 then some (((0 : Int), (320 : Int))) else none)) else (bif Nat.blt j 12 then (bif Nat.beq j 11 then some (((0 : Int), (1 : Int))) else none) else (bif Nat.beq j 12 then some (((0 : Int), (597 : Int))) else none)))
noncomputable def cio_22_1 (j : Nat) : Option (Int × Int) := bif Nat.blt j 16 then (bif Nat.blt j 14 then (bif Nat.beq j 13 then some (((-2147483648 : Int), (2147483647 : Int))) else none) else (bif Nat.blt j 15 then (bif Nat.beq j 14 then some (((-2147483648 : Int), (2147483647 : Int))) else none) else (bif Nat.beq j 15 then some (((-2147483648 : Int), (2147483647 : Int))) else none))) else (bif Nat.blt j 18 then (bif Nat.blt j 17 then (bif Nat.beq j 16 then some (((-2147483648 : Int), (2147483647 : Int))) else none) else (bif Nat.beq j 17 then some (((0 : Int), (1 : Int))) else none)) else (bif Nat.blt j 19 then (bif Nat.beq j 18 then some (((-2147483648 : Int), (2147483647 : Int))) else none) else (bif Nat.beq j 19 then some (((-2147483648 : Int), (2147483647 : Int))) else none)))
noncomputable def cio_22 (j : Nat) : Option (Int × Int) := bif Nat.blt j 13 then (cio_22_0 j) else (cio_22_1 j)
noncomputable def cio_27 (j : Nat) : Option (Int × Int) := bif Nat.blt j 6 then (bif Nat.beq j 5 then some (((0 : Int), (2147483647 : Int))) else none) else (bif Nat.beq j 6 then some (((-9223372036854775808 : Int), (9223372036854775807 : Int))) else none)
noncomputable def cio_33 (j : Nat) : Option (Int × Int) := bif Nat.blt j 2 then (bif Nat.beq j 1 then some (((-1 : Int), (400 : Int))) else none) else (bif Nat.beq j 2 then some (((-9223372036854775808 : Int), (9223372036854775807 : Int))) else none)
noncomputable def cio_35 (j : Nat) : Option (Int × Int) := bif Nat.blt j 8 then (bif Nat.beq j 1 then some (((0 : Int), (1600 : Int))) else none) else (bif Nat.beq j 8 then some (((-2147483648 : Int), (2147483647 : Int))) else none)
noncomputable def cio_44_0 (j : Nat) : Option (Int × Int) := bif Nat.blt j 3 then (bif Nat.blt j 1 then (bif Nat.beq j 0 then some (((-2147483648 : Int), (2147483647 : Int))) else none) else (bif Nat.blt j 2 then (bif Nat.beq j 1 then some (((-2147483648 : Int), (2147483647 : Int))) else none) else (bif Nat.beq j 2 then some (((0 : Int), (597 : Int))) else none))) else (bif Nat.blt j 4 then (bif Nat.beq j 3 then some (((1 : Int), (419 : Int))) else none) else (bif Nat.blt j 6 then (bif Nat.beq j 4 then some (((0 : Int), (1600 : Int))) else none) else (bif Nat.beq j 6 then some (((-2147483648 : Int), (2147483647 : Int))) else none)))
noncomputable def cio_44_1 (j : Nat) : Option (Int × Int) := bif Nat.blt j 9 then (bif Nat.blt j 8 then (bif Nat.beq j 7 then some (((0 : Int), (1600 : Int))) else none) else (bif Nat.beq j 8 then some (((0 : Int), (1600 : Int))) else none)) else (bif Nat.blt j 10 then (bif Nat.beq j 9 then some (((-9223372036854775808 : Int), (9223372036854775807 : Int))) else none) else (bif Nat.blt j 11 then (bif Nat.beq j 10 then some (((-2147483648 : Int), (2147483647 : Int))) else none) else (bif Nat.beq j 11 then some (((0 : Int), (255 : Int))) else none)))
noncomputable def cio_44 (j : Nat) : Option (Int × Int) := bif Nat.blt j 7 then (cio_44_0 j) else (cio_44_1 j)
noncomputable def cio_47 (j : Nat) : Option (Int × Int) := bif Nat.blt j 3 then (bif Nat.beq j 2 then some (((0 : Int), (932 : Int))) else none) else (bif Nat.blt j 4 then (bif Nat.beq j 3 then some (((0 : Int), (16 : Int))) else none) else (bif Nat.beq j 4 then some (((-2147483648 : Int), (2147483647 : Int))) else none))
noncomputable def cio_52 (j : Nat) : Option (Int × Int) := bif Nat.blt j 1 then (bif Nat.beq j 0 then some (((-2147483648 : Int), (2147483647 : Int))) else none) else (bif Nat.beq j 1 then some (((0 : Int), (40 : Int))) else none)
noncomputable def cir_0 (j : Nat) : Option (Int × Int) := bif Nat.blt j 7 then (bif Nat.blt j 4 then (bif Nat.blt j 3 then (bif Nat.beq j 2 then some (((-9223372036854775808 : Int), (9223372036854775807 : Int))) else none) else (bif Nat.beq j 3 then some (((-9223372036854775808 : Int), (9223372036854775807 : Int))) else none)) else (bif Nat.blt j 5 then (bif Nat.beq j 4 then some (((0 : Int), (1 : Int))) else none) else (bif Nat.blt j 6 then (bif Nat.beq j 5 then some (((-2147483648 : Int), (2147483647 : Int))) else none) else (bif Nat.beq j 6 then some (((-9223372036854775808 : Int), (9223372036854775807 : Int))) else none)))) else (bif Nat.blt j 10 then (bif Nat.blt j 8 then (bif Nat.beq j 7 then some (((-2147483648 : Int), (2147483647 : Int))) else none) else (bif Nat.beq j 8 then some (((-2147483648 : Int), (2147483647 : Int))) else none)) else (bif Nat.blt j 11 then (bif Nat.beq j 10 then some (((-9223372036854775808 : Int), (9223372036854775807 : Int))) else none) else (bif Nat.blt j 12 then (bif Nat.beq j 11 then some (((-2147483648 : Int), (2147483647 : Int))) else none) else (bif Nat.beq j 12 then some (((0 : Int), (32 : Int))) else none))))
noncomputable def cir_1 (j : Nat) : Option (Int × Int) := bif Nat.blt j 24 then (bif Nat.blt j 19 then (bif Nat.blt j 17 then (bif Nat.beq j 16 then some (((-1 : Int), (255 : Int))) else none) else (bif Nat.beq j 17 then some (((-1 : Int), (255 : Int))) else none)) else (bif Nat.blt j 20 then (bif Nat.beq j 19 then some (((0 : Int), (11 : Int))) else none) else (bif Nat.blt j 21 then (bif Nat.beq j 20 then some (((0 : Int), (400 : Int))) else none) else (bif Nat.beq j 21 then some (((-400 : Int), (2048 : Int))) else none)))) else (bif Nat.blt j 28 then (bif Nat.blt j 26 then (bif Nat.beq j 24 then some (((-2147483648 : Int), (2147483647 : Int))) else none) else (bif Nat.beq j 26 then some (((-9223372036854775808 : Int), (9223372036854775807 : Int))) else none)) else (bif Nat.blt j 29 then (bif Nat.beq j 28 then some (((-2147483648 : Int), (2147483647 : Int))) else none) else (bif Nat.blt j 30 then (bif Nat.beq j 29 then some (((-9223372036854775808 : Int), (9223372036854775807 : Int))) else none) else (bif Nat.beq j 30 then some (((-9223372036854775808 : Int), (9223372036854775807 : Int))) else none))))
noncomputable def cir_2 (j : Nat) : Option (Int × Int) := bif Nat.blt j 38 then (bif Nat.blt j 34 then (bif Nat.blt j 32 then (bif Nat.beq j 31 then some (((-9223372036854775808 : Int), (9223372036854775807 : Int))) else none) else (bif Nat.beq j 32 then some (((0 : Int), (16 : Int))) else none)) else (bif Nat.blt j 36 then (bif Nat.beq j 34 then some (((-1 : Int), (255 : Int))) else none) else (bif Nat.blt j 37 then (bif Nat.beq j 36 then some (((-2147483648 : Int), (2147483647 : Int))) else none) else (bif Nat.beq j 37 then some (((-2147483648 : Int), (2147483647 : Int))) else none)))) else (bif Nat.blt j 41 then (bif Nat.blt j 39 then (bif Nat.beq j 38 then some (((-2147483648 : Int), (2147483647 : Int))) else none) else (bif Nat.beq j 39 then some (((-2147483648 : Int), (2147483647 : Int))) else none)) else (bif Nat.blt j 43 then (bif Nat.beq j 41 then some (((-2147483648 : Int), (2147483647 : Int))) else none) else (bif Nat.blt j 45 then (bif Nat.beq j 43 then some (((0 : Int), (255 : Int))) else none) else (bif Nat.beq j 45 then some (((-2147483648 : Int), (2147483647 : Int))) else none))))
noncomputable def cir_3 (j : Nat) : Option (Int × Int) := bif Nat.blt j 50 then (bif Nat.blt j 48 then (bif Nat.beq j 46 then some (((-2147483648 : Int), (2147483647 : Int))) else none) else (bif Nat.blt j 49 then (bif Nat.beq j 48 then some (((-2147483648 : Int), (2147483647 : Int))) else none) else (bif Nat.beq j 49 then some (((-2147483648 : Int), (2147483647 : Int))) else none))) else (bif Nat.blt j 53 then (bif Nat.blt j 51 then (bif Nat.beq j 50 then some (((-2147483648 : Int), (2147483647 : Int))) else none) else (bif Nat.beq j 51 then some (((-2147483648 : Int), (2147483647 : Int))) else none)) else (bif Nat.blt j 54 then (bif Nat.beq j 53 then some (((-9223372036854775808 : Int), (9223372036854775807 : Int))) else none) else (bif Nat.beq j 54 then some (((-9223372036854775808 : Int), (9223372036854775807 : Int))) else none)))
noncomputable def cir (j : Nat) : Option (Int × Int) := bif Nat.blt j 31 then (bif Nat.blt j 16 then (cir_0 j) else (cir_1 j)) else (bif Nat.blt j 46 then (cir_2 j) else (cir_3 j))
noncomputable def cio (K : Nat) (j : Nat) : Option (Int × Int) := bif Nat.beq K 1 then cio_1 j else bif Nat.beq K 9 then cio_9 j else bif Nat.beq K 14 then cio_14 j else bif Nat.beq K 15 then cio_15 j else bif Nat.beq K 18 then cio_18 j else bif Nat.beq K 22 then cio_22 j else bif Nat.beq K 27 then cio_27 j else bif Nat.beq K 33 then cio_33 j else bif Nat.beq K 35 then cio_35 j else bif Nat.beq K 44 then cio_44 j else bif Nat.beq K 47 then cio_47 j else bif Nat.beq K 52 then cio_52 j else none
noncomputable def cob (K : Nat) : Bool := Nat.beq K 1 || Nat.beq K 9 || Nat.beq K 14 || Nat.beq K 15 || Nat.beq K 18 || Nat.beq K 22 || Nat.beq K 27 || Nat.beq K 33 || Nat.beq K 35 || Nat.beq K 44 || Nat.beq K 47 || Nat.beq K 52
noncomputable def xcv_1 (i : Int) : Int := (xv_1.getD i.toNat 0).toInt
theorem xcq_1 : ∀ j : Nat, j < 12 → (1 : Int) ≤ (xv_1.getD j 0).toInt ∧ (xv_1.getD j 0).toInt ≤ (24 : Int) := by decide +kernel
theorem xcr_1 {i : Int} (h0 : 0 ≤ i) (h1 : i < 12) : (1 : Int) ≤ xcv_1 i ∧ xcv_1 i ≤ (24 : Int) := xcq_1 i.toNat (by omega)
noncomputable def xcv_2 (i : Int) : Int := (xv_2.getD i.toNat 0).toInt
theorem xcq_2 : ∀ j : Nat, j < 12 → (1 : Int) ≤ (xv_2.getD j 0).toInt ∧ (xv_2.getD j 0).toInt ≤ (11 : Int) := by decide +kernel
theorem xcr_2 {i : Int} (h0 : 0 ≤ i) (h1 : i < 12) : (1 : Int) ≤ xcv_2 i ∧ xcv_2 i ≤ (11 : Int) := xcq_2 i.toNat (by omega)
noncomputable def xcv_3 (i : Int) : Int := (xv_3.getD i.toNat 0).toInt
theorem xcq_3 : ∀ j : Nat, j < 12 → (0 : Int) ≤ (xv_3.getD j 0).toInt ∧ (xv_3.getD j 0).toInt ≤ (51 : Int) := by decide +kernel
theorem xcr_3 {i : Int} (h0 : 0 ≤ i) (h1 : i < 12) : (0 : Int) ≤ xcv_3 i ∧ xcv_3 i ≤ (51 : Int) := xcq_3 i.toNat (by omega)
noncomputable def xcv_4 (i : Int) : Int := (xv_4.getD i.toNat 0).toInt
theorem xcq_4 : ∀ j : Nat, j < 204 → (0 : Int) ≤ (xv_4.getD j 0).toInt ∧ (xv_4.getD j 0).toInt ≤ (64 : Int) := by decide +kernel
theorem xcr_4 {i : Int} (h0 : 0 ≤ i) (h1 : i < 204) : (0 : Int) ≤ xcv_4 i ∧ xcv_4 i ≤ (64 : Int) := xcq_4 i.toNat (by omega)
noncomputable def xcv_5 (i : Int) : Int := (xv_5.getD i.toNat 0).toInt
theorem xcq_5 : ∀ j : Nat, j < 100 → (0 : Int) ≤ (xv_5.getD j 0).toInt ∧ (xv_5.getD j 0).toInt ≤ (10 : Int) := by decide +kernel
theorem xcr_5 {i : Int} (h0 : 0 ≤ i) (h1 : i < 100) : (0 : Int) ≤ xcv_5 i ∧ xcv_5 i ≤ (10 : Int) := xcq_5 i.toNat (by omega)
noncomputable def xcv_6 (i : Int) : Int := (xv_6.getD i.toNat 0).toInt
theorem xcq_6 : ∀ j : Nat, j < 10 → (3 : Int) ≤ (xv_6.getD j 0).toInt ∧ (xv_6.getD j 0).toInt ≤ (200 : Int) := by decide +kernel
theorem xcr_6 {i : Int} (h0 : 0 ≤ i) (h1 : i < 10) : (3 : Int) ≤ xcv_6 i ∧ xcv_6 i ≤ (200 : Int) := xcq_6 i.toNat (by omega)
noncomputable def xcv_7 (i : Int) : Int := (xv_7.getD i.toNat 0).toInt
theorem xcq_7 : ∀ j : Nat, j < 5 → (0 : Int) ≤ (xv_7.getD j 0).toInt ∧ (xv_7.getD j 0).toInt ≤ (6 : Int) := by decide +kernel
theorem xcr_7 {i : Int} (h0 : 0 ≤ i) (h1 : i < 5) : (0 : Int) ≤ xcv_7 i ∧ xcv_7 i ≤ (6 : Int) := xcq_7 i.toNat (by omega)
noncomputable def xcv_8 (i : Int) : Int := (xv_8.getD i.toNat 0).toInt
theorem xcq_8 : ∀ j : Nat, j < 5 → (1 : Int) ≤ (xv_8.getD j 0).toInt ∧ (xv_8.getD j 0).toInt ≤ (10 : Int) := by decide +kernel
theorem xcr_8 {i : Int} (h0 : 0 ≤ i) (h1 : i < 5) : (1 : Int) ≤ xcv_8 i ∧ xcv_8 i ≤ (10 : Int) := xcq_8 i.toNat (by omega)
theorem xff0 : ∀ j : Nat, j < 11 → (xv_3.getD j 0).toInt + (xv_2.getD j 0).toInt ≤ 51 := by decide +kernel
theorem xff {i : Int} (h0 : 0 ≤ i) (h1 : i < 11) : xcv_3 i + xcv_2 i ≤ 51 := xff0 i.toNat (by omega)
theorem xf10 : ∀ j : Nat, j < 204 → j % 4 = 1 → (xv_4.getD j 0).toInt ≤ 8 := by decide +kernel
theorem xf1 {i : Int} (h0 : 0 ≤ i) (h1 : i < 204) (h2 : i % 4 = 1) : xcv_4 i ≤ 8 := xf10 i.toNat (by omega) (by omega)
theorem xt_2_2 (i : Int) : i ≠ 2 ∨ xcv_2 i = 11 := by
  by_cases h : i = 2
  · subst h; exact Or.inr rfl
  · exact Or.inl h
theorem xt_2_6 (i : Int) : i ≠ 6 ∨ xcv_2 i = 4 := by
  by_cases h : i = 6
  · subst h; exact Or.inr rfl
  · exact Or.inl h
theorem xt_3_2 (i : Int) : i ≠ 2 ∨ xcv_3 i = 6 := by
  by_cases h : i = 2
  · subst h; exact Or.inr rfl
  · exact Or.inl h
theorem xt_3_6 (i : Int) : i ≠ 6 ∨ xcv_3 i = 29 := by
  by_cases h : i = 6
  · subst h; exact Or.inr rfl
  · exact Or.inl h
theorem xt_4_47 (i : Int) : i ≠ 47 ∨ xcv_4 i = 13 := by
  by_cases h : i = 47
  · subst h; exact Or.inr rfl
  · exact Or.inl h
theorem xt_4_123 (i : Int) : i ≠ 123 ∨ xcv_4 i = 13 := by
  by_cases h : i = 123
  · subst h; exact Or.inr rfl
  · exact Or.inl h
theorem xl6 (i : Int) : i ≠ 6 ∨ xcv_1 i = 8 := by
  by_cases h : i = 6
  · subst h; exact Or.inr rfl
  · exact Or.inl h
noncomputable def ci (K : Nat) (i : Int) : Int × Int := bif Nat.beq K 24 then (bif Nat.beq i.toNat 4 then ((0 : Int), (40 : Int)) else (-2147483648, 2147483647)) else bif cob K then (cio K i.toNat).getD (-9223372036854775808, 9223372036854775807) else (cir K).getD (-9223372036854775808, 9223372036854775807)
/-- the kind that a reference that changes must name (0: no such place) -/
noncomputable def cxk (K : Nat) (i : Int) : Nat := bif Nat.beq K 18 then (bif Nat.beq i.toNat 7 then 33 else 0) else bif Nat.beq K 22 then (bif Nat.beq i.toNat 2 then 47 else bif Nat.beq i.toNat 12 then 18 else 0) else bif Nat.beq K 44 then (bif Nat.beq i.toNat 2 then 47 else 0) else 0
/-- every cell of the class is within its interval -/
noncomputable def CI (M : jm) : Prop := (∀ (a : Nat) (i : Int), kd a ≠ 0 → (ci (kd a) i).1 ≤ M a i ∧ M a i ≤ (ci (kd a) i).2) ∧ ∀ (a : Nat) (i : Int), cxk (kd a) i ≠ 0 → kd (M a i).toNat = cxk (kd a) i
theorem CI.u {M : jm} (h : CI M) {a K : Nat} {i v : Int} (hk : kd a = K) (hv : (ci K i).1 ≤ v ∧ v ≤ (ci K i).2) (h0 : cxk K i = 0) : CI (ju M a i v) := by
  refine ⟨fun b k hb => ?_, fun b k hb => ?_⟩
  · by_cases hq : b = a ∧ k = i
    · obtain ⟨rfl, rfl⟩ := hq
      rw [ju_same, hk]
      exact hv
    · rw [ju_ne M v hq]
      exact h.1 b k hb
  · by_cases hq : b = a ∧ k = i
    · obtain ⟨rfl, rfl⟩ := hq
      rw [hk] at hb
      exact absurd h0 hb
    · rw [ju_ne M v hq]
      exact h.2 b k hb
theorem CI.r {M : jm} (h : CI M) {a K : Nat} (hk : kd a = K) (h0 : K ≠ 0) (i : Int) : (ci K i).1 ≤ M a i ∧ M a i ≤ (ci K i).2 := by
  subst hk
  exact h.1 a i h0
theorem CI.x {M : jm} (h : CI M) {a K K2 : Nat} (hk : kd a = K) (i : Int) (h2 : cxk K i = K2) (h0 : K2 ≠ 0) : kd (M a i).toNat = K2 := by
  subst hk
  subst h2
  exact h.2 a i h0
theorem jval_mut {a j : Nat} {ty : FieldType} {x : Int} (ht : jref ty = true) (h : xfx a j = none) : jval a j ty x = .ref x.toNat := by
  cases ty <;> first | (exact absurd ht (by decide)) | (unfold jval; rw [h]; rfl)
theorem km_18 : ∀ a, a < 598 → kd a = 18 → xfx a 7 = none := by decide +kernel
theorem kn_18_7 {a : Nat} (h : kd a = 18) : xfx a 7 = none := km_18 a (kd_lt (by rw [h]; decide)) h
theorem ci_rep {i : Int} (h0 : 0 ≤ i) (h : i ≠ 4) : ci 24 i = (-2147483648, 2147483647) := by
  have e : Nat.beq i.toNat 4 = false := by
    cases hb : Nat.beq i.toNat 4 with
    | false => rfl
    | true => have := Nat.eq_of_beq_eq_true hb; omega
  unfold ci
  rw [e]
  rfl
theorem ci_rd (i : Int) : -2147483648 ≤ (ci 24 i).1 ∧ (ci 24 i).2 ≤ 2147483647 := by
  unfold ci
  show -2147483648 ≤ (bif Nat.beq i.toNat 4 then ((0 : Int), (40 : Int)) else (-2147483648, 2147483647)).1 ∧ (bif Nat.beq i.toNat 4 then ((0 : Int), (40 : Int)) else (-2147483648, 2147483647)).2 ≤ 2147483647
  cases Nat.beq i.toNat 4 <;> decide
theorem j_fz {v : Int} (h : 0 ≤ v ∧ v ≤ 1) : fits FieldType.boolean (Value.int (Int32.ofInt v)) = true := by
  rcases (show v = 0 ∨ v = 1 by omega) with rfl | rfl <;> rfl
/-- a reference that changes is written -/
theorem CI.w {M : jm} (h : CI M) {a K : Nat} {i v : Int} (hk : kd a = K) (hv : (ci K i).1 ≤ v ∧ v ≤ (ci K i).2) (h0 : kd v.toNat = cxk K i) : CI (ju M a i v) := by
  refine ⟨fun b k hb => ?_, fun b k hb => ?_⟩
  · by_cases hq : b = a ∧ k = i
    · obtain ⟨rfl, rfl⟩ := hq
      rw [ju_same, hk]
      exact hv
    · rw [ju_ne M v hq]
      exact h.1 b k hb
  · by_cases hq : b = a ∧ k = i
    · obtain ⟨rfl, rfl⟩ := hq
      rw [ju_same, hk]
      exact h0
    · rw [ju_ne M v hq]
      exact h.2 b k hb
theorem CI.cpy {M : jm} (h : CI M) {a d Ka Kd : Nat} {sp dp n : Int} (ha : kd a = Ka) (hd : kd d = Kd) (h0 : Ka ≠ 0) (hv : ∀ i j : Int, (ci Kd j).1 ≤ (ci Ka i).1 ∧ (ci Ka i).2 ≤ (ci Kd j).2) (hx : ∀ i : Int, cxk Kd i = 0) : CI (jcpy M a sp d dp n) := by
  refine ⟨fun b k hb => ?_, fun b k hb => ?_⟩
  · by_cases hq : b = d ∧ dp ≤ k ∧ k < dp + n
    · obtain ⟨rfl, h1, h2⟩ := hq
      rw [jcpy_in M h1 h2, hd]
      have q := CI.r h ha h0 (sp + (k - dp))
      have q2 := hv (sp + (k - dp)) k
      omega
    · rw [jcpy_ne M hq]
      exact h.1 b k hb
  · by_cases hq : b = d ∧ dp ≤ k ∧ k < dp + n
    · rw [hq.1, hd, hx] at hb
      exact absurd rfl hb
    · rw [jcpy_ne M hq]
      exact h.2 b k hb
/-- places that may be written: kind and slot (1000: every one) -/
noncomputable def kh (w : Nat × Nat) (K : Nat) (i : Int) : Bool := Nat.beq w.1 K && (Nat.beq w.2 1000 || Nat.beq w.2 i.toNat)
noncomputable def kw (W : List (Nat × Nat)) (K : Nat) (i : Int) : Bool := match W with
  | [] => false
  | w :: r => kh w K i || kw r K i
/-- all but the places of W are as in T -/
noncomputable def FR (W : List (Nat × Nat)) (T M : jm) : Prop := ∀ (a : Nat) (i : Int), kw W (kd a) i = false → M a i = T a i
theorem FR.rfl (W : List (Nat × Nat)) (M : jm) : FR W M M := fun _ _ _ => Eq.refl _
theorem FR.g {W : List (Nat × Nat)} {T M : jm} (h : FR W T M) {a K : Nat} {i : Int} (hk : kd a = K) (h0 : kw W K i = false) : M a i = T a i := h a i (by rw [hk]; exact h0)
theorem FR.o {W : List (Nat × Nat)} {T M : jm} (h : FR W T M) {a K : Nat} {i v : Int} (hk : kd a = K) (h0 : kw W K i = true) : FR W T (ju M a i v) := fun b k hb => (ju_ne M v (fun q => by rw [q.1, q.2, hk, h0] at hb; exact absurd hb (by decide))).trans (h b k hb)
theorem FR.t {W V : List (Nat × Nat)} {T M M' : jm} (h : FR W T M) (h2 : FR V M M') (hs : ∀ (K : Nat) (i : Int), kw V K i = true → kw W K i = true) : FR W T M' := fun b k hb => (h2 b k (by
  cases e : kw V (kd b) k with
  | false => rfl
  | true => rw [hs _ _ e] at hb; exact absurd hb (by decide))).trans (h b k hb)
theorem kw_mem {W : List (Nat × Nat)} {u : Nat × Nat} {K : Nat} {i : Int} (h : u ∈ W) (h1 : kh u K i = true) : kw W K i = true := by
  induction W with
  | nil => exact absurd h (by simp)
  | cons x r ih =>
    unfold kw
    rcases List.mem_cons.mp h with q | q
    · rw [← q, h1]; rfl
    · rw [ih q]; simp
noncomputable def ksub (V W : List (Nat × Nat)) : Bool := V.all (fun w => W.any (fun u => Nat.beq w.1 u.1 && (Nat.beq u.2 1000 || Nat.beq w.2 u.2)))
theorem kw_sub {V W : List (Nat × Nat)} (h : ksub V W = true) : ∀ (K : Nat) (i : Int), kw V K i = true → kw W K i = true := by
  intro K i
  induction V with
  | nil => intro q; exact absurd q (by simp [kw])
  | cons w r ih =>
    intro q
    unfold ksub at h
    rw [List.all_cons, Bool.and_eq_true] at h
    unfold kw at q
    rw [Bool.or_eq_true] at q
    rcases q with q | q
    · obtain ⟨u, hu, h2⟩ := List.any_eq_true.mp h.1
      refine kw_mem hu ?_
      unfold kh at q ⊢
      rw [Bool.and_eq_true, Bool.or_eq_true] at q h2 ⊢
      have e1 := Nat.eq_of_beq_eq_true q.1
      have e2 := Nat.eq_of_beq_eq_true h2.1
      refine ⟨by rw [← e1, e2]; exact Nat.beq_refl _, ?_⟩
      rcases h2.2 with h3 | h3
      · exact Or.inl h3
      · have e3 := Nat.eq_of_beq_eq_true h3
        rw [← e3]
        exact q.2
    · exact ih h.2 q
noncomputable def ksep (W S : List (Nat × Nat)) : Bool := W.all (fun w => S.all (fun s => !(Nat.beq w.1 s.1 && (Nat.beq w.2 1000 || (Nat.beq s.2 1000 || Nat.beq w.2 s.2)))))
theorem kw_sep {W S : List (Nat × Nat)} (h : ksep W S = true) {K j : Nat} (hs : (K, j) ∈ S) (i : Int) (hi : j = 1000 ∨ i.toNat = j) : kw W K i = false := by
  induction W with
  | nil => rfl
  | cons w r ih =>
    unfold ksep at h
    rw [List.all_cons, Bool.and_eq_true] at h
    have h1 := List.all_eq_true.mp h.1 _ hs
    unfold kw
    rw [ih h.2, Bool.or_false]
    unfold kh
    simp only [Bool.not_eq_true'] at h1
    cases e1 : Nat.beq w.1 K with
    | false => rfl
    | true =>
      rw [e1, Bool.true_and] at h1
      rw [Bool.or_eq_false_iff, Bool.or_eq_false_iff] at h1
      rcases hi with hj | hj
      · subst hj
        exact absurd h1.2.1 (by decide)
      · rw [hj, h1.1, h1.2.2]
        rfl
theorem FR.s {W S : List (Nat × Nat)} {T M : jm} (h : FR W T M) (h1 : ksep W S = true) {a K : Nat} (hk : kd a = K) (j : Nat) (hs : (K, j) ∈ S) (i : Int) (hi : j = 1000 ∨ i.toNat = j) : M a i = T a i := h a i (by rw [hk]; exact kw_sep h1 hs i hi)
/-- the headers that were read end within 400 bytes -/
noncomputable def HC (M : jm) (t : Nat) : Prop := ∀ h : Int, 0 ≤ h → h < M t 3 → (0 ≤ M (t + 2) h + M (t + 3) h ∧ M (t + 2) h + M (t + 3) h ≤ 400) ∧ ((M (t + 1) h ≠ 2 ∧ M (t + 1) h ≠ 6) ∨ 8 ≤ M (t + 2) h + M (t + 3) h)
theorem HC.z {M : jm} {t : Nat} (h : M t 3 = 0) : HC M t := fun x h0 h1 => by omega
theorem HC.fr {W : List (Nat × Nat)} {T M : jm} {t : Nat} (h : HC T t) (f : FR W T M) (k : kd t = 18) (h1 : ksep W [(18, 3), (19, 1000), (20, 1000), (21, 1000)] = true) : HC M t := by
  intro x h0 hx
  have q1 := (kf_18_0 k).2
  have q2 := (kf_18_1 k).2
  have q3 := (kf_18_2 k).2
  rw [f.s h1 k 3 (by decide) 3 (Or.inr rfl)] at hx
  rw [f.s h1 q1 1000 (by decide) x (Or.inl rfl), f.s h1 q2 1000 (by decide) x (Or.inl rfl), f.s h1 q3 1000 (by decide) x (Or.inl rfl)]
  exact h x h0 hx
theorem HC.st {M : jm} {t : Nat} {c k a s : Int} (h : HC M t) (hk : kd t = 18) (hc : M t 3 = c) (h0 : 0 ≤ a + s ∧ a + s ≤ 400) (h6 : (k ≠ 2 ∧ k ≠ 6) ∨ 8 ≤ a + s) (hc0 : 0 ≤ c) : HC (ju (ju (ju (ju M (t + 1) c k) (t + 2) c a) (t + 3) c s) t 3 (c + 1)) t := by
  have n1 : t ≠ t + 1 := by omega
  have n2 : t ≠ t + 2 := by omega
  have n3 : t ≠ t + 3 := by omega
  intro x hx0 hx
  rw [ju_same] at hx
  by_cases e : x = c
  · subst e
    simp only [ju, show t + 1 ≠ t by omega, show t + 2 ≠ t by omega, show t + 3 ≠ t by omega, false_and, and_false, if_false, if_true, and_self, true_and, show t + 1 ≠ t + 3 by omega, show t + 1 ≠ t + 2 by omega, show t + 2 ≠ t + 3 by omega]
    refine ⟨h0, ?_⟩
    rcases h6 with q | q
    · exact Or.inl q
    · exact Or.inr q
  · simp only [ju, e, and_false, if_false, show t + 1 ≠ t by omega, show t + 2 ≠ t by omega, show t + 3 ≠ t by omega, false_and]
    exact h x hx0 (by omega)
/-- what is kept of a gathering has 8 bytes at least -/
noncomputable def GC (M : jm) : Prop := ∀ a : Nat, kd a = 15 → M a 11 = -1 ∨ 8 ≤ M a 11
theorem GC.fr {W : List (Nat × Nat)} {T M : jm} (h : GC T) (f : FR W T M) (h1 : ksep W [(15, 11)] = true) : GC M := fun a ha => by
  rw [f.s h1 ha 11 (by decide) 11 (Or.inr rfl)]
  exact h a ha
theorem GC.u {M : jm} {v : Int} {a : Nat} (h : GC M) (hv : v = -1 ∨ 8 ≤ v) : GC (ju M a 11 v) := fun b hb => by
  by_cases hq : b = a
  · subst hq
    rw [ju_same]
    exact hv
  · rw [ju_c M v hq]
    exact h b hb
theorem GC.n {M : jm} {v i : Int} {a K : Nat} (h : GC M) (hk : kd a = K) (h0 : K ≠ 15) : GC (ju M a i v) := fun b hb => by
  rw [ju_c M v (kd_ne (by rw [hb, hk]; exact fun q => h0 q.symm))]
  exact h b hb
theorem GC.m {M : jm} {v i : Int} {a : Nat} (h : GC M) (h0 : (11 : Int) ≠ i) : GC (ju M a i v) := fun b hb => by
  rw [ju_i M v h0]
  exact h b hb
/-- the logs are at most so long -/
noncomputable def LC (M : jm) (L : Int) : Prop := ∀ a : Nat, kd a = 27 → M a 5 ≤ L
theorem LC.le {M : jm} {L L' : Int} (h : LC M L) (hl : L ≤ L') : LC M L' := fun a ha => Int.le_trans (h a ha) hl
theorem LC.fr {W : List (Nat × Nat)} {T M : jm} {L : Int} (h : LC T L) (f : FR W T M) (h1 : ksep W [(27, 5)] = true) : LC M L := fun a ha => by
  rw [f.s h1 ha 5 (by decide) 5 (Or.inr rfl)]
  exact h a ha
theorem LC.u {M : jm} {L v : Int} {a : Nat} (h : LC M L) (hv : v ≤ L) : LC (ju M a 5 v) L := fun b hb => by
  by_cases hq : b = a
  · subst hq
    rw [ju_same]
    exact hv
  · rw [ju_c M v hq]
    exact h b hb
theorem LC.n {M : jm} {L v i : Int} {a K : Nat} (h : LC M L) (hk : kd a = K) (h0 : K ≠ 27) : LC (ju M a i v) L := fun b hb => by
  rw [ju_c M v (kd_ne (by rw [hb, hk]; exact fun q => h0 q.symm))]
  exact h b hb
theorem LC.m {M : jm} {L v i : Int} {a : Nat} (h : LC M L) (h0 : (5 : Int) ≠ i) : LC (ju M a i v) L := fun b hb => by
  rw [ju_i M v h0]
  exact h b hb
/-- jumps of the rules that are in force name chains -/
noncomputable def PC (M : jm) : Prop := ∀ i : Int, 0 ≤ i → i < M (M 421 2).toNat 2 → (M ((M 421 2).toNat + 1) i = 8 ∨ M ((M 421 2).toNat + 1) i = 9) → 0 ≤ M ((M 421 2).toNat + 2) i ∧ M ((M 421 2).toNat + 2) i ≤ 15
theorem PC.fr {W : List (Nat × Nat)} {T M : jm} (h : PC T) (hC : CI T) (f : FR W T M) (h1 : ksep W [(22, 2), (47, 2), (51, 1000), (48, 1000)] = true) : PC M := by
  have e : M 421 2 = T 421 2 := f.s h1 (show kd 421 = 22 from rfl) 2 (by decide) 2 (Or.inr rfl)
  have k : kd (T 421 2).toNat = 47 := CI.x hC (show kd 421 = 22 from rfl) 2 rfl (by decide)
  have q1 := (kf_47_0 k).2
  have q2 := (kf_47_1 k).2
  intro i h0 hs
  rw [e] at hs ⊢
  rw [f.s h1 k 2 (by decide) 2 (Or.inr rfl)] at hs
  rw [f.s h1 q1 1000 (by decide) i (Or.inl rfl), f.s h1 q2 1000 (by decide) i (Or.inl rfl)]
  exact h i h0 hs
theorem PC.at {M : jm} (h : PC M) {v i o a : Int} (e : M 421 2 = v) (ho : o = 63 ∨ ((0 ≤ i ∧ i < M v.toNat 2) ∧ o = M (v.toNat + 1) i)) (ha : a = 0 ∨ ((0 ≤ i ∧ i < M v.toNat 2) ∧ a = M (v.toNat + 2) i)) : (o ≠ 8 ∧ o ≠ 9) ∨ (0 ≤ a ∧ a ≤ 15) := by
  rcases ho with ho | ⟨h1, h2⟩
  · left; omega
  · rcases ha with ha | ⟨h3, h4⟩
    · right; omega
    · have q := h i h1.1 (by rw [e]; exact h1.2)
      rw [e, ← h2, ← h4] at q
      by_cases h8 : o = 8 ∨ o = 9
      · exact Or.inr (q h8)
      · left; omega
theorem pk0 : ∀ a, a < 598 → kd a = 47 → a = 414 ∨ a = 429 := by decide +kernel
theorem pk {a : Nat} (h : kd a = 47) : a = 414 ∨ a = 429 := pk0 a (kd_lt (by rw [h]; decide)) h
theorem pk5 : ∀ d, d < 5 → (47 ≤ kd (414 + d) ∧ kd (414 + d) ≤ 51) ∧ 47 ≤ kd (429 + d) ∧ kd (429 + d) ≤ 51 := by decide +kernel
theorem pkd {a : Nat} (h : a = 414 ∨ a = 429) {d : Nat} (hd : d < 5) : 47 ≤ kd (a + d) ∧ kd (a + d) ≤ 51 := by
  rcases h with rfl | rfl
  · exact (pk5 d hd).1
  · exact (pk5 d hd).2
/-- the rules that are in force are G, and are not those that are being read -/
noncomputable def MP (M : jm) (G : Nat → Int → Int) : Prop := M 413 2 ≠ M 421 2 ∧ ∀ d : Nat, d < 5 → ∀ k : Int, M ((M 421 2).toNat + d) k = G d k
theorem CI.p1 {M : jm} (h : CI M) : (M 413 2).toNat = 414 ∨ (M 413 2).toNat = 429 := pk (CI.x h (show kd 413 = 44 from rfl) 2 rfl (by decide))
theorem CI.p2 {M : jm} (h : CI M) : (M 421 2).toNat = 414 ∨ (M 421 2).toNat = 429 := pk (CI.x h (show kd 421 = 22 from rfl) 2 rfl (by decide))
theorem MP.w {M : jm} {G : Nat → Int → Int} (h : MP M G) (hC : CI M) {v i x : Int} {a : Nat} (e : M 413 2 = v) (ha : v.toNat ≤ a ∧ a < v.toNat + 5) : MP (ju M a i x) G := by
  have q1 := hC.p1
  have q2 := hC.p2
  have n1 : (413 : Nat) ≠ a := by rw [← e] at ha; omega
  have n2 : (421 : Nat) ≠ a := by rw [← e] at ha; omega
  have hne := h.1
  refine ⟨by rw [ju_c M x n1, ju_c M x n2]; exact h.1, fun d hd k => ?_⟩
  rw [ju_c M x n2]
  rw [ju_c M x (by rw [← e] at ha; omega)]
  exact h.2 d hd k
theorem MP.n {M : jm} {G : Nat → Int → Int} (h : MP M G) (hC : CI M) {i x : Int} {a K : Nat} (hk : kd a = K) (h0 : K < 47 ∨ 51 < K) (h2 : i ≠ 2 ∨ (K ≠ 44 ∧ K ≠ 22)) : MP (ju M a i x) G := by
  have q2 := hC.p2
  have e1 : ju M a i x 413 2 = M 413 2 := ju_ne M x (fun q => by
    rcases h2 with r | r
    · exact r q.2.symm
    · exact r.1 (by rw [← hk, ← q.1]; rfl))
  have e2 : ju M a i x 421 2 = M 421 2 := ju_ne M x (fun q => by
    rcases h2 with r | r
    · exact r q.2.symm
    · exact r.2 (by rw [← hk, ← q.1]; rfl))
  refine ⟨by rw [e1, e2]; exact h.1, fun d hd k => ?_⟩
  rw [e2, ju_c M x (fun q => by
    have r := pkd q2 hd
    rw [q, hk] at r
    omega)]
  exact h.2 d hd k
theorem MP.fr {W : List (Nat × Nat)} {T M : jm} {G : Nat → Int → Int} (h : MP T G) (hC : CI T) (f : FR W T M) (h1 : ksep W [(44, 2), (22, 2), (47, 1000), (48, 1000), (49, 1000), (50, 1000), (51, 1000)] = true) : MP M G := by
  have q2 := hC.p2
  have e1 : M 413 2 = T 413 2 := f.s h1 (show kd 413 = 44 from rfl) 2 (by decide) 2 (Or.inr rfl)
  have e2 : M 421 2 = T 421 2 := f.s h1 (show kd 421 = 22 from rfl) 2 (by decide) 2 (Or.inr rfl)
  refine ⟨by rw [e1, e2]; exact h.1, fun d hd k => ?_⟩
  rw [e2]
  have r := pkd q2 hd
  have e3 : M ((T 421 2).toNat + d) k = T ((T 421 2).toNat + d) k := by
    obtain ⟨K, hK⟩ : ∃ K, kd ((T 421 2).toNat + d) = K := ⟨_, rfl⟩
    rw [hK] at r
    refine f.s h1 hK 1000 ?_ k (Or.inl rfl)
    rcases (show K = 47 ∨ K = 48 ∨ K = 49 ∨ K = 50 ∨ K = 51 by omega) with rfl | rfl | rfl | rfl | rfl <;> decide
  rw [e3]
  exact h.2 d hd k
theorem PC.mp {T M : jm} {G : Nat → Int → Int} (h : PC T) (h1 : MP T G) (h2 : MP M G) (e : M 421 2 = T 421 2) : PC M := by
  have g : ∀ d : Nat, d < 5 → ∀ k : Int, M ((T 421 2).toNat + d) k = T ((T 421 2).toNat + d) k := fun d hd k => by
    have := h2.2 d hd k
    rw [e] at this
    rw [this, h1.2 d hd k]
  intro i h0 hs
  rw [e] at hs ⊢
  have g0 := g 0 (by decide) 2
  rw [Nat.add_zero] at g0
  rw [g0] at hs
  rw [g 1 (by decide), g 2 (by decide)]
  exact h i h0 hs
/-- rules whose jumps name chains -/
noncomputable def PG (G : Nat → Int → Int) : Prop := ∀ i : Int, 0 ≤ i → i < G 0 2 → (G 1 i = 8 ∨ G 1 i = 9) → 0 ≤ G 2 i ∧ G 2 i ≤ 15
theorem PC.g {M : jm} {G : Nat → Int → Int} (h : MP M G) (hg : PG G) : PC M := by
  intro i h0 hs
  have g0 := h.2 0 (by decide) 2
  rw [Nat.add_zero] at g0
  rw [g0] at hs
  rw [h.2 1 (by decide), h.2 2 (by decide)]
  exact hg i h0 hs
theorem PG.o {M : jm} (h : PC M) : PG (fun d k => M ((M 421 2).toNat + d) k) := fun i h0 hs => h i h0 hs
/-- jumps before place k of the rules that are read name chains, or they are refused -/
noncomputable def JR (M : jm) (k : Int) : Prop := M 413 0 ≠ 0 ∨ ∀ j : Int, 0 ≤ j → j < k → (M ((M 413 2).toNat + 1) j = 8 ∨ M ((M 413 2).toNat + 1) j = 9) → 0 ≤ M ((M 413 2).toNat + 2) j ∧ M ((M 413 2).toNat + 2) j ≤ 15
noncomputable def PR (M : jm) : Prop := JR M (M (M 413 2).toNat 2)
theorem JR.z (M : jm) : JR M 0 := Or.inr (fun j h0 h1 => by omega)
theorem JR.f {M : jm} {k : Int} (h : M 413 0 ≠ 0) : JR M k := Or.inl h
theorem PR.f {M : jm} (h : M 413 0 ≠ 0) : PR M := Or.inl h
theorem JR.e {M : jm} {i v u : Int} (h : JR M i) (e : M 413 2 = v) (e2 : M v.toNat 2 = u) (hu : u ≤ i) : PR M := by
  rcases h with h | h
  · exact Or.inl h
  · refine Or.inr (fun j h0 h1 => h j h0 ?_)
    rw [e, e2] at h1
    omega
theorem JR.n {M : jm} {i v o : Int} (h : JR M i) (e : M 413 2 = v) (ho : o = M (v.toNat + 1) i) (hn : o ≠ 8 ∧ o ≠ 9) : JR M (i + 1) := by
  rcases h with h | h
  · exact Or.inl h
  · refine Or.inr (fun j h0 h1 h2 => ?_)
    by_cases q : j = i
    · subst q
      rw [e, ← ho] at h2
      omega
    · exact h j h0 (by omega) h2
theorem JR.w {M : jm} {i v c : Int} (h : JR M i) (hC : CI M) (e : M 413 2 = v) (hc : 0 ≤ c ∧ c ≤ 15) : JR (ju M (v.toNat + 2) i c) (i + 1) := by
  have q1 := hC.p1
  rw [e] at q1
  have n1 : (413 : Nat) ≠ v.toNat + 2 := by omega
  rcases h with h | h
  · exact Or.inl (by rw [ju_c M c n1]; exact h)
  · refine Or.inr (fun j h0 h1 h2 => ?_)
    rw [ju_c M c n1, e] at h2 ⊢
    rw [ju_c M c (show v.toNat + 1 ≠ v.toNat + 2 by omega)] at h2
    by_cases q : j = i
    · subst q
      rw [ju_same]
      exact hc
    · rw [ju_i M c q]
      have r := h j h0 (by omega)
      rw [e] at r
      exact r h2
theorem PC.sw {M : jm} {u v : Int} (h : PR M) (hC : CI M) (h0 : M 413 0 = 0) (e : M 413 2 = v) : PC (ju (ju M 421 2 v) 413 2 u) := by
  have q1 := hC.p1
  rw [e] at q1
  have e1 : ju (ju M 421 2 v) 413 2 u 421 2 = v := by rw [ju_c _ u (by decide), ju_same]
  have g : ∀ d : Nat, d < 5 → ∀ k : Int, ju (ju M 421 2 v) 413 2 u (v.toNat + d) k = M (v.toNat + d) k := fun d hd k => by rw [ju_c _ u (by omega), ju_c M v (by omega)]
  intro i hi hs
  rw [e1] at hs ⊢
  have g0 := g 0 (by decide) 2
  rw [Nat.add_zero] at g0
  rw [g0] at hs
  rw [g 1 (by decide), g 2 (by decide)]
  rcases h with h | h
  · exact absurd h0 h
  · rw [e] at h
    exact h i hi hs
theorem FR.cpy {W : List (Nat × Nat)} {T M : jm} (h : FR W T M) {a d Kd : Nat} {sp dp n : Int} (hd : kd d = Kd) (h0 : ∀ i : Int, kw W Kd i = true) : FR W T (jcpy M a sp d dp n) := fun b k hb => (jcpy_ne M (fun q => by rw [q.1, hd, h0] at hb; exact absurd hb (by decide))).trans (h b k hb)
end
section
/-! ===== texts ===== -/
noncomputable abbrev HA (A : Nat → Option (Nat × (Nat → Int32))) : Prop := Nonempty (PLift ((A 300).isSome = true))
theorem HA_h {A : Nat → Option (Nat × (Nat → Int32))} (h : HA A) : (A 300).isSome = true := by
  obtain ⟨x⟩ := h
  exact x.down
noncomputable def sK (a : Nat) : Bool := Nat.ble 1000100 a && Nat.blt a 1000116
noncomputable def bK (a : Nat) : Bool := Nat.ble 1000200 a && Nat.blt a 1000216
theorem sK_r {a : Nat} (h : sK a = true) : 1000100 ≤ a ∧ a < 1000116 := by
  unfold sK at h
  rw [Bool.and_eq_true] at h
  exact ⟨Nat.ble_eq.mp h.1, Nat.blt_eq.mp h.2⟩
theorem bK_r {a : Nat} (h : bK a = true) : 1000200 ≤ a ∧ a < 1000216 := by
  unfold bK at h
  rw [Bool.and_eq_true] at h
  exact ⟨Nat.ble_eq.mp h.1, Nat.blt_eq.mp h.2⟩
theorem sK_b {a : Nat} (h : sK a = true) : bK (a + 100) = true := by
  have := sK_r h
  unfold bK
  rw [Bool.and_eq_true]
  exact ⟨Nat.ble_eq.mpr (by omega), Nat.blt_eq.mpr (by omega)⟩
noncomputable def slb (b : Nat) : Int := ((xS_len.getD (b - 1000000 - 200) 0 : Nat) : Int)
noncomputable def sbv (b : Nat) (i : Int) : Int := ((xS_byt.getD (b - 1000000 - 200) []).getD i.toNat 0).toInt
theorem slb0 : ∀ k, k < 16 → xS_len.getD k 0 ≤ 300 ∧ Int32.ofNat (xS_len.getD k 0) = Int32.ofInt ((xS_len.getD k 0 : Nat) : Int) := by decide +kernel
theorem slb_r {b : Nat} (h : bK b = true) : 0 ≤ slb b ∧ slb b ≤ 300 := by
  have := bK_r h
  have q := (slb0 (b - 1000000 - 200) (by omega)).1
  unfold slb
  omega
theorem sbv0 : ∀ k, k < 16 → ∀ i, i < xS_len.getD k 0 → (0 : Int) ≤ ((xS_byt.getD k []).getD i 0).toInt ∧ ((xS_byt.getD k []).getD i 0).toInt ≤ 127 := by decide +kernel
theorem sbv_r {b : Nat} {i : Int} (h : bK b = true) (h0 : 0 ≤ i) (h1 : i < slb b) : 0 ≤ sbv b i ∧ sbv b i ≤ 127 := by
  have := bK_r h
  unfold slb at h1
  exact sbv0 (b - 1000000 - 200) (by omega) i.toNat (by omega)
section ST
variable {A : Nat → Option (Nat × (Nat → Int32))} {D : Nat} {m : ix_M} {pc : Nat} {ls : ix_L} {st : List Value} {M : jm} {Q : Option Value → jm → Prop}
theorem jobjn (M : jm) {a : Nat} (h : xNc ≤ a) : ix_obj (jH M) a = none := by
  unfold ix_obj
  rw [show Nat.blt a (jH M).1 = false from by
    cases hb : Nat.blt a (jH M).1 with
    | false => rfl
    | true => exact absurd (Nat.blt_eq.mp hb) (Nat.not_lt.mpr h)]
  rfl
theorem xNc_le {a : Nat} (h : 1000000 ≤ a) : xNc ≤ a := Nat.le_trans (by decide) h
theorem blt_f {a b : Nat} (h : b ≤ a) : Nat.blt a b = false := by
  cases hb : Nat.blt a b with
  | false => rfl
  | true => have := Nat.blt_eq.mp hb; omega
theorem sK_o (A : Nat → Option (Nat × (Nat → Int32))) {a : Nat} (h : sK a = true) : ix_cno (xT A) a = some (a - 1000000 + 100) := by
  have hr := sK_r h
  unfold ix_cno
  rw [blt_f (by omega), cond_false]
  obtain ⟨k, hk⟩ : ∃ k, a - 1000000 = k := ⟨_, rfl⟩
  rw [hk]
  show xT_O k = some (k + 100)
  unfold xT_O
  rw [show (Nat.ble 100 k && Nat.blt k 116) = true from by rw [Bool.and_eq_true]; exact ⟨Nat.ble_eq.mpr (by omega), Nat.blt_eq.mpr (by omega)⟩]
  rfl
theorem bK_b (A : Nat → Option (Nat × (Nat → Int32))) {b : Nat} (h : bK b = true) : ix_cnb (xT A) b = some (xS_len.getD (b - 1000000 - 200) 0, fun j => (xS_byt.getD (b - 1000000 - 200) []).getD j 0) := by
  have hr := bK_r h
  unfold ix_cnb
  rw [blt_f (by omega), cond_false]
  obtain ⟨k, hk⟩ : ∃ k, b - 1000000 = k := ⟨_, rfl⟩
  rw [hk]
  show xT_B k = some (xS_len.getD (k - 200) 0, fun j => (xS_byt.getD (k - 200) []).getD j 0)
  unfold xT_B
  rw [show (Nat.ble 200 k && Nat.blt k 216) = true from by rw [Bool.and_eq_true]; exact ⟨Nat.ble_eq.mpr (by omega), Nat.blt_eq.mpr (by omega)⟩]
  rfl
theorem xT_A9 (A : Nat → Option (Nat × (Nat → Int32))) (j : Nat) : xT_A A (j + 9) = none := rfl
theorem bK_s (A : Nat → Option (Nat × (Nat → Int32))) {b : Nat} (h : bK b = true) : ix_cns (xT A) b = none := by
  have hr := bK_r h
  unfold ix_cns
  rw [blt_f (by omega), cond_false]
  obtain ⟨k, hk⟩ : ∃ k, b - 1000000 = k + 9 := ⟨b - 1000000 - 9, by omega⟩
  rw [hk]
  exact xT_A9 A k
theorem jr.ldcs {idx a : Nat} (hi : m.2.2.2.2.2.2 pc = some (.ldc idx)) (hk : ix_tK (xT A) m.1 idx = some (.ref a)) (k : jr A D m (pc + 2) ls (.ref a :: st) M Q) : jr A D m pc ls st M Q := jr_sem hi (fun f => by simp [ix_sem, ix_ret, ix_alu, ix_loc, ix_hp, ix_len, hk]) k
theorem jr.gsv {idx a : Nat} (hi : m.2.2.2.2.2.2 pc = some (.getfield idx)) (hF : ix_tF (xT A) m.1 idx = none) (hG : ix_tG (xT A) m.1 idx = some true) (h : sK a = true) (k : jr A D m (pc + 3) ls (.ref (a + 100) :: st) M Q) : jr A D m pc ls (.ref a :: st) M Q := jr_sem hi (fun f => by
  have e := sK_o A h
  have e2 : 1000000 + (a - 1000000 + 100) = a + 100 := by have := sK_r h; omega
  simp [ix_sem, ix_ret, ix_alu, ix_loc, ix_hp, ix_len, hF, hG, e, e2]) k
theorem jr.gsc {idx a : Nat} (hi : m.2.2.2.2.2.2 pc = some (.getfield idx)) (hF : ix_tF (xT A) m.1 idx = none) (hG : ix_tG (xT A) m.1 idx = some false) (h : sK a = true) (k : jr A D m (pc + 3) ls (.int (Int32.ofInt 0) :: st) M Q) : jr A D m pc ls (.ref a :: st) M Q := jr_sem hi (fun f => by
  have e := sK_o A h
  show _ = some (Sum.inl (pc + 3, ls, Value.int 0 :: st, jH M))
  simp [ix_sem, ix_ret, ix_alu, ix_loc, ix_hp, ix_len, hF, hG, e]) k
theorem jr.blen {b : Nat} (v : Int) (hi : m.2.2.2.2.2.2 pc = some .arraylength) (h : bK b = true) (hv : slb b = v) (k : jr A D m (pc + 1) ls (.int (Int32.ofInt v) :: st) M Q) : jr A D m pc ls (.ref b :: st) M Q := jr_sem hi (fun f => by
  have hb := bK_r h
  have e1 := jarrn M (a := b) (xNc_le (by omega))
  have e2 := bK_s A h
  have e3 := bK_b A h
  have e4 : Int32.ofInt v = Int32.ofNat (xS_len.getD (b - 1000000 - 200) 0) := by rw [← hv]; exact (slb0 (b - 1000000 - 200) (by omega)).2.symm
  rw [e4]
  simp [ix_sem, ix_ret, ix_alu, ix_loc, ix_hp, ix_len, e1, e2, e3]) k
theorem jr.bald {b : Nat} {i : Int} (v : Int) (hi : m.2.2.2.2.2.2 pc = some .baload) (h : bK b = true) (h0 : 0 ≤ i) (h1 : i < slb b) (hv : sbv b i = v) (k : jr A D m (pc + 1) ls (.int (Int32.ofInt v) :: st) M Q) : jr A D m pc ls (.int (Int32.ofInt i) :: .ref b :: st) M Q := jr_sem hi (fun f => by
  have hb := bK_r h
  have e1 := jarrn M (a := b) (xNc_le (by omega))
  have e3 := bK_b A h
  have hq := slb_r h
  have hlen : xS_len.getD (b - 1000000 - 200) 0 ≤ 2000000 := by have := (slb0 (b - 1000000 - 200) (by omega)).1; omega
  obtain ⟨q1, q2⟩ := jin h0 (show i < ((xS_len.getD (b - 1000000 - 200) 0 : Nat) : Int) from h1) hlen
  have e4 : Int32.ofInt v = (xS_byt.getD (b - 1000000 - 200) []).getD i.toNat 0 := by rw [← hv]; exact Int32.ofInt_toInt _
  rw [e4]
  have hs : ix_hp (xT A) m.1 m.2.2.2.2.2.1 .baload (.int (Int32.ofInt i) :: .ref b :: st) (jH M) = some (.int ((xS_byt.getD (b - 1000000 - 200) []).getD i.toNat 0) :: st, jH M) := by
    unfold ix_hp
    simp only [e1, e3]
    rw [if_neg q1, q2]
  simp [ix_sem, ix_ret, ix_alu, ix_loc, ix_len, hs]) k
noncomputable def xfmv (A : Nat → Option (Nat × (Nat → Int32))) : Value := match A 300 with
  | none => .null
  | some q => bif Nat.beq q.1 0 then .null else .ref 1000300
theorem xfmv_or (A : Nat → Option (Nat × (Nat → Int32))) : xfmv A = .null ∨ xfmv A = .ref 1000300 := by
  unfold xfmv
  cases A 300 with
  | none => exact Or.inl rfl
  | some q =>
    show (bif Nat.beq q.1 0 then Value.null else Value.ref 1000300) = .null ∨ (bif Nat.beq q.1 0 then Value.null else Value.ref 1000300) = .ref 1000300
    cases Nat.beq q.1 0
    · exact Or.inr rfl
    · exact Or.inl rfl
theorem jr.gfm [hA : HA A] {idx : Nat} (hi : m.2.2.2.2.2.2 pc = some (.getstatic idx)) (hs : ix_tS (xT A) m.1 idx = (match A 300 with
  | none => none
  | some q => bif Nat.beq q.1 0 then some .null else some (.ref 1000300))) (k : jr A D m (pc + 3) ls (xfmv A :: st) M Q) : jr A D m pc ls st M Q := by
  refine jr.gst (v := xfmv A) hi ?_ k
  rw [hs]
  have h := HA_h hA
  unfold xfmv
  cases e : A 300 with
  | none => rw [e] at h; exact absurd h (by decide)
  | some q =>
    show (bif Nat.beq q.1 0 then some Value.null else some (Value.ref 1000300)) = some (bif Nat.beq q.1 0 then Value.null else Value.ref 1000300)
    cases Nat.beq q.1 0 <;> rfl
theorem ix_cal_8 {f : ix_F} {oc idx mid na a b : Nat} {st rest : List Value} {rv : Option Value} {hp hp' : ix_H} (h1 : ix_tI (xT A) oc idx = some (8, mid, na)) (h2 : st.drop na = .ref a :: rest) (h3 : ix_cno (xT A) a = some b) (h5 : ix_cats rest ≤ 8 ∧ na ≤ st.length) (hf : f mid (.ref a :: (st.take na).reverse) hp = some (rv, hp')) : ix_cal (xT A) f oc (.invokevirtual idx) st hp = some (rv.toList ++ rest, hp') := by
  unfold ix_cal
  simp [h1, h2, h3, h5, hf]
theorem jr_v8 {idx mid na a : Nat} {rest : List Value} (hi : m.2.2.2.2.2.2 pc = some (.invokevirtual idx)) (h1 : ix_tI (xT A) m.1 idx = some (8, mid, na)) (h2 : st.drop na = .ref a :: rest) (h : sK a = true) (h5 : ix_cats rest ≤ 8 ∧ na ≤ st.length) {av : List Value} (hav : .ref a :: (st.take na).reverse = av) (k : jc A D mid av M (fun rv M1 => jr A D m (pc + 3) ls (rv.toList ++ rest) M1 Q)) : jr A D m pc ls st M Q :=
  jr_cal (Or.inl ⟨_, rfl⟩) hi (fun f rv M1 hf => ix_cal_8 h1 h2 (sK_o A h) h5 (by rw [hav]; exact hf)) k
end ST
theorem j_c_ex0 : ∀ n : Nat, n < 256 → j_c (n : Int) = n := by decide +kernel
theorem j_c_ex {x : Int} (h : 0 ≤ x ∧ x ≤ 255) : j_c x = x := by
  have q := j_c_ex0 x.toNat (by omega)
  rw [Int.toNat_of_nonneg h.1] at q
  exact q
theorem j_cr0 : ∀ n : Nat, n < 256 → narrow .char (.int (Int32.ofInt (n : Int))) = .int (Int32.ofInt (n : Int)) ∧ fits .char (.int (Int32.ofInt (n : Int))) = true := by decide +kernel
theorem j_cr {x : Int} (h : 0 ≤ x ∧ x ≤ 255) : narrow .char (.int (Int32.ofInt x)) = .int (Int32.ofInt x) := by
  have q := (j_cr0 x.toNat (by omega)).1
  rw [Int.toNat_of_nonneg h.1] at q
  exact q
theorem j_fc {x : Int} (h : 0 ≤ x ∧ x ≤ 255) : fits .char (.int (Int32.ofInt x)) = true := by
  have q := (j_cr0 x.toNat (by omega)).2
  rw [Int.toNat_of_nonneg h.1] at q
  exact q
end
section
/-! ===== the class's methods: small ones ===== -/
theorem c_Packet_isThere {A : Nat → Option (Nat × (Nat → Int32))} {Q : Option Value → jm → Prop} {M : jm} (hC_M : CI M) {t : Nat} (k_t : kd t = 33) (q : ∀ (r : Int), 0 ≤ r ∧ r ≤ 1 → ((r = 0 ∧ M t 1 = -1) ∨ (r = 1 ∧ M t 1 ≠ -1)) → Q (some (.int (Int32.ofInt r))) M) : jc A 1 190 [.ref (t)] M Q := by
  refine jc_of (m := xm_190) rfl (Nat.le_of_ble_eq_true rfl) rfl ?_
  refine jr.aload_n rfl rfl ?_
  obtain ⟨v1, e1⟩ : ∃ z_, M t 1 = z_ := ⟨_, rfl⟩
  have b1 : (-1) ≤ v1 ∧ v1 ≤ 400 := by rw [← e1]; exact (CI.r hC_M k_t (by decide) 1)
  refine jr.getf (i := 1) (x := v1) (v := .int (Int32.ofInt (v1))) rfl rfl (Nat.lt_trans (kx_33 k_t).1 (by decide)) (kx_33 k_t).2 (by decide) rfl rfl e1 rfl ?_
  refine jr.iconst rfl ?_
  refine jr.icmp_eq rfl rfl (by first | (refine rgb (by assumption) ?_; exact rfl) | omega) (rgl rfl) (fun h5 => ?_) (fun h5 => ?_)
  · refine jr.iconst rfl ?_
    exact jr.ireturn rfl rfl rfl (q _ (by first | exact rgq rfl | omega) (by have hq0 : M t 1 = v1 := e1; omega))
  · have sx5 : (0 : Int) ≤ v1 := by omega
    clear h5
    refine jr.iconst rfl ?_
    refine jr.goto rfl rfl ?_
    exact jr.ireturn rfl rfl rfl (q _ (by first | exact rgq rfl | omega) (by have hq0 : M t 1 = v1 := e1; omega))
theorem c_Packet_byteAt {A : Nat → Option (Nat × (Nat → Int32))} {Q : Option Value → jm → Prop} {M : jm} (hC_M : CI M) {t : Nat} (k_t : kd t = 33) {x : Int} (h_x : (-2147483648) ≤ x ∧ x ≤ 2147483647) (q : ∀ (r : Int), (-1) ≤ r ∧ r ≤ 255 → Q (some (.int (Int32.ofInt r))) M) : jc A 1 192 [.ref (t), .int (Int32.ofInt (x))] M Q := by
  refine jc_of (m := xm_192) rfl (Nat.le_of_ble_eq_true rfl) rfl ?_
  refine jr.iload_n rfl rfl ?_
  refine jr.if_lt rfl rfl (by first | (refine rgb (by assumption) ?_; exact rfl) | omega) (fun h1 => ?_) (fun h1 => ?_)
  · refine jr.iconst rfl ?_
    exact jr.ireturn rfl rfl rfl (q _ (by first | exact rgq rfl | omega) )
  · refine jr.iload_n rfl rfl ?_
    refine jr.aload_n rfl rfl ?_
    obtain ⟨v1, e1⟩ : ∃ z_, M t 1 = z_ := ⟨_, rfl⟩
    have b1 : (-1) ≤ v1 ∧ v1 ≤ 400 := by rw [← e1]; exact (CI.r hC_M k_t (by decide) 1)
    refine jr.getf (i := 1) (x := v1) (v := .int (Int32.ofInt (v1))) rfl rfl (Nat.lt_trans (kx_33 k_t).1 (by decide)) (kx_33 k_t).2 (by decide) rfl rfl e1 rfl ?_
    refine jr.icmp_ge rfl rfl (by first | (refine rgb (by assumption) ?_; exact rfl) | omega) (by first | (refine rgb (by assumption) ?_; exact rfl) | omega) (fun h9 => ?_) (fun h9 => ?_)
    · refine jr.iconst rfl ?_
      exact jr.ireturn rfl rfl rfl (q _ (by first | exact rgq rfl | omega) )
    · refine jr.aload_n rfl rfl ?_
      have k2 := kf_33_0 k_t
      refine jr.getf (i := 0) (v := .ref (t + 1)) rfl rfl (Nat.lt_trans (kx_33 k_t).1 (by decide)) (kx_33 k_t).2 (by decide) rfl rfl rfl (jval_ref rfl k2.1) ?_
      refine jr.iload_n rfl rfl ?_
      obtain ⟨v3, e3⟩ : ∃ z_, M ((t + 1)) x = z_ := ⟨_, rfl⟩
      have b3 : (-1) ≤ v3 ∧ v3 ≤ 255 := by rw [← e3]; exact (CI.r hC_M k2.2 (by decide) x)
      refine jr.iald (i := x) (x := v3) rfl (Nat.lt_trans (kx_34 k2.2).1 (by decide)) (kx_34 k2.2).2 (by decide) (by omega) (by omega) e3 ?_
      refine jr.goto rfl rfl ?_
      exact jr.ireturn rfl rfl rfl (q _ (by omega) )
theorem c_Packet_hasByte {A : Nat → Option (Nat × (Nat → Int32))} {Q : Option Value → jm → Prop} {M : jm} (hC_M : CI M) {t : Nat} (k_t : kd t = 33) {x : Int} (h_x : (-9223372036854775808) ≤ x ∧ x ≤ 9223372036854775807) (q : ∀ (r : Int), 0 ≤ r ∧ r ≤ 1 → (r = 0 ∨ (0 ≤ x ∧ x ≤ 399)) → Q (some (.int (Int32.ofInt r))) M) : jc A 1 191 [.ref (t), .long (Int64.ofInt (x))] M Q := by
  refine jc_of (m := xm_191) rfl (Nat.le_of_ble_eq_true rfl) rfl ?_
  refine jr.lload_n rfl rfl ?_
  refine jr.lconst (x := 0) rfl (by decide) ?_
  refine jr.lcmp_lt rfl rfl rfl (by omega) (by omega) (fun h2 => ?_) (fun h2 => ?_)
  · refine jr.iconst rfl ?_
    exact jr.ireturn rfl rfl rfl (q _ (by first | exact rgq rfl | omega) (by omega))
  · refine jr.lload_n rfl rfl ?_
    refine jr.aload_n rfl rfl ?_
    obtain ⟨v1, e1⟩ : ∃ z_, M t 1 = z_ := ⟨_, rfl⟩
    have b1 : (-1) ≤ v1 ∧ v1 ≤ 400 := by rw [← e1]; exact (CI.r hC_M k_t (by decide) 1)
    refine jr.getf (i := 1) (x := v1) (v := .int (Int32.ofInt (v1))) rfl rfl (Nat.lt_trans (kx_33 k_t).1 (by decide)) (kx_33 k_t).2 (by decide) rfl rfl e1 rfl ?_
    refine jr.i2l rfl (by omega) ?_
    refine jr.lcmp_ge rfl rfl rfl (by omega) (by omega) (fun h12 => ?_) (fun h12 => ?_)
    · refine jr.iconst rfl ?_
      exact jr.ireturn rfl rfl rfl (q _ (by first | exact rgq rfl | omega) (by omega))
    · refine jr.iconst rfl ?_
      refine jr.goto rfl rfl ?_
      exact jr.ireturn rfl rfl rfl (q _ (by first | exact rgq rfl | omega) (by omega))
theorem c_Row_hasItem {A : Nat → Option (Nat × (Nat → Int32))} {Q : Option Value → jm → Prop} {M : jm} (hC_M : CI M) {t : Nat} (k_t : kd t = 52) {x : Int} (h_x : (-9223372036854775808) ≤ x ∧ x ≤ 9223372036854775807) (q : ∀ (r : Int), 0 ≤ r ∧ r ≤ 1 → (r = 0 ∨ (0 ≤ x ∧ x ≤ 39)) → Q (some (.int (Int32.ofInt r))) M) : jc A 1 233 [.ref (t), .long (Int64.ofInt (x))] M Q := by
  refine jc_of (m := xm_233) rfl (Nat.le_of_ble_eq_true rfl) rfl ?_
  refine jr.lload_n rfl rfl ?_
  refine jr.lconst (x := 0) rfl (by decide) ?_
  refine jr.lcmp_lt rfl rfl rfl (by omega) (by omega) (fun h2 => ?_) (fun h2 => ?_)
  · refine jr.iconst rfl ?_
    exact jr.ireturn rfl rfl rfl (q _ (by first | exact rgq rfl | omega) (by omega))
  · refine jr.lload_n rfl rfl ?_
    refine jr.aload_n rfl rfl ?_
    obtain ⟨v1, e1⟩ : ∃ z_, M t 1 = z_ := ⟨_, rfl⟩
    have b1 : 0 ≤ v1 ∧ v1 ≤ 40 := by rw [← e1]; exact (CI.r hC_M k_t (by decide) 1)
    refine jr.getf (i := 1) (x := v1) (v := .int (Int32.ofInt (v1))) rfl rfl (Nat.lt_trans (kx_52 k_t).1 (by decide)) (kx_52 k_t).2 (by decide) rfl rfl e1 rfl ?_
    refine jr.i2l rfl (by omega) ?_
    refine jr.lcmp_ge rfl rfl rfl (by omega) (by omega) (fun h12 => ?_) (fun h12 => ?_)
    · refine jr.iconst rfl ?_
      exact jr.ireturn rfl rfl rfl (q _ (by first | exact rgq rfl | omega) (by omega))
    · refine jr.iconst rfl ?_
      refine jr.goto rfl rfl ?_
      exact jr.ireturn rfl rfl rfl (q _ (by first | exact rgq rfl | omega) (by omega))
theorem c_Row_isOfHeaders {A : Nat → Option (Nat × (Nat → Int32))} {Q : Option Value → jm → Prop} {M : jm} (hC_M : CI M) {t : Nat} (k_t : kd t = 52) (q : ∀ (r : Int), 0 ≤ r ∧ r ≤ 1 → Q (some (.int (Int32.ofInt r))) M) : jc A 1 234 [.ref (t)] M Q := by
  refine jc_of (m := xm_234) rfl (Nat.le_of_ble_eq_true rfl) rfl ?_
  refine jr.aload_n rfl rfl ?_
  obtain ⟨v1, e1⟩ : ∃ z_, M t 0 = z_ := ⟨_, rfl⟩
  have b1 : (-2147483648) ≤ v1 ∧ v1 ≤ 2147483647 := by rw [← e1]; exact (CI.r hC_M k_t (by decide) 0)
  refine jr.getf (i := 0) (x := v1) (v := .int (Int32.ofInt (v1))) rfl rfl (Nat.lt_trans (kx_52 k_t).1 (by decide)) (kx_52 k_t).2 (by decide) rfl rfl e1 rfl ?_
  refine jr.iconst rfl ?_
  refine jr.icmp_lt rfl rfl (by first | (refine rgb (by assumption) ?_; exact rfl) | omega) (rgl rfl) (fun h5 => ?_) (fun h5 => ?_)
  · refine jr.iconst rfl ?_
    exact jr.ireturn rfl rfl rfl (q _ (by first | exact rgq rfl | omega) )
  · refine jr.iconst rfl ?_
    refine jr.goto rfl rfl ?_
    exact jr.ireturn rfl rfl rfl (q _ (by first | exact rgq rfl | omega) )
theorem c_PacketWall_countGatherings_L4 {A : Nat → Option (Nat × (Nat → Int32))} {Q : Option Value → jm → Prop} {M : jm} (hC_M : CI M) (q : ∀ (r : Int), 0 ≤ r ∧ r ≤ 8 → Q (some (.int (Int32.ofInt r))) M) : ∀ (nM : Nat) (c : Int) (i : Int), 0 ≤ c ∧ c ≤ 8 → 0 ≤ i ∧ i ≤ 8 → (c ≤ i) → 8 - i ≤ nM → jr A 0 xm_44 4 [(1, .int (Int32.ofInt (c))), (2, .int (Int32.ofInt (i))), (0, .ref (0))] [] M Q := by
  intro nM
  induction nM using Nat.strongRecOn with
  | ind nM ih =>
    intro c i h_c h_i hy0 hm
    refine jr.iload_n rfl rfl ?_
    refine jr.bipush rfl (jbp _ (nlt rfl)) ?_
    refine jr.icmp_ge rfl rfl (by first | (refine rgb (by assumption) ?_; exact rfl) | omega) (rgl rfl) (fun h7 => ?_) (fun h7 => ?_)
    · refine jr.iload_n rfl rfl ?_
      exact jr.ireturn rfl rfl rfl (q _ (by omega) )
    · refine jr.iload_n rfl rfl ?_
      refine jr.aload_n rfl rfl ?_
      refine jr.getf (i := 5) (v := .ref 10) rfl rfl (nlt rfl) rfl (nlt rfl) rfl rfl rfl rfl ?_
      refine jr.iload_n rfl rfl ?_
      have k1 := kxe_40 (a := 10) rfl (i := i) (by omega) (by omega)
      refine jr.aald (c := (xe 10 i)) rfl (by decide) rfl (by decide) (by decide) rfl (by decide) (by omega) (by omega) k1.1 ?_
      obtain ⟨v2, e2⟩ : ∃ z_, M ((xe 10 i)) 0 = z_ := ⟨_, rfl⟩
      have b2 : 0 ≤ v2 ∧ v2 ≤ 1 := by rw [← e2]; exact (CI.r hC_M k1.2 (by decide) 0)
      refine jr.getf (i := 0) (x := v2) (v := .int (Int32.ofInt (v2))) rfl rfl (Nat.lt_trans (kx_15 k1.2).1 (by decide)) (kx_15 k1.2).2 (by decide) rfl rfl e2 rfl ?_
      refine jr.if_eq rfl rfl (by first | (refine rgb (by assumption) ?_; exact rfl) | omega) (fun h20 => ?_) (fun h20 => ?_)
      · refine jr.iconst rfl ?_
        refine jr.iadd rfl ?_
        refine jr.istore_n (ls' := [_, _, _]) rfl (nlt rfl) rfl ?_
        refine jr.iinc (ls' := [_, _, _]) rfl rfl (nlt rfl) rfl ?_
        refine jr.goto rfl rfl ?_
        refine jr.pick (ls := [_, _, _]) [1, 0, 2] rfl rfl ?_
        exact ih (nM - 1) (by omega) (c + 0) (i + 1) (by omega) (by omega) (by omega) (by omega)
      · have sx20 : (1 : Int) ≤ v2 := by omega
        clear h20
        refine jr.iconst rfl ?_
        refine jr.goto rfl rfl ?_
        refine jr.iadd rfl ?_
        refine jr.istore_n (ls' := [_, _, _]) rfl (nlt rfl) rfl ?_
        refine jr.iinc (ls' := [_, _, _]) rfl rfl (nlt rfl) rfl ?_
        refine jr.goto rfl rfl ?_
        refine jr.pick (ls := [_, _, _]) [1, 0, 2] rfl rfl ?_
        exact ih (nM - 1) (by omega) (c + 1) (i + 1) (by omega) (by omega) (by omega) (by omega)
theorem c_PacketWall_countGatherings {A : Nat → Option (Nat × (Nat → Int32))} {Q : Option Value → jm → Prop} {M : jm} (hC_M : CI M) (q : ∀ (r : Int), 0 ≤ r ∧ r ≤ 8 → Q (some (.int (Int32.ofInt r))) M) : jc A 1 44 [.ref (0)] M Q := by
  refine jc_of (m := xm_44) rfl (Nat.le_of_ble_eq_true rfl) rfl ?_
  refine jr.iconst rfl ?_
  refine jr.istore_n (ls' := [_, _]) rfl (nlt rfl) rfl ?_
  refine jr.iconst rfl ?_
  refine jr.istore_n (ls' := [_, _, _]) rfl (nlt rfl) rfl ?_
  refine jr.pick (ls := [_, _, _]) [1, 0, 2] rfl rfl ?_
  exact c_PacketWall_countGatherings_L4 hC_M  q 8 0 0 (by omega) (by omega) (by omega) (by omega)
theorem c_Flows_isLive {A : Nat → Option (Nat × (Nat → Int32))} {Q : Option Value → jm → Prop} {M : jm} (hC_M : CI M) {x : Int} (h_x : (-2147483648) ≤ x ∧ x ≤ 2147483647) (q : ∀ (r : Int), 0 ≤ r ∧ r ≤ 1 → (r = 0 ∨ (0 ≤ x ∧ x ≤ 23)) → Q (some (.int (Int32.ofInt r))) M) : jc A 1 74 [.ref (15), .int (Int32.ofInt (x))] M Q := by
  refine jc_of (m := xm_74) rfl (Nat.le_of_ble_eq_true rfl) rfl ?_
  refine jr.iload_n rfl rfl ?_
  refine jr.if_lt rfl rfl (by first | (refine rgb (by assumption) ?_; exact rfl) | omega) (fun h1 => ?_) (fun h1 => ?_)
  · refine jr.iconst rfl ?_
    exact jr.ireturn rfl rfl rfl (q _ (by first | exact rgq rfl | omega) (by omega))
  · refine jr.iload_n rfl rfl ?_
    refine jr.bipush rfl (jbp _ (nlt rfl)) ?_
    refine jr.icmp_ge rfl rfl (by first | (refine rgb (by assumption) ?_; exact rfl) | omega) (rgl rfl) (fun h7 => ?_) (fun h7 => ?_)
    · refine jr.iconst rfl ?_
      exact jr.ireturn rfl rfl rfl (q _ (by first | exact rgq rfl | omega) (by omega))
    · refine jr.aload_n rfl rfl ?_
      obtain ⟨v1, e1⟩ : ∃ z_, M 15 0 = z_ := ⟨_, rfl⟩
      have b1 : 16 ≤ v1 ∧ v1 ≤ 17 := by rw [← e1]; exact (CI.r hC_M (show kd 15 = 9 from rfl) (by decide) 0)
      have k2 : kd (v1).toNat = 13 := by rcases (show v1 = 16 ∨ v1 = 17 by omega) with h | h <;> (rw [h]; rfl)
      refine jr.getf (i := 0) (x := v1) (v := .ref (v1.toNat)) rfl rfl (nlt rfl) rfl (nlt rfl) rfl rfl e1 rfl ?_
      refine jr.iload_n rfl rfl ?_
      have k3 := kxe_13 k2 (i := x) (by omega) (by omega)
      refine jr.aald (c := (xe ((v1.toNat)) x)) rfl (Nat.lt_trans (kx_13 k2).1 (by decide)) (kx_13 k2).2 (by decide) (by decide) rfl (by decide) (by omega) (by omega) k3.1 ?_
      obtain ⟨v4, e4⟩ : ∃ z_, M ((xe ((v1.toNat)) x)) 0 = z_ := ⟨_, rfl⟩
      have b4 : 0 ≤ v4 ∧ v4 ≤ 1 := by rw [← e4]; exact (CI.r hC_M k3.2 (by decide) 0)
      refine jr.getf (i := 0) (x := v4) (v := .int (Int32.ofInt (v4))) rfl rfl (Nat.lt_trans (kx_1 k3.2).1 (by decide)) (kx_1 k3.2).2 (by decide) rfl rfl e4 rfl ?_
      refine jr.if_eq rfl rfl (by first | (refine rgb (by assumption) ?_; exact rfl) | omega) (fun h19 => ?_) (fun h19 => ?_)
      · refine jr.iconst rfl ?_
        exact jr.ireturn rfl rfl rfl (q _ (by first | exact rgq rfl | omega) (by omega))
      · have sx19 : (1 : Int) ≤ v4 := by omega
        clear h19
        refine jr.iconst rfl ?_
        refine jr.goto rfl rfl ?_
        exact jr.ireturn rfl rfl rfl (q _ (by first | exact rgq rfl | omega) (by omega))
theorem c_Flows_countLive_L4 {A : Nat → Option (Nat × (Nat → Int32))} {Q : Option Value → jm → Prop} {M : jm} (hC_M : CI M) (q : ∀ (r : Int), 0 ≤ r ∧ r ≤ 24 → Q (some (.int (Int32.ofInt r))) M) : ∀ (nM : Nat) (c : Int) (i : Int), 0 ≤ c ∧ c ≤ 24 → 0 ≤ i ∧ i ≤ 24 → (c ≤ i) → 24 - i ≤ nM → jr A 0 xm_75 4 [(1, .int (Int32.ofInt (c))), (2, .int (Int32.ofInt (i))), (0, .ref (15))] [] M Q := by
  intro nM
  induction nM using Nat.strongRecOn with
  | ind nM ih =>
    intro c i h_c h_i hy0 hm
    refine jr.iload_n rfl rfl ?_
    refine jr.bipush rfl (jbp _ (nlt rfl)) ?_
    refine jr.icmp_ge rfl rfl (by first | (refine rgb (by assumption) ?_; exact rfl) | omega) (rgl rfl) (fun h7 => ?_) (fun h7 => ?_)
    · refine jr.iload_n rfl rfl ?_
      exact jr.ireturn rfl rfl rfl (q _ (by omega) )
    · refine jr.iload_n rfl rfl ?_
      refine jr.aload_n rfl rfl ?_
      obtain ⟨v1, e1⟩ : ∃ z_, M 15 0 = z_ := ⟨_, rfl⟩
      have b1 : 16 ≤ v1 ∧ v1 ≤ 17 := by rw [← e1]; exact (CI.r hC_M (show kd 15 = 9 from rfl) (by decide) 0)
      have k2 : kd (v1).toNat = 13 := by rcases (show v1 = 16 ∨ v1 = 17 by omega) with h | h <;> (rw [h]; rfl)
      refine jr.getf (i := 0) (x := v1) (v := .ref (v1.toNat)) rfl rfl (nlt rfl) rfl (nlt rfl) rfl rfl e1 rfl ?_
      refine jr.iload_n rfl rfl ?_
      have k3 := kxe_13 k2 (i := i) (by omega) (by omega)
      refine jr.aald (c := (xe ((v1.toNat)) i)) rfl (Nat.lt_trans (kx_13 k2).1 (by decide)) (kx_13 k2).2 (by decide) (by decide) rfl (by decide) (by omega) (by omega) k3.1 ?_
      obtain ⟨v4, e4⟩ : ∃ z_, M ((xe ((v1.toNat)) i)) 0 = z_ := ⟨_, rfl⟩
      have b4 : 0 ≤ v4 ∧ v4 ≤ 1 := by rw [← e4]; exact (CI.r hC_M k3.2 (by decide) 0)
      refine jr.getf (i := 0) (x := v4) (v := .int (Int32.ofInt (v4))) rfl rfl (Nat.lt_trans (kx_1 k3.2).1 (by decide)) (kx_1 k3.2).2 (by decide) rfl rfl e4 rfl ?_
      refine jr.if_eq rfl rfl (by first | (refine rgb (by assumption) ?_; exact rfl) | omega) (fun h20 => ?_) (fun h20 => ?_)
      · refine jr.iconst rfl ?_
        refine jr.iadd rfl ?_
        refine jr.istore_n (ls' := [_, _, _]) rfl (nlt rfl) rfl ?_
        refine jr.iinc (ls' := [_, _, _]) rfl rfl (nlt rfl) rfl ?_
        refine jr.goto rfl rfl ?_
        refine jr.pick (ls := [_, _, _]) [1, 0, 2] rfl rfl ?_
        exact ih (nM - 1) (by omega) (c + 0) (i + 1) (by omega) (by omega) (by omega) (by omega)
      · have sx20 : (1 : Int) ≤ v4 := by omega
        clear h20
        refine jr.iconst rfl ?_
        refine jr.goto rfl rfl ?_
        refine jr.iadd rfl ?_
        refine jr.istore_n (ls' := [_, _, _]) rfl (nlt rfl) rfl ?_
        refine jr.iinc (ls' := [_, _, _]) rfl rfl (nlt rfl) rfl ?_
        refine jr.goto rfl rfl ?_
        refine jr.pick (ls := [_, _, _]) [1, 0, 2] rfl rfl ?_
        exact ih (nM - 1) (by omega) (c + 1) (i + 1) (by omega) (by omega) (by omega) (by omega)
theorem c_Flows_countLive {A : Nat → Option (Nat × (Nat → Int32))} {Q : Option Value → jm → Prop} {M : jm} (hC_M : CI M) (q : ∀ (r : Int), 0 ≤ r ∧ r ≤ 24 → Q (some (.int (Int32.ofInt r))) M) : jc A 1 75 [.ref (15)] M Q := by
  refine jc_of (m := xm_75) rfl (Nat.le_of_ble_eq_true rfl) rfl ?_
  refine jr.iconst rfl ?_
  refine jr.istore_n (ls' := [_, _]) rfl (nlt rfl) rfl ?_
  refine jr.iconst rfl ?_
  refine jr.istore_n (ls' := [_, _, _]) rfl (nlt rfl) rfl ?_
  refine jr.pick (ls := [_, _, _]) [1, 0, 2] rfl rfl ?_
  exact c_Flows_countLive_L4 hC_M  q 24 0 0 (by omega) (by omega) (by omega) (by omega)
end
