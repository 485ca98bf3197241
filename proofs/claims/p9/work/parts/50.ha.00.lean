section
/-! ===== the class's constructor ===== -/
noncomputable def xls1 : ix_L := [(1, .ref 0), (0, .ref 1000000)]
noncomputable def xctA : Option (ix_S ⊕ (Option Value × ix_H)) := iy_iter xt0 (iy_run xt0 14 8) xm_law 2 (0, [(0, .ref 1000000)], [], xh_e)
noncomputable def xctA_chk : Bool := match xctA with
  | some (.inl (pc, ls, st, (n, k, h))) => Nat.beq pc 8 && (decide (ls = xls1) && (decide (st = []) && (Nat.beq n 598 && (Nat.beq k 29846 && (List.range n).all (fun a => xceq (h a) (xh0 a))))))
  | _ => false
theorem xctA_ok : xctA_chk = true := by decide +kernel
theorem xctA_is : ∃ h : Nat → ix_C, ix_iter xt0 (ix_run xt0 14 8) xm_law 2 (0, [(0, .ref 1000000)], [], xh_e) = some (.inl (8, xls1, [], (598, 29846, h))) ∧ (List.range 598).all (fun a => xceq (h a) (xh0 a)) = true := by
  have h0 := xctA_ok
  unfold xctA_chk at h0
  split at h0
  · rename_i pc ls st n k h hc
    simp only [Bool.and_eq_true, decide_eq_true_eq] at h0
    obtain ⟨a1, a2, a3, a4, a5, a6⟩ := h0
    have a1 := Nat.eq_of_beq_eq_true a1
    have a4 := Nat.eq_of_beq_eq_true a4
    have a5 := Nat.eq_of_beq_eq_true a5
    subst a1; subst a2; subst a3; subst a4; subst a5
    exact ⟨h, iy_iter_ok (iy_run_ok xt0 14 8) _ _ _ hc, a6⟩
  · cases h0
end
section
/-! ===== the reference's constructor ===== -/
noncomputable def xctB : Option (ix_S ⊕ (Option Value × ix_H)) := iy_iter xt0 (iy_run xt0 14 8) xm_law 2 (8, xls1, [], (598, 29846, xh0))
noncomputable def xctB_chk : Bool := match xctB with
  | some (.inl (pc, ls, st, (n, k, h))) => Nat.beq pc 16 && (decide (ls = xls0) && (decide (st = []) && (Nat.beq n 688 && (Nat.beq k 70427 && (List.range n).all (fun a => xceq (h a) (xh0 a))))))
  | _ => false
theorem xctB_ok : xctB_chk = true := by decide +kernel
theorem xctB_is : ∃ h : Nat → ix_C, ix_iter xt0 (ix_run xt0 14 8) xm_law 2 (8, xls1, [], (598, 29846, xh0)) = some (.inl (16, xls0, [], (688, 70427, h))) ∧ (List.range 688).all (fun a => xceq (h a) (xh0 a)) = true := by
  have h0 := xctB_ok
  unfold xctB_chk at h0
  split at h0
  · rename_i pc ls st n k h hc
    simp only [Bool.and_eq_true, decide_eq_true_eq] at h0
    obtain ⟨a1, a2, a3, a4, a5, a6⟩ := h0
    have a1 := Nat.eq_of_beq_eq_true a1
    have a4 := Nat.eq_of_beq_eq_true a4
    have a5 := Nat.eq_of_beq_eq_true a5
    subst a1; subst a2; subst a3; subst a4; subst a5
    exact ⟨h, iy_iter_ok (iy_run_ok xt0 14 8) _ _ _ hc, a6⟩
  · cases h0
end
section
/-! ===== behind the constructors ===== -/
section XH0
variable {p : Program} {l : Launch} {e : Env} {s : State} {m : MethodId} {below : List Frame} {meth : Method} {c : Code} {b L : Nat} {xs : Nat → Int32}
/-- the law's run is what comes behind the constructors, from the cells xh0 on -/
theorem xbehind (C0 : lw_At p s m meth c b L xs) (k : ∀ (D : va_G) (aC : Nat → ClassId) (tys : List (ClassId × FieldType)) (cst : Nat → Nat) (fm : Nat), cst 0 = b → (∀ A : Nat → Option (Nat × (Nat → Int32)), (A = (fun _ => none) ∨ A = xs_A L xs fm) → ix_St (xT A) D xcl aC tys xon xTs xNs (ix_ad s.heap.size cst) s.heap.size s) → ix_End p l e room_1 s m #[Value.ref b] below meth c (lw_Z below #[Value.ref b] s) D xcl aC (ix_ad s.heap.size cst) s.heap.size 0 0 xm_law (.inl (16, xls0, [], xhp0))) : W p l e room_1 s m #[Value.ref b] below meth c s.heap [] 0 0 (lw_Z below #[Value.ref b] s) (entryFrame m ([Value.ref b] : List Value).toArray 4) := by
  obtain ⟨D, aC, tys, cst, fm, hcst, hSt⟩ := xstart C0
  obtain ⟨h1, hr1, he1⟩ := xctA_is
  obtain ⟨h2, hr2, he2⟩ := xctB_is
  refine xentry (D := D) (aC := aC) (cst := cst) C0 hcst (xstep C0 (tys := tys) (cst := cst) (hSt _ (Or.inl rfl)) (by decide) hr1 (by show 598 ≤ 600000; decide) (by show 29846 ≤ 7302250; decide) ?_)
  intro H1 locs1 arr1 hW hl
  refine xstep C0 (tys := tys) (cst := cst) (hSt _ (Or.inl rfl)) (by decide) hr2 (by show 688 ≤ 600000; decide) (by show 70427 ≤ 7302250; decide) ?_ H1 locs1 arr1 (xcongr he1 hW) hl
  intro H2 locs2 arr2 hW2 hl2
  exact k D aC tys cst fm hcst hSt H2 locs2 arr2 (xcongr he2 hW2) hl2
end XH0
end
section
/-! ===== the memory behind the two constructors ===== -/
noncomputable def jp0 : ix_C → Nat → Int
  | .inl (_, n, .inl f), j => bif Nat.blt j n then (f j).toInt else 0
  | .inl (_, n, .inr (.inl f)), j => bif Nat.blt j n then (f j).toInt else 0
  | .inr (_, vs), j => match vs[j]? with
    | some (.int v) => v.toInt
    | some (.long v) => v.toInt
    | some (.ref a) => Int.ofNat a
    | _ => 0
  | _, _ => 0
noncomputable def M0 : jm := fun a i => match i with
  | .ofNat j => bif Nat.blt a 688 then jp0 (xh0 a) j else 0
  | .negSucc _ => 0
theorem M0_ok : (List.range 688).all (fun a => xceq (xh0 a) (jh M0 a)) = true := by decide +kernel
section XM0
variable {p : Program} {l : Launch} {e : Env} {s : State} {m : MethodId} {below : List Frame} {meth : Method} {c : Code} {b L : Nat} {xs : Nat → Int32}
theorem xbehind2 (C0 : lw_At p s m meth c b L xs) (k : ∀ (D : va_G) (aC : Nat → ClassId) (tys : List (ClassId × FieldType)) (cst : Nat → Nat) (fm : Nat), cst 0 = b → (∀ A : Nat → Option (Nat × (Nat → Int32)), (A = (fun _ => none) ∨ A = xs_A L xs fm) → ix_St (xT A) D xcl aC tys xon xTs xNs (ix_ad s.heap.size cst) s.heap.size s) → ix_End p l e room_1 s m #[Value.ref b] below meth c (lw_Z below #[Value.ref b] s) D xcl aC (ix_ad s.heap.size cst) s.heap.size 0 0 xm_law (.inl (16, xls0, [], jH M0))) : W p l e room_1 s m #[Value.ref b] below meth c s.heap [] 0 0 (lw_Z below #[Value.ref b] s) (entryFrame m ([Value.ref b] : List Value).toArray 4) := by
  refine xbehind C0 (fun D aC tys cst fm hc hSt => ?_)
  intro H1 locs1 arr1 hW hl
  exact k D aC tys cst fm hc hSt H1 locs1 arr1 (xcongr M0_ok hW) hl
end XM0
/-! ===== the reference's invariants hold there ===== -/
theorem jnb {j c : Nat} (h : c ≤ j) : Nat.blt j c = false := by
  cases hb : Nat.blt j c with
  | false => rfl
  | true => have := Nat.blt_eq.mp hb; omega
theorem jne0 {j c : Nat} (h : c < j) : Nat.beq j c = false := by
  cases hb : Nat.beq j c with
  | false => rfl
  | true => have := Nat.eq_of_beq_eq_true hb; omega
theorem xrf0_out {j : Nat} (h : 150 ≤ j) : xrf0 j = none := by
  unfold xrf0
  rw [jnb (show 83 ≤ j by omega), jnb (show 111 ≤ j by omega), jnb (show 138 ≤ j by omega)]
  simp only [cond_false]
  unfold xrf0_5
  rw [jnb (show 142 ≤ j by omega), jnb (show 144 ≤ j by omega), jnb (show 145 ≤ j by omega), jnb (show 147 ≤ j by omega), jne0 (show 147 < j by omega)]
  simp only [cond_false]
theorem xrr0_out {a : Nat} (h : 688 ≤ a) : xrr0 a = none := by
  unfold xrr0
  rw [jnb (show 639 ≤ a by omega), jnb (show 659 ≤ a by omega), jnb (show 669 ≤ a by omega), jnb (show 679 ≤ a by omega)]
  simp only [cond_false]
  unfold xrr0_8
  rw [jnb (show 683 ≤ a by omega), jnb (show 685 ≤ a by omega), jnb (show 686 ≤ a by omega), jnb (show 687 ≤ a by omega), jne0 (show 687 < a by omega)]
  simp only [cond_false]
theorem xrf0_z : (List.range 150).all (fun j => decide (((xrf0 j).getD (-9223372036854775808, 9223372036854775807)).1 ≤ M0 598 (Int.ofNat j) ∧ M0 598 (Int.ofNat j) ≤ ((xrf0 j).getD (-9223372036854775808, 9223372036854775807)).2)) = true := by decide +kernel
noncomputable def m0n (c : ix_C) : Nat := match c with
  | .inl (_, n, _) => n
  | .inr (_, vs) => vs.length
theorem xrr0_z : (List.range 688).all (fun a => Nat.blt a 599 || (decide (((xrr0 a).getD (-9223372036854775808, 9223372036854775807)).1 ≤ 0 ∧ (0 : Int) ≤ ((xrr0 a).getD (-9223372036854775808, 9223372036854775807)).2) && (List.range (m0n (xh0 a))).all (fun j => decide (((xrr0 a).getD (-9223372036854775808, 9223372036854775807)).1 ≤ jp0 (xh0 a) j ∧ jp0 (xh0 a) j ≤ ((xrr0 a).getD (-9223372036854775808, 9223372036854775807)).2)))) = true := by decide +kernel
theorem jp0_out {c : ix_C} {j : Nat} (h : m0n c ≤ j) : jp0 c j = 0 := by
  unfold jp0
  split
  · rename_i n f
    rw [jnb (show n ≤ _ from h)]
    rfl
  · rename_i n f
    rw [jnb (show n ≤ _ from h)]
    rfl
  · rename_i vs
    have : vs[j]? = none := List.getElem?_eq_none h
    rw [this]
  · rfl
theorem M0_in {a : Nat} (h : a < 688) (j : Nat) : M0 a (Int.ofNat j) = jp0 (xh0 a) j := by
  show (bif Nat.blt a 688 then jp0 (xh0 a) j else 0) = _
  rw [Nat.blt_eq.mpr h]
  rfl
theorem M0_out {a : Nat} (h : 688 ≤ a) (i : Int) : M0 a i = 0 := by
  cases i with
  | ofNat j =>
    show (bif Nat.blt a 688 then jp0 (xh0 a) j else 0) = 0
    rw [jnb h]
    rfl
  | negSucc n => rfl
theorem m0n_598 : m0n (xh0 598) ≤ 150 := by decide +kernel
theorem xri_598 (i : Int) : xri 598 i = (xrf0 i.toNat).getD (-9223372036854775808, 9223372036854775807) := rfl
theorem xri_rw0 {a : Nat} (h : 599 ≤ a) (i : Int) : xri a i = (xrr0 a).getD (-9223372036854775808, 9223372036854775807) := by
  unfold xri
  rw [jne0 (show 598 < a by omega)]
  rfl
theorem M0_RI : RI M0 := by
  intro a i ha
  rcases Nat.lt_or_ge a 688 with h | h
  · rcases Nat.lt_or_ge a 599 with h1 | h1
    · obtain rfl : a = 598 := by omega
      rw [xri_598]
      cases i with
      | ofNat j =>
        show ((xrf0 j).getD _).1 ≤ _ ∧ _ ≤ ((xrf0 j).getD _).2
        rcases Nat.lt_or_ge j 150 with hj | hj
        · have := List.all_eq_true.mp xrf0_z j (List.mem_range.mpr hj)
          exact of_decide_eq_true this
        · rw [xrf0_out hj, M0_in h, jp0_out (Nat.le_trans m0n_598 hj)]
          decide
      | negSucc n =>
        show ((xrf0 0).getD (-9223372036854775808, 9223372036854775807)).1 ≤ (0 : Int) ∧ (0 : Int) ≤ ((xrf0 0).getD (-9223372036854775808, 9223372036854775807)).2
        decide
    · rw [xri_rw0 h1]
      have q := List.all_eq_true.mp xrr0_z a (List.mem_range.mpr h)
      rw [jnb h1, Bool.false_or, Bool.and_eq_true] at q
      cases i with
      | ofNat j =>
        rw [M0_in h]
        rcases Nat.lt_or_ge j (m0n (xh0 a)) with hj | hj
        · exact of_decide_eq_true (List.all_eq_true.mp q.2 j (List.mem_range.mpr hj))
        · rw [jp0_out hj]
          exact of_decide_eq_true q.1
      | negSucc n => exact of_decide_eq_true q.1
  · rw [xri_rw0 (by omega), xrr0_out h, M0_out h]
    decide
/-- a row of zeros -/
theorem M0_row {a n t : Nat} (h : a < 688) (e : xh0 a = .inl (t, n, .inl (fun _ => 0))) (i : Int) : M0 a i = 0 := by
  cases i with
  | ofNat j =>
    rw [M0_in h, e]
    show (bif Nat.blt j n then (0 : Int32).toInt else 0) = 0
    cases Nat.blt j n <;> rfl
  | negSucc k => rfl
theorem M0_rowL {a n t : Nat} (h : a < 688) (e : xh0 a = .inl (t, n, .inr (.inl (fun _ => 0)))) (i : Int) : M0 a i = 0 := by
  cases i with
  | ofNat j =>
    rw [M0_in h, e]
    show (bif Nat.blt j n then (0 : Int64).toInt else 0) = 0
    cases Nat.blt j n <;> rfl
  | negSucc k => rfl
theorem M0_603 (i : Int) : M0 603 i = 0 := M0_row (t := 0) (n := 12) (by decide) rfl i
theorem M0_604 (i : Int) : M0 604 i = 0 := M0_row (t := 0) (n := 12) (by decide) rfl i
theorem M0_605 (i : Int) : M0 605 i = 0 := M0_row (t := 0) (n := 12) (by decide) rfl i
theorem M0_606 (i : Int) : M0 606 i = 0 := M0_row (t := 2) (n := 8) (by decide) rfl i
theorem M0_629 (i : Int) : M0 629 i = 0 := M0_row (t := 0) (n := 24) (by decide) rfl i
theorem M0_685 (i : Int) : M0 685 i = 0 := M0_rowL (t := 1) (n := 1000) (by decide) rfl i
theorem M0_RH : RH M0 := by
  intro h
  rw [M0_603, M0_604, M0_605]
  decide
theorem M0_RF : RF M0 := by
  intro f _ h
  rw [M0_629] at h
  cases h
theorem M0_RG1 : RG1 M0 := by
  intro j _ h
  exact absurd (M0_606 j) h
theorem M0_MC : MC M0 := Or.inl (by decide +kernel)
theorem M0_AS : AS M0 0 := by
  have e : M0 598 112 = 0 := by decide +kernel
  refine ⟨by rw [e]; decide, fun f j _ _ _ => ⟨fun _ => ?_, fun _ => ?_, fun _ => ?_⟩⟩ <;> rw [M0_685] <;> decide
theorem M0_t : M0 598 2 = 0 := by decide +kernel
theorem M0_FW : FWq (M0 650) := by
  have h : (List.range 14).all (fun k => (List.range 11).all (fun f => decide (M0 650 (Int.ofNat (11 * k + f)) ≠ -1 → ((k : Int) ≤ 11 → (f : Int) < fldn k) ∧ ((k : Int) = 12 → (f : Int) ≤ 4)))) = true := by decide +kernel
  intro k f h0 h1 h2 h3
  obtain ⟨K, rfl⟩ : ∃ K : Nat, k = K := ⟨k.toNat, by omega⟩
  obtain ⟨F, rfl⟩ : ∃ F : Nat, f = F := ⟨f.toNat, by omega⟩
  have q := of_decide_eq_true (List.all_eq_true.mp (List.all_eq_true.mp h K (List.mem_range.mpr (by omega))) F (List.mem_range.mpr (by omega)))
  have e : (11 * (K : Int) + (F : Int)) = Int.ofNat (11 * K + F) := by
    show _ = ((11 * K + F : Nat) : Int)
    omega
  rw [e]
  exact q
end
section
/-! ===== the class: what its cells may hold, by kind ===== -/
section JL2
variable {A : Nat → Option (Nat × (Nat → Int32))} {D : Nat} {m : ix_M} {pc : Nat} {ls : ix_L} {st : List Value} {M : jm} {Q : Option Value → jm → Prop}
theorem jr.acpL {idx mid na a d n0 n1 : Nat} {sp dp n : Int} (hi : m.2.2.2.2.2.2 pc = some (.invokestatic idx)) (h1 : ix_tI (xT A) m.1 idx = some (7, mid, na)) (hc : ix_cats st ≤ 8) (ha : a < xNc) (hs : xsh a = (1, n0)) (hd : d < xNc) (ht : xsh d = (1, n1)) (hn0 : n0 ≤ 2000000) (hn1 : n1 ≤ 2000000) (hsp : 0 ≤ sp) (hdp : 0 ≤ dp) (hn : 0 ≤ n) (h0 : sp + n ≤ (n0 : Nat)) (h2 : dp + n ≤ (n1 : Nat)) (k : jr A D m (pc + 3) ls st (jcpy M a sp d dp n) Q) : jr A D m pc ls (.int (Int32.ofInt n) :: .int (Int32.ofInt dp) :: .ref d :: .int (Int32.ofInt sp) :: .ref a :: st) M Q := by
  refine jr_c1 (Or.inr (Or.inr ⟨_, rfl⟩)) hi (fun f => ?_) k
  obtain ⟨p1, p2⟩ := jnn hsp (by omega)
  obtain ⟨q1, q2⟩ := jnn hdp (by omega)
  obtain ⟨r1, r2⟩ := jnn hn (by omega)
  unfold ix_cal
  simp only [h1]
  unfold ix_acp
  simp only [jarr1 ha hs, jarr1 hd ht]
  rw [p2, q2, r2, if_pos ⟨p1, q1, r1, by omega, by omega, hc⟩]
  congr 2
  refine jH_cpy M ?_
  rw [ht]
  show _ = Sum.inl (1, n1, Sum.inr (Sum.inl _))
  congr 3
  congr 2
  funext j
  unfold va_cpy jcpy
  by_cases hj : dp.toNat ≤ j ∧ j < dp.toNat + n.toNat
  · rw [if_pos hj, if_pos ⟨rfl, by omega, by omega⟩]
    show Int64.ofInt (M a ((sp.toNat + (j - dp.toNat) : Nat) : Int)) = Int64.ofInt (M a (sp + ((j : Int) - dp)))
    rw [show (((sp.toNat + (j - dp.toNat) : Nat) : Int)) = sp + ((j : Int) - dp) by omega]
  · rw [if_neg hj, if_neg (by omega)]
end JL2
noncomputable def cio_1 (j : Nat) : Option (Int × Int) := bif Nat.blt j 6 then (bif Nat.blt j 2 then (bif Nat.blt j 1 then (bif Nat.beq j 0 then some (((0 : Int), (1 : Int))) else none) else (bif Nat.beq j 1 then some (((0 : Int), (1 : Int))) else none)) else (bif Nat.blt j 5 then (bif Nat.beq j 2 then some (((-2147483648 : Int), (2147483647 : Int))) else none) else (bif Nat.beq j 5 then some (((-2147483648 : Int), (2147483647 : Int))) else none))) else (bif Nat.blt j 13 then (bif Nat.blt j 12 then (bif Nat.beq j 6 then some (((-2147483648 : Int), (2147483647 : Int))) else none) else (bif Nat.beq j 12 then some (((0 : Int), (1 : Int))) else none)) else (bif Nat.blt j 14 then (bif Nat.beq j 13 then some (((-2147483648 : Int), (2147483647 : Int))) else none) else (bif Nat.blt j 15 then (bif Nat.beq j 14 then some (((-9223372036854775808 : Int), (9223372036854775807 : Int))) else none) else (bif Nat.beq j 15 then some (((-2147483648 : Int), (2147483647 : Int))) else none))))
noncomputable def cio_9 (j : Nat) : Option (Int × Int) := bif Nat.blt j 3 then (bif Nat.blt j 1 then (bif Nat.beq j 0 then some (((16 : Int), (17 : Int))) else none) else (bif Nat.beq j 1 then some (((16 : Int), (17 : Int))) else none)) else (bif Nat.blt j 4 then (bif Nat.beq j 3 then some (((-2147483648 : Int), (2147483647 : Int))) else none) else (bif Nat.blt j 5 then (bif Nat.beq j 4 then some (((-2147483648 : Int), (2147483647 : Int))) else none) else (bif Nat.beq j 5 then some (((0 : Int), (1 : Int))) else none)))
noncomputable def cio_14 (j : Nat) : Option (Int × Int) := bif Nat.blt j 1 then (bif Nat.beq j 0 then some (((0 : Int), (15 : Int))) else none) else (bif Nat.blt j 2 then (bif Nat.beq j 1 then some (((-2147483648 : Int), (2147483647 : Int))) else none) else (bif Nat.beq j 2 then some (((0 : Int), (1 : Int))) else none))
noncomputable def cio_15_0 (j : Nat) : Option (Int × Int) := bif Nat.blt j 3 then (bif Nat.blt j 1 then (bif Nat.beq j 0 then some (((0 : Int), (1 : Int))) else none) else (bif Nat.blt j 2 then (bif Nat.beq j 1 then some (((-2147483648 : Int), (2147483647 : Int))) else none) else (bif Nat.beq j 2 then some (((-9223372036854775808 : Int), (9223372036854775807 : Int))) else none))) else (bif Nat.blt j 4 then (bif Nat.beq j 3 then some (((-9223372036854775808 : Int), (9223372036854775807 : Int))) else none) else (bif Nat.blt j 5 then (bif Nat.beq j 4 then some (((-9223372036854775808 : Int), (9223372036854775807 : Int))) else none) else (bif Nat.beq j 5 then some (((-9223372036854775808 : Int), (9223372036854775807 : Int))) else none)))
noncomputable def cio_15_1 (j : Nat) : Option (Int × Int) := bif Nat.blt j 11 then (bif Nat.blt j 7 then (bif Nat.beq j 6 then some (((-2147483648 : Int), (2147483647 : Int))) else none) else (bif Nat.blt j 8 then (bif Nat.beq j 7 then some (((-1 : Int), (70000 : Int))) else none) else (bif Nat.beq j 8 then some (((-2147483648 : Int), (2147483647 : Int))) else none))) else (bif Nat.blt j 12 then (bif Nat.beq j 11 then some (((-1 : Int), (400 : Int))) else none) else (bif Nat.blt j 13 then (bif Nat.beq j 12 then some (((-1 : Int), (400 : Int))) else none) else (bif Nat.beq j 13 then some (((-1 : Int), (404 : Int))) else none)))
noncomputable def cio_15 (j : Nat) : Option (Int × Int) := bif Nat.blt j 6 then (cio_15_0 j) else (cio_15_1 j)
noncomputable def cio_18 (j : Nat) : Option (Int × Int) := bif Nat.blt j 5 then (bif Nat.blt j 4 then (bif Nat.beq j 3 then some (((0 : Int), (12 : Int))) else none) else (bif Nat.beq j 4 then some (((-2147483648 : Int), (2147483647 : Int))) else none)) else (bif Nat.blt j 6 then (bif Nat.beq j 5 then some (((-2147483648 : Int), (2147483647 : Int))) else none) else (bif Nat.blt j 7 then (bif Nat.beq j 6 then some (((-2147483648 : Int), (2147483647 : Int))) else none) else (bif Nat.beq j 7 then some (((0 : Int), (597 : Int))) else none)))
noncomputable def cio_22_0 (j : Nat) : Option (Int × Int) := bif Nat.blt j 7 then (bif Nat.blt j 4 then (bif Nat.blt j 3 then (bif Nat.beq j 2 then some (((0 : Int), (597 : Int))) else none) else (bif Nat.beq j 3 then some (((-2147483648 : Int), (2147483647 : Int))) else none)) else (bif Nat.blt j 5 then (bif Nat.beq j 4 then some (((0 : Int), (1 : Int))) else none) else (bif Nat.beq j 5 then some (((-2147483648 : Int), (2147483647 : Int))) else none))) else (bif Nat.blt j 11 then (bif Nat.blt j 9 then (bif Nat.beq j 7 then some (((0 : Int), (8 : Int))) else none) else (bif Nat.beq j 9 then some (((0 : Int), (320 : Int))) else none)) else (bif Nat.blt j 12 then (bif Nat.beq j 11 then some (((0 : Int), (1 : Int))) else none) else (bif Nat.beq j 12 then some (((0 : Int), (597 : Int))) else none)))
noncomputable def cio_22_1 (j : Nat) : Option (Int × Int) := bif Nat.blt j 16 then (bif Nat.blt j 14 then (bif Nat.beq j 13 then some (((-2147483648 : Int), (2147483647 : Int))) else none) else (bif Nat.blt j 15 then (bif Nat.beq j 14 then some (((-2147483648 : Int), (2147483647 : Int))) else none) else (bif Nat.beq j 15 then some (((-2147483648 : Int), (2147483647 : Int))) else none))) else (bif Nat.blt j 18 then (bif Nat.blt j 17 then (bif Nat.beq j 16 then some (((-2147483648 : Int), (2147483647 : Int))) else none) else (bif Nat.beq j 17 then some (((0 : Int), (1 : Int))) else none)) else (bif Nat.blt j 19 then (bif Nat.beq j 18 then some (((-2147483648 : Int), (2147483647 : Int))) else none) else (bif Nat.beq j 19 then some (((-2147483648 : Int), (2147483647 : Int))) else none)))
noncomputable def cio_22 (j : Nat) : Option (Int × Int) := bif Nat.blt j 13 then (cio_22_0 j) else (cio_22_1 j)
noncomputable def cio_27 (j : Nat) : Option (Int × Int) := bif Nat.blt j 6 then (bif Nat.beq j 5 then some (((0 : Int), (2147483647 : Int))) else none) else (bif Nat.beq j 6 then some (((-9223372036854775808 : Int), (9223372036854775807 : Int))) else none)
noncomputable def cio_33 (j : Nat) : Option (Int × Int) := bif Nat.blt j 2 then (bif Nat.beq j 1 then some (((-1 : Int), (400 : Int))) else none) else (bif Nat.beq j 2 then some (((-9223372036854775808 : Int), (9223372036854775807 : Int))) else none)
noncomputable def cio_35 (j : Nat) : Option (Int × Int) := bif Nat.blt j 8 then (bif Nat.beq j 1 then some (((0 : Int), (1600 : Int))) else none) else (bif Nat.beq j 8 then some (((-2147483648 : Int), (2147483647 : Int))) else none)
noncomputable def cio_44_0 (j : Nat) : Option (Int × Int) := bif Nat.blt j 3 then (bif Nat.blt j 1 then (bif Nat.beq j 0 then some (((-2147483648 : Int), (2147483647 : Int))) else none) else (bif Nat.blt j 2 then (bif Nat.beq j 1 then some (((-2147483648 : Int), (2147483647 : Int))) else none) else (bif Nat.beq j 2 then some (((0 : Int), (597 : Int))) else none))) else (bif Nat.blt j 4 then (bif Nat.beq j 3 then some (((1 : Int), (419 : Int))) else none) else (bif Nat.blt j 6 then (bif Nat.beq j 4 then some (((0 : Int), (1600 : Int))) else none) else (bif Nat.beq j 6 then some (((-2147483648 : Int), (2147483647 : Int))) else none)))
noncomputable def cio_44_1 (j : Nat) : Option (Int × Int) := bif Nat.blt j 9 then (bif Nat.blt j 8 then (bif Nat.beq j 7 then some (((0 : Int), (1600 : Int))) else none) else (bif Nat.beq j 8 then some (((0 : Int), (1600 : Int))) else none)) else (bif Nat.blt j 10 then (bif Nat.beq j 9 then some (((-9223372036854775808 : Int), (9223372036854775807 : Int))) else none) else (bif Nat.blt j 11 then (bif Nat.beq j 10 then some (((-2147483648 : Int), (2147483647 : Int))) else none) else (bif Nat.beq j 11 then some (((0 : Int), (255 : Int))) else none)))
noncomputable def cio_44 (j : Nat) : Option (Int × Int) := bif Nat.blt j 7 then (cio_44_0 j) else (cio_44_1 j)
noncomputable def cio_47 (j : Nat) : Option (Int × Int) := bif Nat.blt j 3 then (bif Nat.beq j 2 then some (((0 : Int), (932 : Int))) else none) else (bif Nat.blt j 4 then (bif Nat.beq j 3 then some (((0 : Int), (16 : Int))) else none) else (bif Nat.beq j 4 then some (((-2147483648 : Int), (2147483647 : Int))) else none))
noncomputable def cio_52 (j : Nat) : Option (Int × Int) := bif Nat.blt j 1 then (bif Nat.beq j 0 then some (((-2147483648 : Int), (2147483647 : Int))) else none) else (bif Nat.beq j 1 then some (((0 : Int), (40 : Int))) else none)
noncomputable def cir_0 (j : Nat) : Option (Int × Int) := bif Nat.blt j 7 then (bif Nat.blt j 4 then (bif Nat.blt j 3 then (bif Nat.beq j 2 then some (((-9223372036854775808 : Int), (9223372036854775807 : Int))) else none) else (bif Nat.beq j 3 then some (((-9223372036854775808 : Int), (9223372036854775807 : Int))) else none)) else (bif Nat.blt j 5 then (bif Nat.beq j 4 then some (((0 : Int), (1 : Int))) else none) else (bif Nat.blt j 6 then (bif Nat.beq j 5 then some (((-2147483648 : Int), (2147483647 : Int))) else none) else (bif Nat.beq j 6 then some (((-9223372036854775808 : Int), (9223372036854775807 : Int))) else none)))) else (bif Nat.blt j 10 then (bif Nat.blt j 8 then (bif Nat.beq j 7 then some (((-2147483648 : Int), (2147483647 : Int))) else none) else (bif Nat.beq j 8 then some (((-2147483648 : Int), (2147483647 : Int))) else none)) else (bif Nat.blt j 11 then (bif Nat.beq j 10 then some (((-9223372036854775808 : Int), (9223372036854775807 : Int))) else none) else (bif Nat.blt j 12 then (bif Nat.beq j 11 then some (((-2147483648 : Int), (2147483647 : Int))) else none) else (bif Nat.beq j 12 then some (((0 : Int), (32 : Int))) else none))))
noncomputable def cir_1 (j : Nat) : Option (Int × Int) := bif Nat.blt j 24 then (bif Nat.blt j 19 then (bif Nat.blt j 17 then (bif Nat.beq j 16 then some (((-1 : Int), (255 : Int))) else none) else (bif Nat.beq j 17 then some (((-1 : Int), (255 : Int))) else none)) else (bif Nat.blt j 20 then (bif Nat.beq j 19 then some (((0 : Int), (11 : Int))) else none) else (bif Nat.blt j 21 then (bif Nat.beq j 20 then some (((0 : Int), (400 : Int))) else none) else (bif Nat.beq j 21 then some (((-400 : Int), (2048 : Int))) else none)))) else (bif Nat.blt j 28 then (bif Nat.blt j 26 then (bif Nat.beq j 24 then some (((-2147483648 : Int), (2147483647 : Int))) else none) else (bif Nat.beq j 26 then some (((-9223372036854775808 : Int), (9223372036854775807 : Int))) else none)) else (bif Nat.blt j 29 then (bif Nat.beq j 28 then some (((-2147483648 : Int), (2147483647 : Int))) else none) else (bif Nat.blt j 30 then (bif Nat.beq j 29 then some (((-9223372036854775808 : Int), (9223372036854775807 : Int))) else none) else (bif Nat.beq j 30 then some (((-9223372036854775808 : Int), (9223372036854775807 : Int))) else none))))
noncomputable def cir_2 (j : Nat) : Option (Int × Int) := bif Nat.blt j 38 then (bif Nat.blt j 34 then (bif Nat.blt j 32 then (bif Nat.beq j 31 then some (((-9223372036854775808 : Int), (9223372036854775807 : Int))) else none) else (bif Nat.beq j 32 then some (((0 : Int), (16 : Int))) else none)) else (bif Nat.blt j 36 then (bif Nat.beq j 34 then some (((-1 : Int), (255 : Int))) else none) else (bif Nat.blt j 37 then (bif Nat.beq j 36 then some (((-2147483648 : Int), (2147483647 : Int))) else none) else (bif Nat.beq j 37 then some (((-2147483648 : Int), (2147483647 : Int))) else none)))) else (bif Nat.blt j 41 then (bif Nat.blt j 39 then (bif Nat.beq j 38 then some (((-2147483648 : Int), (2147483647 : Int))) else none) else (bif Nat.beq j 39 then some (((-2147483648 : Int), (2147483647 : Int))) else none)) else (bif Nat.blt j 43 then (bif Nat.beq j 41 then some (((-2147483648 : Int), (2147483647 : Int))) else none) else (bif Nat.blt j 45 then (bif Nat.beq j 43 then some (((0 : Int), (255 : Int))) else none) else (bif Nat.beq j 45 then some (((-2147483648 : Int), (2147483647 : Int))) else none))))
end
