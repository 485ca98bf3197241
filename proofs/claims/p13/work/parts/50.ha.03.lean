section
/-! ===== behind the constructors ===== -/
section XH0
variable {p : Program} {l : Launch} {e : Env} {s : State} {m : MethodId} {below : List Frame} {meth : Method} {c : Code} {b L : Nat} {xs : Nat → Int32}
/-- the law's run is what comes behind the constructors, from the cells xh0 on -/
theorem xbehind (C0 : lw_At p s m meth c b L xs) (k : ∀ (D : va_G) (aC : Nat → ClassId) (tys : List (ClassId × FieldType)) (cst : Nat → Nat) (fm : Nat), cst 0 = b → (∀ A : Nat → Option (Nat × (Nat → Int32)), (A = (fun _ => none) ∨ A = xs_A L xs fm) → ix_St (xT A) D xcl aC tys xon xTs xNs (ix_ad s.heap.size cst) s.heap.size s) → ix_End p l e room_1 s m #[Value.ref b] below meth c (lw_Z below #[Value.ref b] s) D xcl aC (ix_ad s.heap.size cst) s.heap.size 0 0 xm_law (.inl (16, xls0, [], xhp0))) : W p l e room_1 s m #[Value.ref b] below meth c s.heap [] 0 0 (lw_Z below #[Value.ref b] s) (entryFrame m ([Value.ref b] : List Value).toArray 4) := by
  obtain ⟨D, aC, tys, cst, fm, hcst, hSt⟩ := xstart C0
  obtain ⟨h1, hr1, he1⟩ := xctA_is
  obtain ⟨h2, hr2, he2⟩ := xctB_is
  refine xentry (D := D) (aC := aC) (cst := cst) C0 hcst (xstep C0 (tys := tys) (cst := cst) (hSt _ (Or.inl rfl)) (by decide) hr1 (by show 598 ≤ 600000; decide) (by show 29846 ≤ 7302250; decide) ?_)
  intro H1 locs1 arr1 hW hl
  refine xstep C0 (tys := tys) (cst := cst) (hSt _ (Or.inl rfl)) (by decide) hr2 (by show 688 ≤ 600000; decide) (by show 70427 ≤ 7302250; decide) ?_ H1 locs1 arr1 (xcongr he1 hW) hl
  intro H2 locs2 arr2 hW2 hl2
  exact k D aC tys cst fm hcst hSt H2 locs2 arr2 (xcongr he2 hW2) hl2
end XH0
end
section
/-! ===== the memory behind the two constructors ===== -/
noncomputable def jp0 : ix_C → Nat → Int
  | .inl (_, n, .inl f), j => bif Nat.blt j n then (f j).toInt else 0
  | .inl (_, n, .inr (.inl f)), j => bif Nat.blt j n then (f j).toInt else 0
  | .inr (_, vs), j => match vs[j]? with
    | some (.int v) => v.toInt
    | some (.long v) => v.toInt
    | some (.ref a) => Int.ofNat a
    | _ => 0
  | _, _ => 0
noncomputable def M0 : jm := fun a i => match i with
  | .ofNat j => bif Nat.blt a 688 then jp0 (xh0 a) j else 0
  | .negSucc _ => 0
end
