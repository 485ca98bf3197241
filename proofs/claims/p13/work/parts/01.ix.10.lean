section
section IX4
variable {p : Program} {l : Launch} {e : Env} {R : Room} {s : State} {m : MethodId} {args : Array Value} {below : List Frame} {meth : Method} {c : Code} {H : Heap} {locs : List Loc} {Q : State → Prop}
variable {cc : ByteArray} {pc : Nat} {arr : Array Slot} {ad : Nat → Nat} {rest : List Value}
variable {T : ix_T} {D : va_G} {cl : List vw_C} {aC : Nat → ClassId} {tys : List (ClassId × FieldType)} {on : Nat → String} {Ts : List Cond} {base : Nat} {hp : ix_H} {oc : Nat}
theorem ix_newa (hx : p.tables.exec = Jvm.exec) (hb : c.code = cc) (had : ∀ a : Nat, a < 1000000 → ad a = base + a) (hts : ∀ w ∈ Ts, w.before args s = true) (hK : va_K D cl tys s) (hY : ix_okY T cl aC tys Ts s) (hW : ix_W D cl aC ad base hp s H locs)
    {n0 k0 : Nat} (h0 : s.heap.size = base + n0) (hn0 : n0 ≤ hp.1) (hk0 : k0 ≤ hp.2.1) {aty : ArrayType} {n : Int32} {x : Nat × vp_A} (h1 : ix_zero (ix_aty aty) n.toNatClampNeg = some x) (hn : ¬ n < 0) (hN : n.toNatClampNeg ≤ 1000000) (h2 : hp.1 < 1000000) (hR : hp.1 + 1 - n0 ≤ R.cells) (hR2 : hp.2.1 + n.toNatClampNeg - k0 ≤ R.slots) (hd : decode cc pc = .ok (.newarray aty, 2))
    (k : ∀ H1 : Heap, ix_W D cl aC ad base (ix_new hp n.toNatClampNeg (.inl x)) s H1 locs → W p l e R s m args below meth c H1 locs (hp.1 + 1 - n0) (hp.2.1 + n.toNatClampNeg - k0) Q (F0 m (pc + 2) arr (.ref (ad hp.1) :: rest))) : W p l e R s m args below meth c H locs (hp.1 - n0) (hp.2.1 - k0) Q (F0 m pc arr (.int n :: rest)) := by
  obtain ⟨hcap, hP, hD, hS⟩ := hW
  have key : ∀ (ty : FieldType) (t : Nat) (a0 : vp_A) (cA : ClassId), newarray.typeOf aty = ty → x = (t, a0) → ix_a ad a0 = a0 → cA = aC t → ∀ (q : Nat) (H1 : Heap), va_P D cl (ix_ws aC ad base hp.1 hp.2.2 ++ [(q, .inl (cA, a0))]) H1 → va_D (fun q => base ≤ q) (ix_ws aC ad base hp.1 hp.2.2 ++ [(q, .inl (cA, a0))]) → va_S (fun q => base ≤ q) s.heap H1 locs → W p l e R s m args below meth c H1 locs (hp.1 - n0 + 1) (hp.2.1 - k0 + n.toNatClampNeg) Q (F0 m (pc + 2) arr (.ref q :: rest)) := by
    intro ty t a0 cA hty hx0 ha0 hcA q H1 hP1 hD1 hS1
    refine ix_size (fun hu => ?_)
    have hq : q = base + hp.1 := ix_fresh hP1 hD1 (by omega)
    subst hq
    subst hcA
    subst hx0
    have hpush := ix_ws_push (aC := aC) (ad := ad) (base := base) (n := hp.1) (h := hp.2.2) (.inl (t, a0))
    simp only [ix_e, ha0] at hpush
    have k1 := k H1 ⟨by show hp.1 + 1 ≤ 1000000; omega, by show va_P D cl (ix_ws aC ad base (hp.1 + 1) (ix_up hp.2.2 hp.1 _)) H1; rw [← hpush]; exact hP1, by show va_D _ (ix_ws aC ad base (hp.1 + 1) (ix_up hp.2.2 hp.1 _)); rw [← hpush]; exact hD1, hS1⟩
    rw [show hp.1 - n0 + 1 = hp.1 + 1 - n0 by omega, show hp.2.1 - k0 + n.toNatClampNeg = hp.2.1 + n.toNatClampNeg - k0 by omega, ← had hp.1 h2]
    exact k1
  have hlast : ∀ (cA : ClassId) (ty : FieldType), va_K D cl (tys ++ [(cA, ty)]) s → va_RA s cA ty := fun cA ty h => (h.2 tys.length (cA, ty) (by simp)).2
  cases aty with
  | int =>
    cases h1
    refine va_newa (a0 := (n.toNatClampNeg, .inl (fun _ => 0))) (atype := .int) (ty := .int) hx hb (hts (.arrayClass .int) hY.2.1.1) rfl hK hP hD hS (fun q hq => by show base ≤ q; omega) (fun _ => rfl) hn rfl (by simp only [componentBytes]; omega) (by omega) (by omega) hd (fun q cA H1 hK1 hP1 hD1 hS1 => ?_)
    exact key .int 0 _ cA rfl rfl rfl (Option.some.inj ((show s.vm.findClass _ = some cA from hlast cA .int hK1).symm.trans (show s.vm.findClass _ = some (aC 0) from (hK.2 0 _ hY.1.1).2))) q H1 hP1 hD1 hS1
  | long =>
    cases h1
    refine va_newa (a0 := (n.toNatClampNeg, .inr (.inl (fun _ => 0)))) (atype := .long) (ty := .long) hx hb (hts (.arrayClass .long) hY.2.1.2.1) rfl hK hP hD hS (fun q hq => by show base ≤ q; omega) (fun _ => rfl) hn rfl (by simp only [componentBytes]; omega) (by omega) (by omega) hd (fun q cA H1 hK1 hP1 hD1 hS1 => ?_)
    exact key .long 1 _ cA rfl rfl rfl (Option.some.inj ((show s.vm.findClass _ = some cA from hlast cA .long hK1).symm.trans (show s.vm.findClass _ = some (aC 1) from (hK.2 1 _ hY.1.2.1).2))) q H1 hP1 hD1 hS1
  | boolean =>
    cases h1
    refine va_newa (a0 := (n.toNatClampNeg, .inl (fun _ => 0))) (atype := .boolean) (ty := .boolean) hx hb (hts (.arrayClass .boolean) hY.2.1.2.2) rfl hK hP hD hS (fun q hq => by show base ≤ q; omega) (fun _ => rfl) hn rfl (by simp only [componentBytes]; omega) (by omega) (by omega) hd (fun q cA H1 hK1 hP1 hD1 hS1 => ?_)
    exact key .boolean 2 _ cA rfl rfl rfl (Option.some.inj ((show s.vm.findClass _ = some cA from hlast cA .boolean hK1).symm.trans (show s.vm.findClass _ = some (aC 2) from (hK.2 2 _ hY.1.2.2).2))) q H1 hP1 hD1 hS1
  | _ => cases h1
theorem ix_anew (hx : p.tables.exec = Jvm.exec) (hb : c.code = cc) (had : ∀ a : Nat, a < 1000000 → ad a = base + a) (hts : ∀ w ∈ Ts, w.before args s = true) (hown : s.vm.findClass (on oc) = some m.cls) (hK : va_K D cl tys s) (hC : ix_okC T cl on Ts) (hY : ix_okY T cl aC tys Ts s) (hW : ix_W D cl aC ad base hp s H locs)
    {n0 k0 : Nat} (h0 : s.heap.size = base + n0) (hn0 : n0 ≤ hp.1) (hk0 : k0 ≤ hp.2.1) {idx ci t : Nat} {n : Int32} (h1 : ix_tC T oc idx = some (ci, t)) (ht0 : ¬ t = 0) (hn : ¬ n < 0) (hN : n.toNatClampNeg ≤ 1000000) (h2 : hp.1 < 1000000) (hR : hp.1 + 1 - n0 ≤ R.cells) (hR2 : hp.2.1 + n.toNatClampNeg - k0 ≤ R.slots) (hd : decode cc pc = .ok (.anewarray idx, 3))
    (k : ∀ H1 : Heap, ix_W D cl aC ad base (ix_new hp n.toNatClampNeg (.inl (t, n.toNatClampNeg, .inr (.inr (.inr (.inr (fun _ => none))))))) s H1 locs → W p l e R s m args below meth c H1 locs (hp.1 + 1 - n0) (hp.2.1 + n.toNatClampNeg - k0) Q (F0 m (pc + 3) arr (.ref (ad hp.1) :: rest))) : W p l e R s m args below meth c H locs (hp.1 - n0) (hp.2.1 - k0) Q (F0 m pc arr (.int n :: rest)) := by
  obtain ⟨r, hr, hl, hE⟩ := hC _ _ _ _ h1
  have hE := hE ht0
  obtain ⟨r', hr', hty, hao⟩ := hY.2.2 t ci hE
  cases hr.symm.trans hr'
  obtain ⟨hcap, hP, hD, hS⟩ := hW
  refine va_newq (C := r.1) hx hb hown (hts _ hl) hao hK hP hD hS (fun q hq => by show base ≤ q; omega) hn rfl (by omega) (by omega) (by omega) hd (fun q cA H1 hK1 hP1 hD1 hS1 => ?_)
  refine ix_size (fun hu => ?_)
  have hq : q = base + hp.1 := ix_fresh hP1 hD1 (by omega)
  subst hq
  obtain ⟨_, _, -, -, -, hf1⟩ := (hK1.2 tys.length (cA, .object r.1) (by simp)).2
  obtain ⟨_, _, -, -, -, hf2⟩ := (hK.2 t _ hty).2
  cases hf1.symm.trans hf2
  have hpush := ix_ws_push (aC := aC) (ad := ad) (base := base) (n := hp.1) (h := hp.2.2) (.inl (t, n.toNatClampNeg, .inr (.inr (.inr (.inr (fun _ => none))))))
  have k1 := k H1 ⟨by show hp.1 + 1 ≤ 1000000; omega, by show va_P D cl (ix_ws aC ad base (hp.1 + 1) (ix_up hp.2.2 hp.1 _)) H1; rw [← hpush]; exact hP1, by show va_D _ (ix_ws aC ad base (hp.1 + 1) (ix_up hp.2.2 hp.1 _)); rw [← hpush]; exact hD1, hS1⟩
  rw [show hp.1 - n0 + 1 = hp.1 + 1 - n0 by omega, show hp.2.1 - k0 + n.toNatClampNeg = hp.2.1 + n.toNatClampNeg - k0 by omega, ← had hp.1 h2]
  exact k1
end IX4
end
section
/-! ===== the interpreter's steps on cells in one; calls ===== -/
section IX5
variable {p : Program} {l : Launch} {e : Env} {R : Room} {s : State} {m : MethodId} {args : Array Value} {below : List Frame} {meth : Method} {c : Code} {H : Heap} {locs : List Loc} {Q : State → Prop}
variable {cc : ByteArray} {pc : Nat} {arr : Array Slot} {ad : Nat → Nat} {rest : List Value}
variable {T : ix_T} {D : va_G} {cl : List vw_C} {aC : Nat → ClassId} {tys : List (ClassId × FieldType)} {on : Nat → String} {Ts : List Cond} {base : Nat} {hp : ix_H} {oc : Nat}
end IX5
end
