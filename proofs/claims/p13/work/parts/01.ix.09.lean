section
section IX3
variable {p : Program} {l : Launch} {e : Env} {R : Room} {s : State} {m : MethodId} {args : Array Value} {below : List Frame} {meth : Method} {c : Code} {H : Heap} {locs : List Loc} {cells slots : Nat} {Q : State → Prop}
variable {cc : ByteArray} {pc : Nat} {arr : Array Slot} {ad : Nat → Nat} {rest : List Value}
variable {T : ix_T} {D : va_G} {cl : List vw_C} {aC : Nat → ClassId} {tys : List (ClassId × FieldType)} {on : Nat → String} {Ts : List Cond} {base : Nat} {hp : ix_H} {oc : Nat}
theorem ix_blen (hx : p.tables.exec = Jvm.exec) (hb : c.code = cc) (hA : ix_okA T on Ts ad base s s.heap) (hW : ix_W D cl aC ad base hp s H locs) {a n : Nat} {f : Nat → Int32} (h2 : ix_cnb T a = some (n, f)) (hd : decode cc pc = .ok (.arraylength, 1))
    (k : W p l e R s m args below meth c H locs cells slots Q (F0 m (pc + 1) arr (.int (Int32.ofNat n) :: rest))) : W p l e R s m args below meth c H locs cells slots Q (F0 m pc arr (.ref (ad a) :: rest)) := by
  obtain ⟨j, rfl, hj⟩ := ix_cnb_ok h2
  exact va_tlen hx hb (hA.2.2.1 _ _ _ hj) hW.2.2.2 rfl hd k
theorem ix_bald (hx : p.tables.exec = Jvm.exec) (hb : c.code = cc) (hA : ix_okA T on Ts ad base s s.heap) (hW : ix_W D cl aC ad base hp s H locs) {a n : Nat} {i : Int32} {f : Nat → Int32} (h2 : ix_cnb T a = some (n, f)) (hi : ¬ (i < 0 ∨ n ≤ i.toNatClampNeg)) (hd : decode cc pc = .ok (.baload, 1))
    (k : W p l e R s m args below meth c H locs cells slots Q (F0 m (pc + 1) arr (.int (f i.toNatClampNeg) :: rest))) : W p l e R s m args below meth c H locs cells slots Q (F0 m pc arr (.int i :: .ref (ad a) :: rest)) := by
  obtain ⟨j, rfl, hj⟩ := ix_cnb_ok h2
  exact va_tb hx hb (hA.2.2.1 _ _ _ hj) hW.2.2.2 hi rfl hd k
theorem ix_sget (hx : p.tables.exec = Jvm.exec) (hb : c.code = cc) (hts : ∀ w ∈ Ts, w.before args s = true) (hown : s.vm.findClass (on oc) = some m.cls) (hA : ix_okA T on Ts ad base s s.heap) (hW : ix_W D cl aC ad base hp s H locs) {idx a b : Nat} {g : Bool} (h1 : ix_tG T oc idx = some g) (h2 : ix_cno T a = some b) (hd : decode cc pc = .ok (.getfield idx, 3))
    (k : W p l e R s m args below meth c H locs cells slots Q (F0 m (pc + 3) arr ((bif g then .ref (ad (1000000 + b)) else .int 0) :: rest))) : W p l e R s m args below meth c H locs cells slots Q (F0 m pc arr (.ref (ad a) :: rest)) := by
  obtain ⟨j, rfl, hj⟩ := ix_cno_ok h2
  obtain ⟨-, q2, q3⟩ := hA.2.2.2.1 _ _ hj
  have hl := hA.2.2.2.2.2 _ _ _ h1
  cases g with
  | true => exact vk_getf hx hb q3 hW.2.2.2 hown (hts _ hl) (fun _ h9 => h9) hd k
  | false => exact vk_getf hx hb q2 hW.2.2.2 hown (hts _ hl) (fun _ h9 => h9) hd k
theorem ix_ldcs (hx : p.tables.exec = Jvm.exec) (hb : c.code = cc) (hown : s.vm.findClass (on oc) = some m.cls) (hA : ix_okA T on Ts ad base s s.heap) {idx a : Nat} (h1 : ix_tK T oc idx = some (.ref a)) (hd : decode cc pc = .ok (.ldc idx, 2))
    (k : W p l e R s m args below meth c H locs cells slots Q (F0 m (pc + 2) arr (.ref (ad a) :: rest))) : W p l e R s m args below meth c H locs cells slots Q (F0 m pc arr rest) := by
  obtain ⟨tx, h2⟩ := hA.2.2.2.2.1 _ _ _ h1
  exact va_ldcS hx hb hown h2 hd k
end IX3
end
section
/-! ===== each instruction of the interpreter is the machine's: new cells, constants ===== -/
section IX4
variable {p : Program} {l : Launch} {e : Env} {R : Room} {s : State} {m : MethodId} {args : Array Value} {below : List Frame} {meth : Method} {c : Code} {H : Heap} {locs : List Loc} {Q : State → Prop}
variable {cc : ByteArray} {pc : Nat} {arr : Array Slot} {ad : Nat → Nat} {rest : List Value}
variable {T : ix_T} {D : va_G} {cl : List vw_C} {aC : Nat → ClassId} {tys : List (ClassId × FieldType)} {on : Nat → String} {Ts : List Cond} {base : Nat} {hp : ix_H} {oc : Nat}
theorem ix_fresh {n q : Nat} {h : Nat → ix_C} {x : va_E} {H1 : Heap} (hP1 : va_P D cl (ix_ws aC ad base n h ++ [(q, x)]) H1) (hD1 : va_D (fun q => base ≤ q) (ix_ws aC ad base n h ++ [(q, x)])) (hu : H1.size ≤ base + n + 1) : q = base + n := by
  have hg : (ix_ws aC ad base n h ++ [(q, x)])[n]? = some (q, x) := by
    rw [List.getElem?_append_right (by rw [ix_ws_len]; omega), ix_ws_len, Nat.sub_self]
    rfl
  have h1 : q < H1.size := (hP1 n _ hg).lt
  have h2 : base ≤ q := hD1.2 n _ hg
  by_cases hq : q < base + n
  · have hi : q - base < n := by omega
    have hg2 : (ix_ws aC ad base n h ++ [(q, x)])[q - base]? = some (base + (q - base), ix_e aC ad (h (q - base))) := by
      rw [List.getElem?_append_left (by rw [ix_ws_len]; exact hi), ix_ws_get hi]
    have he := hD1.1 n (q - base) _ _ hg hg2 (by show q = base + (q - base); omega)
    omega
  · omega
theorem ix_v_def (ad : Nat → Nat) (ty : FieldType) : ix_v ad (defaultValue ty) = defaultValue ty := by cases ty <;> rfl
theorem ix_newo (hx : p.tables.exec = Jvm.exec) (hb : c.code = cc) (had : ∀ a : Nat, a < 1000000 → ad a = base + a) (hts : ∀ w ∈ Ts, w.before args s = true) (hown : s.vm.findClass (on oc) = some m.cls) (hK : va_K D cl tys s) (hC : ix_okC T cl on Ts) (hO : ix_okD T cl on Ts) (hW : ix_W D cl aC ad base hp s H locs)
    {n0 k0 : Nat} (h0 : s.heap.size = base + n0) (hn0 : n0 ≤ hp.1) (hk0 : k0 ≤ hp.2.1) {idx ci t0 : Nat} (h1 : ix_tC T oc idx = some (ci, t0)) (h2 : hp.1 < 1000000) (hR : hp.1 + 1 - n0 ≤ R.cells) (hR2 : hp.2.1 + (ix_tD T ci).1 - k0 ≤ R.slots) (hd : decode cc pc = .ok (.new idx, 3))
    (k : ∀ H1 : Heap, ix_W D cl aC ad base (ix_new hp (ix_tD T ci).1 (.inr (ci, (List.range (ix_tD T ci).1).map (fun j => defaultValue ((ix_tD T ci).2 j).1)))) s H1 locs → W p l e R s m args below meth c H1 locs (hp.1 + 1 - n0) (hp.2.1 + (ix_tD T ci).1 - k0) Q (F0 m (pc + 3) arr (.ref (ad hp.1) :: rest))) : W p l e R s m args below meth c H locs (hp.1 - n0) (hp.2.1 - k0) Q (F0 m pc arr rest) := by
  obtain ⟨r, hr, hl, -⟩ := hC _ _ _ _ h1
  obtain ⟨hN, -, hin, hpd, -, -, hins, hini⟩ := hO _ _ hr
  obtain ⟨hcap, hP, hD, hS⟩ := hW
  rw [hN] at k hR2
  refine va_new (ci := ci) (fs := ((List.range r.2.2).map (fun j => defaultValue ((ix_tD T ci).2 j).1)).map (ix_v ad)) (C := r.1) (T := r.2.1) (N := r.2.2) hx hb hts hin (fun j => ((ix_tD T ci).2 j).1) hpd hown (hts _ hl) (hts _ hins) (hts _ hini) hK hP hD hS (fun q hq => by show base ≤ q; omega) hr (fun j hj => ?_) (by omega) (by omega) hd (fun q H1 hP1 hD1 hS1 => ?_)
  · simp [vp_V, hj, ix_v_def]
  · refine ix_size (fun hu => ?_)
    have hq : q = base + hp.1 := ix_fresh hP1 hD1 (by omega)
    subst hq
    have hpush := ix_ws_push (aC := aC) (ad := ad) (base := base) (n := hp.1) (h := hp.2.2) (.inr (ci, (List.range r.2.2).map (fun j => defaultValue ((ix_tD T ci).2 j).1)))
    have k1 := k H1 ⟨by show hp.1 + 1 ≤ 1000000; omega, by show va_P D cl (ix_ws aC ad base (hp.1 + 1) (ix_up hp.2.2 hp.1 _)) H1; rw [← hpush]; exact hP1, by show va_D _ (ix_ws aC ad base (hp.1 + 1) (ix_up hp.2.2 hp.1 _)); rw [← hpush]; exact hD1, hS1⟩
    rw [show hp.1 - n0 + 1 = hp.1 + 1 - n0 by omega, show hp.2.1 - k0 + r.2.2 = hp.2.1 + r.2.2 - k0 by omega, ← had hp.1 h2]
    exact k1
end IX4
end
