section
section IX3
variable {p : Program} {l : Launch} {e : Env} {R : Room} {s : State} {m : MethodId} {args : Array Value} {below : List Frame} {meth : Method} {c : Code} {H : Heap} {locs : List Loc} {cells slots : Nat} {Q : State → Prop}
variable {cc : ByteArray} {pc : Nat} {arr : Array Slot} {ad : Nat → Nat} {rest : List Value}
variable {T : ix_T} {D : va_G} {cl : List vw_C} {aC : Nat → ClassId} {tys : List (ClassId × FieldType)} {on : Nat → String} {Ts : List Cond} {base : Nat} {hp : ix_H} {oc : Nat}
theorem ix_putf (hx : p.tables.exec = Jvm.exec) (hb : c.code = cc) (had : ∀ a : Nat, a < 1000000 → ad a = base + a) (hts : ∀ w ∈ Ts, w.before args s = true) (hown : s.vm.findClass (on oc) = some m.cls) (hK : va_K D cl tys s) (hF : ix_okF T cl on Ts) (hO : ix_okD T cl on Ts) (hW : ix_W D cl aC ad base hp s H locs)
    {idx ci j a : Nat} {fs : List Value} {v : Value} (h1 : ix_tF T oc idx = some (ci, j)) (h2 : ix_obj hp a = some (ci, fs)) (h3 : j < fs.length) (hn : narrow ((ix_tD T ci).2 j).1 v = v) (hf : fits ((ix_tD T ci).2 j).1 v = true) (hfin : ((ix_tD T ci).2 j).2 = false ∨ (meth.name = "<init>" ∧ ci = oc)) (hd : decode cc pc = .ok (.putfield idx, 3))
    (k : ∀ (H1 : Heap) (locs1 : List Loc), ix_W D cl aC ad base (ix_put hp a (.inr (ci, fs.set j v))) s H1 locs1 → W p l e R s m args below meth c H1 locs1 cells slots Q (F0 m (pc + 3) arr rest)) : W p l e R s m args below meth c H locs cells slots Q (F0 m pc arr (ix_v ad v :: .ref (ad a) :: rest)) := by
  obtain ⟨ha, he⟩ := ix_obj_ok h2
  obtain ⟨r, hr, hj, hl⟩ := hF _ _ _ _ h1
  obtain ⟨-, hon, hin, hpd, hfd, hnm, -⟩ := hO _ _ hr
  obtain ⟨hcap, hP, hD, hS⟩ := hW
  rw [had a (by omega)]
  have hw := ix_ws_get (aC := aC) (ad := ad) (base := base) (h := hp.2.2) ha
  rw [he] at hw
  have hset : (ix_ws aC ad base hp.1 hp.2.2).set a (base + a, .inr (ci, (fs.map (ix_v ad)).set j (ix_v ad v))) = ix_ws aC ad base hp.1 (ix_up hp.2.2 a (.inr (ci, fs.set j v))) := by
    rw [← ix_ws_set]
    simp only [ix_e, List.map_set]
  cases hfb : ((ix_tD T ci).2 j).2 with
  | false =>
    refine va_put (D := D) (ci := ci) (C := r.1) (T := r.2.1) (N := r.2.2) hx hb hts hin (fun k => ((ix_tD T ci).2 k).1) hpd hnm hown hK hP hD hS a hw hr j hj (hts _ hl) (fun x h9 => by rw [(hfd j hj).2] at h9; exact h9) (by rw [(hfd j hj).1]; exact hfb) (hpd j hj) (ix_v_narrow hn) (ix_v_fits hf) (by rw [List.length_map]; exact h3) hd (fun H1 locs1 hP1 hD1 hS1 => ?_)
    rw [hset] at hP1 hD1
    exact k H1 locs1 ⟨hcap, hP1, hD1, hS1⟩
  | true =>
    have hfi : meth.name = "<init>" ∧ ci = oc := hfin.resolve_left (by rw [hfb]; decide)
    refine va_putF (D := D) (ci := ci) (C := r.1) (T := r.2.1) (N := r.2.2) hx hb hts hin (fun k => ((ix_tD T ci).2 k).1) hpd hnm hown hK hP hD hS a hw hr j hj (hts _ hl) (fun x h9 => by rw [(hfd j hj).2] at h9; exact h9) (by rw [(hfd j hj).1]; exact hfb) hfi.1 (by rw [(hfd j hj).2, ← hon, hfi.2]) (hpd j hj) (ix_v_narrow hn) (ix_v_fits hf) (by rw [List.length_map]; exact h3) hd (fun H1 locs1 hP1 hD1 hS1 => ?_)
    rw [hset] at hP1 hD1
    exact k H1 locs1 ⟨hcap, hP1, hD1, hS1⟩
theorem ix_alen (hx : p.tables.exec = Jvm.exec) (hb : c.code = cc) (had : ∀ a : Nat, a < 1000000 → ad a = base + a) (hK : va_K D cl tys s) (hY : ix_okY T cl aC tys Ts s) (hW : ix_W D cl aC ad base hp s H locs)
    {a t n : Nat} {x : (Nat → Int32) ⊕ (Nat → Int64) ⊕ (Nat → UInt32) ⊕ (Nat → UInt64) ⊕ (Nat → Option Nat)} (h2 : ix_arr hp a = some (t, n, x)) (ht : t < 3 ∨ (ix_tE T t).isSome = true) (hd : decode cc pc = .ok (.arraylength, 1))
    (k : W p l e R s m args below meth c H locs cells slots Q (F0 m (pc + 1) arr (.int (Int32.ofNat n) :: rest))) : W p l e R s m args below meth c H locs cells slots Q (F0 m pc arr (.ref (ad a) :: rest)) := by
  obtain ⟨ha, he⟩ := ix_arr_ok h2
  obtain ⟨hcap, hP, hD, hS⟩ := hW
  rw [had a (by omega)]
  have hw := ix_ws_get (aC := aC) (ad := ad) (base := base) (h := hp.2.2) ha
  rw [he] at hw
  have hn : (ix_a ad (n, x)).1 = n := by
    rcases x with f | f | f | f | f <;> rfl
  have hty : ∃ ty, tys[t]? = some (aC t, ty) := by
    rcases ht with h | h
    · obtain ⟨⟨y0, y1, y2⟩, -, -⟩ := hY
      rcases (show t = 0 ∨ t = 1 ∨ t = 2 by omega) with rfl | rfl | rfl
      · exact ⟨_, y0⟩
      · exact ⟨_, y1⟩
      · exact ⟨_, y2⟩
    · obtain ⟨ci, hci⟩ := Option.isSome_iff_exists.mp h
      obtain ⟨r, -, hr, -⟩ := hY.2.2 t ci hci
      exact ⟨_, hr⟩
  obtain ⟨ty, hty⟩ := hty
  exact va_alen hx hb hK hP a t hw hty (by rw [hn]) hd k
theorem ix_vin {i : Int32} {n : Nat} (h : ¬ (i < 0 ∨ n ≤ i.toNatClampNeg)) : vp_in i n := h
theorem ix_iald (hx : p.tables.exec = Jvm.exec) (hb : c.code = cc) (had : ∀ a : Nat, a < 1000000 → ad a = base + a) (hK : va_K D cl tys s) (hY : ix_okY T cl aC tys Ts s) (hW : ix_W D cl aC ad base hp s H locs)
    {a n : Nat} {i : Int32} {f : Nat → Int32} (h2 : ix_arr hp a = some (0, n, .inl f)) (hi : ¬ (i < 0 ∨ n ≤ i.toNatClampNeg)) (hd : decode cc pc = .ok (.iaload, 1))
    (k : W p l e R s m args below meth c H locs cells slots Q (F0 m (pc + 1) arr (.int (f i.toNatClampNeg) :: rest))) : W p l e R s m args below meth c H locs cells slots Q (F0 m pc arr (.int i :: .ref (ad a) :: rest)) := by
  obtain ⟨ha, he⟩ := ix_arr_ok h2
  obtain ⟨hcap, hP, hD, hS⟩ := hW
  rw [had a (by omega)]
  have hw := ix_ws_get (aC := aC) (ad := ad) (base := base) (h := hp.2.2) ha
  rw [he] at hw
  exact va_iald hx hb hK hP a 0 hw hY.1.1 hi hd k
theorem ix_lald (hx : p.tables.exec = Jvm.exec) (hb : c.code = cc) (had : ∀ a : Nat, a < 1000000 → ad a = base + a) (hK : va_K D cl tys s) (hY : ix_okY T cl aC tys Ts s) (hW : ix_W D cl aC ad base hp s H locs)
    {a n : Nat} {i : Int32} {f : Nat → Int64} (h2 : ix_arr hp a = some (1, n, .inr (.inl f))) (hi : ¬ (i < 0 ∨ n ≤ i.toNatClampNeg)) (hd : decode cc pc = .ok (.laload, 1))
    (k : W p l e R s m args below meth c H locs cells slots Q (F0 m (pc + 1) arr (.long (f i.toNatClampNeg) :: rest))) : W p l e R s m args below meth c H locs cells slots Q (F0 m pc arr (.int i :: .ref (ad a) :: rest)) := by
  obtain ⟨ha, he⟩ := ix_arr_ok h2
  obtain ⟨hcap, hP, hD, hS⟩ := hW
  rw [had a (by omega)]
  have hw := ix_ws_get (aC := aC) (ad := ad) (base := base) (h := hp.2.2) ha
  rw [he] at hw
  exact va_lald hx hb hK hP a 1 hw hY.1.2.1 hi hd k
theorem ix_zald (hx : p.tables.exec = Jvm.exec) (hb : c.code = cc) (had : ∀ a : Nat, a < 1000000 → ad a = base + a) (hK : va_K D cl tys s) (hY : ix_okY T cl aC tys Ts s) (hW : ix_W D cl aC ad base hp s H locs)
    {a n : Nat} {i : Int32} {f : Nat → Int32} (h2 : ix_arr hp a = some (2, n, .inl f)) (hi : ¬ (i < 0 ∨ n ≤ i.toNatClampNeg)) (hd : decode cc pc = .ok (.baload, 1))
    (k : W p l e R s m args below meth c H locs cells slots Q (F0 m (pc + 1) arr (.int (f i.toNatClampNeg) :: rest))) : W p l e R s m args below meth c H locs cells slots Q (F0 m pc arr (.int i :: .ref (ad a) :: rest)) := by
  obtain ⟨ha, he⟩ := ix_arr_ok h2
  obtain ⟨hcap, hP, hD, hS⟩ := hW
  rw [had a (by omega)]
  have hw := ix_ws_get (aC := aC) (ad := ad) (base := base) (h := hp.2.2) ha
  rw [he] at hw
  exact va_zald hx hb hK hP a 2 hw hY.1.2.2 hi hd k
theorem ix_v_rf (ad : Nat → Nat) (r : Option Nat) : ix_v ad (va_rf r) = va_rf (r.map ad) := by cases r <;> rfl
theorem ix_aald (hx : p.tables.exec = Jvm.exec) (hb : c.code = cc) (had : ∀ a : Nat, a < 1000000 → ad a = base + a) (hK : va_K D cl tys s) (hY : ix_okY T cl aC tys Ts s) (hW : ix_W D cl aC ad base hp s H locs)
    {a t n : Nat} {i : Int32} {f : Nat → Option Nat} (h2 : ix_arr hp a = some (t, n, .inr (.inr (.inr (.inr f))))) (ht : (ix_tE T t).isSome = true) (hi : ¬ (i < 0 ∨ n ≤ i.toNatClampNeg)) (hd : decode cc pc = .ok (.aaload, 1))
    (k : W p l e R s m args below meth c H locs cells slots Q (F0 m (pc + 1) arr (ix_v ad (va_rf (f i.toNatClampNeg)) :: rest))) : W p l e R s m args below meth c H locs cells slots Q (F0 m pc arr (.int i :: .ref (ad a) :: rest)) := by
  obtain ⟨ha, he⟩ := ix_arr_ok h2
  obtain ⟨hcap, hP, hD, hS⟩ := hW
  rw [had a (by omega)]
  have hw := ix_ws_get (aC := aC) (ad := ad) (base := base) (h := hp.2.2) ha
  rw [he] at hw
  obtain ⟨ci, hci⟩ := Option.isSome_iff_exists.mp ht
  obtain ⟨r, -, hr, -⟩ := hY.2.2 t ci hci
  rw [ix_v_rf] at k
  exact va_aldq hx hb hK hP a t hw hr hi hd k
end IX3
end
