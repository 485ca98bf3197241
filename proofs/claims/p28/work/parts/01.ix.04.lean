section
noncomputable def ix_okC (T : ix_T) (cl : List vw_C) (on : Nat → String) (Ts : List Cond) : Prop := ∀ (oc idx ci t : Nat), ix_tC T oc idx = some (ci, t) → ∃ r : vw_C, cl[ci]? = some r ∧ Cond.classLink (on oc) idx r.1 ∈ Ts ∧ (¬ t = 0 → ix_tE T t = some ci)
noncomputable def ix_okK (T : ix_T) (on : Nat → String) (Ts : List Cond) : Prop := (∀ (oc idx : Nat) (v : Int32), ix_tK T oc idx = some (.int v) → Jvm.Cond.constant (on oc) idx v ∈ Ts) ∧ ∀ (oc idx : Nat) (v : Int64), ix_tK T oc idx = some (.long v) → Jvm.Cond.constantLong (on oc) idx v ∈ Ts
/-- the array types: 0 int, 1 long, 2 boolean, then those of objects -/
noncomputable def ix_okY (T : ix_T) (cl : List vw_C) (aC : Nat → ClassId) (tys : List (ClassId × FieldType)) (Ts : List Cond) (s : State) : Prop := (tys[0]? = some (aC 0, .int) ∧ tys[1]? = some (aC 1, .long) ∧ tys[2]? = some (aC 2, .boolean)) ∧ (Cond.arrayClass .int ∈ Ts ∧ Cond.arrayClass .long ∈ Ts ∧ Cond.arrayClass .boolean ∈ Ts) ∧ ∀ (t ci : Nat), ix_tE T t = some ci → ∃ r : vw_C, cl[ci]? = some r ∧ tys[t]? = some (aC t, .object r.1) ∧ va_AO r.1 s
/-- the constant rows, and the statics that hold them -/
noncomputable def ix_okA (T : ix_T) (on : Nat → String) (Ts : List Cond) (ad : Nat → Nat) (base : Nat) (U : State) (H : Heap) : Prop := (∀ (k N : Nat) (f : Nat → Int32), ix_tA T k = some (N, f) → va_T .int (ad (1000000 + k)) N (fun j => .int (f j)) (fun q => base ≤ q) U H) ∧ (∀ (oc idx : Nat) (v : Value), ix_tS T oc idx = some v → ∃ C n d : String, Cond.fieldLink (on oc) idx C n d ∈ Ts ∧ va_Z C n d (ix_v ad v) (fun q => base ≤ q) U H) ∧ (∀ (k N : Nat) (f : Nat → Int32), ix_tB T k = some (N, f) → va_T .byte (ad (1000000 + k)) N (fun j => .int (f j)) (fun q => base ≤ q) U H) ∧ (∀ (k b : Nat), ix_tO T k = some b → va_O "java/lang/String" (ad (1000000 + k)) (fun q => base ≤ q) U H ∧ va_OF "java/lang/String" "coder" "B" (.int 0) (ad (1000000 + k)) (fun q => base ≤ q) U H ∧ va_OF "java/lang/String" "value" "[B" (.ref (ad (1000000 + b))) (ad (1000000 + k)) (fun q => base ≤ q) U H) ∧ (∀ (oc idx a : Nat), ix_tK T oc idx = some (.ref a) → ∃ tx : String, vk_R (on oc) idx tx (ad a) U) ∧ ∀ (oc idx : Nat) (g : Bool), ix_tG T oc idx = some g → Cond.fieldLink (on oc) idx "java/lang/String" (bif g then "value" else "coder") (bif g then "[B" else "B") ∈ Ts
/-- the heap holds the abstract cells from the address base on; nothing below it was touched -/
noncomputable def ix_W (D : va_G) (cl : List vw_C) (aC : Nat → ClassId) (ad : Nat → Nat) (base : Nat) (hp : ix_H) (s : State) (H : Heap) (locs : List Loc) : Prop := hp.1 ≤ 1000000 ∧ va_P D cl (ix_ws aC ad base hp.1 hp.2.2) H ∧ va_D (fun q => base ≤ q) (ix_ws aC ad base hp.1 hp.2.2) ∧ va_S (fun q => base ≤ q) s.heap H locs
section IX3
variable {p : Program} {l : Launch} {e : Env} {R : Room} {s : State} {m : MethodId} {args : Array Value} {below : List Frame} {meth : Method} {c : Code} {H : Heap} {locs : List Loc} {cells slots : Nat} {Q : State → Prop}
variable {cc : ByteArray} {pc : Nat} {arr : Array Slot} {ad : Nat → Nat} {rest : List Value}
variable {T : ix_T} {D : va_G} {cl : List vw_C} {aC : Nat → ClassId} {tys : List (ClassId × FieldType)} {on : Nat → String} {Ts : List Cond} {base : Nat} {hp : ix_H} {oc : Nat}
theorem ix_size {g : JFrame} (k : H.size ≤ s.heap.size + cells → W p l e R s m args below meth c H locs cells slots Q g) : W p l e R s m args below meth c H locs cells slots Q g := fun T hT X => k (by rw [← hT]; exact X.heapSize) T hT X
theorem ix_W.lo (hW : ix_W D cl aC ad base hp s H locs) {n0 : Nat} (h0 : s.heap.size = base + n0) : base + hp.1 ≤ H.size := by
  obtain ⟨hc, hP, hD, hS⟩ := hW
  by_cases hz : hp.1 = 0
  · have := hS.1
    omega
  · have h1 := (hP (hp.1 - 1) _ (ix_ws_get (by omega))).lt
    have h2 : base + (hp.1 - 1) < H.size := h1
    omega
theorem ix_W.eqs (hW : ix_W D cl aC ad base hp s H locs) {n0 : Nat} (h0 : s.heap.size = base + n0) (hn : n0 ≤ hp.1) (hu : H.size ≤ s.heap.size + (hp.1 - n0)) : H.size = base + hp.1 := by
  have := hW.lo h0
  omega
theorem ix_getf (hx : p.tables.exec = Jvm.exec) (hb : c.code = cc) (had : ∀ a : Nat, a < 1000000 → ad a = base + a) (hts : ∀ w ∈ Ts, w.before args s = true) (hown : s.vm.findClass (on oc) = some m.cls) (hK : va_K D cl tys s) (hF : ix_okF T cl on Ts) (hO : ix_okD T cl on Ts) (hW : ix_W D cl aC ad base hp s H locs)
    {idx ci j a : Nat} {fs : List Value} {v : Value} (h1 : ix_tF T oc idx = some (ci, j)) (h2 : ix_obj hp a = some (ci, fs)) (h3 : fs[j]? = some v) (hd : decode cc pc = .ok (.getfield idx, 3))
    (k : W p l e R s m args below meth c H locs cells slots Q (F0 m (pc + 3) arr (ix_v ad v :: rest))) : W p l e R s m args below meth c H locs cells slots Q (F0 m pc arr (.ref (ad a) :: rest)) := by
  obtain ⟨ha, he⟩ := ix_obj_ok h2
  obtain ⟨r, hr, hj, hl⟩ := hF _ _ _ _ h1
  obtain ⟨-, -, hin, -, hfd, -⟩ := hO _ _ hr
  obtain ⟨hcap, hP, hD, hS⟩ := hW
  rw [had a (by omega)]
  have hw := ix_ws_get (aC := aC) (ad := ad) (base := base) (h := hp.2.2) ha
  rw [he] at hw
  exact va_get (D := D) (ci := ci) (C := r.1) (T := r.2.1) (N := r.2.2) hx hb hts hin hown hK hP a hw hr j hj (hts _ hl) (fun x h9 => by rw [(hfd j hj).2] at h9; exact h9) (by rw [List.getElem?_map, h3]; rfl) hd k
theorem ix_putf (hx : p.tables.exec = Jvm.exec) (hb : c.code = cc) (had : ∀ a : Nat, a < 1000000 → ad a = base + a) (hts : ∀ w ∈ Ts, w.before args s = true) (hown : s.vm.findClass (on oc) = some m.cls) (hK : va_K D cl tys s) (hF : ix_okF T cl on Ts) (hO : ix_okD T cl on Ts) (hW : ix_W D cl aC ad base hp s H locs)
    {idx ci j a : Nat} {fs : List Value} {v : Value} (h1 : ix_tF T oc idx = some (ci, j)) (h2 : ix_obj hp a = some (ci, fs)) (h3 : j < fs.length) (hn : narrow ((ix_tD T ci).2 j).1 v = v) (hf : fits ((ix_tD T ci).2 j).1 v = true) (hfin : ((ix_tD T ci).2 j).2 = false ∨ (meth.name = "<init>" ∧ ci = oc)) (hd : decode cc pc = .ok (.putfield idx, 3))
    (k : ∀ (H1 : Heap) (locs1 : List Loc), ix_W D cl aC ad base (ix_put hp a (.inr (ci, fs.set j v))) s H1 locs1 → W p l e R s m args below meth c H1 locs1 cells slots Q (F0 m (pc + 3) arr rest)) : W p l e R s m args below meth c H locs cells slots Q (F0 m pc arr (ix_v ad v :: .ref (ad a) :: rest)) := by
  obtain ⟨ha, he⟩ := ix_obj_ok h2
  obtain ⟨r, hr, hj, hl⟩ := hF _ _ _ _ h1
  obtain ⟨-, hon, hin, hpd, hfd, hnm, -⟩ := hO _ _ hr
  obtain ⟨hcap, hP, hD, hS⟩ := hW
  rw [had a (by omega)]
  have hw := ix_ws_get (aC := aC) (ad := ad) (base := base) (h := hp.2.2) ha
  rw [he] at hw
  have hset : (ix_ws aC ad base hp.1 hp.2.2).set a (base + a, .inr (ci, (fs.map (ix_v ad)).set j (ix_v ad v))) = ix_ws aC ad base hp.1 (ix_up hp.2.2 a (.inr (ci, fs.set j v))) := by
    rw [← ix_ws_set]
    simp only [ix_e, List.map_set]
  cases hfb : ((ix_tD T ci).2 j).2 with
  | false =>
    refine va_put (D := D) (ci := ci) (C := r.1) (T := r.2.1) (N := r.2.2) hx hb hts hin (fun k => ((ix_tD T ci).2 k).1) hpd hnm hown hK hP hD hS a hw hr j hj (hts _ hl) (fun x h9 => by rw [(hfd j hj).2] at h9; exact h9) (by rw [(hfd j hj).1]; exact hfb) (hpd j hj) (ix_v_narrow hn) (ix_v_fits hf) (by rw [List.length_map]; exact h3) hd (fun H1 locs1 hP1 hD1 hS1 => ?_)
    rw [hset] at hP1 hD1
    exact k H1 locs1 ⟨hcap, hP1, hD1, hS1⟩
  | true =>
    have hfi : meth.name = "<init>" ∧ ci = oc := hfin.resolve_left (by rw [hfb]; decide)
    refine va_putF (D := D) (ci := ci) (C := r.1) (T := r.2.1) (N := r.2.2) hx hb hts hin (fun k => ((ix_tD T ci).2 k).1) hpd hnm hown hK hP hD hS a hw hr j hj (hts _ hl) (fun x h9 => by rw [(hfd j hj).2] at h9; exact h9) (by rw [(hfd j hj).1]; exact hfb) hfi.1 (by rw [(hfd j hj).2, ← hon, hfi.2]) (hpd j hj) (ix_v_narrow hn) (ix_v_fits hf) (by rw [List.length_map]; exact h3) hd (fun H1 locs1 hP1 hD1 hS1 => ?_)
    rw [hset] at hP1 hD1
    exact k H1 locs1 ⟨hcap, hP1, hD1, hS1⟩
theorem ix_alen (hx : p.tables.exec = Jvm.exec) (hb : c.code = cc) (had : ∀ a : Nat, a < 1000000 → ad a = base + a) (hK : va_K D cl tys s) (hY : ix_okY T cl aC tys Ts s) (hW : ix_W D cl aC ad base hp s H locs)
    {a t n : Nat} {x : (Nat → Int32) ⊕ (Nat → Int64) ⊕ (Nat → UInt32) ⊕ (Nat → UInt64) ⊕ (Nat → Option Nat)} (h2 : ix_arr hp a = some (t, n, x)) (ht : t < 3 ∨ (ix_tE T t).isSome = true) (hd : decode cc pc = .ok (.arraylength, 1))
    (k : W p l e R s m args below meth c H locs cells slots Q (F0 m (pc + 1) arr (.int (Int32.ofNat n) :: rest))) : W p l e R s m args below meth c H locs cells slots Q (F0 m pc arr (.ref (ad a) :: rest)) := by
  obtain ⟨ha, he⟩ := ix_arr_ok h2
  obtain ⟨hcap, hP, hD, hS⟩ := hW
  rw [had a (by omega)]
  have hw := ix_ws_get (aC := aC) (ad := ad) (base := base) (h := hp.2.2) ha
  rw [he] at hw
  have hn : (ix_a ad (n, x)).1 = n := by
    rcases x with f | f | f | f | f <;> rfl
  have hty : ∃ ty, tys[t]? = some (aC t, ty) := by
    rcases ht with h | h
    · obtain ⟨⟨y0, y1, y2⟩, -, -⟩ := hY
      rcases (show t = 0 ∨ t = 1 ∨ t = 2 by omega) with rfl | rfl | rfl
      · exact ⟨_, y0⟩
      · exact ⟨_, y1⟩
      · exact ⟨_, y2⟩
    · obtain ⟨ci, hci⟩ := Option.isSome_iff_exists.mp h
      obtain ⟨r, -, hr, -⟩ := hY.2.2 t ci hci
      exact ⟨_, hr⟩
  obtain ⟨ty, hty⟩ := hty
  exact va_alen hx hb hK hP a t hw hty (by rw [hn]) hd k
theorem ix_vin {i : Int32} {n : Nat} (h : ¬ (i < 0 ∨ n ≤ i.toNatClampNeg)) : vp_in i n := h
theorem ix_iald (hx : p.tables.exec = Jvm.exec) (hb : c.code = cc) (had : ∀ a : Nat, a < 1000000 → ad a = base + a) (hK : va_K D cl tys s) (hY : ix_okY T cl aC tys Ts s) (hW : ix_W D cl aC ad base hp s H locs)
    {a n : Nat} {i : Int32} {f : Nat → Int32} (h2 : ix_arr hp a = some (0, n, .inl f)) (hi : ¬ (i < 0 ∨ n ≤ i.toNatClampNeg)) (hd : decode cc pc = .ok (.iaload, 1))
    (k : W p l e R s m args below meth c H locs cells slots Q (F0 m (pc + 1) arr (.int (f i.toNatClampNeg) :: rest))) : W p l e R s m args below meth c H locs cells slots Q (F0 m pc arr (.int i :: .ref (ad a) :: rest)) := by
  obtain ⟨ha, he⟩ := ix_arr_ok h2
  obtain ⟨hcap, hP, hD, hS⟩ := hW
  rw [had a (by omega)]
  have hw := ix_ws_get (aC := aC) (ad := ad) (base := base) (h := hp.2.2) ha
  rw [he] at hw
  exact va_iald hx hb hK hP a 0 hw hY.1.1 hi hd k
theorem ix_lald (hx : p.tables.exec = Jvm.exec) (hb : c.code = cc) (had : ∀ a : Nat, a < 1000000 → ad a = base + a) (hK : va_K D cl tys s) (hY : ix_okY T cl aC tys Ts s) (hW : ix_W D cl aC ad base hp s H locs)
    {a n : Nat} {i : Int32} {f : Nat → Int64} (h2 : ix_arr hp a = some (1, n, .inr (.inl f))) (hi : ¬ (i < 0 ∨ n ≤ i.toNatClampNeg)) (hd : decode cc pc = .ok (.laload, 1))
    (k : W p l e R s m args below meth c H locs cells slots Q (F0 m (pc + 1) arr (.long (f i.toNatClampNeg) :: rest))) : W p l e R s m args below meth c H locs cells slots Q (F0 m pc arr (.int i :: .ref (ad a) :: rest)) := by
  obtain ⟨ha, he⟩ := ix_arr_ok h2
  obtain ⟨hcap, hP, hD, hS⟩ := hW
  rw [had a (by omega)]
  have hw := ix_ws_get (aC := aC) (ad := ad) (base := base) (h := hp.2.2) ha
  rw [he] at hw
  exact va_lald hx hb hK hP a 1 hw hY.1.2.1 hi hd k
theorem ix_zald (hx : p.tables.exec = Jvm.exec) (hb : c.code = cc) (had : ∀ a : Nat, a < 1000000 → ad a = base + a) (hK : va_K D cl tys s) (hY : ix_okY T cl aC tys Ts s) (hW : ix_W D cl aC ad base hp s H locs)
    {a n : Nat} {i : Int32} {f : Nat → Int32} (h2 : ix_arr hp a = some (2, n, .inl f)) (hi : ¬ (i < 0 ∨ n ≤ i.toNatClampNeg)) (hd : decode cc pc = .ok (.baload, 1))
    (k : W p l e R s m args below meth c H locs cells slots Q (F0 m (pc + 1) arr (.int (f i.toNatClampNeg) :: rest))) : W p l e R s m args below meth c H locs cells slots Q (F0 m pc arr (.int i :: .ref (ad a) :: rest)) := by
  obtain ⟨ha, he⟩ := ix_arr_ok h2
  obtain ⟨hcap, hP, hD, hS⟩ := hW
  rw [had a (by omega)]
  have hw := ix_ws_get (aC := aC) (ad := ad) (base := base) (h := hp.2.2) ha
  rw [he] at hw
  exact va_zald hx hb hK hP a 2 hw hY.1.2.2 hi hd k
theorem ix_v_rf (ad : Nat → Nat) (r : Option Nat) : ix_v ad (va_rf r) = va_rf (r.map ad) := by cases r <;> rfl
end IX3
end
