section
section IX3
variable {p : Program} {l : Launch} {e : Env} {R : Room} {s : State} {m : MethodId} {args : Array Value} {below : List Frame} {meth : Method} {c : Code} {H : Heap} {locs : List Loc} {cells slots : Nat} {Q : State → Prop}
variable {cc : ByteArray} {pc : Nat} {arr : Array Slot} {ad : Nat → Nat} {rest : List Value}
variable {T : ix_T} {D : va_G} {cl : List vw_C} {aC : Nat → ClassId} {tys : List (ClassId × FieldType)} {on : Nat → String} {Ts : List Cond} {base : Nat} {hp : ix_H} {oc : Nat}
theorem ix_alen (hx : p.tables.exec = Jvm.exec) (hb : c.code = cc) (had : ∀ a : Nat, a < 1000000 → ad a = base + a) (hK : va_K D cl tys s) (hY : ix_okY T cl aC tys Ts s) (hW : ix_W D cl aC ad base hp s H locs)
    {a t n : Nat} {x : (Nat → Int32) ⊕ (Nat → Int64) ⊕ (Nat → UInt32) ⊕ (Nat → UInt64) ⊕ (Nat → Option Nat)} (h2 : ix_arr hp a = some (t, n, x)) (ht : t < 3 ∨ (ix_tE T t).isSome = true) (hd : decode cc pc = .ok (.arraylength, 1))
    (k : W p l e R s m args below meth c H locs cells slots Q (F0 m (pc + 1) arr (.int (Int32.ofNat n) :: rest))) : W p l e R s m args below meth c H locs cells slots Q (F0 m pc arr (.ref (ad a) :: rest)) := by
  obtain ⟨ha, he⟩ := ix_arr_ok h2
  obtain ⟨hcap, hP, hD, hS⟩ := hW
  rw [had a (by omega)]
  have hw := ix_ws_get (aC := aC) (ad := ad) (base := base) (h := hp.2.2) ha
  rw [he] at hw
  have hn : (ix_a ad (n, x)).1 = n := by
    rcases x with f | f | f | f | f <;> rfl
  have hty : ∃ ty, tys[t]? = some (aC t, ty) := by
    rcases ht with h | h
    · obtain ⟨⟨y0, y1, y2⟩, -, -⟩ := hY
      rcases (show t = 0 ∨ t = 1 ∨ t = 2 by omega) with rfl | rfl | rfl
      · exact ⟨_, y0⟩
      · exact ⟨_, y1⟩
      · exact ⟨_, y2⟩
    · obtain ⟨ci, hci⟩ := Option.isSome_iff_exists.mp h
      obtain ⟨r, -, hr, -⟩ := hY.2.2 t ci hci
      exact ⟨_, hr⟩
  obtain ⟨ty, hty⟩ := hty
  exact va_alen hx hb hK hP a t hw hty (by rw [hn]) hd k
theorem ix_vin {i : Int32} {n : Nat} (h : ¬ (i < 0 ∨ n ≤ i.toNatClampNeg)) : vp_in i n := h
theorem ix_iald (hx : p.tables.exec = Jvm.exec) (hb : c.code = cc) (had : ∀ a : Nat, a < 1000000 → ad a = base + a) (hK : va_K D cl tys s) (hY : ix_okY T cl aC tys Ts s) (hW : ix_W D cl aC ad base hp s H locs)
    {a n : Nat} {i : Int32} {f : Nat → Int32} (h2 : ix_arr hp a = some (0, n, .inl f)) (hi : ¬ (i < 0 ∨ n ≤ i.toNatClampNeg)) (hd : decode cc pc = .ok (.iaload, 1))
    (k : W p l e R s m args below meth c H locs cells slots Q (F0 m (pc + 1) arr (.int (f i.toNatClampNeg) :: rest))) : W p l e R s m args below meth c H locs cells slots Q (F0 m pc arr (.int i :: .ref (ad a) :: rest)) := by
  obtain ⟨ha, he⟩ := ix_arr_ok h2
  obtain ⟨hcap, hP, hD, hS⟩ := hW
  rw [had a (by omega)]
  have hw := ix_ws_get (aC := aC) (ad := ad) (base := base) (h := hp.2.2) ha
  rw [he] at hw
  exact va_iald hx hb hK hP a 0 hw hY.1.1 hi hd k
theorem ix_lald (hx : p.tables.exec = Jvm.exec) (hb : c.code = cc) (had : ∀ a : Nat, a < 1000000 → ad a = base + a) (hK : va_K D cl tys s) (hY : ix_okY T cl aC tys Ts s) (hW : ix_W D cl aC ad base hp s H locs)
    {a n : Nat} {i : Int32} {f : Nat → Int64} (h2 : ix_arr hp a = some (1, n, .inr (.inl f))) (hi : ¬ (i < 0 ∨ n ≤ i.toNatClampNeg)) (hd : decode cc pc = .ok (.laload, 1))
    (k : W p l e R s m args below meth c H locs cells slots Q (F0 m (pc + 1) arr (.long (f i.toNatClampNeg) :: rest))) : W p l e R s m args below meth c H locs cells slots Q (F0 m pc arr (.int i :: .ref (ad a) :: rest)) := by
  obtain ⟨ha, he⟩ := ix_arr_ok h2
  obtain ⟨hcap, hP, hD, hS⟩ := hW
  rw [had a (by omega)]
  have hw := ix_ws_get (aC := aC) (ad := ad) (base := base) (h := hp.2.2) ha
  rw [he] at hw
  exact va_lald hx hb hK hP a 1 hw hY.1.2.1 hi hd k
theorem ix_zald (hx : p.tables.exec = Jvm.exec) (hb : c.code = cc) (had : ∀ a : Nat, a < 1000000 → ad a = base + a) (hK : va_K D cl tys s) (hY : ix_okY T cl aC tys Ts s) (hW : ix_W D cl aC ad base hp s H locs)
    {a n : Nat} {i : Int32} {f : Nat → Int32} (h2 : ix_arr hp a = some (2, n, .inl f)) (hi : ¬ (i < 0 ∨ n ≤ i.toNatClampNeg)) (hd : decode cc pc = .ok (.baload, 1))
    (k : W p l e R s m args below meth c H locs cells slots Q (F0 m (pc + 1) arr (.int (f i.toNatClampNeg) :: rest))) : W p l e R s m args below meth c H locs cells slots Q (F0 m pc arr (.int i :: .ref (ad a) :: rest)) := by
  obtain ⟨ha, he⟩ := ix_arr_ok h2
  obtain ⟨hcap, hP, hD, hS⟩ := hW
  rw [had a (by omega)]
  have hw := ix_ws_get (aC := aC) (ad := ad) (base := base) (h := hp.2.2) ha
  rw [he] at hw
  exact va_zald hx hb hK hP a 2 hw hY.1.2.2 hi hd k
theorem ix_v_rf (ad : Nat → Nat) (r : Option Nat) : ix_v ad (va_rf r) = va_rf (r.map ad) := by cases r <;> rfl
theorem ix_aald (hx : p.tables.exec = Jvm.exec) (hb : c.code = cc) (had : ∀ a : Nat, a < 1000000 → ad a = base + a) (hK : va_K D cl tys s) (hY : ix_okY T cl aC tys Ts s) (hW : ix_W D cl aC ad base hp s H locs)
    {a t n : Nat} {i : Int32} {f : Nat → Option Nat} (h2 : ix_arr hp a = some (t, n, .inr (.inr (.inr (.inr f))))) (ht : (ix_tE T t).isSome = true) (hi : ¬ (i < 0 ∨ n ≤ i.toNatClampNeg)) (hd : decode cc pc = .ok (.aaload, 1))
    (k : W p l e R s m args below meth c H locs cells slots Q (F0 m (pc + 1) arr (ix_v ad (va_rf (f i.toNatClampNeg)) :: rest))) : W p l e R s m args below meth c H locs cells slots Q (F0 m pc arr (.int i :: .ref (ad a) :: rest)) := by
  obtain ⟨ha, he⟩ := ix_arr_ok h2
  obtain ⟨hcap, hP, hD, hS⟩ := hW
  rw [had a (by omega)]
  have hw := ix_ws_get (aC := aC) (ad := ad) (base := base) (h := hp.2.2) ha
  rw [he] at hw
  obtain ⟨ci, hci⟩ := Option.isSome_iff_exists.mp ht
  obtain ⟨r, -, hr, -⟩ := hY.2.2 t ci hci
  rw [ix_v_rf] at k
  exact va_aldq hx hb hK hP a t hw hr hi hd k
theorem ix_iast (hx : p.tables.exec = Jvm.exec) (hb : c.code = cc) (had : ∀ a : Nat, a < 1000000 → ad a = base + a) (hK : va_K D cl tys s) (hY : ix_okY T cl aC tys Ts s) (hW : ix_W D cl aC ad base hp s H locs)
    {a n : Nat} {i x : Int32} {f : Nat → Int32} (h2 : ix_arr hp a = some (0, n, .inl f)) (hi : ¬ (i < 0 ∨ n ≤ i.toNatClampNeg)) (hd : decode cc pc = .ok (.iastore, 1))
    (k : ∀ (H1 : Heap) (locs1 : List Loc), ix_W D cl aC ad base (ix_put hp a (.inl (0, n, .inl (upd f i.toNatClampNeg x)))) s H1 locs1 → W p l e R s m args below meth c H1 locs1 cells slots Q (F0 m (pc + 1) arr rest)) : W p l e R s m args below meth c H locs cells slots Q (F0 m pc arr (.int x :: .int i :: .ref (ad a) :: rest)) := by
  obtain ⟨ha, he⟩ := ix_arr_ok h2
  obtain ⟨hcap, hP, hD, hS⟩ := hW
  rw [had a (by omega)]
  have hw := ix_ws_get (aC := aC) (ad := ad) (base := base) (h := hp.2.2) ha
  rw [he] at hw
  refine va_iast hx hb hK hP hD hS a 0 hw hY.1.1 hi hd (fun H1 locs1 hP1 hD1 hS1 => ?_)
  have hset := ix_ws_set (aC := aC) (ad := ad) (base := base) (n := hp.1) (h := hp.2.2) (i := a) (.inl (0, n, .inl (upd f i.toNatClampNeg x)))
  exact k H1 locs1 ⟨hcap, by show va_P D cl (ix_ws aC ad base hp.1 (ix_up hp.2.2 a _)) H1; rw [← hset]; exact hP1, by show va_D _ (ix_ws aC ad base hp.1 (ix_up hp.2.2 a _)); rw [← hset]; exact hD1, hS1⟩
theorem ix_last (hx : p.tables.exec = Jvm.exec) (hb : c.code = cc) (had : ∀ a : Nat, a < 1000000 → ad a = base + a) (hK : va_K D cl tys s) (hY : ix_okY T cl aC tys Ts s) (hW : ix_W D cl aC ad base hp s H locs)
    {a n : Nat} {i : Int32} {x : Int64} {f : Nat → Int64} (h2 : ix_arr hp a = some (1, n, .inr (.inl f))) (hi : ¬ (i < 0 ∨ n ≤ i.toNatClampNeg)) (hd : decode cc pc = .ok (.lastore, 1))
    (k : ∀ (H1 : Heap) (locs1 : List Loc), ix_W D cl aC ad base (ix_put hp a (.inl (1, n, .inr (.inl (vp_updL f i.toNatClampNeg x))))) s H1 locs1 → W p l e R s m args below meth c H1 locs1 cells slots Q (F0 m (pc + 1) arr rest)) : W p l e R s m args below meth c H locs cells slots Q (F0 m pc arr (.long x :: .int i :: .ref (ad a) :: rest)) := by
  obtain ⟨ha, he⟩ := ix_arr_ok h2
  obtain ⟨hcap, hP, hD, hS⟩ := hW
  rw [had a (by omega)]
  have hw := ix_ws_get (aC := aC) (ad := ad) (base := base) (h := hp.2.2) ha
  rw [he] at hw
  refine va_last hx hb hK hP hD hS a 1 hw hY.1.2.1 hi hd (fun H1 locs1 hP1 hD1 hS1 => ?_)
  have hset := ix_ws_set (aC := aC) (ad := ad) (base := base) (n := hp.1) (h := hp.2.2) (i := a) (.inl (1, n, .inr (.inl (vp_updL f i.toNatClampNeg x))))
  exact k H1 locs1 ⟨hcap, by show va_P D cl (ix_ws aC ad base hp.1 (ix_up hp.2.2 a _)) H1; rw [← hset]; exact hP1, by show va_D _ (ix_ws aC ad base hp.1 (ix_up hp.2.2 a _)); rw [← hset]; exact hD1, hS1⟩
theorem ix_zast (hx : p.tables.exec = Jvm.exec) (hb : c.code = cc) (had : ∀ a : Nat, a < 1000000 → ad a = base + a) (hK : va_K D cl tys s) (hY : ix_okY T cl aC tys Ts s) (hW : ix_W D cl aC ad base hp s H locs)
    {a n : Nat} {i x : Int32} {f : Nat → Int32} (h2 : ix_arr hp a = some (2, n, .inl f)) (hi : ¬ (i < 0 ∨ n ≤ i.toNatClampNeg)) (hd : decode cc pc = .ok (.bastore, 1))
    (k : ∀ (H1 : Heap) (locs1 : List Loc), ix_W D cl aC ad base (ix_put hp a (.inl (2, n, .inl (upd f i.toNatClampNeg (vp_nar .boolean x))))) s H1 locs1 → W p l e R s m args below meth c H1 locs1 cells slots Q (F0 m (pc + 1) arr rest)) : W p l e R s m args below meth c H locs cells slots Q (F0 m pc arr (.int x :: .int i :: .ref (ad a) :: rest)) := by
  obtain ⟨ha, he⟩ := ix_arr_ok h2
  obtain ⟨hcap, hP, hD, hS⟩ := hW
  rw [had a (by omega)]
  have hw := ix_ws_get (aC := aC) (ad := ad) (base := base) (h := hp.2.2) ha
  rw [he] at hw
  refine va_zast hx hb hK hP hD hS a 2 hw hY.1.2.2 hi hd (fun H1 locs1 hP1 hD1 hS1 => ?_)
  have hset := ix_ws_set (aC := aC) (ad := ad) (base := base) (n := hp.1) (h := hp.2.2) (i := a) (.inl (2, n, .inl (upd f i.toNatClampNeg (vp_nar .boolean x))))
  exact k H1 locs1 ⟨hcap, by show va_P D cl (ix_ws aC ad base hp.1 (ix_up hp.2.2 a _)) H1; rw [← hset]; exact hP1, by show va_D _ (ix_ws aC ad base hp.1 (ix_up hp.2.2 a _)); rw [← hset]; exact hD1, hS1⟩
theorem ix_aup (ad : Nat → Nat) (f : Nat → Option Nat) (j v : Nat) : (fun q => (va_up f j (some v) q).map ad) = va_up (fun q => (f q).map ad) j (some (ad v)) := by
  funext q
  by_cases h : q = j
  · subst h
    rw [va_up_self, va_up_self]
    rfl
  · rw [va_up_ne _ _ h, va_up_ne _ _ h]
theorem ix_aast (hx : p.tables.exec = Jvm.exec) (hb : c.code = cc) (had : ∀ a : Nat, a < 1000000 → ad a = base + a) (hK : va_K D cl tys s) (hY : ix_okY T cl aC tys Ts s) (hW : ix_W D cl aC ad base hp s H locs)
    {a t n v ci : Nat} {i : Int32} {f : Nat → Option Nat} {vs : List Value} (h2 : ix_arr hp a = some (t, n, .inr (.inr (.inr (.inr f))))) (h3 : ix_obj hp v = some (ci, vs)) (ht : ix_tE T t = some ci) (hi : ¬ (i < 0 ∨ n ≤ i.toNatClampNeg)) (hd : decode cc pc = .ok (.aastore, 1))
    (k : ∀ (H1 : Heap) (locs1 : List Loc), ix_W D cl aC ad base (ix_put hp a (.inl (t, n, .inr (.inr (.inr (.inr (va_up f i.toNatClampNeg (some v)))))))) s H1 locs1 → W p l e R s m args below meth c H1 locs1 cells slots Q (F0 m (pc + 1) arr rest)) : W p l e R s m args below meth c H locs cells slots Q (F0 m pc arr (.ref (ad v) :: .int i :: .ref (ad a) :: rest)) := by
  obtain ⟨ha, he⟩ := ix_arr_ok h2
  obtain ⟨hv, hve⟩ := ix_obj_ok h3
  obtain ⟨hcap, hP, hD, hS⟩ := hW
  have hw := ix_ws_get (aC := aC) (ad := ad) (base := base) (h := hp.2.2) ha
  rw [he] at hw
  have hwv := ix_ws_get (aC := aC) (ad := ad) (base := base) (h := hp.2.2) hv
  rw [hve] at hwv
  obtain ⟨r, hr, hty, -⟩ := hY.2.2 t ci ht
  have hset := ix_ws_set (aC := aC) (ad := ad) (base := base) (n := hp.1) (h := hp.2.2) (i := a) (.inl (t, n, .inr (.inr (.inr (.inr (va_up f i.toNatClampNeg (some v)))))))
  simp only [ix_e, ix_a, ix_aup] at hset
  rw [had v (by omega)] at hset ⊢
  rw [had a (by omega)]
  refine va_astq (r := r) hx hb hK hP hD hS a t v ci hw hty hwv hr hi hd (fun H1 locs1 hP1 hD1 hS1 => ?_)
  exact k H1 locs1 ⟨hcap, by show va_P D cl (ix_ws aC ad base hp.1 (ix_up hp.2.2 a _)) H1; rw [← hset]; exact hP1, by show va_D _ (ix_ws aC ad base hp.1 (ix_up hp.2.2 a _)); rw [← hset]; exact hD1, hS1⟩
theorem ix_clen (hx : p.tables.exec = Jvm.exec) (hb : c.code = cc) (hA : ix_okA T on Ts ad base s s.heap) (hW : ix_W D cl aC ad base hp s H locs) {a n : Nat} {f : Nat → Int32} (h2 : ix_cns T a = some (n, f)) (hd : decode cc pc = .ok (.arraylength, 1))
    (k : W p l e R s m args below meth c H locs cells slots Q (F0 m (pc + 1) arr (.int (Int32.ofNat n) :: rest))) : W p l e R s m args below meth c H locs cells slots Q (F0 m pc arr (.ref (ad a) :: rest)) := by
  obtain ⟨j, rfl, hj⟩ := ix_cns_ok h2
  exact va_tlen hx hb (hA.1 _ _ _ hj) hW.2.2.2 rfl hd k
theorem ix_cald (hx : p.tables.exec = Jvm.exec) (hb : c.code = cc) (hA : ix_okA T on Ts ad base s s.heap) (hW : ix_W D cl aC ad base hp s H locs) {a n : Nat} {i : Int32} {f : Nat → Int32} (h2 : ix_cns T a = some (n, f)) (hi : ¬ (i < 0 ∨ n ≤ i.toNatClampNeg)) (hd : decode cc pc = .ok (.iaload, 1))
    (k : W p l e R s m args below meth c H locs cells slots Q (F0 m (pc + 1) arr (.int (f i.toNatClampNeg) :: rest))) : W p l e R s m args below meth c H locs cells slots Q (F0 m pc arr (.int i :: .ref (ad a) :: rest)) := by
  obtain ⟨j, rfl, hj⟩ := ix_cns_ok h2
  exact va_ti hx hb (hA.1 _ _ _ hj) hW.2.2.2 hi rfl hd k
theorem ix_gets (hx : p.tables.exec = Jvm.exec) (hb : c.code = cc) (hts : ∀ w ∈ Ts, w.before args s = true) (hown : s.vm.findClass (on oc) = some m.cls) (hA : ix_okA T on Ts ad base s s.heap) (hW : ix_W D cl aC ad base hp s H locs) {idx : Nat} {v : Value} (h2 : ix_tS T oc idx = some v) (hd : decode cc pc = .ok (.getstatic idx, 3))
    (k : W p l e R s m args below meth c H locs cells slots Q (F0 m (pc + 3) arr (ix_v ad v :: rest))) : W p l e R s m args below meth c H locs cells slots Q (F0 m pc arr rest) := by
  obtain ⟨C, n, d, h1, hZ⟩ := hA.2.1 _ _ _ h2
  exact va_gets hx hb hZ hW.2.2.2 hown (hts _ h1) (fun _ h9 => h9) hd k
theorem ix_blen (hx : p.tables.exec = Jvm.exec) (hb : c.code = cc) (hA : ix_okA T on Ts ad base s s.heap) (hW : ix_W D cl aC ad base hp s H locs) {a n : Nat} {f : Nat → Int32} (h2 : ix_cnb T a = some (n, f)) (hd : decode cc pc = .ok (.arraylength, 1))
    (k : W p l e R s m args below meth c H locs cells slots Q (F0 m (pc + 1) arr (.int (Int32.ofNat n) :: rest))) : W p l e R s m args below meth c H locs cells slots Q (F0 m pc arr (.ref (ad a) :: rest)) := by
  obtain ⟨j, rfl, hj⟩ := ix_cnb_ok h2
  exact va_tlen hx hb (hA.2.2.1 _ _ _ hj) hW.2.2.2 rfl hd k
theorem ix_bald (hx : p.tables.exec = Jvm.exec) (hb : c.code = cc) (hA : ix_okA T on Ts ad base s s.heap) (hW : ix_W D cl aC ad base hp s H locs) {a n : Nat} {i : Int32} {f : Nat → Int32} (h2 : ix_cnb T a = some (n, f)) (hi : ¬ (i < 0 ∨ n ≤ i.toNatClampNeg)) (hd : decode cc pc = .ok (.baload, 1))
    (k : W p l e R s m args below meth c H locs cells slots Q (F0 m (pc + 1) arr (.int (f i.toNatClampNeg) :: rest))) : W p l e R s m args below meth c H locs cells slots Q (F0 m pc arr (.int i :: .ref (ad a) :: rest)) := by
  obtain ⟨j, rfl, hj⟩ := ix_cnb_ok h2
  exact va_tb hx hb (hA.2.2.1 _ _ _ hj) hW.2.2.2 hi rfl hd k
theorem ix_sget (hx : p.tables.exec = Jvm.exec) (hb : c.code = cc) (hts : ∀ w ∈ Ts, w.before args s = true) (hown : s.vm.findClass (on oc) = some m.cls) (hA : ix_okA T on Ts ad base s s.heap) (hW : ix_W D cl aC ad base hp s H locs) {idx a b : Nat} {g : Bool} (h1 : ix_tG T oc idx = some g) (h2 : ix_cno T a = some b) (hd : decode cc pc = .ok (.getfield idx, 3))
    (k : W p l e R s m args below meth c H locs cells slots Q (F0 m (pc + 3) arr ((bif g then .ref (ad (1000000 + b)) else .int 0) :: rest))) : W p l e R s m args below meth c H locs cells slots Q (F0 m pc arr (.ref (ad a) :: rest)) := by
  obtain ⟨j, rfl, hj⟩ := ix_cno_ok h2
  obtain ⟨-, q2, q3⟩ := hA.2.2.2.1 _ _ hj
  have hl := hA.2.2.2.2.2 _ _ _ h1
  cases g with
  | true => exact vk_getf hx hb q3 hW.2.2.2 hown (hts _ hl) (fun _ h9 => h9) hd k
  | false => exact vk_getf hx hb q2 hW.2.2.2 hown (hts _ hl) (fun _ h9 => h9) hd k
theorem ix_ldcs (hx : p.tables.exec = Jvm.exec) (hb : c.code = cc) (hown : s.vm.findClass (on oc) = some m.cls) (hA : ix_okA T on Ts ad base s s.heap) {idx a : Nat} (h1 : ix_tK T oc idx = some (.ref a)) (hd : decode cc pc = .ok (.ldc idx, 2))
    (k : W p l e R s m args below meth c H locs cells slots Q (F0 m (pc + 2) arr (.ref (ad a) :: rest))) : W p l e R s m args below meth c H locs cells slots Q (F0 m pc arr rest) := by
  obtain ⟨tx, h2⟩ := hA.2.2.2.2.1 _ _ _ h1
  exact va_ldcS hx hb hown h2 hd k
end IX3
end
section
/-! ===== each instruction of the interpreter is the machine's: new cells, constants ===== -/
section IX4
variable {p : Program} {l : Launch} {e : Env} {R : Room} {s : State} {m : MethodId} {args : Array Value} {below : List Frame} {meth : Method} {c : Code} {H : Heap} {locs : List Loc} {Q : State → Prop}
variable {cc : ByteArray} {pc : Nat} {arr : Array Slot} {ad : Nat → Nat} {rest : List Value}
variable {T : ix_T} {D : va_G} {cl : List vw_C} {aC : Nat → ClassId} {tys : List (ClassId × FieldType)} {on : Nat → String} {Ts : List Cond} {base : Nat} {hp : ix_H} {oc : Nat}
theorem ix_fresh {n q : Nat} {h : Nat → ix_C} {x : va_E} {H1 : Heap} (hP1 : va_P D cl (ix_ws aC ad base n h ++ [(q, x)]) H1) (hD1 : va_D (fun q => base ≤ q) (ix_ws aC ad base n h ++ [(q, x)])) (hu : H1.size ≤ base + n + 1) : q = base + n := by
  have hg : (ix_ws aC ad base n h ++ [(q, x)])[n]? = some (q, x) := by
    rw [List.getElem?_append_right (by rw [ix_ws_len]; omega), ix_ws_len, Nat.sub_self]
    rfl
  have h1 : q < H1.size := (hP1 n _ hg).lt
  have h2 : base ≤ q := hD1.2 n _ hg
  by_cases hq : q < base + n
  · have hi : q - base < n := by omega
    have hg2 : (ix_ws aC ad base n h ++ [(q, x)])[q - base]? = some (base + (q - base), ix_e aC ad (h (q - base))) := by
      rw [List.getElem?_append_left (by rw [ix_ws_len]; exact hi), ix_ws_get hi]
    have he := hD1.1 n (q - base) _ _ hg hg2 (by show q = base + (q - base); omega)
    omega
  · omega
theorem ix_v_def (ad : Nat → Nat) (ty : FieldType) : ix_v ad (defaultValue ty) = defaultValue ty := by cases ty <;> rfl
theorem ix_newo (hx : p.tables.exec = Jvm.exec) (hb : c.code = cc) (had : ∀ a : Nat, a < 1000000 → ad a = base + a) (hts : ∀ w ∈ Ts, w.before args s = true) (hown : s.vm.findClass (on oc) = some m.cls) (hK : va_K D cl tys s) (hC : ix_okC T cl on Ts) (hO : ix_okD T cl on Ts) (hW : ix_W D cl aC ad base hp s H locs)
    {n0 k0 : Nat} (h0 : s.heap.size = base + n0) (hn0 : n0 ≤ hp.1) (hk0 : k0 ≤ hp.2.1) {idx ci t0 : Nat} (h1 : ix_tC T oc idx = some (ci, t0)) (h2 : hp.1 < 1000000) (hR : hp.1 + 1 - n0 ≤ R.cells) (hR2 : hp.2.1 + (ix_tD T ci).1 - k0 ≤ R.slots) (hd : decode cc pc = .ok (.new idx, 3))
    (k : ∀ H1 : Heap, ix_W D cl aC ad base (ix_new hp (ix_tD T ci).1 (.inr (ci, (List.range (ix_tD T ci).1).map (fun j => defaultValue ((ix_tD T ci).2 j).1)))) s H1 locs → W p l e R s m args below meth c H1 locs (hp.1 + 1 - n0) (hp.2.1 + (ix_tD T ci).1 - k0) Q (F0 m (pc + 3) arr (.ref (ad hp.1) :: rest))) : W p l e R s m args below meth c H locs (hp.1 - n0) (hp.2.1 - k0) Q (F0 m pc arr rest) := by
  obtain ⟨r, hr, hl, -⟩ := hC _ _ _ _ h1
  obtain ⟨hN, -, hin, hpd, -, -, hins, hini⟩ := hO _ _ hr
  obtain ⟨hcap, hP, hD, hS⟩ := hW
  rw [hN] at k hR2
  refine va_new (ci := ci) (fs := ((List.range r.2.2).map (fun j => defaultValue ((ix_tD T ci).2 j).1)).map (ix_v ad)) (C := r.1) (T := r.2.1) (N := r.2.2) hx hb hts hin (fun j => ((ix_tD T ci).2 j).1) hpd hown (hts _ hl) (hts _ hins) (hts _ hini) hK hP hD hS (fun q hq => by show base ≤ q; omega) hr (fun j hj => ?_) (by omega) (by omega) hd (fun q H1 hP1 hD1 hS1 => ?_)
  · simp [vp_V, hj, ix_v_def]
  · refine ix_size (fun hu => ?_)
    have hq : q = base + hp.1 := ix_fresh hP1 hD1 (by omega)
    subst hq
    have hpush := ix_ws_push (aC := aC) (ad := ad) (base := base) (n := hp.1) (h := hp.2.2) (.inr (ci, (List.range r.2.2).map (fun j => defaultValue ((ix_tD T ci).2 j).1)))
    have k1 := k H1 ⟨by show hp.1 + 1 ≤ 1000000; omega, by show va_P D cl (ix_ws aC ad base (hp.1 + 1) (ix_up hp.2.2 hp.1 _)) H1; rw [← hpush]; exact hP1, by show va_D _ (ix_ws aC ad base (hp.1 + 1) (ix_up hp.2.2 hp.1 _)); rw [← hpush]; exact hD1, hS1⟩
    rw [show hp.1 - n0 + 1 = hp.1 + 1 - n0 by omega, show hp.2.1 - k0 + r.2.2 = hp.2.1 + r.2.2 - k0 by omega, ← had hp.1 h2]
    exact k1
theorem ix_newa (hx : p.tables.exec = Jvm.exec) (hb : c.code = cc) (had : ∀ a : Nat, a < 1000000 → ad a = base + a) (hts : ∀ w ∈ Ts, w.before args s = true) (hK : va_K D cl tys s) (hY : ix_okY T cl aC tys Ts s) (hW : ix_W D cl aC ad base hp s H locs)
    {n0 k0 : Nat} (h0 : s.heap.size = base + n0) (hn0 : n0 ≤ hp.1) (hk0 : k0 ≤ hp.2.1) {aty : ArrayType} {n : Int32} {x : Nat × vp_A} (h1 : ix_zero (ix_aty aty) n.toNatClampNeg = some x) (hn : ¬ n < 0) (hN : n.toNatClampNeg ≤ 1000000) (h2 : hp.1 < 1000000) (hR : hp.1 + 1 - n0 ≤ R.cells) (hR2 : hp.2.1 + n.toNatClampNeg - k0 ≤ R.slots) (hd : decode cc pc = .ok (.newarray aty, 2))
    (k : ∀ H1 : Heap, ix_W D cl aC ad base (ix_new hp n.toNatClampNeg (.inl x)) s H1 locs → W p l e R s m args below meth c H1 locs (hp.1 + 1 - n0) (hp.2.1 + n.toNatClampNeg - k0) Q (F0 m (pc + 2) arr (.ref (ad hp.1) :: rest))) : W p l e R s m args below meth c H locs (hp.1 - n0) (hp.2.1 - k0) Q (F0 m pc arr (.int n :: rest)) := by
  obtain ⟨hcap, hP, hD, hS⟩ := hW
  have key : ∀ (ty : FieldType) (t : Nat) (a0 : vp_A) (cA : ClassId), newarray.typeOf aty = ty → x = (t, a0) → ix_a ad a0 = a0 → cA = aC t → ∀ (q : Nat) (H1 : Heap), va_P D cl (ix_ws aC ad base hp.1 hp.2.2 ++ [(q, .inl (cA, a0))]) H1 → va_D (fun q => base ≤ q) (ix_ws aC ad base hp.1 hp.2.2 ++ [(q, .inl (cA, a0))]) → va_S (fun q => base ≤ q) s.heap H1 locs → W p l e R s m args below meth c H1 locs (hp.1 - n0 + 1) (hp.2.1 - k0 + n.toNatClampNeg) Q (F0 m (pc + 2) arr (.ref q :: rest)) := by
    intro ty t a0 cA hty hx0 ha0 hcA q H1 hP1 hD1 hS1
    refine ix_size (fun hu => ?_)
    have hq : q = base + hp.1 := ix_fresh hP1 hD1 (by omega)
    subst hq
    subst hcA
    subst hx0
    have hpush := ix_ws_push (aC := aC) (ad := ad) (base := base) (n := hp.1) (h := hp.2.2) (.inl (t, a0))
    simp only [ix_e, ha0] at hpush
    have k1 := k H1 ⟨by show hp.1 + 1 ≤ 1000000; omega, by show va_P D cl (ix_ws aC ad base (hp.1 + 1) (ix_up hp.2.2 hp.1 _)) H1; rw [← hpush]; exact hP1, by show va_D _ (ix_ws aC ad base (hp.1 + 1) (ix_up hp.2.2 hp.1 _)); rw [← hpush]; exact hD1, hS1⟩
    rw [show hp.1 - n0 + 1 = hp.1 + 1 - n0 by omega, show hp.2.1 - k0 + n.toNatClampNeg = hp.2.1 + n.toNatClampNeg - k0 by omega, ← had hp.1 h2]
    exact k1
  have hlast : ∀ (cA : ClassId) (ty : FieldType), va_K D cl (tys ++ [(cA, ty)]) s → va_RA s cA ty := fun cA ty h => (h.2 tys.length (cA, ty) (by simp)).2
  cases aty with
  | int =>
    cases h1
    refine va_newa (a0 := (n.toNatClampNeg, .inl (fun _ => 0))) (atype := .int) (ty := .int) hx hb (hts (.arrayClass .int) hY.2.1.1) rfl hK hP hD hS (fun q hq => by show base ≤ q; omega) (fun _ => rfl) hn rfl (by simp only [componentBytes]; omega) (by omega) (by omega) hd (fun q cA H1 hK1 hP1 hD1 hS1 => ?_)
    exact key .int 0 _ cA rfl rfl rfl (Option.some.inj ((show s.vm.findClass _ = some cA from hlast cA .int hK1).symm.trans (show s.vm.findClass _ = some (aC 0) from (hK.2 0 _ hY.1.1).2))) q H1 hP1 hD1 hS1
  | long =>
    cases h1
    refine va_newa (a0 := (n.toNatClampNeg, .inr (.inl (fun _ => 0)))) (atype := .long) (ty := .long) hx hb (hts (.arrayClass .long) hY.2.1.2.1) rfl hK hP hD hS (fun q hq => by show base ≤ q; omega) (fun _ => rfl) hn rfl (by simp only [componentBytes]; omega) (by omega) (by omega) hd (fun q cA H1 hK1 hP1 hD1 hS1 => ?_)
    exact key .long 1 _ cA rfl rfl rfl (Option.some.inj ((show s.vm.findClass _ = some cA from hlast cA .long hK1).symm.trans (show s.vm.findClass _ = some (aC 1) from (hK.2 1 _ hY.1.2.1).2))) q H1 hP1 hD1 hS1
  | boolean =>
    cases h1
    refine va_newa (a0 := (n.toNatClampNeg, .inl (fun _ => 0))) (atype := .boolean) (ty := .boolean) hx hb (hts (.arrayClass .boolean) hY.2.1.2.2) rfl hK hP hD hS (fun q hq => by show base ≤ q; omega) (fun _ => rfl) hn rfl (by simp only [componentBytes]; omega) (by omega) (by omega) hd (fun q cA H1 hK1 hP1 hD1 hS1 => ?_)
    exact key .boolean 2 _ cA rfl rfl rfl (Option.some.inj ((show s.vm.findClass _ = some cA from hlast cA .boolean hK1).symm.trans (show s.vm.findClass _ = some (aC 2) from (hK.2 2 _ hY.1.2.2).2))) q H1 hP1 hD1 hS1
  | _ => cases h1
end IX4
end
