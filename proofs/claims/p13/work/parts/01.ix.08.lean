section
section IX3
variable {p : Program} {l : Launch} {e : Env} {R : Room} {s : State} {m : MethodId} {args : Array Value} {below : List Frame} {meth : Method} {c : Code} {H : Heap} {locs : List Loc} {cells slots : Nat} {Q : State → Prop}
variable {cc : ByteArray} {pc : Nat} {arr : Array Slot} {ad : Nat → Nat} {rest : List Value}
variable {T : ix_T} {D : va_G} {cl : List vw_C} {aC : Nat → ClassId} {tys : List (ClassId × FieldType)} {on : Nat → String} {Ts : List Cond} {base : Nat} {hp : ix_H} {oc : Nat}
theorem ix_iast (hx : p.tables.exec = Jvm.exec) (hb : c.code = cc) (had : ∀ a : Nat, a < 1000000 → ad a = base + a) (hK : va_K D cl tys s) (hY : ix_okY T cl aC tys Ts s) (hW : ix_W D cl aC ad base hp s H locs)
    {a n : Nat} {i x : Int32} {f : Nat → Int32} (h2 : ix_arr hp a = some (0, n, .inl f)) (hi : ¬ (i < 0 ∨ n ≤ i.toNatClampNeg)) (hd : decode cc pc = .ok (.iastore, 1))
    (k : ∀ (H1 : Heap) (locs1 : List Loc), ix_W D cl aC ad base (ix_put hp a (.inl (0, n, .inl (upd f i.toNatClampNeg x)))) s H1 locs1 → W p l e R s m args below meth c H1 locs1 cells slots Q (F0 m (pc + 1) arr rest)) : W p l e R s m args below meth c H locs cells slots Q (F0 m pc arr (.int x :: .int i :: .ref (ad a) :: rest)) := by
  obtain ⟨ha, he⟩ := ix_arr_ok h2
  obtain ⟨hcap, hP, hD, hS⟩ := hW
  rw [had a (by omega)]
  have hw := ix_ws_get (aC := aC) (ad := ad) (base := base) (h := hp.2.2) ha
  rw [he] at hw
  refine va_iast hx hb hK hP hD hS a 0 hw hY.1.1 hi hd (fun H1 locs1 hP1 hD1 hS1 => ?_)
  have hset := ix_ws_set (aC := aC) (ad := ad) (base := base) (n := hp.1) (h := hp.2.2) (i := a) (.inl (0, n, .inl (upd f i.toNatClampNeg x)))
  exact k H1 locs1 ⟨hcap, by show va_P D cl (ix_ws aC ad base hp.1 (ix_up hp.2.2 a _)) H1; rw [← hset]; exact hP1, by show va_D _ (ix_ws aC ad base hp.1 (ix_up hp.2.2 a _)); rw [← hset]; exact hD1, hS1⟩
theorem ix_last (hx : p.tables.exec = Jvm.exec) (hb : c.code = cc) (had : ∀ a : Nat, a < 1000000 → ad a = base + a) (hK : va_K D cl tys s) (hY : ix_okY T cl aC tys Ts s) (hW : ix_W D cl aC ad base hp s H locs)
    {a n : Nat} {i : Int32} {x : Int64} {f : Nat → Int64} (h2 : ix_arr hp a = some (1, n, .inr (.inl f))) (hi : ¬ (i < 0 ∨ n ≤ i.toNatClampNeg)) (hd : decode cc pc = .ok (.lastore, 1))
    (k : ∀ (H1 : Heap) (locs1 : List Loc), ix_W D cl aC ad base (ix_put hp a (.inl (1, n, .inr (.inl (vp_updL f i.toNatClampNeg x))))) s H1 locs1 → W p l e R s m args below meth c H1 locs1 cells slots Q (F0 m (pc + 1) arr rest)) : W p l e R s m args below meth c H locs cells slots Q (F0 m pc arr (.long x :: .int i :: .ref (ad a) :: rest)) := by
  obtain ⟨ha, he⟩ := ix_arr_ok h2
  obtain ⟨hcap, hP, hD, hS⟩ := hW
  rw [had a (by omega)]
  have hw := ix_ws_get (aC := aC) (ad := ad) (base := base) (h := hp.2.2) ha
  rw [he] at hw
  refine va_last hx hb hK hP hD hS a 1 hw hY.1.2.1 hi hd (fun H1 locs1 hP1 hD1 hS1 => ?_)
  have hset := ix_ws_set (aC := aC) (ad := ad) (base := base) (n := hp.1) (h := hp.2.2) (i := a) (.inl (1, n, .inr (.inl (vp_updL f i.toNatClampNeg x))))
  exact k H1 locs1 ⟨hcap, by show va_P D cl (ix_ws aC ad base hp.1 (ix_up hp.2.2 a _)) H1; rw [← hset]; exact hP1, by show va_D _ (ix_ws aC ad base hp.1 (ix_up hp.2.2 a _)); rw [← hset]; exact hD1, hS1⟩
theorem ix_zast (hx : p.tables.exec = Jvm.exec) (hb : c.code = cc) (had : ∀ a : Nat, a < 1000000 → ad a = base + a) (hK : va_K D cl tys s) (hY : ix_okY T cl aC tys Ts s) (hW : ix_W D cl aC ad base hp s H locs)
    {a n : Nat} {i x : Int32} {f : Nat → Int32} (h2 : ix_arr hp a = some (2, n, .inl f)) (hi : ¬ (i < 0 ∨ n ≤ i.toNatClampNeg)) (hd : decode cc pc = .ok (.bastore, 1))
    (k : ∀ (H1 : Heap) (locs1 : List Loc), ix_W D cl aC ad base (ix_put hp a (.inl (2, n, .inl (upd f i.toNatClampNeg (vp_nar .boolean x))))) s H1 locs1 → W p l e R s m args below meth c H1 locs1 cells slots Q (F0 m (pc + 1) arr rest)) : W p l e R s m args below meth c H locs cells slots Q (F0 m pc arr (.int x :: .int i :: .ref (ad a) :: rest)) := by
  obtain ⟨ha, he⟩ := ix_arr_ok h2
  obtain ⟨hcap, hP, hD, hS⟩ := hW
  rw [had a (by omega)]
  have hw := ix_ws_get (aC := aC) (ad := ad) (base := base) (h := hp.2.2) ha
  rw [he] at hw
  refine va_zast hx hb hK hP hD hS a 2 hw hY.1.2.2 hi hd (fun H1 locs1 hP1 hD1 hS1 => ?_)
  have hset := ix_ws_set (aC := aC) (ad := ad) (base := base) (n := hp.1) (h := hp.2.2) (i := a) (.inl (2, n, .inl (upd f i.toNatClampNeg (vp_nar .boolean x))))
  exact k H1 locs1 ⟨hcap, by show va_P D cl (ix_ws aC ad base hp.1 (ix_up hp.2.2 a _)) H1; rw [← hset]; exact hP1, by show va_D _ (ix_ws aC ad base hp.1 (ix_up hp.2.2 a _)); rw [← hset]; exact hD1, hS1⟩
theorem ix_aup (ad : Nat → Nat) (f : Nat → Option Nat) (j v : Nat) : (fun q => (va_up f j (some v) q).map ad) = va_up (fun q => (f q).map ad) j (some (ad v)) := by
  funext q
  by_cases h : q = j
  · subst h
    rw [va_up_self, va_up_self]
    rfl
  · rw [va_up_ne _ _ h, va_up_ne _ _ h]
theorem ix_aast (hx : p.tables.exec = Jvm.exec) (hb : c.code = cc) (had : ∀ a : Nat, a < 1000000 → ad a = base + a) (hK : va_K D cl tys s) (hY : ix_okY T cl aC tys Ts s) (hW : ix_W D cl aC ad base hp s H locs)
    {a t n v ci : Nat} {i : Int32} {f : Nat → Option Nat} {vs : List Value} (h2 : ix_arr hp a = some (t, n, .inr (.inr (.inr (.inr f))))) (h3 : ix_obj hp v = some (ci, vs)) (ht : ix_tE T t = some ci) (hi : ¬ (i < 0 ∨ n ≤ i.toNatClampNeg)) (hd : decode cc pc = .ok (.aastore, 1))
    (k : ∀ (H1 : Heap) (locs1 : List Loc), ix_W D cl aC ad base (ix_put hp a (.inl (t, n, .inr (.inr (.inr (.inr (va_up f i.toNatClampNeg (some v)))))))) s H1 locs1 → W p l e R s m args below meth c H1 locs1 cells slots Q (F0 m (pc + 1) arr rest)) : W p l e R s m args below meth c H locs cells slots Q (F0 m pc arr (.ref (ad v) :: .int i :: .ref (ad a) :: rest)) := by
  obtain ⟨ha, he⟩ := ix_arr_ok h2
  obtain ⟨hv, hve⟩ := ix_obj_ok h3
  obtain ⟨hcap, hP, hD, hS⟩ := hW
  have hw := ix_ws_get (aC := aC) (ad := ad) (base := base) (h := hp.2.2) ha
  rw [he] at hw
  have hwv := ix_ws_get (aC := aC) (ad := ad) (base := base) (h := hp.2.2) hv
  rw [hve] at hwv
  obtain ⟨r, hr, hty, -⟩ := hY.2.2 t ci ht
  have hset := ix_ws_set (aC := aC) (ad := ad) (base := base) (n := hp.1) (h := hp.2.2) (i := a) (.inl (t, n, .inr (.inr (.inr (.inr (va_up f i.toNatClampNeg (some v)))))))
  simp only [ix_e, ix_a, ix_aup] at hset
  rw [had v (by omega)] at hset ⊢
  rw [had a (by omega)]
  refine va_astq (r := r) hx hb hK hP hD hS a t v ci hw hty hwv hr hi hd (fun H1 locs1 hP1 hD1 hS1 => ?_)
  exact k H1 locs1 ⟨hcap, by show va_P D cl (ix_ws aC ad base hp.1 (ix_up hp.2.2 a _)) H1; rw [← hset]; exact hP1, by show va_D _ (ix_ws aC ad base hp.1 (ix_up hp.2.2 a _)); rw [← hset]; exact hD1, hS1⟩
theorem ix_clen (hx : p.tables.exec = Jvm.exec) (hb : c.code = cc) (hA : ix_okA T on Ts ad base s s.heap) (hW : ix_W D cl aC ad base hp s H locs) {a n : Nat} {f : Nat → Int32} (h2 : ix_cns T a = some (n, f)) (hd : decode cc pc = .ok (.arraylength, 1))
    (k : W p l e R s m args below meth c H locs cells slots Q (F0 m (pc + 1) arr (.int (Int32.ofNat n) :: rest))) : W p l e R s m args below meth c H locs cells slots Q (F0 m pc arr (.ref (ad a) :: rest)) := by
  obtain ⟨j, rfl, hj⟩ := ix_cns_ok h2
  exact va_tlen hx hb (hA.1 _ _ _ hj) hW.2.2.2 rfl hd k
theorem ix_cald (hx : p.tables.exec = Jvm.exec) (hb : c.code = cc) (hA : ix_okA T on Ts ad base s s.heap) (hW : ix_W D cl aC ad base hp s H locs) {a n : Nat} {i : Int32} {f : Nat → Int32} (h2 : ix_cns T a = some (n, f)) (hi : ¬ (i < 0 ∨ n ≤ i.toNatClampNeg)) (hd : decode cc pc = .ok (.iaload, 1))
    (k : W p l e R s m args below meth c H locs cells slots Q (F0 m (pc + 1) arr (.int (f i.toNatClampNeg) :: rest))) : W p l e R s m args below meth c H locs cells slots Q (F0 m pc arr (.int i :: .ref (ad a) :: rest)) := by
  obtain ⟨j, rfl, hj⟩ := ix_cns_ok h2
  exact va_ti hx hb (hA.1 _ _ _ hj) hW.2.2.2 hi rfl hd k
theorem ix_gets (hx : p.tables.exec = Jvm.exec) (hb : c.code = cc) (hts : ∀ w ∈ Ts, w.before args s = true) (hown : s.vm.findClass (on oc) = some m.cls) (hA : ix_okA T on Ts ad base s s.heap) (hW : ix_W D cl aC ad base hp s H locs) {idx : Nat} {v : Value} (h2 : ix_tS T oc idx = some v) (hd : decode cc pc = .ok (.getstatic idx, 3))
    (k : W p l e R s m args below meth c H locs cells slots Q (F0 m (pc + 3) arr (ix_v ad v :: rest))) : W p l e R s m args below meth c H locs cells slots Q (F0 m pc arr rest) := by
  obtain ⟨C, n, d, h1, hZ⟩ := hA.2.1 _ _ _ h2
  exact va_gets hx hb hZ hW.2.2.2 hown (hts _ h1) (fun _ h9 => h9) hd k
end IX3
end
