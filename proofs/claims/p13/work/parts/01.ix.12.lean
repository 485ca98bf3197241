section
section IX5
variable {p : Program} {l : Launch} {e : Env} {R : Room} {s : State} {m : MethodId} {args : Array Value} {below : List Frame} {meth : Method} {c : Code} {H : Heap} {locs : List Loc} {Q : State → Prop}
variable {cc : ByteArray} {pc : Nat} {arr : Array Slot} {ad : Nat → Nat} {rest : List Value}
variable {T : ix_T} {D : va_G} {cl : List vw_C} {aC : Nat → ClassId} {tys : List (ClassId × FieldType)} {on : Nat → String} {Ts : List Cond} {base : Nat} {hp : ix_H} {oc : Nat}
/-- System.arraycopy -/
theorem ix_acp_ok (hx : p.tables.exec = Jvm.exec) (hb : c.code = cc) (hml : c.maxLocals = arr.size) (had : ∀ a : Nat, a < 1000000 → ad a = base + a) (hown : s.vm.findClass (on oc) = some m.cls) (hK : va_K D cl tys s) (hY : ix_okY T cl aC tys Ts s) (hW : ix_W D cl aC ad base hp s H locs)
    {idx : Nat} (hlink : (Cond.methodLink (on oc) idx arraycopyName).before args s = true) (hnat : (Cond.native arraycopyName).before args s = true) (hstat : (Cond.static arraycopyName).before args s = true) (hini : (Cond.initialized "java/lang/System").before args s = true) (hfr : 1 ≤ R.frames) (hlo : 64 ≤ R.locals)
    {st st' : List Value} {hp' : ix_H} {cells slots : Nat} (hd : decode cc pc = .ok (.invokestatic idx, 3)) (h : ix_acp hp st = some (st', hp')) (k : ∀ (H1 : Heap) (locs1 : List Loc), ix_W D cl aC ad base hp' s H1 locs1 → W p l e R s m args below meth c H1 locs1 cells slots Q (F0 m (pc + 3) arr (st'.map (ix_v ad)))) : W p l e R s m args below meth c H locs cells slots Q (F0 m pc arr (st.map (ix_v ad))) := by
  have hnw : nativeFrameWords "java/lang/System" "arraycopy" 5 + 11 ≤ 56 := by decide +kernel
  unfold ix_acp at h
  split at h
  · split at h
    · rename_i n dp d sp a st0 _ _ n0 f n1 g h1 h2
      split at h
      · rename_i hc
        obtain ⟨c1, c2, c3, c4, c5, c6⟩ := hc
        cases h
        obtain ⟨ha, hae⟩ := ix_arr_ok h1
        obtain ⟨hd2, hde⟩ := ix_arr_ok h2
        obtain ⟨hcap, hP, hD, hS⟩ := hW
        have hwa := ix_ws_get (aC := aC) (ad := ad) (base := base) (h := hp.2.2) ha
        rw [hae] at hwa
        have hwd := ix_ws_get (aC := aC) (ad := ad) (base := base) (h := hp.2.2) hd2
        rw [hde] at hwd
        have hset := ix_ws_set (aC := aC) (ad := ad) (base := base) (n := hp.1) (h := hp.2.2) (i := d) (.inl (0, n1, .inl (va_cpy f g sp.toNatClampNeg dp.toNatClampNeg n.toNatClampNeg)))
        show W p l e R s m args below meth c H locs cells slots Q (F0 m pc arr (.int n :: .int dp :: .ref (ad d) :: .int sp :: .ref (ad a) :: st'.map (ix_v ad)))
        rw [had a (by omega), had d (by omega)]
        refine va_copyi hx hb hml hown hlink hnat hstat hini hK hP hD hS a d 0 0 hwa hwd hY.1.1 hY.1.1 rfl c1 c2 c3 c4 c5 (fun _ _ => rfl) hfr (by rw [ix_v_cats]; have : (st'.map fun v => v.category).sum ≤ 8 := c6; omega) hd (fun H1 locs1 hP1 hD1 hS1 => ?_)
        exact k H1 locs1 ⟨hcap, by show va_P D cl (ix_ws aC ad base hp.1 (ix_up hp.2.2 d _)) H1; rw [← hset]; exact hP1, by show va_D _ (ix_ws aC ad base hp.1 (ix_up hp.2.2 d _)); rw [← hset]; exact hD1, hS1⟩
      · cases h
    · rename_i n dp d sp a st0 _ _ n0 f n1 g h1 h2
      split at h
      · rename_i hc
        obtain ⟨c1, c2, c3, c4, c5, c6⟩ := hc
        cases h
        obtain ⟨ha, hae⟩ := ix_arr_ok h1
        obtain ⟨hd2, hde⟩ := ix_arr_ok h2
        obtain ⟨hcap, hP, hD, hS⟩ := hW
        have hwa := ix_ws_get (aC := aC) (ad := ad) (base := base) (h := hp.2.2) ha
        rw [hae] at hwa
        have hwd := ix_ws_get (aC := aC) (ad := ad) (base := base) (h := hp.2.2) hd2
        rw [hde] at hwd
        have hset := ix_ws_set (aC := aC) (ad := ad) (base := base) (n := hp.1) (h := hp.2.2) (i := d) (.inl (1, n1, .inr (.inl (va_cpy f g sp.toNatClampNeg dp.toNatClampNeg n.toNatClampNeg))))
        show W p l e R s m args below meth c H locs cells slots Q (F0 m pc arr (.int n :: .int dp :: .ref (ad d) :: .int sp :: .ref (ad a) :: st'.map (ix_v ad)))
        rw [had a (by omega), had d (by omega)]
        refine va_copyl hx hb hml hown hlink hnat hstat hini hK hP hD hS a d 1 1 hwa hwd hY.1.2.1 hY.1.2.1 rfl c1 c2 c3 c4 c5 (fun _ _ => rfl) hfr (by rw [ix_v_cats]; have : (st'.map fun v => v.category).sum ≤ 8 := c6; omega) hd (fun H1 locs1 hP1 hD1 hS1 => ?_)
        exact k H1 locs1 ⟨hcap, by show va_P D cl (ix_ws aC ad base hp.1 (ix_up hp.2.2 d _)) H1; rw [← hset]; exact hP1, by show va_D _ (ix_ws aC ad base hp.1 (ix_up hp.2.2 d _)); rw [← hset]; exact hD1, hS1⟩
      · cases h
    · cases h
  · cases h
theorem ix_acp_mono {st st' : List Value} {hp' : ix_H} (h : ix_acp hp st = some (st', hp')) : hp.1 ≤ hp'.1 ∧ hp.2.1 ≤ hp'.2.1 := by
  unfold ix_acp at h
  split at h <;> (repeat' (split at h)) <;> first | (cases h; done) | (cases h; exact ⟨Nat.le_refl _, Nat.le_refl _⟩)
end IX5
end
section
/-! ===== methods: a run of the interpreter is a contract met ===== -/
noncomputable def ix_host : String := "PacketWall"
/-- links to private members of nest mates: class, place, member -/
noncomputable abbrev ix_Ns : Type := List (String × Nat × MethodName)
noncomputable def ix_okI (T : ix_T) (cl : List vw_C) (on : Nat → String) (Ts : List Cond) (Ns : ix_Ns) : Prop := ∀ (oc idx kd mid na : Nat), ix_tI T oc idx = some (kd, mid, na) →
  (kd = 0 → Cond.methodLink (on oc) idx objectInit ∈ Ts ∧ Cond.instanceMethod objectInit ∈ Ts ∧ Cond.code objectInit ⟨#[0xb1]⟩ 1 none ∈ Ts) ∧
  (kd = 7 → Cond.methodLink (on oc) idx arraycopyName ∈ Ts ∧ Cond.native arraycopyName ∈ Ts ∧ Cond.static arraycopyName ∈ Ts ∧ Cond.initialized "java/lang/System" ∈ Ts) ∧
  (kd = 8 → ∃ M : ix_M, ix_tM T mid = some M ∧ (parseMethodDescriptor M.2.1.desc).map (fun d => d.parameters.length) = some na ∧ Cond.methodLink (on oc) idx M.2.1 ∈ Ts ∧ Cond.instanceMethod M.2.1 ∈ Ts ∧ Cond.selects M.2.1.cls M.2.1 M.2.1 ∈ Ts ∧ M.2.1.cls = "java/lang/String") ∧
  (kd = 9 → Cond.methodLink (on oc) idx Lib.Math.min.name ∈ Ts ∧ Cond.static Lib.Math.min.name ∈ Ts ∧ Cond.initialized "java/lang/Math" ∈ Ts ∧ Cond.code Lib.Math.min.name Lib.Math.min.code 2 (some .int) ∈ Ts) ∧
  (kd = 10 → Cond.methodLink (on oc) idx Lib.Math.max.name ∈ Ts ∧ Cond.static Lib.Math.max.name ∈ Ts ∧ Cond.initialized "java/lang/Math" ∈ Ts ∧ Cond.code Lib.Math.max.name Lib.Math.max.code 2 (some .int) ∈ Ts) ∧
  (kd = 11 → Cond.methodLink (on oc) idx Lib.MathLoose.min_long.x ∈ Ts ∧ Cond.static Lib.MathLoose.min_long.x ∈ Ts ∧ Cond.initialized "java/lang/Math" ∈ Ts ∧ Cond.code Lib.MathLoose.min_long.x Lib.MathLoose.min_long.code 4 (some .long) ∈ Ts) ∧
  (1 ≤ kd → kd ≤ 6 → ∃ M : ix_M, ix_tM T mid = some M ∧ (parseMethodDescriptor M.2.1.desc).map (fun d => d.parameters.length) = some na ∧
    (kd = 1 ∨ kd = 3 ∨ kd = 5 → Cond.methodLink (on oc) idx M.2.1 ∈ Ts) ∧ (kd = 2 ∨ kd = 4 ∨ kd = 6 → (on oc, idx, M.2.1) ∈ Ns) ∧
    (kd = 1 ∨ kd = 2 → M.2.1.name = "<init>" ∧ Cond.instanceMethod M.2.1 ∈ Ts ∧ M.2.2.2.2.1 = none) ∧ (kd = 3 ∨ kd = 4 → Cond.instanceMethod M.2.1 ∈ Ts ∧ Cond.selects M.2.1.cls M.2.1 M.2.1 ∈ Ts ∧ ∃ r : vw_C, cl[M.1]? = some r ∧ r.1 = M.2.1.cls) ∧ (kd = 5 ∨ kd = 6 → Cond.static M.2.1 ∈ Ts))
noncomputable def ix_okM (T : ix_T) (on : Nat → String) (Ts : List Cond) : Prop := ∀ (mid : Nat) (M : ix_M), ix_tM T mid = some M → on M.1 = M.2.1.cls ∧ plainName M.2.1.cls = true ∧ (M.2.1.cls ≠ "java/lang/invoke/MethodHandle" ∧ M.2.1.cls ≠ "java/lang/invoke/VarHandle") ∧ Cond.code M.2.1 M.2.2.1 M.2.2.2.1 M.2.2.2.2.1 ∈ Ts ∧ Cond.initialized M.2.1.cls ∈ Ts ∧ M.2.2.2.1 ≤ 40 ∧ (M.2.2.2.2.2.1 = true → M.2.1.name = "<init>") ∧ ∀ (pc : Nat) (i : Instr), M.2.2.2.2.2.2 pc = some i → ∃ len : Nat, decode M.2.2.1 pc = .ok (i, len) ∧ (ix_len i = 0 ∨ ix_len i = len)
noncomputable def ix_okT (T : ix_T) (cl : List vw_C) (on : Nat → String) (Ts : List Cond) (Ns : ix_Ns) : Prop := ix_okF T cl on Ts ∧ ix_okD T cl on Ts ∧ ix_okC T cl on Ts ∧ ix_okK T on Ts ∧ ix_okI T cl on Ts Ns ∧ ix_okM T on Ts ∧ ∀ w ∈ Ts, goodWord w = true
/-- what a state's tables say beside the words -/
noncomputable def ix_St (T : ix_T) (D : va_G) (cl : List vw_C) (aC : Nat → ClassId) (tys : List (ClassId × FieldType)) (on : Nat → String) (Ts : List Cond) (Ns : ix_Ns) (ad : Nat → Nat) (base : Nat) (U : State) : Prop := va_K D cl tys U ∧ ix_okY T cl aC tys Ts U ∧ ix_okA T on Ts ad base U U.heap ∧ ∀ q ∈ Ns, va_Nw (.methodLinkNest q.1 q.2.1 q.2.2 ix_host) U
end
