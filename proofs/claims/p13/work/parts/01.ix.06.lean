section
/-! ===== each instruction of the interpreter is the machine's: cells ===== -/
noncomputable def ix_okF (T : ix_T) (cl : List vw_C) (on : Nat → String) (Ts : List Cond) : Prop := ∀ (oc idx ci j : Nat), ix_tF T oc idx = some (ci, j) → ∃ r : vw_C, cl[ci]? = some r ∧ j < r.2.2 ∧ Cond.fieldLink (on oc) idx r.1 (r.2.1 j).2.1 (r.2.1 j).2.2.1 ∈ Ts
noncomputable def ix_okD (T : ix_T) (cl : List vw_C) (on : Nat → String) (Ts : List Cond) : Prop := ∀ (ci : Nat) (r : vw_C), cl[ci]? = some r → (ix_tD T ci).1 = r.2.2 ∧ on ci = r.1 ∧ (∀ w ∈ u_ws r.1 r.2.1 r.2.2, w ∈ Ts) ∧ (∀ k, k < r.2.2 → parseFieldDescriptor (r.2.1 k).2.2.1 = some ((ix_tD T ci).2 k).1) ∧ (∀ k, k < r.2.2 → (r.2.1 k).2.2.2 = ((ix_tD T ci).2 k).2 ∧ (r.2.1 k).1 = r.1) ∧ (∀ a, a < r.2.2 → ∀ b, b < r.2.2 → a ≠ b → (r.2.1 a).2.1 ≠ (r.2.1 b).2.1) ∧ Cond.instantiable r.1 r.2.2 ∈ Ts ∧ Cond.initialized r.1 ∈ Ts
noncomputable def ix_okC (T : ix_T) (cl : List vw_C) (on : Nat → String) (Ts : List Cond) : Prop := ∀ (oc idx ci t : Nat), ix_tC T oc idx = some (ci, t) → ∃ r : vw_C, cl[ci]? = some r ∧ Cond.classLink (on oc) idx r.1 ∈ Ts ∧ (¬ t = 0 → ix_tE T t = some ci)
noncomputable def ix_okK (T : ix_T) (on : Nat → String) (Ts : List Cond) : Prop := (∀ (oc idx : Nat) (v : Int32), ix_tK T oc idx = some (.int v) → Jvm.Cond.constant (on oc) idx v ∈ Ts) ∧ ∀ (oc idx : Nat) (v : Int64), ix_tK T oc idx = some (.long v) → Jvm.Cond.constantLong (on oc) idx v ∈ Ts
/-- the array types: 0 int, 1 long, 2 boolean, then those of objects -/
noncomputable def ix_okY (T : ix_T) (cl : List vw_C) (aC : Nat → ClassId) (tys : List (ClassId × FieldType)) (Ts : List Cond) (s : State) : Prop := (tys[0]? = some (aC 0, .int) ∧ tys[1]? = some (aC 1, .long) ∧ tys[2]? = some (aC 2, .boolean)) ∧ (Cond.arrayClass .int ∈ Ts ∧ Cond.arrayClass .long ∈ Ts ∧ Cond.arrayClass .boolean ∈ Ts) ∧ ∀ (t ci : Nat), ix_tE T t = some ci → ∃ r : vw_C, cl[ci]? = some r ∧ tys[t]? = some (aC t, .object r.1) ∧ va_AO r.1 s
/-- the constant rows, and the statics that hold them -/
noncomputable def ix_okA (T : ix_T) (on : Nat → String) (Ts : List Cond) (ad : Nat → Nat) (base : Nat) (U : State) (H : Heap) : Prop := (∀ (k N : Nat) (f : Nat → Int32), ix_tA T k = some (N, f) → va_T .int (ad (1000000 + k)) N (fun j => .int (f j)) (fun q => base ≤ q) U H) ∧ (∀ (oc idx : Nat) (v : Value), ix_tS T oc idx = some v → ∃ C n d : String, Cond.fieldLink (on oc) idx C n d ∈ Ts ∧ va_Z C n d (ix_v ad v) (fun q => base ≤ q) U H) ∧ (∀ (k N : Nat) (f : Nat → Int32), ix_tB T k = some (N, f) → va_T .byte (ad (1000000 + k)) N (fun j => .int (f j)) (fun q => base ≤ q) U H) ∧ (∀ (k b : Nat), ix_tO T k = some b → va_O "java/lang/String" (ad (1000000 + k)) (fun q => base ≤ q) U H ∧ va_OF "java/lang/String" "coder" "B" (.int 0) (ad (1000000 + k)) (fun q => base ≤ q) U H ∧ va_OF "java/lang/String" "value" "[B" (.ref (ad (1000000 + b))) (ad (1000000 + k)) (fun q => base ≤ q) U H) ∧ (∀ (oc idx a : Nat), ix_tK T oc idx = some (.ref a) → ∃ tx : String, vk_R (on oc) idx tx (ad a) U) ∧ ∀ (oc idx : Nat) (g : Bool), ix_tG T oc idx = some g → Cond.fieldLink (on oc) idx "java/lang/String" (bif g then "value" else "coder") (bif g then "[B" else "B") ∈ Ts
/-- the heap holds the abstract cells from the address base on; nothing below it was touched -/
noncomputable def ix_W (D : va_G) (cl : List vw_C) (aC : Nat → ClassId) (ad : Nat → Nat) (base : Nat) (hp : ix_H) (s : State) (H : Heap) (locs : List Loc) : Prop := hp.1 ≤ 1000000 ∧ va_P D cl (ix_ws aC ad base hp.1 hp.2.2) H ∧ va_D (fun q => base ≤ q) (ix_ws aC ad base hp.1 hp.2.2) ∧ va_S (fun q => base ≤ q) s.heap H locs
section IX3
variable {p : Program} {l : Launch} {e : Env} {R : Room} {s : State} {m : MethodId} {args : Array Value} {below : List Frame} {meth : Method} {c : Code} {H : Heap} {locs : List Loc} {cells slots : Nat} {Q : State → Prop}
variable {cc : ByteArray} {pc : Nat} {arr : Array Slot} {ad : Nat → Nat} {rest : List Value}
variable {T : ix_T} {D : va_G} {cl : List vw_C} {aC : Nat → ClassId} {tys : List (ClassId × FieldType)} {on : Nat → String} {Ts : List Cond} {base : Nat} {hp : ix_H} {oc : Nat}
theorem ix_size {g : JFrame} (k : H.size ≤ s.heap.size + cells → W p l e R s m args below meth c H locs cells slots Q g) : W p l e R s m args below meth c H locs cells slots Q g := fun T hT X => k (by rw [← hT]; exact X.heapSize) T hT X
theorem ix_W.lo (hW : ix_W D cl aC ad base hp s H locs) {n0 : Nat} (h0 : s.heap.size = base + n0) : base + hp.1 ≤ H.size := by
  obtain ⟨hc, hP, hD, hS⟩ := hW
  by_cases hz : hp.1 = 0
  · have := hS.1
    omega
  · have h1 := (hP (hp.1 - 1) _ (ix_ws_get (by omega))).lt
    have h2 : base + (hp.1 - 1) < H.size := h1
    omega
theorem ix_W.eqs (hW : ix_W D cl aC ad base hp s H locs) {n0 : Nat} (h0 : s.heap.size = base + n0) (hn : n0 ≤ hp.1) (hu : H.size ≤ s.heap.size + (hp.1 - n0)) : H.size = base + hp.1 := by
  have := hW.lo h0
  omega
theorem ix_getf (hx : p.tables.exec = Jvm.exec) (hb : c.code = cc) (had : ∀ a : Nat, a < 1000000 → ad a = base + a) (hts : ∀ w ∈ Ts, w.before args s = true) (hown : s.vm.findClass (on oc) = some m.cls) (hK : va_K D cl tys s) (hF : ix_okF T cl on Ts) (hO : ix_okD T cl on Ts) (hW : ix_W D cl aC ad base hp s H locs)
    {idx ci j a : Nat} {fs : List Value} {v : Value} (h1 : ix_tF T oc idx = some (ci, j)) (h2 : ix_obj hp a = some (ci, fs)) (h3 : fs[j]? = some v) (hd : decode cc pc = .ok (.getfield idx, 3))
    (k : W p l e R s m args below meth c H locs cells slots Q (F0 m (pc + 3) arr (ix_v ad v :: rest))) : W p l e R s m args below meth c H locs cells slots Q (F0 m pc arr (.ref (ad a) :: rest)) := by
  obtain ⟨ha, he⟩ := ix_obj_ok h2
  obtain ⟨r, hr, hj, hl⟩ := hF _ _ _ _ h1
  obtain ⟨-, -, hin, -, hfd, -⟩ := hO _ _ hr
  obtain ⟨hcap, hP, hD, hS⟩ := hW
  rw [had a (by omega)]
  have hw := ix_ws_get (aC := aC) (ad := ad) (base := base) (h := hp.2.2) ha
  rw [he] at hw
  exact va_get (D := D) (ci := ci) (C := r.1) (T := r.2.1) (N := r.2.2) hx hb hts hin hown hK hP a hw hr j hj (hts _ hl) (fun x h9 => by rw [(hfd j hj).2] at h9; exact h9) (by rw [List.getElem?_map, h3]; rfl) hd k
end IX3
end
