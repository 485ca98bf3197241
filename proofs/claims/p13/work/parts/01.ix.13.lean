section
theorem ix_okY.moved {T : ix_T} {cl : List vw_C} {aC : Nat → ClassId} {tys : List (ClassId × FieldType)} {Ts : List Cond} {u U : State} (hvm : u.vm.Alike U.vm) (h : ix_okY T cl aC tys Ts u) : ix_okY T cl aC tys Ts U :=
  ⟨h.1, h.2.1, fun t ci ht => by
    obtain ⟨r, h1, h2, h3⟩ := h.2.2 t ci ht
    exact ⟨r, h1, h2, va_AO.moved hvm h3⟩⟩
theorem ix_okA.moved {T : ix_T} {on : Nat → String} {Ts : List Cond} {ad : Nat → Nat} {base : Nat} {u U : State} {H H1 : Heap} (hvm : u.vm.Alike U.vm) (hR : ∀ (o : String) (k : Nat) (tx : String) (a : Nat), vk_R o k tx a u → vk_R o k tx a U) (hq : ∀ a : Nat, a < H.size → ¬ base ≤ a → H1[a]? = H[a]?) (h : ix_okA T on Ts ad base u H) : ix_okA T on Ts ad base U H1 :=
  ⟨fun k N f hk => (va_T.moved hvm (h.1 k N f hk)).kept hq, fun oc idx v hk => by
    obtain ⟨C, n, d, h1, h2⟩ := h.2.1 oc idx v hk
    exact ⟨C, n, d, h1, (va_Z.moved hvm h2).kept hq⟩, fun k N f hk => (va_T.moved hvm (h.2.2.1 k N f hk)).kept hq, fun k b hk => by
    obtain ⟨q1, q2, q3⟩ := h.2.2.2.1 k b hk
    exact ⟨(va_O.moved hvm q1).kept hq, (va_OF.moved hvm q2).kept hq, (va_OF.moved hvm q3).kept hq⟩, fun oc idx a hk => by
    obtain ⟨tx, h1⟩ := h.2.2.2.2.1 oc idx a hk
    exact ⟨tx, hR _ _ _ _ h1⟩, h.2.2.2.2.2⟩
theorem ix_St.warm {T : ix_T} {D : va_G} {cl : List vw_C} {aC : Nat → ClassId} {tys : List (ClassId × FieldType)} {on : Nat → String} {Ts : List Cond} {Ns : ix_Ns} {ad : Nat → Nat} {base : Nat} {u U : State} (hW : u.WarmedH U.vm) (hq : ∀ a : Nat, a < u.heap.size → ¬ base ≤ a → U.heap[a]? = u.heap[a]?) (h : ix_St T D cl aC tys on Ts Ns ad base u) : ix_St T D cl aC tys on Ts Ns ad base U :=
  ⟨va_K.moved hW.alike h.1, ix_okY.moved hW.alike h.2.1, ix_okA.moved hW.alike (fun _ _ _ _ hr => vk_R.warm hW hr) hq h.2.2.1, fun q hq => va_Nw.warmM hW (h.2.2.2 q hq)⟩
theorem ix_St.calling {T : ix_T} {D : va_G} {cl : List vw_C} {aC : Nat → ClassId} {tys : List (ClassId × FieldType)} {on : Nat → String} {Ts : List Cond} {Ns : ix_Ns} {ad : Nat → Nat} {base : Nat} {U : State} (g : JFrame) (mk : MethodId) (a : Array Value) (h : ix_St T D cl aC tys on Ts Ns ad base U) : ix_St T D cl aC tys on Ts Ns ad base (U.calling g mk a) :=
  ⟨va_K.moved (u := U) (U := U.calling g mk a) (Vm.Alike.refl U.vm) h.1, ix_okY.moved (u := U) (U := U.calling g mk a) (Vm.Alike.refl U.vm) h.2.1, ix_okA.moved (u := U) (U := U.calling g mk a) (Vm.Alike.refl U.vm) (fun _ _ _ _ hr => vk_R.same (u := U) (U := U.calling g mk a) rfl hr) (fun _ _ _ => rfl) h.2.2.1, fun q hq => va_Nw.same (u := U) (U := U.calling g mk a) rfl rfl (h.2.2.2 q hq)⟩
noncomputable def ix_P (D : va_G) (cl : List vw_C) (aC : Nat → ClassId) (ad : Nat → Nat) (base : Nat) (hp : ix_H) (H : Heap) : Prop := hp.1 ≤ 1000000 ∧ va_P D cl (ix_ws aC ad base hp.1 hp.2.2) H ∧ va_D (fun q => base ≤ q) (ix_ws aC ad base hp.1 hp.2.2)
noncomputable def ix_Pc (T : ix_T) (D : va_G) (cl : List vw_C) (aC : Nat → ClassId) (tys : List (ClassId × FieldType)) (on : Nat → String) (Ts : List Cond) (Ns : ix_Ns) (ad : Nat → Nat) (base : Nat) (av : List Value) (hp : ix_H) : Array Value → State → Prop := va_Pc (av.map (ix_v ad)) (fun U => U.heap.size = base + hp.1 ∧ ix_P D cl aC ad base hp U.heap ∧ ix_St T D cl aC tys on Ts Ns ad base U)
noncomputable def ix_Qc (D : va_G) (cl : List vw_C) (aC : Nat → ClassId) (ad : Nat → Nat) (base : Nat) (rv : Option Value) (hp : ix_H) : Array Value → State → Outcome → State → Prop := fun _ st oc t => oc = .returned (rv.map (ix_v ad)) ∧ ix_P D cl aC ad base hp t.heap ∧ va_F (fun q => base ≤ q) st t
noncomputable def ix_rm (d cells slots : Nat) : Room := { frames := d, cells := cells, slots := slots, locals := 64 * d }
noncomputable def ix_wsM (M : ix_M) (Ts : List Cond) : List Cond := Cond.code M.2.1 M.2.2.1 M.2.2.2.1 M.2.2.2.2.1 :: Ts
noncomputable def ix_Snd (l : Launch) (T : ix_T) (D : va_G) (cl : List vw_C) (aC : Nat → ClassId) (tys : List (ClassId × FieldType)) (on : Nat → String) (Ts : List Cond) (Ns : ix_Ns) (ad : Nat → Nat) (base d : Nat) (f : ix_F) : Prop := ∀ (mid : Nat) (M : ix_M) (av : List Value) (hp hp' : ix_H) (rv : Option Value), ix_tM T mid = some M → f mid av hp = some (rv, hp') → hp.1 ≤ hp'.1 ∧ hp.2.1 ≤ hp'.2.1 ∧
  Met l M.2.1 (ix_wsM M Ts) (ix_rm d (hp'.1 - hp.1) (hp'.2.1 - hp.2.1)) (ix_Pc T D cl aC tys on Ts Ns ad base av hp) (ix_Qc D cl aC ad base rv hp') (hp'.1 - hp.1) (hp'.2.1 - hp.2.1) (fun q => base ≤ q)
theorem ix_good {M : ix_M} {Ts : List Cond} (hg : ∀ w ∈ Ts, goodWord w = true) (hm : Cond.code M.2.1 M.2.2.1 M.2.2.2.1 M.2.2.2.2.1 ∈ Ts) : GoodIn Ts (ix_wsM M Ts) := by
  intro w hw
  rcases List.mem_cons.mp hw with rfl | hw
  · exact ⟨hm, good_of_word (hg _ hm)⟩
  · exact ⟨hw, good_of_word (hg _ hw)⟩
theorem ix_blind {T : ix_T} {D : va_G} {cl : List vw_C} {aC : Nat → ClassId} {tys : List (ClassId × FieldType)} {on : Nat → String} {Ts : List Cond} {Ns : ix_Ns} {ad : Nat → Nat} {base : Nat} {av : List Value} {hp : ix_H} : FrameBlind (ix_Pc T D cl aC tys on Ts Ns ad base av hp) := fun a U g mk h => ⟨h.1, h.2.1, h.2.2.1, h.2.2.2.calling g mk a⟩
section IX6
variable {p : Program} {l : Launch} {e : Env} {R : Room} {s : State} {m : MethodId} {args : Array Value} {below : List Frame} {meth : Method} {c : Code} {H : Heap} {locs : List Loc} {Q : State → Prop}
variable {cc : ByteArray} {pc : Nat} {arr : Array Slot} {ad : Nat → Nat}
variable {T : ix_T} {D : va_G} {cl : List vw_C} {aC : Nat → ClassId} {tys : List (ClassId × FieldType)} {on : Nat → String} {Ts : List Cond} {Ns : ix_Ns} {base : Nat} {hp : ix_H} {oc : Nat}
theorem ix_call {cells slots mc ms : Nat} {st0 rest : List Value} {rv : Option Value} {hp' : ix_H} {a : Array Value} (hr : va_Run p l e R s m args below meth c H locs cells slots mc ms (F0 m pc arr st0) rest (ix_Qc D cl aC ad base rv hp' a) (fun q => base ≤ q)) (hS : va_S (fun q => base ≤ q) s.heap H locs)
    (k : ∀ (H1 : Heap) (locs1 : List Loc), ix_W D cl aC ad base hp' s H1 locs1 → W p l e R s m args below meth c H1 locs1 (cells + mc) (slots + ms) Q (F0 m (pc + 3) arr ((rv.map (ix_v ad)).toList ++ rest))) : W p l e R s m args below meth c H locs cells slots Q (F0 m pc arr st0) := by
  intro T0 hT X
  obtain ⟨v, st₀, t, T', L, e0, X', hL, e1, e2, ⟨hv, ⟨hc, hP, hD⟩, hF1, hF2⟩, st⟩ := hr T0 hT X
  cases hv
  rw [e0] at hF1 hF2
  obtain ⟨t2, a1, b1⟩ := k T'.heap (locs ++ L) ⟨hc, by rw [e1]; exact hP, hD, by rw [e1]; exact Nat.le_trans hS.1 hF1, fun q h1 h2 => by rw [e1, hF2 q (Nat.lt_of_lt_of_le h1 hS.1) h2]; exact hS.2.1 q h1 h2, fun q hq => by
    rcases List.mem_append.mp hq with h | h
    · exact hS.2.2 q h
    · exact hL q h⟩ T' rfl X'
  exact ⟨t2, st t2 a1, b1⟩
theorem ix_split {na : Nat} {st : List Value} (hna : na ≤ st.length) : st.map (ix_v ad) = (((st.take na).reverse).map (ix_v ad)).reverse ++ (st.drop na).map (ix_v ad) := by
  rw [← List.map_reverse, List.reverse_reverse, ← List.map_append, List.take_append_drop]
theorem ix_take {na : Nat} {st : List Value} (hna : na ≤ st.length) : (((st.take na).reverse).map (ix_v ad)).length = na := by
  rw [List.length_map, List.length_reverse, List.length_take]; omega
end IX6
end
