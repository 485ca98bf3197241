section
/-! ===== an interpreter of the bytecode over abstract cells: a run of it that ends is a run of the machine (the parts behind this one show it) ===== -/
/-- an abstract cell: an array (number of its type, length and contents), or an object (number of its class, fields); references are numbers of cells, from 1000000 on constants -/
noncomputable abbrev ix_C : Type := (Nat × vp_A) ⊕ (Nat × List Value)
/-- cells made, slots made, the cells -/
noncomputable abbrev ix_H : Type := Nat × Nat × (Nat → ix_C)
/-- a method: its class's number, name, bytes, locals, type of the answer, whether it is a constructor, its instructions -/
noncomputable abbrev ix_M : Type := Nat × MethodName × ByteArray × Nat × Option FieldType × Bool × (Nat → Option Instr)
noncomputable abbrev ix_L : Type := List (Nat × Value)
noncomputable abbrev ix_S : Type := Nat × ix_L × List Value × ix_H
/-- the tables: methods by number; by class and place in its constants: fields (class, field), calls (kind, method, count of arguments), classes, constants; of a class: its fields' types and which are final; of an array type: its elements' class; static rows of ints (by class and place: number of a constant), the constants' lengths and contents -/
noncomputable abbrev ix_T : Type := (Nat → Option ix_M) × (Nat → Nat → Option (Nat × Nat)) × (Nat → Nat → Option (Nat × Nat × Nat)) × (Nat → Nat → Option (Nat × Nat)) × (Nat → Nat → Option Value) × (Nat → Nat × (Nat → FieldType × Bool)) × (Nat → Option Nat) × (Nat → Nat → Option Value) × (Nat → Option (Nat × (Nat → Int32))) × (Nat → Option (Nat × (Nat → Int32))) × (Nat → Option Nat) × (Nat → Nat → Option Bool)
noncomputable def ix_tM (T : ix_T) : Nat → Option ix_M := T.1
noncomputable def ix_tF (T : ix_T) : Nat → Nat → Option (Nat × Nat) := T.2.1
noncomputable def ix_tI (T : ix_T) : Nat → Nat → Option (Nat × Nat × Nat) := T.2.2.1
noncomputable def ix_tC (T : ix_T) : Nat → Nat → Option (Nat × Nat) := T.2.2.2.1
noncomputable def ix_tK (T : ix_T) : Nat → Nat → Option Value := T.2.2.2.2.1
noncomputable def ix_tD (T : ix_T) : Nat → Nat × (Nat → FieldType × Bool) := T.2.2.2.2.2.1
noncomputable def ix_tE (T : ix_T) : Nat → Option Nat := T.2.2.2.2.2.2.1
noncomputable def ix_tS (T : ix_T) : Nat → Nat → Option Value := T.2.2.2.2.2.2.2.1
noncomputable def ix_tA (T : ix_T) : Nat → Option (Nat × (Nat → Int32)) := T.2.2.2.2.2.2.2.2.1
/-- constant rows of bytes; String constants (the number of their row of bytes); String's own fields (true: value, false: coder) -/
noncomputable def ix_tB (T : ix_T) : Nat → Option (Nat × (Nat → Int32)) := T.2.2.2.2.2.2.2.2.2.1
noncomputable def ix_tO (T : ix_T) : Nat → Option Nat := T.2.2.2.2.2.2.2.2.2.2.1
noncomputable def ix_tG (T : ix_T) : Nat → Nat → Option Bool := T.2.2.2.2.2.2.2.2.2.2.2
/-- a constant row of ints -/
noncomputable def ix_cns (T : ix_T) (a : Nat) : Option (Nat × (Nat → Int32)) := bif Nat.blt a 1000000 then none else ix_tA T (a - 1000000)
theorem ix_cns_ok {T : ix_T} {a : Nat} {x : Nat × (Nat → Int32)} (h : ix_cns T a = some x) : ∃ k, a = 1000000 + k ∧ ix_tA T k = some x := by
  unfold ix_cns at h
  cases hb : Nat.blt a 1000000 with
  | true => rw [hb] at h; cases h
  | false =>
    rw [hb] at h
    have : ¬ a < 1000000 := fun q => by rw [Nat.blt_eq.mpr q] at hb; cases hb
    exact ⟨a - 1000000, by omega, h⟩
/-- a constant row of bytes -/
noncomputable def ix_cnb (T : ix_T) (a : Nat) : Option (Nat × (Nat → Int32)) := bif Nat.blt a 1000000 then none else ix_tB T (a - 1000000)
theorem ix_cnb_ok {T : ix_T} {a : Nat} {x : Nat × (Nat → Int32)} (h : ix_cnb T a = some x) : ∃ k, a = 1000000 + k ∧ ix_tB T k = some x := by
  unfold ix_cnb at h
  cases hb : Nat.blt a 1000000 with
  | true => rw [hb] at h; cases h
  | false =>
    rw [hb] at h
    have : ¬ a < 1000000 := fun q => by rw [Nat.blt_eq.mpr q] at hb; cases hb
    exact ⟨a - 1000000, by omega, h⟩
/-- a String constant -/
noncomputable def ix_cno (T : ix_T) (a : Nat) : Option Nat := bif Nat.blt a 1000000 then none else ix_tO T (a - 1000000)
theorem ix_cno_ok {T : ix_T} {a : Nat} {x : Nat} (h : ix_cno T a = some x) : ∃ k, a = 1000000 + k ∧ ix_tO T k = some x := by
  unfold ix_cno at h
  cases hb : Nat.blt a 1000000 with
  | true => rw [hb] at h; cases h
  | false =>
    rw [hb] at h
    have : ¬ a < 1000000 := fun q => by rw [Nat.blt_eq.mpr q] at hb; cases hb
    exact ⟨a - 1000000, by omega, h⟩
noncomputable def ix_up (h : Nat → ix_C) (i : Nat) (c : ix_C) : Nat → ix_C := fun j => bif Nat.beq j i then c else h j
theorem ix_up_self (h : Nat → ix_C) (i : Nat) (c : ix_C) : ix_up h i c i = c := by simp [ix_up]
theorem ix_up_ne (h : Nat → ix_C) {i j : Nat} (c : ix_C) (hj : j ≠ i) : ix_up h i c j = h j := by
  have : Nat.beq j i = false := by
    cases hb : Nat.beq j i with
    | false => rfl
    | true => exact absurd (Nat.eq_of_beq_eq_true hb) hj
  simp [ix_up, this]
noncomputable def ix_v (ad : Nat → Nat) : Value → Value
  | .ref a => .ref (ad a)
  | v => v
noncomputable def ix_a (ad : Nat → Nat) : vp_A → vp_A
  | (n, .inr (.inr (.inr (.inr f)))) => (n, .inr (.inr (.inr (.inr (fun j => (f j).map ad)))))
  | x => x
noncomputable def ix_e (aC : Nat → ClassId) (ad : Nat → Nat) : ix_C → va_E
  | .inl (t, x) => .inl (aC t, ix_a ad x)
  | .inr (c, fs) => .inr (c, fs.map (ix_v ad))
noncomputable def ix_ws (aC : Nat → ClassId) (ad : Nat → Nat) (base n : Nat) (h : Nat → ix_C) : va_W := (List.range n).map (fun i => (base + i, ix_e aC ad (h i)))
theorem ix_ws_get {aC : Nat → ClassId} {ad : Nat → Nat} {base n : Nat} {h : Nat → ix_C} {i : Nat} (hi : i < n) : (ix_ws aC ad base n h)[i]? = some (base + i, ix_e aC ad (h i)) := by
  simp [ix_ws, hi]
theorem ix_ws_len {aC : Nat → ClassId} {ad : Nat → Nat} {base n : Nat} {h : Nat → ix_C} : (ix_ws aC ad base n h).length = n := by
  simp [ix_ws]
theorem ix_ws_set {aC : Nat → ClassId} {ad : Nat → Nat} {base n : Nat} {h : Nat → ix_C} {i : Nat} (c : ix_C) : (ix_ws aC ad base n h).set i (base + i, ix_e aC ad c) = ix_ws aC ad base n (ix_up h i c) := by
  apply List.ext_getElem?
  intro k
  by_cases hk : k < n
  · by_cases hki : k = i
    · subst hki
      rw [List.getElem?_set_self (by rw [ix_ws_len]; exact hk), ix_ws_get hk, ix_up_self]
    · rw [List.getElem?_set_ne (fun e => hki e.symm), ix_ws_get hk, ix_ws_get hk, ix_up_ne _ _ hki]
  · have h1 : ((ix_ws aC ad base n h).set i (base + i, ix_e aC ad c)).length ≤ k := by rw [List.length_set, ix_ws_len]; omega
    have h2 : (ix_ws aC ad base n (ix_up h i c)).length ≤ k := by rw [ix_ws_len]; omega
    rw [List.getElem?_eq_none h1, List.getElem?_eq_none h2]
theorem ix_ws_push {aC : Nat → ClassId} {ad : Nat → Nat} {base n : Nat} {h : Nat → ix_C} (c : ix_C) : ix_ws aC ad base n h ++ [(base + n, ix_e aC ad c)] = ix_ws aC ad base (n + 1) (ix_up h n c) := by
  apply List.ext_getElem?
  intro k
  by_cases hk : k < n
  · rw [List.getElem?_append_left (by rw [ix_ws_len]; exact hk), ix_ws_get hk, ix_ws_get (by omega), ix_up_ne _ _ (by omega)]
  · by_cases hkn : k = n
    · subst hkn
      rw [List.getElem?_append_right (by rw [ix_ws_len]; omega), ix_ws_get (by omega), ix_up_self, ix_ws_len, Nat.sub_self]
      rfl
    · have h1 : (ix_ws aC ad base n h ++ [(base + n, ix_e aC ad c)]).length ≤ k := by simp [ix_ws_len]; omega
      have h2 : (ix_ws aC ad base (n + 1) (ix_up h n c)).length ≤ k := by rw [ix_ws_len]; omega
      rw [List.getElem?_eq_none h1, List.getElem?_eq_none h2]
/-- where an abstract reference lies -/
noncomputable def ix_ad (base : Nat) (cst : Nat → Nat) (a : Nat) : Nat := if a < 1000000 then base + a else cst (a - 1000000)
theorem ix_ad_lt {base : Nat} {cst : Nat → Nat} {a : Nat} (h : a < 1000000) : ix_ad base cst a = base + a := by simp [ix_ad, h]
theorem ix_v_cat (ad : Nat → Nat) (v : Value) : (ix_v ad v).category = v.category := by cases v <;> rfl
theorem ix_v_cats (ad : Nat → Nat) (st : List Value) : ((st.map (ix_v ad)).map fun v => v.category).sum = (st.map fun v => v.category).sum := by
  rw [List.map_map]
  congr 1
  apply List.map_congr_left
  intro v _
  exact ix_v_cat ad v
end
