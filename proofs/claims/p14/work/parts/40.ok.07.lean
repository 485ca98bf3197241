theorem xchkI_all : ∀ oc, oc < 18 → xchkI oc = true
  | 0, _ => xchkI_0
  | 1, _ => xchkI_1
  | 2, _ => xchkI_2
  | 3, _ => xchkI_3
  | 4, _ => xchkI_4
  | 5, _ => xchkI_5
  | 6, _ => xchkI_6
  | 7, _ => xchkI_7
  | 8, _ => xchkI_8
  | 9, _ => xchkI_9
  | 10, _ => xchkI_10
  | 11, _ => xchkI_11
  | 12, _ => xchkI_12
  | 13, _ => xchkI_13
  | 14, _ => xchkI_14
  | 15, _ => xchkI_15
  | 16, _ => xchkI_16
  | 17, _ => xchkI_17
  | n + 18, h => absurd h (by omega)
theorem xT_F_out {oc idx : Nat} {x : Nat × Nat} (h : xT_F oc idx = some x) : oc < 18 ∧ idx < 1063 := by
  unfold xT_F at h
  cases hb : Nat.blt idx 1063 with
  | false => rw [hb] at h; cases h
  | true =>
    refine ⟨?_, Nat.blt_eq.mp hb⟩
    rw [hb] at h
    rcases Nat.lt_or_ge oc 18 with h1 | h1
    · exact h1
    · obtain ⟨n, rfl⟩ : ∃ n, oc = n + 18 := ⟨oc - 18, by omega⟩
      cases h
theorem xT_C_out {oc idx : Nat} {x : Nat × Nat} (h : xT_C oc idx = some x) : oc < 18 ∧ idx < 1063 := by
  unfold xT_C at h
  cases hb : Nat.blt idx 1063 with
  | false => rw [hb] at h; cases h
  | true =>
    refine ⟨?_, Nat.blt_eq.mp hb⟩
    rw [hb] at h
    rcases Nat.lt_or_ge oc 18 with h1 | h1
    · exact h1
    · obtain ⟨n, rfl⟩ : ∃ n, oc = n + 18 := ⟨oc - 18, by omega⟩
      cases h
theorem xT_K_out {oc idx : Nat} {x : Value} (h : xT_K oc idx = some x) : oc < 18 ∧ idx < 1063 := by
  unfold xT_K at h
  cases hb : Nat.blt idx 1063 with
  | false => rw [hb] at h; cases h
  | true =>
    refine ⟨?_, Nat.blt_eq.mp hb⟩
    rw [hb] at h
    rcases Nat.lt_or_ge oc 18 with h1 | h1
    · exact h1
    · obtain ⟨n, rfl⟩ : ∃ n, oc = n + 18 := ⟨oc - 18, by omega⟩
      cases h
theorem xT_I_out {oc idx : Nat} {x : Nat × Nat × Nat} (h : xT_I oc idx = some x) : oc < 18 ∧ idx < 1063 := by
  unfold xT_I at h
  cases hb : Nat.blt idx 1063 with
  | false => rw [hb] at h; cases h
  | true =>
    refine ⟨?_, Nat.blt_eq.mp hb⟩
    rw [hb] at h
    rcases Nat.lt_or_ge oc 18 with h1 | h1
    · exact h1
    · obtain ⟨n, rfl⟩ : ∃ n, oc = n + 18 := ⟨oc - 18, by omega⟩
      cases h
section XOK
variable (A : Nat → Option (Nat × (Nat → Int32)))
theorem xok_F : ix_okF (xT A) xcl xon xTs := by
  intro oc idx ci j h
  have h : xT_F oc idx = some (ci, j) := h
  obtain ⟨h1, h2⟩ := xT_F_out h
  have h3 := List.all_eq_true.mp (xchkF_all oc h1) idx (List.mem_range.mpr h2)
  rw [h] at h3
  simp only at h3
  split at h3
  · rename_i r hr
    rw [Bool.and_eq_true] at h3
    exact ⟨r, hr, Nat.blt_eq.mp h3.1, xat_ok h3.2 rfl⟩
  · cases h3
theorem xok_C : ix_okC (xT A) xcl xon xTs := by
  intro oc idx ci t h
  have h : xT_C oc idx = some (ci, t) := h
  obtain ⟨h1, h2⟩ := xT_C_out h
  have h3 := List.all_eq_true.mp (xchkC_all oc h1) idx (List.mem_range.mpr h2)
  rw [h] at h3
  simp only at h3
  split at h3
  · rename_i r hr
    rw [Bool.and_eq_true, Bool.or_eq_true] at h3
    exact ⟨r, hr, xat_ok h3.1 rfl, fun ht => of_decide_eq_true (h3.2.resolve_left (fun q => ht (Nat.eq_of_beq_eq_true q)))⟩
  · cases h3
theorem xok_K : ix_okK (xT A) xon xTs := by
  refine ⟨fun oc idx v h => ?_, fun oc idx v h => ?_⟩
  · have h : xT_K oc idx = some (.int v) := h
    obtain ⟨h1, h2⟩ := xT_K_out h
    have h3 := List.all_eq_true.mp (xchkK_all oc h1) idx (List.mem_range.mpr h2)
    rw [h] at h3
    exact xat_ok h3 rfl
  · have h : xT_K oc idx = some (.long v) := h
    obtain ⟨h1, h2⟩ := xT_K_out h
    have h3 := List.all_eq_true.mp (xchkK_all oc h1) idx (List.mem_range.mpr h2)
    rw [h] at h3
    exact xat_ok h3 rfl
theorem xw_oi : Cond.instanceMethod objectInit ∈ xTs := xat_ok (q := some (1, 27)) (by decide +kernel) rfl
theorem xw_oc : Cond.code objectInit ⟨#[0xb1]⟩ 1 none ∈ xTs := xTs_at (k := 1) (i := 28) rfl rfl
theorem xw_an : Cond.native arraycopyName ∈ xTs := xat_ok (q := some (3, 88)) (by decide +kernel) rfl
theorem xw_as : Cond.static arraycopyName ∈ xTs := xat_ok (q := some (3, 87)) (by decide +kernel) rfl
theorem xw_ai : Cond.initialized "java/lang/System" ∈ xTs := xat_ok (q := some (1, 14)) (by decide +kernel) rfl
theorem xw_mi : Cond.initialized "java/lang/Math" ∈ xTs := xat_ok (q := some (1, 15)) (by decide +kernel) rfl
theorem xw_m9s : Cond.static Lib.Math.min.name ∈ xTs := xat_ok (q := some (4, 133)) (by decide +kernel) rfl
theorem xw_m9c : Cond.code Lib.Math.min.name Lib.Math.min.code 2 (some .int) ∈ xTs := xat_ok (q := some (4, 134)) (by decide +kernel) rfl
theorem xw_m10s : Cond.static Lib.Math.max.name ∈ xTs := xat_ok (q := some (4, 119)) (by decide +kernel) rfl
theorem xw_m10c : Cond.code Lib.Math.max.name Lib.Math.max.code 2 (some .int) ∈ xTs := xat_ok (q := some (4, 120)) (by decide +kernel) rfl
theorem xw_m11s : Cond.static Lib.MathLoose.min_long.x ∈ xTs := xat_ok (q := some (7, 209)) (by decide +kernel) rfl
theorem xw_m11c : Cond.code Lib.MathLoose.min_long.x Lib.MathLoose.min_long.code 4 (some .long) ∈ xTs := xat_ok (q := some (7, 210)) (by decide +kernel) rfl
theorem xok_I : ix_okI (xT A) xcl xon xTs xNs := by
  intro oc idx kd mid na h
  have h : xT_I oc idx = some (kd, mid, na) := h
  obtain ⟨h1, h2⟩ := xT_I_out h
  have h3 := List.all_eq_true.mp (xchkI_all oc h1) idx (List.mem_range.mpr h2)
  rw [h] at h3
  simp only at h3
  refine ⟨fun hk => ?_, fun hk => ?_, fun hk => ?_, fun hk => ?_, fun hk => ?_, fun hk => ?_, fun hk1 hk6 => ?_⟩
  · subst hk
    exact ⟨xat_ok h3 rfl, xw_oi, xw_oc⟩
  · subst hk
    exact ⟨xat_ok h3 rfl, xw_an, xw_as, xw_ai⟩
  · subst hk
    simp only [Nat.beq, cond_true, cond_false] at h3
    split at h3
    · rename_i M pi ps p8 p9 hM hpM
      simp only [Bool.and_eq_true, decide_eq_true_eq] at h3
      obtain ⟨a1, a2, a3, a4, a5⟩ := h3
      exact ⟨M, hM, a1, xat_ok a2 rfl, xat_ok a3 rfl, xat_ok a4 rfl, a5⟩
    · cases h3
  · subst hk
    exact ⟨xat_ok h3 rfl, xw_m9s, xw_mi, xw_m9c⟩
  · subst hk
    exact ⟨xat_ok h3 rfl, xw_m10s, xw_mi, xw_m10c⟩
  · subst hk
    exact ⟨xat_ok h3 rfl, xw_m11s, xw_mi, xw_m11c⟩
  · have hb0 : Nat.beq kd 0 = false := by
      cases hb : Nat.beq kd 0 with
      | false => rfl
      | true => have := Nat.eq_of_beq_eq_true hb; omega
    have hb7 : Nat.beq kd 7 = false := by
      cases hb : Nat.beq kd 7 with
      | false => rfl
      | true => have := Nat.eq_of_beq_eq_true hb; omega
    have hb8 : Nat.beq kd 8 = false := by
      cases hb : Nat.beq kd 8 with
      | false => rfl
      | true => have := Nat.eq_of_beq_eq_true hb; omega
    have hb9 : Nat.beq kd 9 = false := by
      cases hb : Nat.beq kd 9 with
      | false => rfl
      | true => have := Nat.eq_of_beq_eq_true hb; omega
    have hb10 : Nat.beq kd 10 = false := by
      cases hb : Nat.beq kd 10 with
      | false => rfl
      | true => have := Nat.eq_of_beq_eq_true hb; omega
    have hb11 : Nat.beq kd 11 = false := by
      cases hb : Nat.beq kd 11 with
      | false => rfl
      | true => have := Nat.eq_of_beq_eq_true hb; omega
    rw [hb0, hb7, hb8, hb9, hb10, hb11] at h3
    simp only [cond_false, Bool.and_eq_true] at h3
    have h4 := h3.2
    unfold xchkM at h4
    split at h4
    · rename_i M pi ps pt pn q hM hpM hpI
      refine ⟨M, hM, ?_⟩
      rcases (show kd = 1 ∨ kd = 2 ∨ kd = 3 ∨ kd = 4 ∨ kd = 5 ∨ kd = 6 by omega) with rfl | rfl | rfl | rfl | rfl | rfl <;> simp only [Nat.beq, Bool.or_true, Bool.true_or, Bool.or_false, Bool.false_or, cond_true, cond_false, Bool.and_eq_true, decide_eq_true_eq] at h4
      · obtain ⟨a1, a2, a3, a4, a5⟩ := h4
        exact ⟨a1, fun _ => xat_ok a2 rfl, fun q => by omega, fun _ => ⟨a3, xat_ok a4 rfl, a5⟩, fun q => by omega, fun q => by omega⟩
      · obtain ⟨a1, a2, a3, a4, a5⟩ := h4
        exact ⟨a1, fun q => by omega, fun _ => List.mem_of_getElem? a2, fun _ => ⟨a3, xat_ok a4 rfl, a5⟩, fun q => by omega, fun q => by omega⟩
      · obtain ⟨a1, a2, a3, a4, a5⟩ := h4
        split at a5
        · rename_i r hr
          exact ⟨a1, fun _ => xat_ok a2 rfl, fun q => by omega, fun q => by omega, fun _ => ⟨xat_ok a3 rfl, xat_ok a4 rfl, r, hr, of_decide_eq_true a5⟩, fun q => by omega⟩
        · cases a5
      · obtain ⟨a1, a2, a3, a4, a5⟩ := h4
        split at a5
        · rename_i r hr
          exact ⟨a1, fun q => by omega, fun _ => List.mem_of_getElem? a2, fun q => by omega, fun _ => ⟨xat_ok a3 rfl, xat_ok a4 rfl, r, hr, of_decide_eq_true a5⟩, fun q => by omega⟩
        · cases a5
      · obtain ⟨a1, a2, a3⟩ := h4
        exact ⟨a1, fun _ => xat_ok a2 rfl, fun q => by omega, fun q => by omega, fun q => by omega, fun _ => xat_ok a3 rfl⟩
      · obtain ⟨a1, a2, a3⟩ := h4
        exact ⟨a1, fun q => by omega, fun _ => List.mem_of_getElem? a2, fun q => by omega, fun q => by omega, fun _ => xat_ok a3 rfl⟩
    · cases h4
end XOK
