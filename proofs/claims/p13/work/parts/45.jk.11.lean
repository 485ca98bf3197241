section
theorem xwm_t9 : ∀ w ∈ (xwStr "PacketWall$Parser" 187 xs_9 : List Cond), w ∈ xwant := fun w hw => List.mem_append_left _ (List.mem_append_left _ (List.mem_append_left _ (List.mem_append_left _ (List.mem_append_left _ (List.mem_append_left _ (List.mem_append_right _ hw))))))
theorem xwm_t10 : ∀ w ∈ (xwStr "PacketWall$Parser" 189 xs_10 : List Cond), w ∈ xwant := fun w hw => List.mem_append_left _ (List.mem_append_left _ (List.mem_append_left _ (List.mem_append_left _ (List.mem_append_left _ (List.mem_append_right _ hw)))))
theorem xwm_t11 : ∀ w ∈ (xwStr "PacketWall$Parser" 191 xs_11 : List Cond), w ∈ xwant := fun w hw => List.mem_append_left _ (List.mem_append_left _ (List.mem_append_left _ (List.mem_append_left _ (List.mem_append_right _ hw))))
theorem xwm_t12 : ∀ w ∈ (xwStr "PacketWall$Parser" 193 xs_12 : List Cond), w ∈ xwant := fun w hw => List.mem_append_left _ (List.mem_append_left _ (List.mem_append_left _ (List.mem_append_right _ hw)))
theorem xwm_t13 : ∀ w ∈ (xwStr "PacketWall$Parser" 195 xs_13 : List Cond), w ∈ xwant := fun w hw => List.mem_append_left _ (List.mem_append_left _ (List.mem_append_right _ hw))
theorem xwm_t14 : ∀ w ∈ (xwStr "PacketWall$Parser" 197 xs_14 : List Cond), w ∈ xwant := fun w hw => List.mem_append_left _ (List.mem_append_right _ hw)
theorem xwm_t15 : ∀ w ∈ (xwStr "PacketWall$Parser" 199 xs_15 : List Cond), w ∈ xwant := fun w hw => List.mem_append_right _ hw
theorem xstat_ok {args : Array Value} {s : State} {C n : String} {v : List Int32} {A : Nat → Prop} (hN : v.length < 2 ^ 31) (hw : ∀ w ∈ xwStat C n v, w.before args s = true) (hl : (Cond.laysStatic C n "[I").before args s = true) (hini : (Cond.initialized C).before args s = true) (hA : ∀ a : Nat, a < s.heap.size → ¬ A a) : ∃ t : Nat, va_Z C n "[I" (.ref t) A s s.heap ∧ va_T .int t v.length (fun j => .int (v.getD j 0)) A s s.heap := by
  obtain ⟨t, h1, h2⟩ := va_Tof (tm := .static C n "[I") (ty := .int) (f := fun j => .int (v.getD j 0)) (A := A) hN (hw _ List.mem_cons_self) (va_eqt (hw _ (List.mem_cons_of_mem _ List.mem_cons_self))) (fun j hj => va_eqt (hw _ (List.mem_cons_of_mem _ (List.mem_cons_of_mem _ (List.mem_map.mpr ⟨j, List.mem_range.mpr hj, rfl⟩))))) hA
  exact ⟨t, va_Zof hl hini h1 hA, h2⟩
theorem xstr_ok {args : Array Value} {s : State} {C : String} {k : Nat} {v : List Int32} {A : Nat → Prop} (hN : v.length < 2 ^ 31) (hw : ∀ w ∈ xwStr C k v, w.before args s = true) (hA : ∀ a : Nat, a < s.heap.size → ¬ A a) : ∃ a t : Nat, (Term.string C k).eval args s none [] s = some (.ref a) ∧ va_O "java/lang/String" a A s s.heap ∧ va_OF "java/lang/String" "coder" "B" (.int 0) a A s s.heap ∧ va_OF "java/lang/String" "value" "[B" (.ref t) a A s s.heap ∧ va_T .byte t v.length (fun j => .int (v.getD j 0)) A s s.heap := by
  obtain ⟨a, c, cA, kA, q1, q2, q3, q4, q5, q6, -⟩ := Cond.exactly_spec (args := args) (first := s) (o := none) (s := s) (idx := []) (t := .string C k) (cls := "java/lang/String") (hw _ List.mem_cons_self)
  obtain ⟨t, ht, hT⟩ := va_Tof (f := fun j => .int (v.getD j 0)) (A := A) hN (hw _ (List.mem_cons_of_mem _ (List.mem_cons_of_mem _ List.mem_cons_self))) (va_eqt (hw _ (List.mem_cons_of_mem _ (List.mem_cons_of_mem _ (List.mem_cons_of_mem _ List.mem_cons_self))))) (fun j hj => va_eqt (hw _ (List.mem_cons_of_mem _ (List.mem_cons_of_mem _ (List.mem_cons_of_mem _ (List.mem_cons_of_mem _ (List.mem_map.mpr ⟨j, List.mem_range.mpr hj, rfl⟩))))))) hA
  exact ⟨a, t, q1, ⟨cA, q3, q5, by rw [q6]; exact q2, hA a (Array.getElem?_eq_some_iff.mp q3).1⟩, vk_OFof q1 (va_eqt (hw _ (List.mem_cons_of_mem _ List.mem_cons_self))) hA, vk_OFof q1 ht hA, hT⟩
end
section
/-! ===== the law, on: statics ===== -/
noncomputable def xqS_0 (_ : Nat) : Option (Nat × Nat × Nat) := none
noncomputable def xqS_1 (idx : Nat) : Option (Nat × Nat × Nat) := bif Nat.blt idx 140 then (bif Nat.beq idx 134 then some ((5, 5, 21)) else none) else (bif Nat.beq idx 140 then some ((4, 5, 9)) else none)
noncomputable def xqS_2 (_ : Nat) : Option (Nat × Nat × Nat) := none
noncomputable def xqS_3 (_ : Nat) : Option (Nat × Nat × Nat) := none
noncomputable def xqS_4 (_ : Nat) : Option (Nat × Nat × Nat) := none
noncomputable def xqS_5 (idx : Nat) : Option (Nat × Nat × Nat) := bif Nat.blt idx 92 then (bif Nat.blt idx 65 then (bif Nat.beq idx 53 then some ((1, 3, 207)) else none) else (bif Nat.blt idx 71 then (bif Nat.beq idx 65 then some ((2, 3, 210)) else none) else (bif Nat.beq idx 71 then some ((3, 3, 212)) else none))) else (bif Nat.blt idx 95 then (bif Nat.beq idx 92 then some ((6, 6, 232)) else none) else (bif Nat.blt idx 155 then (bif Nat.beq idx 95 then some ((7, 6, 234)) else none) else (bif Nat.beq idx 155 then some ((0, 3, 150)) else none)))
noncomputable def xqS_6 (_ : Nat) : Option (Nat × Nat × Nat) := none
noncomputable def xqS_7 (_ : Nat) : Option (Nat × Nat × Nat) := none
noncomputable def xqS_8 (_ : Nat) : Option (Nat × Nat × Nat) := none
noncomputable def xqS_9 (_ : Nat) : Option (Nat × Nat × Nat) := none
noncomputable def xqS_10 (_ : Nat) : Option (Nat × Nat × Nat) := none
noncomputable def xqS_11 (_ : Nat) : Option (Nat × Nat × Nat) := none
noncomputable def xqS_12 (_ : Nat) : Option (Nat × Nat × Nat) := none
noncomputable def xqS_13 (_ : Nat) : Option (Nat × Nat × Nat) := none
noncomputable def xqS_14 (_ : Nat) : Option (Nat × Nat × Nat) := none
noncomputable def xqS_15 (idx : Nat) : Option (Nat × Nat × Nat) := bif Nat.beq idx 38 then some ((8, 5, 114)) else none
noncomputable def xqS_16 (_ : Nat) : Option (Nat × Nat × Nat) := none
noncomputable def xqS_17 (_ : Nat) : Option (Nat × Nat × Nat) := none
noncomputable def xqS (oc idx : Nat) : Option (Nat × Nat × Nat) := match oc with
  | 0 => xqS_0 idx
  | 1 => xqS_1 idx
  | 2 => xqS_2 idx
  | 3 => xqS_3 idx
  | 4 => xqS_4 idx
  | 5 => xqS_5 idx
  | 6 => xqS_6 idx
  | 7 => xqS_7 idx
  | 8 => xqS_8 idx
  | 9 => xqS_9 idx
  | 10 => xqS_10 idx
  | 11 => xqS_11 idx
  | 12 => xqS_12 idx
  | 13 => xqS_13 idx
  | 14 => xqS_14 idx
  | 15 => xqS_15 idx
  | 16 => xqS_16 idx
  | 17 => xqS_17 idx
  | _ => none
noncomputable def xst9 : List (String × String × String × Value) := [("PacketWall$Headers", "LEAST", "[I", .ref 1000001), ("PacketWall$Headers", "FIELD_COUNTS", "[I", .ref 1000002), ("PacketWall$Headers", "FIRST_FORM", "[I", .ref 1000003), ("PacketWall$Headers", "FORMS", "[I", .ref 1000004), ("PacketWall$Flow", "NEXT_STATES", "[I", .ref 1000005), ("PacketWall$Flow", "STREAM_LIVES", "[I", .ref 1000006), ("PacketWall$Headers", "NET_IN_SIX", "[I", .ref 1000007), ("PacketWall$Headers", "NET_IN_FOUR", "[I", .ref 1000008), ("java/lang/String", "COMPACT_STRINGS", "Z", .int 1)]
noncomputable def xchkS (oc : Nat) : Bool := (List.range 1063).all (fun idx => match xT_S0 oc idx with
  | none => true
  | some v => match xqS oc idx with
    | none => false
    | some (q, k, i) => match xst9[q]? with
      | none => false
      | some z => decide (z.2.2.2 = v) && xat (some (k, i)) (Cond.fieldLink (xon oc) idx z.1 z.2.1 z.2.2.1))
theorem xchkS_0 : xchkS 0 = true := by decide +kernel
theorem xchkS_1 : xchkS 1 = true := by decide +kernel
theorem xchkS_2 : xchkS 2 = true := by decide +kernel
theorem xchkS_3 : xchkS 3 = true := by decide +kernel
theorem xchkS_4 : xchkS 4 = true := by decide +kernel
theorem xchkS_5 : xchkS 5 = true := by decide +kernel
theorem xchkS_6 : xchkS 6 = true := by decide +kernel
theorem xchkS_7 : xchkS 7 = true := by decide +kernel
theorem xchkS_8 : xchkS 8 = true := by decide +kernel
theorem xchkS_9 : xchkS 9 = true := by decide +kernel
theorem xchkS_10 : xchkS 10 = true := by decide +kernel
theorem xchkS_11 : xchkS 11 = true := by decide +kernel
theorem xchkS_12 : xchkS 12 = true := by decide +kernel
theorem xchkS_13 : xchkS 13 = true := by decide +kernel
theorem xchkS_14 : xchkS 14 = true := by decide +kernel
theorem xchkS_15 : xchkS 15 = true := by decide +kernel
theorem xchkS_16 : xchkS 16 = true := by decide +kernel
theorem xchkS_17 : xchkS 17 = true := by decide +kernel
theorem xchkS_all : ∀ oc, oc < 18 → xchkS oc = true
  | 0, _ => xchkS_0
  | 1, _ => xchkS_1
  | 2, _ => xchkS_2
  | 3, _ => xchkS_3
  | 4, _ => xchkS_4
  | 5, _ => xchkS_5
  | 6, _ => xchkS_6
  | 7, _ => xchkS_7
  | 8, _ => xchkS_8
  | 9, _ => xchkS_9
  | 10, _ => xchkS_10
  | 11, _ => xchkS_11
  | 12, _ => xchkS_12
  | 13, _ => xchkS_13
  | 14, _ => xchkS_14
  | 15, _ => xchkS_15
  | 16, _ => xchkS_16
  | 17, _ => xchkS_17
  | n + 18, h => absurd h (by omega)
theorem xT_S0_out {oc idx : Nat} {x : Value} (h : xT_S0 oc idx = some x) : oc < 18 ∧ idx < 1063 := by
  unfold xT_S0 at h
  cases hb : Nat.blt idx 1063 with
  | false => rw [hb] at h; cases h
  | true =>
    refine ⟨?_, Nat.blt_eq.mp hb⟩
    rw [hb] at h
    rcases Nat.lt_or_ge oc 18 with h1 | h1
    · exact h1
    · obtain ⟨n, rfl⟩ : ∃ n, oc = n + 18 := ⟨oc - 18, by omega⟩
      cases h
theorem xS0_ok {oc idx : Nat} {v : Value} (h : xT_S0 oc idx = some v) : ∃ (q : Nat) (z : String × String × String × Value), xst9[q]? = some z ∧ z.2.2.2 = v ∧ Cond.fieldLink (xon oc) idx z.1 z.2.1 z.2.2.1 ∈ xTs := by
  obtain ⟨h1, h2⟩ := xT_S0_out h
  have h3 := List.all_eq_true.mp (xchkS_all oc h1) idx (List.mem_range.mpr h2)
  rw [h] at h3
  simp only at h3
  split at h3
  · cases h3
  · split at h3
    · cases h3
    · rename_i z hz
      rw [Bool.and_eq_true] at h3
      exact ⟨_, z, hz, of_decide_eq_true h3.1, xat_ok h3.2 rfl⟩
end
section
/-! ===== the law, on: links, constants ===== -/
theorem xw_fmt : Cond.fieldLink "java/lang/String" 1053 "jdk/internal/util/Preconditions" "SIOOBE_FORMATTER" "Ljava/util/function/BiFunction;" ∈ xTs := xat_ok (q := some (5, 130)) (by decide +kernel) rfl
theorem xw_gv : Cond.fieldLink "java/lang/String" 9 "java/lang/String" "value" "[B" ∈ xTs := xat_ok (q := some (12, 160)) (by decide +kernel) rfl
theorem xw_gc : Cond.fieldLink "java/lang/String" 15 "java/lang/String" "coder" "B" ∈ xTs := xat_ok (q := some (12, 161)) (by decide +kernel) rfl
theorem xw_ls0 : Cond.laysStatic "PacketWall$Headers" "LEAST" "[I" ∈ lw_tbl := xW_in 3 _ (List.mem_of_getElem? (i := 151) (by decide +kernel))
end
