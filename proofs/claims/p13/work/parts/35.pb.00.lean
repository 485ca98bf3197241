/-! ===== the reference: contracts, 35.pb ===== -/
theorem r_emit {A : Nat → Option (Nat × (Nat → Int32))} {M : jm} {Q : Option Value → jm → Prop} {c : Int} (e_c : M 598 90 = c) (h_c : 0 ≤ c ∧ c ≤ 2199) {op : Int} (h_op : 0 ≤ op ∧ op ≤ 1000) {a : Int} (h_a : (-9223372036854775808) ≤ a ∧ a ≤ 9223372036854775807) (q : Q none (ju (ju (ju M 659 c op) 660 c a) 598 90 (c + 1))) : jc A 1 350 [.ref (598), .int (Int32.ofInt (op)), .long (Int64.ofInt (a))] M Q := by
  refine jc_of (m := xm_350) rfl (Nat.le_of_ble_eq_true rfl) rfl ?_
  refine jr.aload_n rfl rfl ?_
  refine jr.getf (i := 94) (v := .ref 659) rfl rfl (by decide) rfl (by decide) rfl rfl rfl rfl ?_
  refine jr.aload_n rfl rfl ?_
  refine jr.getf (i := 90) (x := c) (v := .int (Int32.ofInt (c))) rfl rfl (by decide) rfl (by decide) rfl rfl e_c rfl ?_
  refine jr.iload_n rfl rfl ?_
  refine jr.iast (i := c) (x := op) rfl (by decide) rfl (by decide) (by omega) (by omega) ?_
  refine jr.aload_n rfl rfl ?_
  refine jr.getf (i := 95) (v := .ref 660) rfl rfl (by decide) rfl (by decide) rfl rfl rfl rfl ?_
  refine jr.aload_n rfl rfl ?_
  refine jr.getf (i := 90) (x := c) (v := .int (Int32.ofInt (c))) rfl rfl (by decide) rfl (by decide) rfl rfl ((ju_c _ _ (by decide)).trans e_c) rfl ?_
  refine jr.lload_n rfl rfl ?_
  refine jr.last (i := c) (x := a) rfl (by decide) rfl (by decide) (by omega) (by omega) ?_
  refine jr.aload_n rfl rfl ?_
  refine jr.dup rfl rfl ?_
  refine jr.getf (i := 90) (x := c) (v := .int (Int32.ofInt (c))) rfl rfl (by decide) rfl (by decide) rfl rfl ((ju_c _ _ (by decide)).trans ((ju_c _ _ (by decide)).trans e_c)) rfl ?_
  refine jr.iconst rfl ?_
  refine jr.iadd rfl ?_
  refine jr.putf (i := 90) (x := (c + 1)) rfl rfl (by decide) rfl (by decide) rfl rfl rfl rfl rfl ?_
  exact jr.vreturn rfl rfl q
theorem r_push {A : Nat → Option (Nat × (Nat → Int32))} {M : jm} {Q : Option Value → jm → Prop} {c : Int} (e_c : M 598 102 = c) (h_c : 0 ≤ c ∧ c ≤ 399) {s : Int} (h_s : 0 ≤ s ∧ s ≤ 255) {w : Int} (h_w : (-1) ≤ w ∧ w ≤ 68) (q : Q none (ju (ju (ju (ju M 664 c s) 666 c w) 667 c 1) 598 102 (c + 1))) : jc A 1 356 [.ref (598), .int (Int32.ofInt (s)), .int (Int32.ofInt (w))] M Q := by
  refine jc_of (m := xm_356) rfl (Nat.le_of_ble_eq_true rfl) rfl ?_
  refine jr.aload_n rfl rfl ?_
  refine jr.getf (i := 103) (v := .ref 664) rfl rfl (by decide) rfl (by decide) rfl rfl rfl rfl ?_
  refine jr.aload_n rfl rfl ?_
  refine jr.getf (i := 102) (x := c) (v := .int (Int32.ofInt (c))) rfl rfl (by decide) rfl (by decide) rfl rfl e_c rfl ?_
  refine jr.iload_n rfl rfl ?_
  refine jr.iast (i := c) (x := s) rfl (by decide) rfl (by decide) (by omega) (by omega) ?_
  refine jr.aload_n rfl rfl ?_
  refine jr.getf (i := 105) (v := .ref 666) rfl rfl (by decide) rfl (by decide) rfl rfl rfl rfl ?_
  refine jr.aload_n rfl rfl ?_
  refine jr.getf (i := 102) (x := c) (v := .int (Int32.ofInt (c))) rfl rfl (by decide) rfl (by decide) rfl rfl ((ju_c _ _ (by decide)).trans e_c) rfl ?_
  refine jr.iload_n rfl rfl ?_
  refine jr.iast (i := c) (x := w) rfl (by decide) rfl (by decide) (by omega) (by omega) ?_
  refine jr.aload_n rfl rfl ?_
  refine jr.getf (i := 106) (v := .ref 667) rfl rfl (by decide) rfl (by decide) rfl rfl rfl rfl ?_
  refine jr.aload_n rfl rfl ?_
  refine jr.getf (i := 102) (x := c) (v := .int (Int32.ofInt (c))) rfl rfl (by decide) rfl (by decide) rfl rfl ((ju_c _ _ (by decide)).trans ((ju_c _ _ (by decide)).trans e_c)) rfl ?_
  refine jr.iconst rfl ?_
  refine jr.iast (i := c) (x := 1) rfl (by decide) rfl (by decide) (by omega) (by omega) ?_
  refine jr.aload_n rfl rfl ?_
  refine jr.dup rfl rfl ?_
  refine jr.getf (i := 102) (x := c) (v := .int (Int32.ofInt (c))) rfl rfl (by decide) rfl (by decide) rfl rfl ((ju_c _ _ (by decide)).trans ((ju_c _ _ (by decide)).trans ((ju_c _ _ (by decide)).trans e_c))) rfl ?_
  refine jr.iconst rfl ?_
  refine jr.iadd rfl ?_
  refine jr.putf (i := 102) (x := (c + 1)) rfl rfl (by decide) rfl (by decide) rfl rfl rfl rfl rfl ?_
  exact jr.vreturn rfl rfl q
theorem ES.fv {M : jm} {b o k d z x : Int} (h : ES M b o k d z x) {i f : Int} (h0 : 0 ≤ i ∧ i ≤ 13) (h1 : 0 ≤ f ∧ f ≤ 10) (h2 : M 650 (11 * i + f) ≠ -1) : FV (16 * i + f) := by
  obtain ⟨ht, P, D, E, ⟨g1, _⟩, _⟩ := h
  obtain ⟨q1, q2⟩ := g1 i f h0.1 h0.2 h1.1 h1.2 h2
  exact ⟨i, f, rfl, h1.1, h1.2, h0.1, h0.2, q1, q2⟩
