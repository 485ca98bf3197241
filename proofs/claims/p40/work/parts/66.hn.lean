section
/-! ===== headers: the kind that follows ===== -/
noncomputable def byK (v : Int) : Int := if v = 4 then 2 else if v = 6 then 3 else if v = 9 then 1 else 11
noncomputable def byN (v e : Int) : Int := if v = 1 then 7 else if v = 6 then 8 else if v = 17 then 9 else if v = 47 then 10 else if v = 4 then 2 else if v = 41 then 3 else if e = 0 then 11 else if v = 0 then 4 else if v = 43 then 5 else if v = 44 then 6 else 11
theorem byN_k {v e : Int} : (v = 1 → byN v e = 7) ∧ (v = 6 → byN v e = 8) ∧ (v = 17 → byN v e = 9) ∧ (v = 47 → byN v e = 10) ∧ (v = 4 → byN v e = 2) ∧ (v = 41 → byN v e = 3) :=
  ⟨fun h => by rw [h]; rfl, fun h => by rw [h]; rfl, fun h => by rw [h]; rfl, fun h => by rw [h]; rfl, fun h => by rw [h]; rfl, fun h => by rw [h]; rfl⟩
theorem byN_d {v e : Int} (h1 : v ≠ 1) (h6 : v ≠ 6) (h17 : v ≠ 17) (h47 : v ≠ 47) (h4 : v ≠ 4) (h41 : v ≠ 41) : byN v e = if e = 0 then 11 else if v = 0 then 4 else if v = 43 then 5 else if v = 44 then 6 else 11 := by
  unfold byN
  rw [if_neg h1, if_neg h6, if_neg h17, if_neg h47, if_neg h4, if_neg h41]
theorem byN_e {v e : Int} (h1 : v ≠ 1) (h6 : v ≠ 6) (h17 : v ≠ 17) (h47 : v ≠ 47) (h4 : v ≠ 4) (h41 : v ≠ 41) : (e = 0 → byN v e = 11) ∧ (e ≠ 0 → v = 0 → byN v e = 4) ∧ (e ≠ 0 → v = 43 → byN v e = 5) ∧ (e ≠ 0 → v = 44 → byN v e = 6) ∧ (v ≠ 0 → v ≠ 43 → v ≠ 44 → byN v e = 11) := by
  rw [byN_d h1 h6 h17 h47 h4 h41]
  refine ⟨fun h => if_pos h, fun h g => ?_, fun h g => ?_, fun h g => ?_, fun a b c => ?_⟩
  · rw [if_neg h, if_pos g]
  · rw [if_neg h, g]
    rfl
  · rw [if_neg h, g]
    rfl
  · rw [if_neg a, if_neg b, if_neg c]
    split <;> rfl
theorem byK_k {v : Int} : (v = 4 → byK v = 2) ∧ (v = 6 → byK v = 3) ∧ (v = 9 → byK v = 1) ∧ (v ≠ 4 → v ≠ 6 → v ≠ 9 → byK v = 11) :=
  ⟨fun h => by rw [h]; rfl, fun h => by rw [h]; rfl, fun h => by rw [h]; rfl, fun a b c => by unfold byK; rw [if_neg a, if_neg b, if_neg c]⟩
noncomputable def byQ (v w : Int) : Int := if v ≠ 3 ∧ v ≠ 11 then 11 else if w / 16 = 4 then 2 else if w / 16 = 6 then 3 else 11
noncomputable def hsN (f : Int → Int) (n k a z : Int) : Int := if k = 0 ∨ k = 1 ∨ k = 10 then byK (tw f (a + 2)) else if k = 2 then (if tw f (a + 6) % 8192 ≠ 0 then 11 else byN (hb f n (a + 9)) 0) else if k = 3 then byN (hb f n (a + 4)) 1 else if k = 4 ∨ k = 5 then byN (hb f n a) 1 else if k = 6 then (if tw f (a + 2) / 8 ≠ 0 then 11 else byN (hb f n a) 1) else if k = 7 then byQ (hb f n a) (hb f n z) else 11
theorem c_Headers_kindOfLink_x {A : Nat → Option (Nat × (Nat → Int32))} {Q : Option Value → jm → Prop} {M : jm} (hC_M : CI M) {x : Int} (h_x : (-2147483648) ≤ x ∧ x ≤ 2147483647) (q : ∀ (r : Int), 0 ≤ r ∧ r ≤ 11 → (r = byK x) → Q (some (.int (Int32.ofInt r))) M) : jc A 1 134 [.int (Int32.ofInt (x))] M Q := by
  refine jc_of (m := xm_134) rfl (Nat.le_of_ble_eq_true rfl) rfl ?_
  refine jr.iload_n rfl rfl ?_
  rcases (show x = 4 ∨ x = 6 ∨ x = 9 ∨ (x ≠ 4 ∧ x ≠ 6 ∧ x ≠ 9) by omega) with h1 | h1 | h1 | h1
  · refine jr.lsw_k 4 rfl h1 rfl ?_
    refine jr.iconst rfl ?_
    exact jr.ireturn rfl rfl rfl (q _ (by first | exact rgq rfl | omega) (byK_k.1 h1).symm)
  · refine jr.lsw_k 6 rfl h1 rfl ?_
    refine jr.iconst rfl ?_
    exact jr.ireturn rfl rfl rfl (q _ (by first | exact rgq rfl | omega) (byK_k.2.1 h1).symm)
  · refine jr.lsw_k 9 rfl h1 rfl ?_
    refine jr.iconst rfl ?_
    exact jr.ireturn rfl rfl rfl (q _ (by first | exact rgq rfl | omega) (byK_k.2.2.1 h1).symm)
  · refine jr.lsw_d rfl (by omega) rfl (fun q hq => by simp only [List.mem_cons, List.not_mem_nil, or_false] at hq; rcases hq with rfl | rfl | rfl <;> (simp only; omega)) rfl ?_
    refine jr.bipush rfl (jbp _ (nlt rfl)) ?_
    exact jr.ireturn rfl rfl rfl (q _ (by first | exact rgq rfl | omega) (byK_k.2.2.2 h1.1 h1.2.1 h1.2.2).symm)
theorem c_Headers_kindOfNext_x {A : Nat → Option (Nat × (Nat → Int32))} {Q : Option Value → jm → Prop} {M : jm} (hC_M : CI M) {x : Int} (h_x : (-2147483648) ≤ x ∧ x ≤ 2147483647) {y : Int} (h_y : 0 ≤ y ∧ y ≤ 1) (q : ∀ (r : Int), 0 ≤ r ∧ r ≤ 11 → (r = byN x y) → Q (some (.int (Int32.ofInt r))) M) : jc A 1 135 [.int (Int32.ofInt (x)), .int (Int32.ofInt (y))] M Q := by
  refine jc_of (m := xm_135) rfl (Nat.le_of_ble_eq_true rfl) rfl ?_
  refine jr.iload_n rfl rfl ?_
  rcases (show x = 0 ∨ x = 1 ∨ x = 4 ∨ x = 6 ∨ x = 17 ∨ x = 41 ∨ x = 43 ∨ x = 44 ∨ x = 47 ∨ (x ≠ 0 ∧ x ≠ 1 ∧ x ≠ 4 ∧ x ≠ 6 ∧ x ≠ 17 ∧ x ≠ 41 ∧ x ≠ 43 ∧ x ≠ 44 ∧ x ≠ 47) by omega) with h1 | h1 | h1 | h1 | h1 | h1 | h1 | h1 | h1 | h1
  · refine jr.lsw_k 0 rfl h1 rfl ?_
    refine jr.iload_n rfl rfl ?_
    refine jr.if_eq rfl rfl (by first | (refine rgb (by assumption) ?_; exact rfl) | omega) (fun h101 => ?_) (fun h101 => ?_)
    · refine jr.bipush rfl (jbp _ (nlt rfl)) ?_
      exact jr.ireturn rfl rfl rfl (q _ (by first | exact rgq rfl | omega) ((byN_e (by omega) (by omega) (by omega) (by omega) (by omega) (by omega)).1 (by omega)).symm)
    · have sx101 : (1 : Int) ≤ y := by omega
      clear h101
      refine jr.iconst rfl ?_
      refine jr.goto rfl rfl ?_
      exact jr.ireturn rfl rfl rfl (q _ (by first | exact rgq rfl | omega) ((byN_e (by omega) (by omega) (by omega) (by omega) (by omega) (by omega)).2.1 (by omega) h1).symm)
  · refine jr.lsw_k 1 rfl h1 rfl ?_
    refine jr.bipush rfl (jbp _ (nlt rfl)) ?_
    exact jr.ireturn rfl rfl rfl (q _ (by first | exact rgq rfl | omega) (byN_k.1 h1).symm)
  · refine jr.lsw_k 4 rfl h1 rfl ?_
    refine jr.iconst rfl ?_
    exact jr.ireturn rfl rfl rfl (q _ (by first | exact rgq rfl | omega) (byN_k.2.2.2.2.1 h1).symm)
  · refine jr.lsw_k 6 rfl h1 rfl ?_
    refine jr.bipush rfl (jbp _ (nlt rfl)) ?_
    exact jr.ireturn rfl rfl rfl (q _ (by first | exact rgq rfl | omega) (byN_k.2.1 h1).symm)
  · refine jr.lsw_k 17 rfl h1 rfl ?_
    refine jr.bipush rfl (jbp _ (nlt rfl)) ?_
    exact jr.ireturn rfl rfl rfl (q _ (by first | exact rgq rfl | omega) (byN_k.2.2.1 h1).symm)
  · refine jr.lsw_k 41 rfl h1 rfl ?_
    refine jr.iconst rfl ?_
    exact jr.ireturn rfl rfl rfl (q _ (by first | exact rgq rfl | omega) (byN_k.2.2.2.2.2 h1).symm)
  · refine jr.lsw_k 43 rfl h1 rfl ?_
    refine jr.iload_n rfl rfl ?_
    refine jr.if_eq rfl rfl (by first | (refine rgb (by assumption) ?_; exact rfl) | omega) (fun h112 => ?_) (fun h112 => ?_)
    · refine jr.bipush rfl (jbp _ (nlt rfl)) ?_
      exact jr.ireturn rfl rfl rfl (q _ (by first | exact rgq rfl | omega) ((byN_e (by omega) (by omega) (by omega) (by omega) (by omega) (by omega)).1 (by omega)).symm)
    · have sx112 : (1 : Int) ≤ y := by omega
      clear h112
      refine jr.iconst rfl ?_
      refine jr.goto rfl rfl ?_
      exact jr.ireturn rfl rfl rfl (q _ (by first | exact rgq rfl | omega) ((byN_e (by omega) (by omega) (by omega) (by omega) (by omega) (by omega)).2.2.1 (by omega) h1).symm)
  · refine jr.lsw_k 44 rfl h1 rfl ?_
    refine jr.iload_n rfl rfl ?_
    refine jr.if_eq rfl rfl (by first | (refine rgb (by assumption) ?_; exact rfl) | omega) (fun h123 => ?_) (fun h123 => ?_)
    · refine jr.bipush rfl (jbp _ (nlt rfl)) ?_
      exact jr.ireturn rfl rfl rfl (q _ (by first | exact rgq rfl | omega) ((byN_e (by omega) (by omega) (by omega) (by omega) (by omega) (by omega)).1 (by omega)).symm)
    · have sx123 : (1 : Int) ≤ y := by omega
      clear h123
      refine jr.bipush rfl (jbp _ (nlt rfl)) ?_
      refine jr.goto rfl rfl ?_
      exact jr.ireturn rfl rfl rfl (q _ (by first | exact rgq rfl | omega) ((byN_e (by omega) (by omega) (by omega) (by omega) (by omega) (by omega)).2.2.2.1 (by omega) h1).symm)
  · refine jr.lsw_k 47 rfl h1 rfl ?_
    refine jr.bipush rfl (jbp _ (nlt rfl)) ?_
    exact jr.ireturn rfl rfl rfl (q _ (by first | exact rgq rfl | omega) (byN_k.2.2.2.1 h1).symm)
  · refine jr.lsw_d rfl (by omega) rfl (fun q hq => by simp only [List.mem_cons, List.not_mem_nil, or_false] at hq; rcases hq with rfl | rfl | rfl | rfl | rfl | rfl | rfl | rfl | rfl <;> (simp only; omega)) rfl ?_
    refine jr.bipush rfl (jbp _ (nlt rfl)) ?_
    exact jr.ireturn rfl rfl rfl (q _ (by first | exact rgq rfl | omega) ((byN_e h1.2.1 h1.2.2.2.1 h1.2.2.2.2.1 h1.2.2.2.2.2.2.2.2 h1.2.2.1 h1.2.2.2.2.2.1).2.2.2.2 h1.1 h1.2.2.2.2.2.2.1 h1.2.2.2.2.2.2.2.1).symm)
theorem c_Headers_quotedKind_x {A : Nat → Option (Nat × (Nat → Int32))} {Q : Option Value → jm → Prop} {f : Int → Int} {M : jm} (hC_M : CI M) {t : Nat} (k_t : kd t = 18) {x : Int} (h_x : (-2147483648) ≤ x ∧ x ≤ 2147483647) {y : Int} (h_y : 0 ≤ y ∧ y ≤ 400) {S : Int} (g_S : M t 7 = S) {N : Int} (g_N : M ((S.toNat)) 1 = N) (p0 : BY8 M (S.toNat + 1) f) (q : ∀ (r : Int), 0 ≤ r ∧ r ≤ 11 → (r = byQ x (hb f N y)) → Q (some (.int (Int32.ofInt r))) M) : jc A 2 136 [.ref (t), .int (Int32.ofInt (x)), .int (Int32.ofInt (y))] M Q := by
  refine jc_of (m := xm_136) rfl (Nat.le_of_ble_eq_true rfl) rfl ?_
  have k_S : kd S.toNat = 33 := (congrArg (fun z : Int => kd z.toNat) g_S).symm.trans (CI.x hC_M k_t 7 rfl (by decide))
  have b_N : (-1) ≤ N ∧ N ≤ 400 := by rw [← g_N]; exact (CI.r hC_M k_S (by decide) 1)
  have k_by : kd (S.toNat + 1) = 34 := (kf_33_0 k_S).2
  refine jr.iload_n rfl rfl ?_
  refine jr.iconst rfl ?_
  refine jr.icmp_eq rfl rfl (by first | (refine rgb (by assumption) ?_; exact rfl) | omega) (rgl rfl) (fun h2 => ?_) (fun h2 => ?_)
  · refine jr.aload_n rfl rfl ?_
    refine jr.getf (i := 7) (x := S) (v := .ref (S.toNat)) rfl rfl (Nat.lt_trans (kx_18 k_t).1 (by decide)) (kx_18 k_t).2 (by decide) rfl rfl g_S (jval_mut rfl (kn_18_7 k_t)) ?_
    refine jr.iload_n rfl rfl ?_
    refine jr_v rfl rfl (Or.inl rfl) rfl rfl (Nat.lt_trans (kx_33 k_S).1 (by decide)) (kx_33 k_S).2 ⟨rfl, Nat.le_of_ble_eq_true rfl, Nat.le_of_ble_eq_true rfl⟩ rfl (jc.deep (c_Packet_byteAt_h hC_M k_S (by omega) g_N p0 (fun r2 z2 w2_0 => ?_)) (Nat.le_of_ble_eq_true rfl))
    refine jr.iconst rfl ?_
    refine jr.ishr rfl ?_
    have b3 : j_shr r2 4 = r2 / 16 := j_shr_ex 4 (by decide) (by omega) (by omega)
    generalize j_shr r2 4 = v3 at b3 ⊢
    refine jr.istore_n (ls' := [_, _, _, _]) rfl (nlt rfl) rfl ?_
    refine jr.iload_n rfl rfl ?_
    refine jr.iconst rfl ?_
    refine jr.icmp_ne rfl rfl (by first | (refine rgb (by assumption) ?_; exact rfl) | omega) (rgl rfl) (fun h27 => ?_) (fun h27 => ?_)
    · refine jr.iload_n rfl rfl ?_
      refine jr.bipush rfl (jbp _ (nlt rfl)) ?_
      refine jr.icmp_ne rfl rfl (by first | (refine rgb (by assumption) ?_; exact rfl) | omega) (rgl rfl) (fun h37 => ?_) (fun h37 => ?_)
      · refine jr.bipush rfl (jbp _ (nlt rfl)) ?_
        exact jr.ireturn rfl rfl rfl (q _ (by first | exact rgq rfl | omega) (by unfold byQ; (repeat' split) <;> omega))
      · refine jr.iconst rfl ?_
        refine jr.goto rfl rfl ?_
        exact jr.ireturn rfl rfl rfl (q _ (by first | exact rgq rfl | omega) (by unfold byQ; (repeat' split) <;> omega))
    · refine jr.iconst rfl ?_
      refine jr.goto rfl rfl ?_
      exact jr.ireturn rfl rfl rfl (q _ (by first | exact rgq rfl | omega) (by unfold byQ; (repeat' split) <;> omega))
  · refine jr.iload_n rfl rfl ?_
    refine jr.bipush rfl (jbp _ (nlt rfl)) ?_
    refine jr.icmp_eq rfl rfl (by first | (refine rgb (by assumption) ?_; exact rfl) | omega) (rgl rfl) (fun h8 => ?_) (fun h8 => ?_)
    · refine jr.aload_n rfl rfl ?_
      refine jr.getf (i := 7) (x := S) (v := .ref (S.toNat)) rfl rfl (Nat.lt_trans (kx_18 k_t).1 (by decide)) (kx_18 k_t).2 (by decide) rfl rfl g_S (jval_mut rfl (kn_18_7 k_t)) ?_
      refine jr.iload_n rfl rfl ?_
      refine jr_v rfl rfl (Or.inl rfl) rfl rfl (Nat.lt_trans (kx_33 k_S).1 (by decide)) (kx_33 k_S).2 ⟨rfl, Nat.le_of_ble_eq_true rfl, Nat.le_of_ble_eq_true rfl⟩ rfl (jc.deep (c_Packet_byteAt_h hC_M k_S (by omega) g_N p0 (fun r5 z5 w5_0 => ?_)) (Nat.le_of_ble_eq_true rfl))
      refine jr.iconst rfl ?_
      refine jr.ishr rfl ?_
      have b6 : j_shr r5 4 = r5 / 16 := j_shr_ex 4 (by decide) (by omega) (by omega)
      generalize j_shr r5 4 = v6 at b6 ⊢
      refine jr.istore_n (ls' := [_, _, _, _]) rfl (nlt rfl) rfl ?_
      refine jr.iload_n rfl rfl ?_
      refine jr.iconst rfl ?_
      refine jr.icmp_ne rfl rfl (by first | (refine rgb (by assumption) ?_; exact rfl) | omega) (rgl rfl) (fun h27 => ?_) (fun h27 => ?_)
      · refine jr.iload_n rfl rfl ?_
        refine jr.bipush rfl (jbp _ (nlt rfl)) ?_
        refine jr.icmp_ne rfl rfl (by first | (refine rgb (by assumption) ?_; exact rfl) | omega) (rgl rfl) (fun h37 => ?_) (fun h37 => ?_)
        · refine jr.bipush rfl (jbp _ (nlt rfl)) ?_
          exact jr.ireturn rfl rfl rfl (q _ (by first | exact rgq rfl | omega) (by unfold byQ; (repeat' split) <;> omega))
        · refine jr.iconst rfl ?_
          refine jr.goto rfl rfl ?_
          exact jr.ireturn rfl rfl rfl (q _ (by first | exact rgq rfl | omega) (by unfold byQ; (repeat' split) <;> omega))
      · refine jr.iconst rfl ?_
        refine jr.goto rfl rfl ?_
        exact jr.ireturn rfl rfl rfl (q _ (by first | exact rgq rfl | omega) (by unfold byQ; (repeat' split) <;> omega))
    · refine jr.bipush rfl (jbp _ (nlt rfl)) ?_
      exact jr.ireturn rfl rfl rfl (q _ (by first | exact rgq rfl | omega) (by unfold byQ; (repeat' split) <;> omega))
theorem hls_w (x : Int) : (x ≠ 0 ∨ hls x = 4) ∧ (x ≠ 1 ∨ hls x = 4) ∧ (x ≠ 10 ∨ hls x = 4) ∧ (x ≠ 2 ∨ hls x = 20) ∧ (x ≠ 6 ∨ hls x = 8) := by
  unfold hls
  (repeat' split) <;> omega
theorem c_Headers_toldKind_x {A : Nat → Option (Nat × (Nat → Int32))} {Q : Option Value → jm → Prop} {f : Int → Int} {M : jm} (hC_M : CI M) {t : Nat} (k_t : kd t = 18) {x : Int} (h_x : 0 ≤ x ∧ x ≤ 11) {y : Int} (h_y : 0 ≤ y ∧ y ≤ 400) {z : Int} (h_z : 0 ≤ z ∧ z ≤ 400) {S : Int} (g_S : M t 7 = S) {N : Int} (g_N : M ((S.toNat)) 1 = N) (p0 : BY8 M (S.toNat + 1) f) (p1 : y + hls x ≤ N) (q : ∀ (r : Int), 0 ≤ r ∧ r ≤ 11 → (r = hsN f N x y z) → Q (some (.int (Int32.ofInt r))) M) : jc A 3 133 [.ref (t), .int (Int32.ofInt (x)), .int (Int32.ofInt (y)), .int (Int32.ofInt (z))] M Q := by
  refine jc_of (m := xm_133) rfl (Nat.le_of_ble_eq_true rfl) rfl ?_
  have k_S : kd S.toNat = 33 := (congrArg (fun z : Int => kd z.toNat) g_S).symm.trans (CI.x hC_M k_t 7 rfl (by decide))
  have b_N : (-1) ≤ N ∧ N ≤ 400 := by rw [← g_N]; exact (CI.r hC_M k_S (by decide) 1)
  have k_by : kd (S.toNat + 1) = 34 := (kf_33_0 k_S).2
  have hw := hls_w x
  refine jr.iload_n rfl rfl ?_
  rcases (show x = 0 ∨ x = 1 ∨ x = 2 ∨ x = 3 ∨ x = 4 ∨ x = 5 ∨ x = 6 ∨ x = 7 ∨ x = 8 ∨ x = 9 ∨ x = 10 ∨ (x ≠ 0 ∧ x ≠ 1 ∧ x ≠ 2 ∧ x ≠ 3 ∧ x ≠ 4 ∧ x ≠ 5 ∧ x ≠ 6 ∧ x ≠ 7 ∧ x ≠ 8 ∧ x ≠ 9 ∧ x ≠ 10) by omega) with h1 | h1 | h1 | h1 | h1 | h1 | h1 | h1 | h1 | h1 | h1 | h1
  · refine jr.tsw_k 0 rfl h1 rfl ?_
    refine jr.aload_n rfl rfl ?_
    refine jr.getf (i := 7) (x := S) (v := .ref (S.toNat)) rfl rfl (Nat.lt_trans (kx_18 k_t).1 (by decide)) (kx_18 k_t).2 (by decide) rfl rfl g_S (jval_mut rfl (kn_18_7 k_t)) ?_
    refine jr.iload_n rfl rfl ?_
    refine jr.iconst rfl ?_
    refine jr.iadd rfl ?_
    refine jr.iconst rfl ?_
    refine jr_v rfl rfl (Or.inl rfl) rfl rfl (Nat.lt_trans (kx_33 k_S).1 (by decide)) (kx_33 k_S).2 ⟨rfl, Nat.le_of_ble_eq_true rfl, Nat.le_of_ble_eq_true rfl⟩ rfl (jc.deep (c_Packet_numberFrom_h hC_M k_S (by omega) p0 (fun r2 z2 w2_0 => ?_)) (Nat.le_of_ble_eq_true rfl))
    refine jr.l2i rfl ?_
    refine jr_s rfl rfl (Or.inl rfl) ⟨Nat.le_of_ble_eq_true rfl, Nat.le_of_ble_eq_true rfl⟩ rfl rfl (jc.deep (c_Headers_kindOfLink_x hC_M (by omega) (fun r3 z3 w3_0 => ?_)) (Nat.le_of_ble_eq_true rfl))
    exact jr.ireturn rfl rfl rfl (q _ (by omega) (by unfold hsN; rw [if_pos (by omega)]; rw [← w2_0.1]; exact w3_0))
  · refine jr.tsw_k 1 rfl h1 rfl ?_
    refine jr.aload_n rfl rfl ?_
    refine jr.getf (i := 7) (x := S) (v := .ref (S.toNat)) rfl rfl (Nat.lt_trans (kx_18 k_t).1 (by decide)) (kx_18 k_t).2 (by decide) rfl rfl g_S (jval_mut rfl (kn_18_7 k_t)) ?_
    refine jr.iload_n rfl rfl ?_
    refine jr.iconst rfl ?_
    refine jr.iadd rfl ?_
    refine jr.iconst rfl ?_
    refine jr_v rfl rfl (Or.inl rfl) rfl rfl (Nat.lt_trans (kx_33 k_S).1 (by decide)) (kx_33 k_S).2 ⟨rfl, Nat.le_of_ble_eq_true rfl, Nat.le_of_ble_eq_true rfl⟩ rfl (jc.deep (c_Packet_numberFrom_h hC_M k_S (by omega) p0 (fun r5 z5 w5_0 => ?_)) (Nat.le_of_ble_eq_true rfl))
    refine jr.l2i rfl ?_
    refine jr_s rfl rfl (Or.inl rfl) ⟨Nat.le_of_ble_eq_true rfl, Nat.le_of_ble_eq_true rfl⟩ rfl rfl (jc.deep (c_Headers_kindOfLink_x hC_M (by omega) (fun r6 z6 w6_0 => ?_)) (Nat.le_of_ble_eq_true rfl))
    exact jr.ireturn rfl rfl rfl (q _ (by omega) (by unfold hsN; rw [if_pos (by omega)]; rw [← w5_0.1]; exact w6_0))
  · refine jr.tsw_k 2 rfl h1 rfl ?_
    refine jr.aload_n rfl rfl ?_
    refine jr.getf (i := 7) (x := S) (v := .ref (S.toNat)) rfl rfl (Nat.lt_trans (kx_18 k_t).1 (by decide)) (kx_18 k_t).2 (by decide) rfl rfl g_S (jval_mut rfl (kn_18_7 k_t)) ?_
    refine jr.iload_n rfl rfl ?_
    refine jr.bipush rfl (jbp _ (nlt rfl)) ?_
    refine jr.iadd rfl ?_
    refine jr.iconst rfl ?_
    refine jr_v rfl rfl (Or.inl rfl) rfl rfl (Nat.lt_trans (kx_33 k_S).1 (by decide)) (kx_33 k_S).2 ⟨rfl, Nat.le_of_ble_eq_true rfl, Nat.le_of_ble_eq_true rfl⟩ rfl (jc.deep (c_Packet_numberFrom_h hC_M k_S (by omega) p0 (fun r8 z8 w8_0 => ?_)) (Nat.le_of_ble_eq_true rfl))
    refine jr.ldc2 (x := 8191) rfl rfl (by decide) ?_
    refine jr.land rfl ?_
    have b9 : jl_and r8 8191 = r8 % 8192 := jl_and_mask 13 (by decide) (by omega) (by omega)
    generalize jl_and r8 8191 = v9 at b9 ⊢
    refine jr.lconst (x := 0) rfl (by decide) ?_
    refine jr.lcmp_eq rfl rfl rfl (by omega) (by omega) (fun h93 => ?_) (fun h93 => ?_)
    · refine jr.aload_n rfl rfl ?_
      refine jr.getf (i := 7) (x := S) (v := .ref (S.toNat)) rfl rfl (Nat.lt_trans (kx_18 k_t).1 (by decide)) (kx_18 k_t).2 (by decide) rfl rfl g_S (jval_mut rfl (kn_18_7 k_t)) ?_
      refine jr.iload_n rfl rfl ?_
      refine jr.bipush rfl (jbp _ (nlt rfl)) ?_
      refine jr.iadd rfl ?_
      refine jr_v rfl rfl (Or.inl rfl) rfl rfl (Nat.lt_trans (kx_33 k_S).1 (by decide)) (kx_33 k_S).2 ⟨rfl, Nat.le_of_ble_eq_true rfl, Nat.le_of_ble_eq_true rfl⟩ rfl (jc.deep (c_Packet_byteAt_h hC_M k_S (by omega) g_N p0 (fun r11 z11 w11_0 => ?_)) (Nat.le_of_ble_eq_true rfl))
      refine jr.iconst rfl ?_
      refine jr_s rfl rfl (Or.inl rfl) ⟨Nat.le_of_ble_eq_true rfl, Nat.le_of_ble_eq_true rfl⟩ rfl rfl (jc.deep (c_Headers_kindOfNext_x hC_M (by omega) (by omega) (fun r12 z12 w12_0 => ?_)) (Nat.le_of_ble_eq_true rfl))
      exact jr.ireturn rfl rfl rfl (q _ (by omega) (by unfold hsN; rw [if_neg (by omega), if_pos (by omega)]; rw [if_neg (by omega), ← w11_0.1]; exact w12_0))
    · refine jr.bipush rfl (jbp _ (nlt rfl)) ?_
      refine jr.goto rfl rfl ?_
      exact jr.ireturn rfl rfl rfl (q _ (by first | exact rgq rfl | omega) (by unfold hsN; rw [if_neg (by omega), if_pos (by omega)]; rw [if_pos (by omega)]))
  · refine jr.tsw_k 3 rfl h1 rfl ?_
    refine jr.aload_n rfl rfl ?_
    refine jr.getf (i := 7) (x := S) (v := .ref (S.toNat)) rfl rfl (Nat.lt_trans (kx_18 k_t).1 (by decide)) (kx_18 k_t).2 (by decide) rfl rfl g_S (jval_mut rfl (kn_18_7 k_t)) ?_
    refine jr.iload_n rfl rfl ?_
    refine jr.iconst rfl ?_
    refine jr.iadd rfl ?_
    refine jr_v rfl rfl (Or.inl rfl) rfl rfl (Nat.lt_trans (kx_33 k_S).1 (by decide)) (kx_33 k_S).2 ⟨rfl, Nat.le_of_ble_eq_true rfl, Nat.le_of_ble_eq_true rfl⟩ rfl (jc.deep (c_Packet_byteAt_h hC_M k_S (by omega) g_N p0 (fun r14 z14 w14_0 => ?_)) (Nat.le_of_ble_eq_true rfl))
    refine jr.iconst rfl ?_
    refine jr_s rfl rfl (Or.inl rfl) ⟨Nat.le_of_ble_eq_true rfl, Nat.le_of_ble_eq_true rfl⟩ rfl rfl (jc.deep (c_Headers_kindOfNext_x hC_M (by omega) (by omega) (fun r15 z15 w15_0 => ?_)) (Nat.le_of_ble_eq_true rfl))
    exact jr.ireturn rfl rfl rfl (q _ (by omega) (by unfold hsN; rw [if_neg (by omega), if_neg (by omega), if_pos (by omega)]; rw [← w14_0.1]; exact w15_0))
  · refine jr.tsw_k 4 rfl h1 rfl ?_
    refine jr.aload_n rfl rfl ?_
    refine jr.getf (i := 7) (x := S) (v := .ref (S.toNat)) rfl rfl (Nat.lt_trans (kx_18 k_t).1 (by decide)) (kx_18 k_t).2 (by decide) rfl rfl g_S (jval_mut rfl (kn_18_7 k_t)) ?_
    refine jr.iload_n rfl rfl ?_
    refine jr_v rfl rfl (Or.inl rfl) rfl rfl (Nat.lt_trans (kx_33 k_S).1 (by decide)) (kx_33 k_S).2 ⟨rfl, Nat.le_of_ble_eq_true rfl, Nat.le_of_ble_eq_true rfl⟩ rfl (jc.deep (c_Packet_byteAt_h hC_M k_S (by omega) g_N p0 (fun r17 z17 w17_0 => ?_)) (Nat.le_of_ble_eq_true rfl))
    refine jr.iconst rfl ?_
    refine jr_s rfl rfl (Or.inl rfl) ⟨Nat.le_of_ble_eq_true rfl, Nat.le_of_ble_eq_true rfl⟩ rfl rfl (jc.deep (c_Headers_kindOfNext_x hC_M (by omega) (by omega) (fun r18 z18 w18_0 => ?_)) (Nat.le_of_ble_eq_true rfl))
    exact jr.ireturn rfl rfl rfl (q _ (by omega) (by unfold hsN; rw [if_neg (by omega), if_neg (by omega), if_neg (by omega), if_pos (by omega)]; rw [← w17_0.1]; exact w18_0))
  · refine jr.tsw_k 5 rfl h1 rfl ?_
    refine jr.aload_n rfl rfl ?_
    refine jr.getf (i := 7) (x := S) (v := .ref (S.toNat)) rfl rfl (Nat.lt_trans (kx_18 k_t).1 (by decide)) (kx_18 k_t).2 (by decide) rfl rfl g_S (jval_mut rfl (kn_18_7 k_t)) ?_
    refine jr.iload_n rfl rfl ?_
    refine jr_v rfl rfl (Or.inl rfl) rfl rfl (Nat.lt_trans (kx_33 k_S).1 (by decide)) (kx_33 k_S).2 ⟨rfl, Nat.le_of_ble_eq_true rfl, Nat.le_of_ble_eq_true rfl⟩ rfl (jc.deep (c_Packet_byteAt_h hC_M k_S (by omega) g_N p0 (fun r20 z20 w20_0 => ?_)) (Nat.le_of_ble_eq_true rfl))
    refine jr.iconst rfl ?_
    refine jr_s rfl rfl (Or.inl rfl) ⟨Nat.le_of_ble_eq_true rfl, Nat.le_of_ble_eq_true rfl⟩ rfl rfl (jc.deep (c_Headers_kindOfNext_x hC_M (by omega) (by omega) (fun r21 z21 w21_0 => ?_)) (Nat.le_of_ble_eq_true rfl))
    exact jr.ireturn rfl rfl rfl (q _ (by omega) (by unfold hsN; rw [if_neg (by omega), if_neg (by omega), if_neg (by omega), if_pos (by omega)]; rw [← w20_0.1]; exact w21_0))
  · refine jr.tsw_k 6 rfl h1 rfl ?_
    refine jr.aload_n rfl rfl ?_
    refine jr.getf (i := 7) (x := S) (v := .ref (S.toNat)) rfl rfl (Nat.lt_trans (kx_18 k_t).1 (by decide)) (kx_18 k_t).2 (by decide) rfl rfl g_S (jval_mut rfl (kn_18_7 k_t)) ?_
    refine jr.iload_n rfl rfl ?_
    refine jr.iconst rfl ?_
    refine jr.iadd rfl ?_
    refine jr.iconst rfl ?_
    refine jr_v rfl rfl (Or.inl rfl) rfl rfl (Nat.lt_trans (kx_33 k_S).1 (by decide)) (kx_33 k_S).2 ⟨rfl, Nat.le_of_ble_eq_true rfl, Nat.le_of_ble_eq_true rfl⟩ rfl (jc.deep (c_Packet_numberFrom_h hC_M k_S (by omega) p0 (fun r23 z23 w23_0 => ?_)) (Nat.le_of_ble_eq_true rfl))
    refine jr.iconst rfl ?_
    refine jr.lshr rfl ?_
    have b24 : jl_shr r23 3 = r23 / 8 := jl_shr_ex 3 (by decide) (by omega) (by omega)
    generalize jl_shr r23 3 = v24 at b24 ⊢
    refine jr.lconst (x := 0) rfl (by decide) ?_
    refine jr.lcmp_eq rfl rfl rfl (by omega) (by omega) (fun h160 => ?_) (fun h160 => ?_)
    · refine jr.aload_n rfl rfl ?_
      refine jr.getf (i := 7) (x := S) (v := .ref (S.toNat)) rfl rfl (Nat.lt_trans (kx_18 k_t).1 (by decide)) (kx_18 k_t).2 (by decide) rfl rfl g_S (jval_mut rfl (kn_18_7 k_t)) ?_
      refine jr.iload_n rfl rfl ?_
      refine jr_v rfl rfl (Or.inl rfl) rfl rfl (Nat.lt_trans (kx_33 k_S).1 (by decide)) (kx_33 k_S).2 ⟨rfl, Nat.le_of_ble_eq_true rfl, Nat.le_of_ble_eq_true rfl⟩ rfl (jc.deep (c_Packet_byteAt_h hC_M k_S (by omega) g_N p0 (fun r26 z26 w26_0 => ?_)) (Nat.le_of_ble_eq_true rfl))
      refine jr.iconst rfl ?_
      refine jr_s rfl rfl (Or.inl rfl) ⟨Nat.le_of_ble_eq_true rfl, Nat.le_of_ble_eq_true rfl⟩ rfl rfl (jc.deep (c_Headers_kindOfNext_x hC_M (by omega) (by omega) (fun r27 z27 w27_0 => ?_)) (Nat.le_of_ble_eq_true rfl))
      exact jr.ireturn rfl rfl rfl (q _ (by omega) (by unfold hsN; rw [if_neg (by omega), if_neg (by omega), if_neg (by omega), if_neg (by omega), if_pos (by omega)]; rw [if_neg (by omega), ← w26_0.1]; exact w27_0))
    · refine jr.bipush rfl (jbp _ (nlt rfl)) ?_
      refine jr.goto rfl rfl ?_
      exact jr.ireturn rfl rfl rfl (q _ (by first | exact rgq rfl | omega) (by unfold hsN; rw [if_neg (by omega), if_neg (by omega), if_neg (by omega), if_neg (by omega), if_pos (by omega)]; rw [if_pos (by omega)]))
  · refine jr.tsw_k 7 rfl h1 rfl ?_
    refine jr.aload_n rfl rfl ?_
    refine jr.aload_n rfl rfl ?_
    refine jr.getf (i := 7) (x := S) (v := .ref (S.toNat)) rfl rfl (Nat.lt_trans (kx_18 k_t).1 (by decide)) (kx_18 k_t).2 (by decide) rfl rfl g_S (jval_mut rfl (kn_18_7 k_t)) ?_
    refine jr.iload_n rfl rfl ?_
    refine jr_v rfl rfl (Or.inl rfl) rfl rfl (Nat.lt_trans (kx_33 k_S).1 (by decide)) (kx_33 k_S).2 ⟨rfl, Nat.le_of_ble_eq_true rfl, Nat.le_of_ble_eq_true rfl⟩ rfl (jc.deep (c_Packet_byteAt_h hC_M k_S (by omega) g_N p0 (fun r29 z29 w29_0 => ?_)) (Nat.le_of_ble_eq_true rfl))
    refine jr.iload_n rfl rfl ?_
    have k30_S : kd (S).toNat = 33 := (congrArg (fun z : Int => kd z.toNat) g_S).symm.trans (CI.x hC_M k_t 7 rfl (by decide))
    refine jr_v rfl rfl (Or.inl rfl) rfl rfl (Nat.lt_trans (kx_18 k_t).1 (by decide)) (kx_18 k_t).2 ⟨rfl, Nat.le_of_ble_eq_true rfl, Nat.le_of_ble_eq_true rfl⟩ rfl (jc.deep (c_Headers_quotedKind_x hC_M k_t (by omega) (by omega) g_S g_N p0 (fun r30 z30 w30_0 => ?_)) (Nat.le_of_ble_eq_true rfl))
    exact jr.ireturn rfl rfl rfl (q _ (by omega) (by unfold hsN; rw [if_neg (by omega), if_neg (by omega), if_neg (by omega), if_neg (by omega), if_neg (by omega), if_pos (by omega)]; rw [← w29_0.1]; exact w30_0))
  · refine jr.tsw_k 8 rfl h1 rfl ?_
    refine jr.bipush rfl (jbp _ (nlt rfl)) ?_
    exact jr.ireturn rfl rfl rfl (q _ (by first | exact rgq rfl | omega) (by unfold hsN; rw [if_neg (by omega), if_neg (by omega), if_neg (by omega), if_neg (by omega), if_neg (by omega), if_neg (by omega)]))
  · refine jr.tsw_k 9 rfl h1 rfl ?_
    refine jr.bipush rfl (jbp _ (nlt rfl)) ?_
    exact jr.ireturn rfl rfl rfl (q _ (by first | exact rgq rfl | omega) (by unfold hsN; rw [if_neg (by omega), if_neg (by omega), if_neg (by omega), if_neg (by omega), if_neg (by omega), if_neg (by omega)]))
  · refine jr.tsw_k 10 rfl h1 rfl ?_
    refine jr.aload_n rfl rfl ?_
    have k31 : kd (S).toNat = 33 := ((congrArg (fun z : Int => kd z.toNat) (show M t 7 = S from g_S)).symm.trans (CI.x hC_M k_t 7 rfl (by decide)))
    refine jr.getf (i := 7) (x := S) (v := .ref (S.toNat)) rfl rfl (Nat.lt_trans (kx_18 k_t).1 (by decide)) (kx_18 k_t).2 (by decide) rfl rfl g_S (jval_mut rfl (kn_18_7 k_t)) ?_
    refine jr.iload_n rfl rfl ?_
    refine jr.iconst rfl ?_
    refine jr.iadd rfl ?_
    refine jr.iconst rfl ?_
    refine jr_v rfl rfl (Or.inl rfl) rfl rfl (Nat.lt_trans (kx_33 k31).1 (by decide)) (kx_33 k31).2 ⟨rfl, Nat.le_of_ble_eq_true rfl, Nat.le_of_ble_eq_true rfl⟩ rfl (jc.deep (c_Packet_numberFrom_h hC_M k31 (by omega) p0 (fun r32 z32 w32_0 => ?_)) (Nat.le_of_ble_eq_true rfl))
    refine jr.l2i rfl ?_
    refine jr_s rfl rfl (Or.inl rfl) ⟨Nat.le_of_ble_eq_true rfl, Nat.le_of_ble_eq_true rfl⟩ rfl rfl (jc.deep (c_Headers_kindOfLink_x hC_M (by omega) (fun r33 z33 w33_0 => ?_)) (Nat.le_of_ble_eq_true rfl))
    exact jr.ireturn rfl rfl rfl (q _ (by omega) (by unfold hsN; rw [if_pos (by omega)]; rw [← w32_0.1]; exact w33_0))
  · refine jr.tsw_d rfl (by omega) (by omega) rfl ?_
    refine jr.bipush rfl (jbp _ (nlt rfl)) ?_
    exact jr.ireturn rfl rfl rfl (q _ (by first | exact rgq rfl | omega) (by unfold hsN; rw [if_neg (by omega), if_neg (by omega), if_neg (by omega), if_neg (by omega), if_neg (by omega), if_neg (by omega)]))
noncomputable def hsB (f : Int → Int) (n k a z : Int) : Int := if hsN f n k a z = 11 ∧ n ≤ z then -1 else hsN f n k a z
theorem c_Headers_kindBehind_x {A : Nat → Option (Nat × (Nat → Int32))} {Q : Option Value → jm → Prop} {f : Int → Int} {M : jm} (hC_M : CI M) {t : Nat} (k_t : kd t = 18) {x : Int} (h_x : 0 ≤ x ∧ x ≤ 11) {y : Int} (h_y : 0 ≤ y ∧ y ≤ 400) {z : Int} (h_z : 0 ≤ z ∧ z ≤ 400) {S : Int} (g_S : M t 7 = S) {N : Int} (g_N : M ((S.toNat)) 1 = N) (p0 : BY8 M (S.toNat + 1) f) (p1 : y + hls x ≤ N) (q : ∀ (r : Int), (-1) ≤ r ∧ r ≤ 11 → (r = hsB f N x y z) → Q (some (.int (Int32.ofInt r))) M) : jc A 4 132 [.ref (t), .int (Int32.ofInt (x)), .int (Int32.ofInt (y)), .int (Int32.ofInt (z))] M Q := by
  refine jc_of (m := xm_132) rfl (Nat.le_of_ble_eq_true rfl) rfl ?_
  have k_S : kd S.toNat = 33 := (congrArg (fun z : Int => kd z.toNat) g_S).symm.trans (CI.x hC_M k_t 7 rfl (by decide))
  have b_N : (-1) ≤ N ∧ N ≤ 400 := by rw [← g_N]; exact (CI.r hC_M k_S (by decide) 1)
  have k_by : kd (S.toNat + 1) = 34 := (kf_33_0 k_S).2
  refine jr.aload_n rfl rfl ?_
  refine jr.iload_n rfl rfl ?_
  refine jr.iload_n rfl rfl ?_
  refine jr.iload_n rfl rfl ?_
  have k1_S : kd (S).toNat = 33 := (congrArg (fun z : Int => kd z.toNat) g_S).symm.trans (CI.x hC_M k_t 7 rfl (by decide))
  refine jr_v rfl rfl (Or.inl rfl) rfl rfl (Nat.lt_trans (kx_18 k_t).1 (by decide)) (kx_18 k_t).2 ⟨rfl, Nat.le_of_ble_eq_true rfl, Nat.le_of_ble_eq_true rfl⟩ rfl (jc.deep (c_Headers_toldKind_x hC_M k_t (by omega) (by omega) (by omega) g_S g_N p0 (by omega) (fun r1 z1 w1_0 => ?_)) (Nat.le_of_ble_eq_true rfl))
  refine jr.istore (ls' := [_, _, _, _, _]) rfl (nlt rfl) rfl ?_
  refine jr.iload rfl rfl ?_
  refine jr.bipush rfl (jbp _ (nlt rfl)) ?_
  refine jr.icmp_ne rfl rfl (by first | (refine rgb (by assumption) ?_; exact rfl) | omega) (rgl rfl) (fun h13 => ?_) (fun h13 => ?_)
  · have sx13 : r1 ≤ (10 : Int) := by omega
    clear h13
    refine jr.iload rfl rfl ?_
    exact jr.ireturn rfl rfl rfl (q _ (by omega) (by unfold hsB; first | (rw [if_pos (by omega)]) | (rw [if_neg (by omega)]; omega)))
  · refine jr.iload_n rfl rfl ?_
    refine jr.aload_n rfl rfl ?_
    have k2 : kd (S).toNat = 33 := ((congrArg (fun z : Int => kd z.toNat) (show M t 7 = S from g_S)).symm.trans (CI.x hC_M k_t 7 rfl (by decide)))
    refine jr.getf (i := 7) (x := S) (v := .ref (S.toNat)) rfl rfl (Nat.lt_trans (kx_18 k_t).1 (by decide)) (kx_18 k_t).2 (by decide) rfl rfl g_S (jval_mut rfl (kn_18_7 k_t)) ?_
    refine jr.getf (i := 1) (x := N) (v := .int (Int32.ofInt (N))) rfl rfl (Nat.lt_trans (kx_33 k2).1 (by decide)) (kx_33 k2).2 (by decide) rfl rfl g_N rfl ?_
    refine jr.icmp_lt rfl rfl (by first | (refine rgb (by assumption) ?_; exact rfl) | omega) (by first | (refine rgb (by assumption) ?_; exact rfl) | omega) (fun h24 => ?_) (fun h24 => ?_)
    · refine jr.iload rfl rfl ?_
      exact jr.ireturn rfl rfl rfl (q _ (by omega) (by unfold hsB; first | (rw [if_pos (by omega)]) | (rw [if_neg (by omega)]; omega)))
    · refine jr.iconst rfl ?_
      refine jr.goto rfl rfl ?_
      exact jr.ireturn rfl rfl rfl (q _ (by first | exact rgq rfl | omega) (by unfold hsB; first | (rw [if_pos (by omega)]) | (rw [if_neg (by omega)]; omega)))
end
section
/-! ===== headers: all of them ===== -/
/-- kind and place of the n-th header -/
noncomputable def hst (f : Int → Int) (N : Int) : Nat → Int × Int
  | 0 => (0, 0)
  | n + 1 => (hsB f N (hst f N n).1 (hst f N n).2 ((hst f N n).2 + hsZ f N (hst f N n).1 (hst f N n).2), (hst f N n).2 + hsZ f N (hst f N n).1 (hst f N n).2)
noncomputable def hX (f : Int → Int) (N i : Int) : Int := (hst f N i.toNat).1
noncomputable def hY (f : Int → Int) (N i : Int) : Int := (hst f N i.toNat).2
noncomputable def hZ (f : Int → Int) (N i : Int) : Int := hsZ f N (hX f N i) (hY f N i)
noncomputable def hF (f : Int → Int) (N i : Int) : Int := hsF f N i (bkf (hX f N) i) (hX f N i) (hY f N i)
noncomputable def hW (f : Int → Int) (N i : Int) : Int := hsW f N i (bkf (hX f N) i) (hX f N i) (hY f N i)
theorem hst_s {f : Int → Int} {N i : Int} (h : 0 ≤ i) : hX f N (i + 1) = hsB f N (hX f N i) (hY f N i) (hY f N i + hZ f N i) ∧ hY f N (i + 1) = hY f N i + hZ f N i := by
  unfold hX hY hZ hX hY
  rw [show (i + 1).toNat = i.toNat + 1 by omega]
  exact ⟨rfl, rfl⟩
theorem hX_0 (f : Int → Int) (N : Int) : hX f N 0 = 0 := rfl
theorem hY_0 (f : Int → Int) (N : Int) : hY f N 0 = 0 := rfl
/-- there is an i-th header -/
noncomputable def hok (f : Int → Int) (N i : Int) : Prop := hX f N i ≠ -1 ∧ hF f N i = 0
/-- the packet has C headers -/
noncomputable def HE (f : Int → Int) (N C : Int) : Prop := (0 ≤ C ∧ C ≤ 12) ∧ (∀ i : Int, 0 ≤ i → i < C → hok f N i) ∧ ¬ hok f N C
theorem HE.u {f : Int → Int} {N C D : Int} (h : HE f N C) (h2 : HE f N D) : C = D := by
  have a := h.1
  have b := h2.1
  rcases (show C < D ∨ C = D ∨ D < C by omega) with q | q | q
  · exact absurd (h2.2.1 C a.1 q) h.2.2
  · exact q
  · exact absurd (h.2.1 D b.1 q) h2.2.2
noncomputable def HR (M : jm) (t : Nat) (f : Int → Int) (N n : Int) : Prop := ∀ i : Int, 0 ≤ i → i < n → hok f N i ∧ M (t + 1) i = hX f N i ∧ M (t + 2) i = hY f N i ∧ M (t + 3) i = hZ f N i
noncomputable def HQ (M : jm) (t : Nat) (f : Int → Int) (N : Int) : Prop := (0 ≤ M t 3 ∧ M t 3 ≤ 12) ∧ HR M t f N (M t 3) ∧ ((hX f N (M t 3) = -1 ∧ M t 4 = 0 ∧ M t 5 = -1 ∧ M t 6 = -1) ∨ (hX f N (M t 3) ≠ -1 ∧ hF f N (M t 3) ≠ 0 ∧ M t 4 = hF f N (M t 3) ∧ M t 5 = hW f N (M t 3) ∧ M t 6 = hX f N (M t 3)))
theorem HQ.e {M : jm} {t : Nat} {f : Int → Int} {N : Int} (h : HQ M t f N) : HE f N (M t 3) := ⟨h.1, fun i h0 h1 => (h.2.1 i h0 h1).1, fun q => by
  rcases h.2.2 with g | g
  · exact q.1 g.1
  · exact g.2.1 q.2⟩
noncomputable def HP (M : jm) (t : Nat) (f : Int → Int) (N k a n : Int) : Prop := (M t 4 = 0 ∧ M t 3 = n ∧ M t 5 = -1 ∧ M t 6 = -1 ∧ HR M t f N n ∧ k = hX f N n ∧ a = hY f N n) ∨ (M t 4 ≠ 0 ∧ HQ M t f N)
theorem HP.z {M : jm} {t : Nat} {f : Int → Int} {N : Int} (h3 : M t 3 = 0) (h4 : M t 4 = 0) (h5 : M t 5 = -1) (h6 : M t 6 = -1) : HP M t f N 0 0 0 := Or.inl ⟨h4, h3, h5, h6, fun i h0 h1 => absurd h1 (by omega), rfl, rfl⟩
theorem bkf_e {g g2 : Int → Int} {n : Int} (h : ∀ i : Int, 0 ≤ i → i < n → g i = g2 i) : bkf g n = bkf g2 n := by
  unfold bkf
  by_cases q : 1 ≤ n
  · rw [if_pos q, if_pos q, h (n - 1) (by omega) (by omega)]
  · rw [if_neg q, if_neg q]
theorem hsF_12 {f : Int → Int} {n c bk k a : Int} (h : 12 ≤ c) : hsF f n c bk k a = 6 := by
  unfold hsF
  rw [if_pos h]
theorem HP.q {M : jm} {t : Nat} {f : Int → Int} {N k a n : Int} (h : HP M t f N k a n) (h0 : 0 ≤ n ∧ n ≤ 13) (he : 12 < n ∨ M t 4 ≠ 0 ∨ k = -1) : HQ M t f N := by
  rcases h with ⟨g4, g3, g5, g6, gR, gk, ga⟩ | ⟨g4, g⟩
  · by_cases q : 12 < n
    · have hh := (gR 12 (by omega) (by omega)).1.2
      have h6 : hF f N 12 = 6 := hsF_12 (by omega)
      omega
    · have hk : k = -1 := by omega
      refine ⟨by omega, by rw [g3]; exact gR, Or.inl ⟨by rw [g3]; omega, g4, g5, g6⟩⟩
  · exact g
theorem HR.fr {W : List (Nat × Nat)} {T M : jm} {t : Nat} {f : Int → Int} {N n : Int} (h : HR T t f N n) (k : kd t = 18) (g : FR W T M) (h1 : ksep W [(19, 1000), (20, 1000), (21, 1000)] = true) : HR M t f N n := by
  intro x h0 hx
  have q1 := (kf_18_0 k).2
  have q2 := (kf_18_1 k).2
  have q3 := (kf_18_2 k).2
  rw [g.s h1 q1 1000 (by decide) x (Or.inl rfl), g.s h1 q2 1000 (by decide) x (Or.inl rfl), g.s h1 q3 1000 (by decide) x (Or.inl rfl)]
  exact h x h0 hx
theorem HP.f {W : List (Nat × Nat)} {M M1 : jm} {t : Nat} {f : Int → Int} {N k a n k2 a2 n2 c r G H : Int} (h : HP M t f N k a n) (h4 : M t 4 = 0) (hn : 0 ≤ n ∧ n ≤ 12) (hkn : k ≠ -1) (hk : kd t = 18) (g : FR W M M1) (h1 : ksep W [(18, 3), (19, 1000), (20, 1000), (21, 1000)] = true) (hc : M t 3 = c) (w : (hsF f N c (bkf (M (t + 1)) c) k a ≠ 0 ∧ M1 t 4 = hsF f N c (bkf (M (t + 1)) c) k a ∧ M1 t 5 = hsW f N c (bkf (M (t + 1)) c) k a ∧ M1 t 6 = k) ∨ (hsF f N c (bkf (M (t + 1)) c) k a = 0 ∧ M1 t 4 = 0 ∧ r = hsZ f N k a ∧ M1 t 5 = G ∧ M1 t 6 = H)) (hw : M1 t 4 ≠ 0) : HP M1 t f N k2 a2 n2 := by
  rcases w with w | w
  · rcases h with ⟨g4, g3, g5, g6, gR, gk, ga⟩ | ⟨g4, gg⟩
    · have ecn : c = n := by omega
      subst ecn
      have eb : bkf (M (t + 1)) c = bkf (hX f N) c := bkf_e (fun i h0 hi => (gR i h0 hi).2.1)
      have e3 : M1 t 3 = c := by rw [g.s h1 hk 3 (by decide) 3 (Or.inr rfl)]; exact hc
      rw [eb, gk, ga] at w
      refine Or.inr ⟨hw, ⟨by omega, ?_, ?_⟩⟩
      · rw [e3]
        exact gR.fr hk g (by
          have := h1
          unfold ksep at this ⊢
          rw [List.all_eq_true] at this ⊢
          intro x hx
          have q := this x hx
          rw [List.all_cons, Bool.and_eq_true] at q
          exact q.2)
      · rw [e3]
        exact Or.inr ⟨by rw [← gk]; exact hkn, w.1, w.2.1, w.2.2.1, w.2.2.2⟩
    · exact absurd h4 g4
  · exact absurd w.2.1 hw
theorem HP.s {W : List (Nat × Nat)} {M M1 : jm} {t : Nat} {f : Int → Int} {N k a n k2 c c1 r G H : Int} (h : HP M t f N k a n) (h4 : M t 4 = 0) (hn : 0 ≤ n ∧ n ≤ 12) (hkn : k ≠ -1) (hk : kd t = 18) (g : FR W M M1) (h1 : ksep W [(18, 3), (19, 1000), (20, 1000), (21, 1000)] = true) (hc : M t 3 = c) (hG : M t 5 = G) (hH : M t 6 = H) (w : (hsF f N c (bkf (M (t + 1)) c) k a ≠ 0 ∧ M1 t 4 = hsF f N c (bkf (M (t + 1)) c) k a ∧ M1 t 5 = hsW f N c (bkf (M (t + 1)) c) k a ∧ M1 t 6 = k) ∨ (hsF f N c (bkf (M (t + 1)) c) k a = 0 ∧ M1 t 4 = 0 ∧ r = hsZ f N k a ∧ M1 t 5 = G ∧ M1 t 6 = H)) (hw : M1 t 4 = 0) (hb : k2 = hsB f N k a (a + r)) (e1 : c1 = c) : HP (ju (ju (ju (ju M1 (t + 1) c1 k) (t + 2) c1 a) (t + 3) c1 r) t 3 (c1 + 1)) t f N k2 (a + r) (n + 1) := by
  subst e1
  rcases w with w | w
  · exact absurd hw (by rw [w.2.1]; exact w.1)
  · rcases h with ⟨g4, g3, g5, g6, gR, gk, ga⟩ | ⟨g4, gg⟩
    · have ecn : c1 = n := by omega
      subst ecn
      have eb : bkf (M (t + 1)) c1 = bkf (hX f N) c1 := bkf_e (fun i h0 hi => (gR i h0 hi).2.1)
      have e3 : M1 t 3 = c1 := by rw [g.s h1 hk 3 (by decide) 3 (Or.inr rfl)]; exact hc
      rw [eb] at w
      have gR1 : HR M1 t f N c1 := gR.fr hk g (by
          have := h1
          unfold ksep at this ⊢
          rw [List.all_eq_true] at this ⊢
          intro x hx
          have q := this x hx
          rw [List.all_cons, Bool.and_eq_true] at q
          exact q.2)
      obtain ⟨s1, s2⟩ := hst_s (f := f) (N := N) (i := c1) (by omega)
      have hz : r = hZ f N c1 := by rw [w.2.2.1, gk, ga]; rfl
      have ho : hok f N c1 := ⟨by rw [← gk]; exact hkn, by rw [gk, ga] at w; exact w.1⟩
      refine Or.inl ⟨?_, ju_same _ _ _ _, ?_, ?_, ?_, ?_, ?_⟩
      · rw [ju_i _ _ (zne (by decide)), ju_c _ _ (by omega), ju_c _ _ (by omega), ju_c _ _ (by omega)]; exact hw
      · rw [ju_i _ _ (zne (by decide)), ju_c _ _ (by omega), ju_c _ _ (by omega), ju_c _ _ (by omega)]; omega
      · rw [ju_i _ _ (zne (by decide)), ju_c _ _ (by omega), ju_c _ _ (by omega), ju_c _ _ (by omega)]; omega
      · intro i h0 hi
        by_cases e : i = c1
        · subst e
          refine ⟨ho, ?_, ?_, ?_⟩
          · rw [ju_c _ _ (by omega), ju_c _ _ (by omega), ju_c _ _ (by omega), ju_same]; exact gk
          · rw [ju_c _ _ (by omega), ju_c _ _ (by omega), ju_same]; exact ga
          · rw [ju_c _ _ (by omega), ju_same]; exact hz
        · have q := gR1 i h0 (by omega)
          refine ⟨q.1, ?_, ?_, ?_⟩
          · rw [ju_c _ _ (by omega), ju_c _ _ (by omega), ju_c _ _ (by omega), ju_i _ _ e]; exact q.2.1
          · rw [ju_c _ _ (by omega), ju_c _ _ (by omega), ju_i _ _ e, ju_c _ _ (by omega)]; exact q.2.2.1
          · rw [ju_c _ _ (by omega), ju_i _ _ e, ju_c _ _ (by omega), ju_c _ _ (by omega)]; exact q.2.2.2
      · rw [s1, hb, hz, gk, ga]
      · rw [s2, hz, ga]
    · exact absurd h4 g4
theorem hsF_z {f : Int → Int} {n c bk k a : Int} (h : hsF f n c bk k a = 0) : c < 12 ∧ a + hls k ≤ n ∧ a + hsZ f n k a ≤ n ∧ ¬ ((k = 2 ∨ k = 8) ∧ hsZ f n k a < 20) := by
  unfold hsF at h
  split at h
  · omega
  · split at h
    · omega
    · split at h
      · omega
      · split at h
        · omega
        · split at h
          · omega
          · split at h
            · omega
            · split at h
              · omega
              · omega
theorem hb_r {f : Int → Int} {n i : Int} (hf : ∀ i : Int, 0 ≤ i → i < 400 → 0 ≤ f i ∧ f i ≤ 255) (hn : n ≤ 400) : 0 ≤ hb f n i ∧ hb f n i ≤ 255 := by
  unfold hb
  split
  · exact hf i (by omega) (by omega)
  · omega
theorem hsZ_r {f : Int → Int} {n k a : Int} (hf : ∀ i : Int, 0 ≤ i → i < 400 → 0 ≤ f i ∧ f i ≤ 255) (hn : n ≤ 400) (hl : a + hls k ≤ n) : 0 ≤ hsZ f n k a ∧ (k ≠ 6 ∨ hsZ f n k a = 8) := by
  have h1 := hb_r hf hn (i := a)
  have h2 := hb_r hf hn (i := a + 12)
  have h3 := hb_r hf hn (i := a + 1)
  have h4 := hls_r k
  have h5 : k ≠ 6 ∨ hls k = 8 := by
    by_cases q : k = 6
    · subst q; exact Or.inr (by decide)
    · exact Or.inl q
  unfold hsZ
  (repeat' split) <;> omega
theorem hsR {M1 : jm} {t : Nat} {f : Int → Int} {N C bk k a r G H : Int} (w : (hsF f N C bk k a ≠ 0 ∧ M1 t 4 = hsF f N C bk k a ∧ M1 t 5 = hsW f N C bk k a ∧ M1 t 6 = k) ∨ (hsF f N C bk k a = 0 ∧ M1 t 4 = 0 ∧ r = hsZ f N k a ∧ M1 t 5 = G ∧ M1 t 6 = H)) (hf : ∀ i : Int, 0 ≤ i → i < 400 → 0 ≤ f i ∧ f i ≤ 255) (hN : N ≤ 400) (ha : 0 ≤ a) : M1 t 4 ≠ 0 ∨ (0 ≤ a + r ∧ a + r ≤ 400 ∧ a + hls k ≤ N ∧ (k ≠ 6 ∨ r = 8) ∧ (k ≠ 2 ∨ 20 ≤ r) ∧ C ≤ 11 ∧ 0 ≤ r) := by
  rcases w with w | w
  · exact Or.inl (by rw [w.2.1]; exact w.1)
  · have q := hsF_z w.1
    have q2 := hsZ_r hf hN q.2.1
    right
    rw [w.2.2.1]
    omega
/-- the headers of the bytes f of length N stand in t -/
noncomputable def HS (M : jm) (t : Nat) (f : Int → Int) (N : Int) : Prop := BY8 M ((M t 7).toNat + 1) f ∧ M (M t 7).toNat 1 = N ∧ (0 ≤ N ∧ N ≤ 400) ∧ HQ M t f N
theorem HS.mk {M : jm} {t : Nat} {f : Int → Int} {N S : Int} (hS : M t 7 = S) (hb : BY8 M (S.toNat + 1) f) (hn : M S.toNat 1 = N) (h0 : 0 ≤ N ∧ N ≤ 400) (hq : HQ M t f N) : HS M t f N := by
  subst hS
  exact ⟨hb, hn, h0, hq⟩
noncomputable def W_c_Headers_readAll_x : List (Nat × Nat) := [(18, 3), (18, 4), (18, 5), (18, 6), (18, 7), (19, 1000), (20, 1000), (21, 1000)]
theorem c_Headers_readAll_x_L45 {A : Nat → Option (Nat × (Nat → Int32))} {Q : Option Value → jm → Prop} {f : Int → Int} {T : jm} {t : Nat} (k_t : kd t = 18) {x : Nat} (k_x : kd x = 33) {N : Int} {S : Int} (q : ∀ (M' : jm), CI M' → FR W_c_Headers_readAll_x T M' → (HC M' t) → ((N = -1 ∧ M' t 3 = 0 ∧ M' t 4 = 2 ∧ M' t 5 = -1 ∧ M' t 6 = -1) ∨ (N ≠ -1 ∧ HS M' t f N)) → (M' t 7 = ((x : Nat) : Int)) → Q none M') : ∀ (nM : Nat) (M : jm) (k : Int) (a : Int) (n : Int), CI M → FR W_c_Headers_readAll_x T M → (-1) ≤ k ∧ k ≤ 11 → 0 ≤ a ∧ a ≤ 400 → 0 ≤ n ∧ n ≤ 13 → M t 7 = S → (0 ≤ N ∧ N ≤ 400) → (M ((S.toNat)) 1 = N) → (BY8 M (S.toNat + 1) f) → (HC M t) → ((M t 4 = 0 ∧ M t 3 = n ∧ M t 5 = -1 ∧ M t 6 = -1) ∨ M t 4 ≠ 0) → (HP M t f N k a n) → (S = ((x : Nat) : Int)) → 13 - n ≤ nM → jr A 4 xm_105 45 [(2, .int (Int32.ofInt (k))), (3, .int (Int32.ofInt (a))), (4, .int (Int32.ofInt (n))), (0, .ref (t)), (1, .ref (x))] [] M Q := by
  intro nM
  induction nM using Nat.strongRecOn with
  | ind nM ih =>
    intro M k a n hC_M ht_M h_k h_a h_n g_S hy0 hy1 hy2 hy3 hy4 hy5 hy6 hm
    have k_S : kd S.toNat = 33 := (congrArg (fun z : Int => kd z.toNat) g_S).symm.trans (CI.x hC_M k_t 7 rfl (by decide))
    have k_by : kd (S.toNat + 1) = 34 := (kf_33_0 k_S).2
    have b1 : 0 ≤ N ∧ N ≤ 400 := by omega
    obtain ⟨v2, e2⟩ : ∃ z_, M t 3 = z_ := ⟨_, rfl⟩
    have b2 : 0 ≤ v2 ∧ v2 ≤ 12 := by rw [← e2]; exact (CI.r hC_M k_t (by decide) 3)
    obtain ⟨v3, e3⟩ : ∃ z_, M t 4 = z_ := ⟨_, rfl⟩
    have b3 : (-2147483648) ≤ v3 ∧ v3 ≤ 2147483647 := by rw [← e3]; exact (CI.r hC_M k_t (by decide) 4)
    obtain ⟨v4, e4⟩ : ∃ z_, M t 5 = z_ := ⟨_, rfl⟩
    have b4 : (-2147483648) ≤ v4 ∧ v4 ≤ 2147483647 := by rw [← e4]; exact (CI.r hC_M k_t (by decide) 5)
    obtain ⟨v5, e5⟩ : ∃ z_, M t 6 = z_ := ⟨_, rfl⟩
    have b5 : (-2147483648) ≤ v5 ∧ v5 ≤ 2147483647 := by rw [← e5]; exact (CI.r hC_M k_t (by decide) 6)
    refine jr.iload rfl rfl ?_
    refine jr.bipush rfl (jbp _ (nlt rfl)) ?_
    refine jr.icmp_gt rfl rfl (by first | (refine rgb (by assumption) ?_; exact rfl) | omega) (rgl rfl) (fun h49 => ?_) (fun h49 => ?_)
    · exact jr.vreturn rfl rfl (q _ hC_M ht_M  hy3 (Or.inr ⟨by omega, HS.mk g_S hy2 hy1 hy0 (HP.q hy5 (by omega) (by omega))⟩) (by omega))
    · refine jr.aload_n rfl rfl ?_
      refine jr.getf (i := 4) (x := v3) (v := .int (Int32.ofInt (v3))) rfl rfl (Nat.lt_trans (kx_18 k_t).1 (by decide)) (kx_18 k_t).2 (by decide) rfl rfl e3 rfl ?_
      refine jr.if_ne rfl rfl (by first | (refine rgb (by assumption) ?_; exact rfl) | omega) (fun h56 => ?_) (fun h56 => ?_)
      · exact jr.vreturn rfl rfl (q _ hC_M ht_M  hy3 (Or.inr ⟨by omega, HS.mk g_S hy2 hy1 hy0 (HP.q hy5 (by omega) (by omega))⟩) (by omega))
      · refine jr.iload_n rfl rfl ?_
        refine jr.iconst rfl ?_
        refine jr.icmp_eq rfl rfl (by first | (refine rgb (by assumption) ?_; exact rfl) | omega) (rgl rfl) (fun h61 => ?_) (fun h61 => ?_)
        · exact jr.vreturn rfl rfl (q _ hC_M ht_M  hy3 (Or.inr ⟨by omega, HS.mk g_S hy2 hy1 hy0 (HP.q hy5 (by omega) (by omega))⟩) (by omega))
        · have sx61 : (0 : Int) ≤ k := by omega
          clear h61
          refine jr.aload_n rfl rfl ?_
          refine jr.iload_n rfl rfl ?_
          refine jr.iload_n rfl rfl ?_
          have k6_S : kd (S).toNat = 33 := (congrArg (fun z : Int => kd z.toNat) g_S).symm.trans (CI.x hC_M k_t 7 rfl (by decide))
          refine jr_v rfl rfl (Or.inl rfl) rfl rfl (Nat.lt_trans (kx_18 k_t).1 (by decide)) (kx_18 k_t).2 ⟨rfl, Nat.le_of_ble_eq_true rfl, Nat.le_of_ble_eq_true rfl⟩ rfl (jc.deep (c_Headers_sizeIfRight_x hC_M (FR.rfl _ M) k_t (by omega) (by omega) g_S hy1 e3 e4 e5 e2 rfl hy2 (by omega) (by omega) (fun r6 M6 hC_M6 hf_M6 z6 w6_0 => ?_)) (Nat.le_of_ble_eq_true rfl))
          have ht_M6 : FR W_c_Headers_readAll_x T M6 := FR.t ht_M hf_M6 (kw_sub rfl)
          have hq67 := hsR w6_0 (fun i h0 h1 => (hy2 i h0 h1).2) hy0.2 (by omega)
          refine jr.istore (ls' := [_, _, _, _, _, _]) rfl (nlt rfl) rfl ?_
          refine jr.aload_n rfl rfl ?_
          obtain ⟨v7, e7⟩ : ∃ z_, M6 t 4 = z_ := ⟨_, rfl⟩
          have b7 : (-2147483648) ≤ v7 ∧ v7 ≤ 2147483647 := by rw [← e7]; exact (CI.r hC_M6 k_t (by decide) 4)
          refine jr.getf (i := 4) (x := v7) (v := .int (Int32.ofInt (v7))) rfl rfl (Nat.lt_trans (kx_18 k_t).1 (by decide)) (kx_18 k_t).2 (by decide) rfl rfl e7 rfl ?_
          refine jr.if_ne rfl rfl (by first | (refine rgb (by assumption) ?_; exact rfl) | omega) (fun h76 => ?_) (fun h76 => ?_)
          · refine jr.iinc (ls' := [_, _, _, _, _, _]) rfl rfl (nlt rfl) rfl ?_
            refine jr.goto rfl rfl ?_
            have e8 : M6 t 7 = S := (hf_M6.g k_t rfl).trans g_S
            have e9 : M6 ((S.toNat)) 1 = N := (hf_M6.g k6_S rfl).trans hy1
            have e10 : M6 t 3 = v2 := (hf_M6.g k_t rfl).trans e2
            obtain ⟨v11, e11⟩ : ∃ z_, M6 t 5 = z_ := ⟨_, rfl⟩
            have b11 : (-2147483648) ≤ v11 ∧ v11 ≤ 2147483647 := by rw [← e11]; exact (CI.r hC_M6 k_t (by decide) 5)
            obtain ⟨v12, e12⟩ : ∃ z_, M6 t 6 = z_ := ⟨_, rfl⟩
            have b12 : (-2147483648) ≤ v12 ∧ v12 ≤ 2147483647 := by rw [← e12]; exact (CI.r hC_M6 k_t (by decide) 6)
            refine jr.pick (ls := [_, _, _, _, _]) [2, 3, 0, 4, 5] rfl rfl ?_
            exact ih (nM - 1) (by omega) M6 k a (n + 1) hC_M6 ht_M6 (by omega) (by omega) (by omega) e8 (by omega) (by have hq0 : M6 ((S.toNat)) 1 = N := e9; omega) (BY8.fr hy2 k_by hf_M6 rfl) (HC.fr hy3 hf_M6 k_t rfl) (by have hq0 : M6 t 3 = v2 := e10; have hq1 : M6 t 4 = v7 := e7; have hq2 : M6 t 5 = v11 := e11; have hq3 : M6 t 6 = v12 := e12; omega) (HP.f hy5 (by omega) (by omega) (by omega) k_t hf_M6 rfl e2 w6_0 (by omega)) (by omega) (by omega)
          · refine jr.aload_n rfl rfl ?_
            have k13 := kf_18_0 k_t
            refine jr.getf (i := 0) (v := .ref (t + 1)) rfl rfl (Nat.lt_trans (kx_18 k_t).1 (by decide)) (kx_18 k_t).2 (by decide) rfl rfl rfl (jval_ref rfl k13.1) ?_
            refine jr.aload_n rfl rfl ?_
            have e14 : M6 t 3 = v2 := (hf_M6.g k_t rfl).trans e2
            refine jr.getf (i := 3) (x := v2) (v := .int (Int32.ofInt (v2))) rfl rfl (Nat.lt_trans (kx_18 k_t).1 (by decide)) (kx_18 k_t).2 (by decide) rfl rfl e14 rfl ?_
            refine jr.iload_n rfl rfl ?_
            refine jr.iast (i := v2) (x := k) rfl (Nat.lt_trans (kx_19 k13.2).1 (by decide)) (kx_19 k13.2).2 (by decide) (by omega) (by omega) ?_
            refine jr.aload_n rfl rfl ?_
            have k15 := kf_18_1 k_t
            refine jr.getf (i := 1) (v := .ref (t + 2)) rfl rfl (Nat.lt_trans (kx_18 k_t).1 (by decide)) (kx_18 k_t).2 (by decide) rfl rfl rfl (jval_ref rfl k15.1) ?_
            refine jr.aload_n rfl rfl ?_
            refine jr.getf (i := 3) (x := v2) (v := .int (Int32.ofInt (v2))) rfl rfl (Nat.lt_trans (kx_18 k_t).1 (by decide)) (kx_18 k_t).2 (by decide) rfl rfl ((ju_c _ _ (kd_ne (by rw [k_t, k13.2]; decide))).trans e14) rfl ?_
            refine jr.iload_n rfl rfl ?_
            refine jr.iast (i := v2) (x := a) rfl (Nat.lt_trans (kx_20 k15.2).1 (by decide)) (kx_20 k15.2).2 (by decide) (by omega) (by omega) ?_
            refine jr.aload_n rfl rfl ?_
            have k16 := kf_18_2 k_t
            refine jr.getf (i := 2) (v := .ref (t + 3)) rfl rfl (Nat.lt_trans (kx_18 k_t).1 (by decide)) (kx_18 k_t).2 (by decide) rfl rfl rfl (jval_ref rfl k16.1) ?_
            refine jr.aload_n rfl rfl ?_
            refine jr.getf (i := 3) (x := v2) (v := .int (Int32.ofInt (v2))) rfl rfl (Nat.lt_trans (kx_18 k_t).1 (by decide)) (kx_18 k_t).2 (by decide) rfl rfl ((ju_c _ _ (kd_ne (by rw [k_t, k15.2]; decide))).trans ((ju_c _ _ (kd_ne (by rw [k_t, k13.2]; decide))).trans e14)) rfl ?_
            refine jr.iload rfl rfl ?_
            refine jr.iast (i := v2) (x := r6) rfl (Nat.lt_trans (kx_21 k16.2).1 (by decide)) (kx_21 k16.2).2 (by decide) (by omega) (by omega) ?_
            refine jr.aload_n rfl rfl ?_
            refine jr.dup rfl rfl ?_
            refine jr.getf (i := 3) (x := v2) (v := .int (Int32.ofInt (v2))) rfl rfl (Nat.lt_trans (kx_18 k_t).1 (by decide)) (kx_18 k_t).2 (by decide) rfl rfl ((ju_c _ _ (kd_ne (by rw [k_t, k16.2]; decide))).trans ((ju_c _ _ (kd_ne (by rw [k_t, k15.2]; decide))).trans ((ju_c _ _ (kd_ne (by rw [k_t, k13.2]; decide))).trans e14))) rfl ?_
            refine jr.iconst rfl ?_
            refine jr.iadd rfl ?_
            refine jr.putf (i := 3) (x := (v2 + 1)) rfl rfl (Nat.lt_trans (kx_18 k_t).1 (by decide)) (kx_18 k_t).2 (by decide) rfl rfl rfl rfl rfl ?_
            refine jr.aload_n rfl rfl ?_
            refine jr.iload_n rfl rfl ?_
            refine jr.iload_n rfl rfl ?_
            refine jr.iload_n rfl rfl ?_
            refine jr.iload rfl rfl ?_
            refine jr.iadd rfl ?_
            have e18 : M6 t 7 = S := (hf_M6.g k_t rfl).trans g_S
            have k17_S : kd (S).toNat = 33 := (congrArg (fun z : Int => kd z.toNat) ((ju_i _ _ (zne (by decide))).trans ((ju_c _ _ (kd_ne (by rw [k_t, k16.2]; decide))).trans ((ju_c _ _ (kd_ne (by rw [k_t, k15.2]; decide))).trans ((ju_c _ _ (kd_ne (by rw [k_t, k13.2]; decide))).trans e18))))).symm.trans (CI.x (show CI ((ju (ju (ju (ju M6 ((t + 1)) v2 k) ((t + 2)) v2 a) ((t + 3)) v2 r6) t 3 (v2 + 1))) from (CI.u (CI.u (CI.u (CI.u hC_M6 (i := v2) k13.2 (show (0 : Int) ≤ _ ∧ _ ≤ (11 : Int) from by omega) rfl) (i := v2) k15.2 (show (0 : Int) ≤ _ ∧ _ ≤ (400 : Int) from by omega) rfl) (i := v2) k16.2 (show (-400 : Int) ≤ _ ∧ _ ≤ (2048 : Int) from by omega) rfl) (i := 3) k_t (show (0 : Int) ≤ _ ∧ _ ≤ (12 : Int) from by omega) rfl)) k_t 7 rfl (by decide))
            have e19 : M6 ((S.toNat)) 1 = N := (hf_M6.g k17_S rfl).trans hy1
            refine jr_v rfl rfl (Or.inl rfl) rfl rfl (Nat.lt_trans (kx_18 k_t).1 (by decide)) (kx_18 k_t).2 ⟨rfl, Nat.le_of_ble_eq_true rfl, Nat.le_of_ble_eq_true rfl⟩ rfl (jc.deep (c_Headers_kindBehind_x (CI.u (CI.u (CI.u (CI.u hC_M6 (i := v2) k13.2 (show (0 : Int) ≤ _ ∧ _ ≤ (11 : Int) from by omega) rfl) (i := v2) k15.2 (show (0 : Int) ≤ _ ∧ _ ≤ (400 : Int) from by omega) rfl) (i := v2) k16.2 (show (-400 : Int) ≤ _ ∧ _ ≤ (2048 : Int) from by omega) rfl) (i := 3) k_t (show (0 : Int) ≤ _ ∧ _ ≤ (12 : Int) from by omega) rfl) k_t (by omega) (by omega) (by omega) ((ju_i _ _ (zne (by decide))).trans ((ju_c _ _ (kd_ne (by rw [k_t, k16.2]; decide))).trans ((ju_c _ _ (kd_ne (by rw [k_t, k15.2]; decide))).trans ((ju_c _ _ (kd_ne (by rw [k_t, k13.2]; decide))).trans e18)))) ((ju_i _ _ (zne (by decide))).trans ((ju_c _ _ (kd_ne (by rw [k17_S, k16.2]; decide))).trans ((ju_c _ _ (kd_ne (by rw [k17_S, k15.2]; decide))).trans ((ju_c _ _ (kd_ne (by rw [k17_S, k13.2]; decide))).trans e19)))) (BY8.fr (BY8.fr hy2 k_by hf_M6 rfl) k_by (FR.o (FR.o (FR.o (FR.o (FR.rfl [(18, 3), (19, 1000), (20, 1000), (21, 1000)] M6) k13.2 rfl) k15.2 rfl) k16.2 rfl) k_t rfl) rfl) (by omega) (fun r17 z17 w17_0 => ?_)) (Nat.le_of_ble_eq_true rfl))
            refine jr.istore_n (ls' := [_, _, _, _, _, _]) rfl (nlt rfl) rfl ?_
            refine jr.iload_n rfl rfl ?_
            refine jr.iload rfl rfl ?_
            refine jr.iadd rfl ?_
            refine jr.istore_n (ls' := [_, _, _, _, _, _]) rfl (nlt rfl) rfl ?_
            refine jr.iinc (ls' := [_, _, _, _, _, _]) rfl rfl (nlt rfl) rfl ?_
            refine jr.goto rfl rfl ?_
            obtain ⟨v20, e20⟩ : ∃ z_, M6 t 5 = z_ := ⟨_, rfl⟩
            have b20 : (-2147483648) ≤ v20 ∧ v20 ≤ 2147483647 := by rw [← e20]; exact (CI.r hC_M6 k_t (by decide) 5)
            obtain ⟨v21, e21⟩ : ∃ z_, M6 t 6 = z_ := ⟨_, rfl⟩
            have b21 : (-2147483648) ≤ v21 ∧ v21 ≤ 2147483647 := by rw [← e21]; exact (CI.r hC_M6 k_t (by decide) 6)
            refine jr.pick (ls := [_, _, _, _, _]) [2, 1, 0, 4, 5] rfl rfl ?_
            exact ih (nM - 1) (by omega) ((ju (ju (ju (ju M6 ((t + 1)) v2 k) ((t + 2)) v2 a) ((t + 3)) v2 r6) t 3 (v2 + 1))) r17 (a + r6) (n + 1) (CI.u (CI.u (CI.u (CI.u hC_M6 (i := v2) k13.2 (show (0 : Int) ≤ _ ∧ _ ≤ (11 : Int) from by omega) rfl) (i := v2) k15.2 (show (0 : Int) ≤ _ ∧ _ ≤ (400 : Int) from by omega) rfl) (i := v2) k16.2 (show (-400 : Int) ≤ _ ∧ _ ≤ (2048 : Int) from by omega) rfl) (i := 3) k_t (show (0 : Int) ≤ _ ∧ _ ≤ (12 : Int) from by omega) rfl) (FR.o (FR.o (FR.o (FR.o ht_M6 k13.2 rfl) k15.2 rfl) k16.2 rfl) k_t rfl) (by omega) (by omega) (by omega) ((ju_i _ _ (zne (by decide))).trans ((ju_c _ _ (kd_ne (by rw [k_t, k16.2]; decide))).trans ((ju_c _ _ (kd_ne (by rw [k_t, k15.2]; decide))).trans ((ju_c _ _ (kd_ne (by rw [k_t, k13.2]; decide))).trans e18)))) (by omega) (by have hq0 : (ju (ju (ju (ju M6 ((t + 1)) v2 k) ((t + 2)) v2 a) ((t + 3)) v2 r6) t 3 (v2 + 1)) ((S.toNat)) 1 = N := ((ju_i _ _ (zne (by decide))).trans ((ju_c _ _ (kd_ne (by rw [k17_S, k16.2]; decide))).trans ((ju_c _ _ (kd_ne (by rw [k17_S, k15.2]; decide))).trans ((ju_c _ _ (kd_ne (by rw [k17_S, k13.2]; decide))).trans e19)))); omega) (BY8.fr (BY8.fr hy2 k_by hf_M6 rfl) k_by (FR.o (FR.o (FR.o (FR.o (FR.rfl [(18, 3), (19, 1000), (20, 1000), (21, 1000)] M6) k13.2 rfl) k15.2 rfl) k16.2 rfl) k_t rfl) rfl) (HC.st (HC.fr hy3 hf_M6 k_t rfl) k_t e14 (by omega) (by omega) (by omega)) (by have hq0 : (ju (ju (ju (ju M6 ((t + 1)) v2 k) ((t + 2)) v2 a) ((t + 3)) v2 r6) t 3 (v2 + 1)) t 3 = v2 + 1 := (ju_same _ _ _ _); have hq1 : (ju (ju (ju (ju M6 ((t + 1)) v2 k) ((t + 2)) v2 a) ((t + 3)) v2 r6) t 3 (v2 + 1)) t 4 = v7 := ((ju_i _ _ (zne (by decide))).trans ((ju_c _ _ (kd_ne (by rw [k_t, k16.2]; decide))).trans ((ju_c _ _ (kd_ne (by rw [k_t, k15.2]; decide))).trans ((ju_c _ _ (kd_ne (by rw [k_t, k13.2]; decide))).trans e7)))); have hq2 : (ju (ju (ju (ju M6 ((t + 1)) v2 k) ((t + 2)) v2 a) ((t + 3)) v2 r6) t 3 (v2 + 1)) t 5 = v20 := ((ju_i _ _ (zne (by decide))).trans ((ju_c _ _ (kd_ne (by rw [k_t, k16.2]; decide))).trans ((ju_c _ _ (kd_ne (by rw [k_t, k15.2]; decide))).trans ((ju_c _ _ (kd_ne (by rw [k_t, k13.2]; decide))).trans e20)))); have hq3 : (ju (ju (ju (ju M6 ((t + 1)) v2 k) ((t + 2)) v2 a) ((t + 3)) v2 r6) t 3 (v2 + 1)) t 6 = v21 := ((ju_i _ _ (zne (by decide))).trans ((ju_c _ _ (kd_ne (by rw [k_t, k16.2]; decide))).trans ((ju_c _ _ (kd_ne (by rw [k_t, k15.2]; decide))).trans ((ju_c _ _ (kd_ne (by rw [k_t, k13.2]; decide))).trans e21)))); omega) (HP.s hy5 (by omega) (by omega) (by omega) k_t hf_M6 rfl e2 e4 e5 w6_0 (by omega) w17_0 (by omega)) (by omega) (by omega)
theorem c_Headers_readAll_x {A : Nat → Option (Nat × (Nat → Int32))} {Q : Option Value → jm → Prop} {f : Int → Int} {T : jm} {M : jm} (hC_M : CI M) (ht_M : FR W_c_Headers_readAll_x T M) {t : Nat} (k_t : kd t = 18) {x : Nat} (k_x : kd x = 33) {N : Int} (g_N : M x 1 = N) (p0 : BY8 M (x + 1) f) (q : ∀ (M' : jm), CI M' → FR W_c_Headers_readAll_x T M' → (HC M' t) → ((N = -1 ∧ M' t 3 = 0 ∧ M' t 4 = 2 ∧ M' t 5 = -1 ∧ M' t 6 = -1) ∨ (N ≠ -1 ∧ HS M' t f N)) → (M' t 7 = ((x : Nat) : Int)) → Q none M') : jc A 5 105 [.ref (t), .ref (x)] M Q := by
  have k_by : kd (x + 1) = 34 := (kf_33_0 k_x).2
  refine jc_of (m := xm_105) rfl (Nat.le_of_ble_eq_true rfl) rfl ?_
  have b_N : (-1) ≤ N ∧ N ≤ 400 := by rw [← g_N]; exact (CI.r hC_M k_x (by decide) 1)
  refine jr.aload_n rfl rfl ?_
  refine jr.aload_n rfl rfl ?_
  refine jr.putf (i := 7) (x := (((x : Nat) : Int))) rfl rfl (Nat.lt_trans (kx_18 k_t).1 (by decide)) (kx_18 k_t).2 (by decide) rfl rfl (jval_mut rfl (kn_18_7 k_t)) rfl rfl ?_
  refine jr.aload_n rfl rfl ?_
  refine jr.iconst rfl ?_
  refine jr.putf (i := 3) (x := 0) rfl rfl (Nat.lt_trans (kx_18 k_t).1 (by decide)) (kx_18 k_t).2 (by decide) rfl rfl rfl rfl rfl ?_
  refine jr.aload_n rfl rfl ?_
  refine jr.iconst rfl ?_
  refine jr.putf (i := 4) (x := 0) rfl rfl (Nat.lt_trans (kx_18 k_t).1 (by decide)) (kx_18 k_t).2 (by decide) rfl rfl rfl rfl rfl ?_
  refine jr.aload_n rfl rfl ?_
  refine jr.iconst rfl ?_
  refine jr.putf (i := 5) (x := (-1)) rfl rfl (Nat.lt_trans (kx_18 k_t).1 (by decide)) (kx_18 k_t).2 (by decide) rfl rfl rfl rfl rfl ?_
  refine jr.aload_n rfl rfl ?_
  refine jr.iconst rfl ?_
  refine jr.putf (i := 6) (x := (-1)) rfl rfl (Nat.lt_trans (kx_18 k_t).1 (by decide)) (kx_18 k_t).2 (by decide) rfl rfl rfl rfl rfl ?_
  refine jr.aload_n rfl rfl ?_
  refine jr_v rfl rfl (Or.inl rfl) rfl rfl (Nat.lt_trans (kx_33 k_x).1 (by decide)) (kx_33 k_x).2 ⟨rfl, Nat.le_of_ble_eq_true rfl, Nat.le_of_ble_eq_true rfl⟩ rfl (jc.deep (c_Packet_isThere (CI.u (CI.u (CI.u (CI.u (CI.w (v := ((x : Nat) : Int)) hC_M (i := 7) k_t (show (0 : Int) ≤ _ ∧ _ ≤ (597 : Int) from by have hk := kd_lt (a := (((x : Nat) : Int)).toNat) (by rw [(show kd (((x : Nat) : Int)).toNat = 33 from k_x)]; decide); omega) (show kd (((x : Nat) : Int)).toNat = 33 from k_x)) (i := 3) k_t (show (0 : Int) ≤ _ ∧ _ ≤ (12 : Int) from by omega) rfl) (i := 4) k_t (show (-2147483648 : Int) ≤ _ ∧ _ ≤ (2147483647 : Int) from by omega) rfl) (i := 5) k_t (show (-2147483648 : Int) ≤ _ ∧ _ ≤ (2147483647 : Int) from by omega) rfl) (i := 6) k_t (show (-2147483648 : Int) ≤ _ ∧ _ ≤ (2147483647 : Int) from by omega) rfl) k_x (fun r1 z1 w1_0 => ?_)) (Nat.le_of_ble_eq_true rfl))
  have e2 : (ju (ju (ju (ju (ju M t 7 (((x : Nat) : Int))) t 3 0) t 4 0) t 5 (-1)) t 6 (-1)) x 1 = N := ((ju_i _ _ (zne (by decide))).trans ((ju_i _ _ (zne (by decide))).trans ((ju_i _ _ (zne (by decide))).trans ((ju_i _ _ (zne (by decide))).trans ((ju_i _ _ (zne (by decide))).trans g_N)))))
  refine jr.if_ne rfl rfl (by first | (refine rgb (by assumption) ?_; exact rfl) | omega) (fun h29 => ?_) (fun h29 => ?_)
  · have sx29 : (1 : Int) ≤ r1 := by omega
    clear h29
    refine jr.iconst rfl ?_
    refine jr.istore_n (ls' := [_, _, _]) rfl (nlt rfl) rfl ?_
    refine jr.iconst rfl ?_
    refine jr.istore_n (ls' := [_, _, _, _]) rfl (nlt rfl) rfl ?_
    refine jr.iconst rfl ?_
    refine jr.istore (ls' := [_, _, _, _, _]) rfl (nlt rfl) rfl ?_
    refine jr.pick (ls := [_, _, _, _, _]) [2, 1, 0, 3, 4] rfl rfl ?_
    exact c_Headers_readAll_x_L45 k_t k_x q 13 ((ju (ju (ju (ju (ju M t 7 (((x : Nat) : Int))) t 3 0) t 4 0) t 5 (-1)) t 6 (-1))) 0 0 0 (CI.u (CI.u (CI.u (CI.u (CI.w (v := ((x : Nat) : Int)) hC_M (i := 7) k_t (show (0 : Int) ≤ _ ∧ _ ≤ (597 : Int) from by have hk := kd_lt (a := (((x : Nat) : Int)).toNat) (by rw [(show kd (((x : Nat) : Int)).toNat = 33 from k_x)]; decide); omega) (show kd (((x : Nat) : Int)).toNat = 33 from k_x)) (i := 3) k_t (show (0 : Int) ≤ _ ∧ _ ≤ (12 : Int) from by omega) rfl) (i := 4) k_t (show (-2147483648 : Int) ≤ _ ∧ _ ≤ (2147483647 : Int) from by omega) rfl) (i := 5) k_t (show (-2147483648 : Int) ≤ _ ∧ _ ≤ (2147483647 : Int) from by omega) rfl) (i := 6) k_t (show (-2147483648 : Int) ≤ _ ∧ _ ≤ (2147483647 : Int) from by omega) rfl) (FR.o (FR.o (FR.o (FR.o (FR.o ht_M k_t rfl) k_t rfl) k_t rfl) k_t rfl) k_t rfl) (by omega) (by omega) (by omega) ((ju_i _ _ (zne (by decide))).trans ((ju_i _ _ (zne (by decide))).trans ((ju_i _ _ (zne (by decide))).trans ((ju_i _ _ (zne (by decide))).trans (ju_same _ _ _ _))))) (by omega) (show (ju (ju (ju (ju (ju M t 7 (((x : Nat) : Int))) t 3 0) t 4 0) t 5 (-1)) t 6 (-1)) x 1 = N from ((ju_i _ _ (zne (by decide))).trans ((ju_i _ _ (zne (by decide))).trans ((ju_i _ _ (zne (by decide))).trans ((ju_i _ _ (zne (by decide))).trans ((ju_i _ _ (zne (by decide))).trans g_N)))))) (show BY8 ((ju (ju (ju (ju (ju M t 7 (((x : Nat) : Int))) t 3 0) t 4 0) t 5 (-1)) t 6 (-1))) (x + 1) f from (BY8.fr p0 k_by (FR.o (FR.o (FR.o (FR.o (FR.o (FR.rfl [(18, 3), (18, 4), (18, 5), (18, 6), (18, 7)] M) k_t rfl) k_t rfl) k_t rfl) k_t rfl) k_t rfl) rfl)) (HC.z ((ju_i _ _ (zne (by decide))).trans ((ju_i _ _ (zne (by decide))).trans ((ju_i _ _ (zne (by decide))).trans (ju_same _ _ _ _))))) (by have hq0 : (ju (ju (ju (ju (ju M t 7 (((x : Nat) : Int))) t 3 0) t 4 0) t 5 (-1)) t 6 (-1)) t 3 = 0 := ((ju_i _ _ (zne (by decide))).trans ((ju_i _ _ (zne (by decide))).trans ((ju_i _ _ (zne (by decide))).trans (ju_same _ _ _ _)))); have hq1 : (ju (ju (ju (ju (ju M t 7 (((x : Nat) : Int))) t 3 0) t 4 0) t 5 (-1)) t 6 (-1)) t 4 = 0 := ((ju_i _ _ (zne (by decide))).trans ((ju_i _ _ (zne (by decide))).trans (ju_same _ _ _ _))); have hq2 : (ju (ju (ju (ju (ju M t 7 (((x : Nat) : Int))) t 3 0) t 4 0) t 5 (-1)) t 6 (-1)) t 5 = -1 := ((ju_i _ _ (zne (by decide))).trans (ju_same _ _ _ _)); have hq3 : (ju (ju (ju (ju (ju M t 7 (((x : Nat) : Int))) t 3 0) t 4 0) t 5 (-1)) t 6 (-1)) t 6 = -1 := (ju_same _ _ _ _); omega) (HP.z (((ju_i _ _ (zne (by decide))).trans ((ju_i _ _ (zne (by decide))).trans ((ju_i _ _ (zne (by decide))).trans (ju_same _ _ _ _))))) (((ju_i _ _ (zne (by decide))).trans ((ju_i _ _ (zne (by decide))).trans (ju_same _ _ _ _)))) (((ju_i _ _ (zne (by decide))).trans (ju_same _ _ _ _))) ((ju_same _ _ _ _))) (by omega) (by omega)
  · refine jr.aload_n rfl rfl ?_
    refine jr.iconst rfl ?_
    refine jr.putf (i := 4) (x := 2) rfl rfl (Nat.lt_trans (kx_18 k_t).1 (by decide)) (kx_18 k_t).2 (by decide) rfl rfl rfl rfl rfl ?_
    exact jr.vreturn rfl rfl (q _ (CI.u (CI.u (CI.u (CI.u (CI.u (CI.w (v := ((x : Nat) : Int)) hC_M (i := 7) k_t (show (0 : Int) ≤ _ ∧ _ ≤ (597 : Int) from by have hk := kd_lt (a := (((x : Nat) : Int)).toNat) (by rw [(show kd (((x : Nat) : Int)).toNat = 33 from k_x)]; decide); omega) (show kd (((x : Nat) : Int)).toNat = 33 from k_x)) (i := 3) k_t (show (0 : Int) ≤ _ ∧ _ ≤ (12 : Int) from by omega) rfl) (i := 4) k_t (show (-2147483648 : Int) ≤ _ ∧ _ ≤ (2147483647 : Int) from by omega) rfl) (i := 5) k_t (show (-2147483648 : Int) ≤ _ ∧ _ ≤ (2147483647 : Int) from by omega) rfl) (i := 6) k_t (show (-2147483648 : Int) ≤ _ ∧ _ ≤ (2147483647 : Int) from by omega) rfl) (i := 4) k_t (show (-2147483648 : Int) ≤ _ ∧ _ ≤ (2147483647 : Int) from by omega) rfl) (FR.o (FR.o (FR.o (FR.o (FR.o (FR.o ht_M k_t rfl) k_t rfl) k_t rfl) k_t rfl) k_t rfl) k_t rfl)  (HC.z ((ju_i _ _ (zne (by decide))).trans ((ju_i _ _ (zne (by decide))).trans ((ju_i _ _ (zne (by decide))).trans ((ju_i _ _ (zne (by decide))).trans (ju_same _ _ _ _)))))) (Or.inl ⟨by omega, ((ju_i _ _ (zne (by decide))).trans ((ju_i _ _ (zne (by decide))).trans ((ju_i _ _ (zne (by decide))).trans ((ju_i _ _ (zne (by decide))).trans (ju_same _ _ _ _))))), (ju_same _ _ _ _), ((ju_i _ _ (zne (by decide))).trans ((ju_i _ _ (zne (by decide))).trans (ju_same _ _ _ _))), ((ju_i _ _ (zne (by decide))).trans (ju_same _ _ _ _))⟩) (((ju_i _ _ (zne (by decide))).trans ((ju_i _ _ (zne (by decide))).trans ((ju_i _ _ (zne (by decide))).trans ((ju_i _ _ (zne (by decide))).trans ((ju_i _ _ (zne (by decide))).trans (ju_same _ _ _ _))))))))
end
