section
theorem nxD_s {f : Int → Int} {N i : Int} (h : 0 ≤ i) : nxD f N (i + 1).toNat = if hX f N i = 2 ∨ hX f N i = 3 then i else nxD f N i.toNat := by
  obtain ⟨n, rfl⟩ := Int.eq_ofNat_of_zero_le h
  rw [show ((n : Int) + 1).toNat = n + 1 by omega, show ((n : Int)).toNat = n by omega]
  rfl
theorem nxD_e {f : Int → Int} {N i : Int} (h : i < 0) : nxD f N (i + 1).toNat = -1 := by
  rw [show (i + 1).toNat = 0 by omega]
  rfl
/-- the first net, the header behind it -/
noncomputable def ntf (f : Int → Int) (N C : Int) : Int := nxN f N C.toNat 0
noncomputable def inf (f : Int → Int) (N C x : Int) : Int := nxI f N (C - (x + 1)).toNat (x + 1)
theorem nxN_r (f : Int → Int) (N : Int) : ∀ (n : Nat) (i : Int), 0 ≤ i → nxN f N n i = -1 ∨ (i ≤ nxN f N n i ∧ nxN f N n i < i + n ∧ (hX f N (nxN f N n i) = 2 ∨ hX f N (nxN f N n i) = 3)) := by
  intro n
  induction n with
  | zero => intro i _; exact Or.inl rfl
  | succ n ih =>
    intro i h0
    unfold nxN
    by_cases q : hX f N i = 2 ∨ hX f N i = 3
    · rw [if_pos q]
      exact Or.inr ⟨Int.le_refl _, by omega, q⟩
    · rw [if_neg q]
      rcases ih (i + 1) (by omega) with r | r
      · exact Or.inl r
      · exact Or.inr ⟨by omega, by omega, r.2.2⟩
theorem ntf_r {f : Int → Int} {N C : Int} (hC : 0 ≤ C) : ntf f N C = -1 ∨ ((0 ≤ ntf f N C ∧ ntf f N C < C) ∧ (hX f N (ntf f N C) = 2 ∨ hX f N (ntf f N C) = 3)) := by
  rcases nxN_r f N C.toNat 0 (Int.le_refl _) with r | r
  · exact Or.inl r
  · exact Or.inr ⟨⟨r.1, by unfold ntf; omega⟩, r.2.2⟩
theorem nxI_r (f : Int → Int) (N : Int) : ∀ (n : Nat) (i : Int), 0 ≤ i → nxI f N n i = -1 ∨ (i ≤ nxI f N n i ∧ nxI f N n i < i + n ∧ ¬ (hX f N (nxI f N n i) = 4 ∨ hX f N (nxI f N n i) = 5)) := by
  intro n
  induction n with
  | zero => intro i _; exact Or.inl rfl
  | succ n ih =>
    intro i h0
    unfold nxI
    by_cases q : hX f N i = 4 ∨ hX f N i = 5
    · rw [if_pos q]
      rcases ih (i + 1) (by omega) with r | r
      · exact Or.inl r
      · exact Or.inr ⟨by omega, by omega, r.2.2⟩
    · rw [if_neg q]
      exact Or.inr ⟨Int.le_refl _, by omega, q⟩
theorem inf_r {f : Int → Int} {N C x : Int} (hx : 0 ≤ x) : inf f N C x = -1 ∨ ((x < inf f N C x ∧ inf f N C x < C) ∧ ¬ (hX f N (inf f N C x) = 4 ∨ hX f N (inf f N C x) = 5)) := by
  rcases nxI_r f N (C - (x + 1)).toNat (x + 1) (by omega) with r | r
  · exact Or.inl r
  · refine Or.inr ⟨⟨?_, ?_⟩, r.2.2⟩
    · unfold inf; omega
    · by_cases q : x + 1 < C
      · unfold inf; omega
      · have := nxI_e (f := f) (N := N) (C := C) (i := x + 1) (by omega)
        have r1 := r.1
        rw [this] at r1
        omega
theorem nxD_r (f : Int → Int) (N : Int) : ∀ n : Nat, nxD f N n = -1 ∨ (0 ≤ nxD f N n ∧ nxD f N n < n ∧ (hX f N (nxD f N n) = 2 ∨ hX f N (nxD f N n) = 3)) := by
  intro n
  induction n with
  | zero => exact Or.inl rfl
  | succ n ih =>
    unfold nxD
    by_cases q : hX f N (n : Int) = 2 ∨ hX f N (n : Int) = 3
    · rw [if_pos q]
      exact Or.inr ⟨by omega, by omega, q⟩
    · rw [if_neg q]
      rcases ih with r | r
      · exact Or.inl r
      · exact Or.inr ⟨r.1, by omega, r.2.2⟩
/-- flags, offset of a piece -/
noncomputable def mrf (f : Int → Int) (N C x : Int) : Int := vA f N C x (if kA f N C x = 2 then 4 else 2) % 2
noncomputable def ofs (f : Int → Int) (N C x : Int) : Int := 8 * vA f N C x (if kA f N C x = 2 then 5 else 1)
/-- the header that makes a packet a piece -/
noncomputable def pcf (f : Int → Int) (N C : Int) : Int := if ntf f N C = -1 then -1 else if kA f N C (ntf f N C) = 2 then (if mrf f N C (ntf f N C) = 1 ∨ 0 < ofs f N C (ntf f N C) then ntf f N C else -1) else if kA f N C (inf f N C (ntf f N C)) = 6 then inf f N C (ntf f N C) else -1
noncomputable def adf (f : Int → Int) (N C x s : Int) : Int := vA f N C x ((if kA f N C x = 2 then 9 else 5) + s)
theorem kA_i {f : Int → Int} {N C x : Int} (h : 0 ≤ x ∧ x < C) : kA f N C x = hX f N x := by
  unfold kA
  rw [if_pos h]
theorem c_PacketWall_isCarriedKind_x {A : Nat → Option (Nat × (Nat → Int32))} {Q : Option Value → jm → Prop} {M : jm} (hC_M : CI M) {x : Int} (h_x : (-2147483648) ≤ x ∧ x ≤ 2147483647) (q : ∀ (r : Int), 0 ≤ r ∧ r ≤ 1 → (r = 0 ∨ (7 ≤ x ∧ x ≤ 9)) → ((r = 1 ∧ (7 ≤ x ∧ x ≤ 9)) ∨ (r = 0 ∧ (x < 7 ∨ 9 < x))) → Q (some (.int (Int32.ofInt r))) M) : jc A 1 51 [.int (Int32.ofInt (x))] M Q := by
  refine jc_of (m := xm_51) rfl (Nat.le_of_ble_eq_true rfl) rfl ?_
  refine jr.iload_n rfl rfl ?_
  refine jr.bipush rfl (by decide) ?_
  refine jr.icmp_eq rfl rfl (by omega) (by omega) (fun h3 => ?_) (fun h3 => ?_)
  · refine jr.iconst rfl ?_
    refine jr.goto rfl rfl ?_
    exact jr.ireturn rfl rfl rfl (q _ (by omega) (by omega) (by omega))
  · refine jr.iload_n rfl rfl ?_
    refine jr.bipush rfl (by decide) ?_
    refine jr.icmp_eq rfl rfl (by omega) (by omega) (fun h9 => ?_) (fun h9 => ?_)
    · refine jr.iconst rfl ?_
      refine jr.goto rfl rfl ?_
      exact jr.ireturn rfl rfl rfl (q _ (by omega) (by omega) (by omega))
    · refine jr.iload_n rfl rfl ?_
      refine jr.bipush rfl (by decide) ?_
      refine jr.icmp_ne rfl rfl (by omega) (by omega) (fun h15 => ?_) (fun h15 => ?_)
      · refine jr.iconst rfl ?_
        exact jr.ireturn rfl rfl rfl (q _ (by omega) (by omega) (by omega))
      · refine jr.iconst rfl ?_
        refine jr.goto rfl rfl ?_
        exact jr.ireturn rfl rfl rfl (q _ (by omega) (by omega) (by omega))
theorem c_Headers_firstOf_x_L2 {A : Nat → Option (Nat × (Nat → Int32))} {Q : Option Value → jm → Prop} {f : Int → Int} {N : Int} {M : jm} (hC_M : CI M) {t : Nat} (k_t : kd t = 18) {C : Int} {x : Int} (q : ∀ (r : Int), (-1) ≤ r ∧ r ≤ 11 → (r = ntf f N C) → Q (some (.int (Int32.ofInt r))) M) : ∀ (nM : Nat) (i : Int), 12 ≤ x ∧ x ≤ 12 → 0 ≤ i ∧ i ≤ 12 → M t 3 = C → (HS M t f N) → (ntf f N C = nxN f N (C - i).toNat i) → 12 - i ≤ nM → jr A 1 xm_111 2 [(1, .int (Int32.ofInt (x))), (2, .int (Int32.ofInt (i))), (0, .ref (t))] [] M Q := by
  intro nM
  induction nM using Nat.strongRecOn with
  | ind nM ih =>
    intro i h_x h_i g_C hy0 hy1 hm
    have b_C : 0 ≤ C ∧ C ≤ 12 := by rw [← g_C]; exact (CI.r hC_M k_t (by decide) 3)
    refine jr.iload_n rfl rfl ?_
    refine jr.aload_n rfl rfl ?_
    refine jr.getf (i := 3) (x := C) (v := .int (Int32.ofInt (C))) rfl rfl (Nat.lt_trans (kx_18 k_t).1 (by decide)) (kx_18 k_t).2 (by decide) rfl rfl g_C rfl ?_
    refine jr.icmp_ge rfl rfl (by omega) (by omega) (fun h7 => ?_) (fun h7 => ?_)
    · refine jr.iconst rfl ?_
      exact jr.ireturn rfl rfl rfl (q _ (by omega) (by rw [hy1, nxN_e (by omega)]))
    · refine jr.aload_n rfl rfl ?_
      have k1 := kf_18_0 k_t
      refine jr.getf (i := 0) (v := .ref (t + 1)) rfl rfl (Nat.lt_trans (kx_18 k_t).1 (by decide)) (kx_18 k_t).2 (by decide) rfl rfl rfl (jval_ref rfl k1.1) ?_
      refine jr.iload_n rfl rfl ?_
      obtain ⟨v2, e2⟩ : ∃ z_, M ((t + 1)) i = z_ := ⟨_, rfl⟩
      have b2 : 0 ≤ v2 ∧ v2 ≤ 11 := by rw [← e2]; exact (CI.r hC_M k1.2 (by decide) i)
      refine jr.iald (i := i) (x := v2) rfl (Nat.lt_trans (kx_19 k1.2).1 (by decide)) (kx_19 k1.2).2 (by decide) (by omega) (by omega) e2 ?_
      have hr := hy0.2.2.2.2.1 i (by omega) (by omega)
      refine jr.iload_n rfl rfl ?_
      refine jr.icmp_eq rfl rfl (by omega) (by omega) (fun h17 => ?_) (fun h17 => ?_)
      · exact absurd h17 (by omega)
      · refine jr.iload_n rfl rfl ?_
        refine jr.bipush rfl (by decide) ?_
        refine jr.icmp_ne rfl rfl (by omega) (by omega) (fun h23 => ?_) (fun h23 => ?_)
        · exact absurd h23 (by omega)
        · refine jr.aload_n rfl rfl ?_
          have k3 := kf_18_0 k_t
          refine jr.getf (i := 0) (v := .ref (t + 1)) rfl rfl (Nat.lt_trans (kx_18 k_t).1 (by decide)) (kx_18 k_t).2 (by decide) rfl rfl rfl (jval_ref rfl k3.1) ?_
          refine jr.iload_n rfl rfl ?_
          refine jr.iald (i := i) (x := v2) rfl (Nat.lt_trans (kx_19 k3.2).1 (by decide)) (kx_19 k3.2).2 (by decide) (by omega) (by omega) e2 ?_
          refine jr_s rfl rfl (Or.inr rfl) ⟨Nat.le_of_ble_eq_true rfl, Nat.le_of_ble_eq_true rfl⟩ rfl rfl (jc.deep (c_PacketWall_isNetKind_x hC_M (by omega) (fun r4 z4 w4_0 w4_1 => ?_)) (by decide))
          refine jr.if_ne rfl rfl (by omega) (fun h35 => ?_) (fun h35 => ?_)
          · have sx35 : (1 : Int) ≤ r4 := by omega
            refine jr.iload_n rfl rfl ?_
            exact jr.ireturn rfl rfl rfl (q _ (by omega) (by rw [hy1, nxN_s (by omega), if_pos (by omega)]))
          · refine jr.iload_n rfl rfl ?_
            refine jr.bipush rfl (by decide) ?_
            refine jr.icmp_ne rfl rfl (by omega) (by omega) (fun h41 => ?_) (fun h41 => ?_)
            · refine jr.iinc rfl rfl (by decide) rfl ?_
              refine jr.goto rfl rfl ?_
              refine jr.pick [1, 0, 2] rfl rfl ?_
              exact ih (nM - 1) (by omega) (i + 1) (by omega) (by omega) g_C hy0 (by rw [hy1, nxN_s (by omega), if_neg (by omega)]) (by omega)
            · exact absurd (by omega) h41
theorem c_Headers_firstOf_x {A : Nat → Option (Nat × (Nat → Int32))} {Q : Option Value → jm → Prop} {f : Int → Int} {N : Int} {M : jm} (hC_M : CI M) {t : Nat} (k_t : kd t = 18) {x : Int} (h_x : 12 ≤ x ∧ x ≤ 12) {C : Int} (g_C : M t 3 = C) (p0 : HS M t f N) (q : ∀ (r : Int), (-1) ≤ r ∧ r ≤ 11 → (r = ntf f N C) → Q (some (.int (Int32.ofInt r))) M) : jc A 2 111 [.ref (t), .int (Int32.ofInt (x))] M Q := by
  refine jc_of (m := xm_111) rfl (Nat.le_of_ble_eq_true rfl) rfl ?_
  have b_C : 0 ≤ C ∧ C ≤ 12 := by rw [← g_C]; exact (CI.r hC_M k_t (by decide) 3)
  refine jr.iconst rfl ?_
  refine jr.istore_n rfl (by decide) rfl ?_
  refine jr.pick [2, 0, 1] rfl rfl ?_
  exact c_Headers_firstOf_x_L2 hC_M k_t q 12 0 (by omega) (by omega) g_C p0 (by unfold ntf; rw [show C - 0 = C from by omega]) (by omega)
end
