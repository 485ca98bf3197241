section
/-! ===== the class: searches among headers ===== -/
noncomputable def nxN (f : Int → Int) (N : Int) : Nat → Int → Int
  | 0, _ => -1
  | n + 1, i => if hX f N i = 2 ∨ hX f N i = 3 then i else nxN f N n (i + 1)
noncomputable def nxI (f : Int → Int) (N : Int) : Nat → Int → Int
  | 0, _ => -1
  | n + 1, i => if hX f N i = 4 ∨ hX f N i = 5 then nxI f N n (i + 1) else i
noncomputable def nxD (f : Int → Int) (N : Int) : Nat → Int
  | 0 => -1
  | n + 1 => if hX f N (n : Int) = 2 ∨ hX f N (n : Int) = 3 then (n : Int) else nxD f N n
theorem nxN_s {f : Int → Int} {N C i : Int} (h : i < C) : nxN f N (C - i).toNat i = if hX f N i = 2 ∨ hX f N i = 3 then i else nxN f N (C - (i + 1)).toNat (i + 1) := by
  obtain ⟨n, hn⟩ : ∃ n : Nat, C = i + 1 + n := ⟨(C - i - 1).toNat, by omega⟩
  subst hn
  rw [show (i + 1 + (n : Int) - i).toNat = n + 1 by omega, show (i + 1 + (n : Int) - (i + 1)).toNat = n by omega]
  rfl
theorem nxN_e {f : Int → Int} {N C i : Int} (h : C ≤ i) : nxN f N (C - i).toNat i = -1 := by
  rw [show (C - i).toNat = 0 by omega]
  rfl
theorem nxI_s {f : Int → Int} {N C i : Int} (h : i < C) : nxI f N (C - i).toNat i = if hX f N i = 4 ∨ hX f N i = 5 then nxI f N (C - (i + 1)).toNat (i + 1) else i := by
  obtain ⟨n, hn⟩ : ∃ n : Nat, C = i + 1 + n := ⟨(C - i - 1).toNat, by omega⟩
  subst hn
  rw [show (i + 1 + (n : Int) - i).toNat = n + 1 by omega, show (i + 1 + (n : Int) - (i + 1)).toNat = n by omega]
  rfl
theorem nxI_e {f : Int → Int} {N C i : Int} (h : C ≤ i) : nxI f N (C - i).toNat i = -1 := by
  rw [show (C - i).toNat = 0 by omega]
  rfl
theorem nxD_s {f : Int → Int} {N i : Int} (h : 0 ≤ i) : nxD f N (i + 1).toNat = if hX f N i = 2 ∨ hX f N i = 3 then i else nxD f N i.toNat := by
  obtain ⟨n, rfl⟩ := Int.eq_ofNat_of_zero_le h
  rw [show ((n : Int) + 1).toNat = n + 1 by omega, show ((n : Int)).toNat = n by omega]
  rfl
theorem nxD_e {f : Int → Int} {N i : Int} (h : i < 0) : nxD f N (i + 1).toNat = -1 := by
  rw [show (i + 1).toNat = 0 by omega]
  rfl
/-- the first net, the header behind it -/
noncomputable def ntf (f : Int → Int) (N C : Int) : Int := nxN f N C.toNat 0
noncomputable def inf (f : Int → Int) (N C x : Int) : Int := nxI f N (C - (x + 1)).toNat (x + 1)
theorem nxN_r (f : Int → Int) (N : Int) : ∀ (n : Nat) (i : Int), 0 ≤ i → nxN f N n i = -1 ∨ (i ≤ nxN f N n i ∧ nxN f N n i < i + n ∧ (hX f N (nxN f N n i) = 2 ∨ hX f N (nxN f N n i) = 3)) := by
  intro n
  induction n with
  | zero => intro i _; exact Or.inl rfl
  | succ n ih =>
    intro i h0
    unfold nxN
    by_cases q : hX f N i = 2 ∨ hX f N i = 3
    · rw [if_pos q]
      exact Or.inr ⟨Int.le_refl _, by omega, q⟩
    · rw [if_neg q]
      rcases ih (i + 1) (by omega) with r | r
      · exact Or.inl r
      · exact Or.inr ⟨by omega, by omega, r.2.2⟩
theorem ntf_r {f : Int → Int} {N C : Int} (hC : 0 ≤ C) : ntf f N C = -1 ∨ ((0 ≤ ntf f N C ∧ ntf f N C < C) ∧ (hX f N (ntf f N C) = 2 ∨ hX f N (ntf f N C) = 3)) := by
  rcases nxN_r f N C.toNat 0 (Int.le_refl _) with r | r
  · exact Or.inl r
  · exact Or.inr ⟨⟨r.1, by unfold ntf; omega⟩, r.2.2⟩
theorem nxI_r (f : Int → Int) (N : Int) : ∀ (n : Nat) (i : Int), 0 ≤ i → nxI f N n i = -1 ∨ (i ≤ nxI f N n i ∧ nxI f N n i < i + n ∧ ¬ (hX f N (nxI f N n i) = 4 ∨ hX f N (nxI f N n i) = 5)) := by
  intro n
  induction n with
  | zero => intro i _; exact Or.inl rfl
  | succ n ih =>
    intro i h0
    unfold nxI
    by_cases q : hX f N i = 4 ∨ hX f N i = 5
    · rw [if_pos q]
      rcases ih (i + 1) (by omega) with r | r
      · exact Or.inl r
      · exact Or.inr ⟨by omega, by omega, r.2.2⟩
    · rw [if_neg q]
      exact Or.inr ⟨Int.le_refl _, by omega, q⟩
theorem inf_r {f : Int → Int} {N C x : Int} (hx : 0 ≤ x) : inf f N C x = -1 ∨ ((x < inf f N C x ∧ inf f N C x < C) ∧ ¬ (hX f N (inf f N C x) = 4 ∨ hX f N (inf f N C x) = 5)) := by
  rcases nxI_r f N (C - (x + 1)).toNat (x + 1) (by omega) with r | r
  · exact Or.inl r
  · refine Or.inr ⟨⟨?_, ?_⟩, r.2.2⟩
    · unfold inf; omega
    · by_cases q : x + 1 < C
      · unfold inf; omega
      · have := nxI_e (f := f) (N := N) (C := C) (i := x + 1) (by omega)
        have r1 := r.1
        rw [this] at r1
        omega
theorem nxD_r (f : Int → Int) (N : Int) : ∀ n : Nat, nxD f N n = -1 ∨ (0 ≤ nxD f N n ∧ nxD f N n < n ∧ (hX f N (nxD f N n) = 2 ∨ hX f N (nxD f N n) = 3)) := by
  intro n
  induction n with
  | zero => exact Or.inl rfl
  | succ n ih =>
    unfold nxD
    by_cases q : hX f N (n : Int) = 2 ∨ hX f N (n : Int) = 3
    · rw [if_pos q]
      exact Or.inr ⟨by omega, by omega, q⟩
    · rw [if_neg q]
      rcases ih with r | r
      · exact Or.inl r
      · exact Or.inr ⟨r.1, by omega, r.2.2⟩
/-- flags, offset of a piece -/
noncomputable def mrf (f : Int → Int) (N C x : Int) : Int := vA f N C x (if kA f N C x = 2 then 4 else 2) % 2
noncomputable def ofs (f : Int → Int) (N C x : Int) : Int := 8 * vA f N C x (if kA f N C x = 2 then 5 else 1)
/-- the header that makes a packet a piece -/
noncomputable def pcf (f : Int → Int) (N C : Int) : Int := if ntf f N C = -1 then -1 else if kA f N C (ntf f N C) = 2 then (if mrf f N C (ntf f N C) = 1 ∨ 0 < ofs f N C (ntf f N C) then ntf f N C else -1) else if kA f N C (inf f N C (ntf f N C)) = 6 then inf f N C (ntf f N C) else -1
noncomputable def adf (f : Int → Int) (N C x s : Int) : Int := vA f N C x ((if kA f N C x = 2 then 9 else 5) + s)
theorem kA_i {f : Int → Int} {N C x : Int} (h : 0 ≤ x ∧ x < C) : kA f N C x = hX f N x := by
  unfold kA
  rw [if_pos h]
theorem c_PacketWall_isCarriedKind_x {A : Nat → Option (Nat × (Nat → Int32))} {Q : Option Value → jm → Prop} {M : jm} (hC_M : CI M) {x : Int} (h_x : (-2147483648) ≤ x ∧ x ≤ 2147483647) (q : ∀ (r : Int), 0 ≤ r ∧ r ≤ 1 → (r = 0 ∨ (7 ≤ x ∧ x ≤ 9)) → ((r = 1 ∧ (7 ≤ x ∧ x ≤ 9)) ∨ (r = 0 ∧ (x < 7 ∨ 9 < x))) → Q (some (.int (Int32.ofInt r))) M) : jc A 1 51 [.int (Int32.ofInt (x))] M Q := by
  refine jc_of (m := xm_51) rfl (Nat.le_of_ble_eq_true rfl) rfl ?_
  refine jr.iload_n rfl rfl ?_
  refine jr.bipush rfl (by decide) ?_
  refine jr.icmp_eq rfl rfl (by omega) (by omega) (fun h3 => ?_) (fun h3 => ?_)
  · refine jr.iconst rfl ?_
    refine jr.goto rfl rfl ?_
    exact jr.ireturn rfl rfl rfl (q _ (by omega) (by omega) (by omega))
  · refine jr.iload_n rfl rfl ?_
    refine jr.bipush rfl (by decide) ?_
    refine jr.icmp_eq rfl rfl (by omega) (by omega) (fun h9 => ?_) (fun h9 => ?_)
    · refine jr.iconst rfl ?_
      refine jr.goto rfl rfl ?_
      exact jr.ireturn rfl rfl rfl (q _ (by omega) (by omega) (by omega))
    · refine jr.iload_n rfl rfl ?_
      refine jr.bipush rfl (by decide) ?_
      refine jr.icmp_ne rfl rfl (by omega) (by omega) (fun h15 => ?_) (fun h15 => ?_)
      · refine jr.iconst rfl ?_
        exact jr.ireturn rfl rfl rfl (q _ (by omega) (by omega) (by omega))
      · refine jr.iconst rfl ?_
        refine jr.goto rfl rfl ?_
        exact jr.ireturn rfl rfl rfl (q _ (by omega) (by omega) (by omega))
end
