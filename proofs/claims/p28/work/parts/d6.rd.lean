/-! ===== signs between operands ===== -/
noncomputable def HD (l : List (Int × Int × Int × Int)) : Prop := ∃ (a w n e : Int) (r : List (Int × Int × Int × Int)), l = (a, w, n, e) :: r ∧ a ≠ 20
section ZU
variable {M M' : jm} {s0 : List (Int × Int × Int × Int)} {c v : Int}
/-- the pile without its last -/
theorem abr_s (s0 : List (Int × Int × Int × Int)) (e : M 598 102 = c) (h0 : 0 < c) : abr M s0 = (if M 664 (c - 1) = 40 then ((21, M 666 (c - 1), M 667 (c - 1), (abr (ju M 598 102 (c - 1)) s0).2) :: (abr (ju M 598 102 (c - 1)) s0).1, 0) else if M 664 (c - 1) = 10 ∨ M 664 (c - 1) = 11 then ((20, 0, 0, 0) :: (abr (ju M 598 102 (c - 1)) s0).1, (abr (ju M 598 102 (c - 1)) s0).2) else if strn (M 664 (c - 1)) = 3 then ((abr (ju M 598 102 (c - 1)) s0).1, 1) else if strn (M 664 (c - 1)) ≤ 2 then ((abr (ju M 598 102 (c - 1)) s0).1, 0) else abr (ju M 598 102 (c - 1)) s0) := by
  obtain ⟨m, hm⟩ : ∃ m : Nat, c = (m : Int) + 1 := ⟨(c - 1).toNat, by omega⟩
  have hz : abr (ju M 598 102 (c - 1)) s0 = zab (M 664) (M 666) (M 667) s0 m := by
    unfold abr
    rw [ju_same, show (c - 1).toNat = m by omega, show (ju M 598 102 (c - 1)) 664 = M 664 from jw_o (by decide), show (ju M 598 102 (c - 1)) 666 = M 666 from jw_o (by decide), show (ju M 598 102 (c - 1)) 667 = M 667 from jw_o (by decide)]
  rw [hz, show c - 1 = (m : Int) by omega]
  show zab (M 664) (M 666) (M 667) s0 (M 598 102).toNat = _
  rw [e, show c.toNat = m + 1 by omega]
  rw [zab]
theorem abr_u (s0 : List (Int × Int × Int × Int)) (e : M 598 102 = c) (h0 : 0 < c) (e4 : M 664 (c - 1) = v) (hu : v = 10 ∨ v = 11) : abr M s0 = ((20, 0, 0, 0) :: (abr (ju M 598 102 (c - 1)) s0).1, (abr (ju M 598 102 (c - 1)) s0).2) := by
  rw [abr_s s0 e h0, e4, if_neg (by omega), if_pos hu]
theorem abr_o (s0 : List (Int × Int × Int × Int)) (e : M 598 102 = c) (h0 : 0 < c) (e4 : M 664 (c - 1) = 40) : abr M s0 = ((21, M 666 (c - 1), M 667 (c - 1), (abr (ju M 598 102 (c - 1)) s0).2) :: (abr (ju M 598 102 (c - 1)) s0).1, 0) := by
  rw [abr_s s0 e h0, if_pos e4]
theorem abr_b (s0 : List (Int × Int × Int × Int)) (e : M 598 102 = c) (h0 : 0 < c) (e4 : M 664 (c - 1) = v) (hv : v ≠ 40 ∧ v ≠ 10 ∧ v ≠ 11) : (abr M s0).1 = (abr (ju M 598 102 (c - 1)) s0).1 ∧ (4 ≤ strn v → (abr M s0).2 = (abr (ju M 598 102 (c - 1)) s0).2) := by
  rw [abr_s s0 e h0, e4, if_neg (by omega), if_neg (by omega)]
  split
  · exact ⟨rfl, fun q => by omega⟩
  · split
    · exact ⟨rfl, fun q => by omega⟩
    · exact ⟨rfl, fun _ => rfl⟩
theorem strn_40 : strn 40 = 0 := by decide
theorem strn_u {x : Int} (h : x = 10 ∨ x = 11) : strn x = 6 := by rcases h with rfl | rfl <;> decide
/-- the comparison that waits -/
theorem abr_20 (s0 : List (Int × Int × Int × Int)) (e : M 598 102 = c) (hc : 0 ≤ c) (h : c = 0 ∨ strn (M 664 (c - 1)) ≤ 2) : (abr M s0).2 = 0 := by
  by_cases h0 : c = 0
  · unfold abr
    rw [e, h0]
    rfl
  · have h2 : strn (M 664 (c - 1)) ≤ 2 := h.resolve_left h0
    rw [abr_s s0 e (by omega)]
    by_cases q4 : M 664 (c - 1) = 40
    · rw [if_pos q4]
    · have q5 : ¬ (M 664 (c - 1) = 10 ∨ M 664 (c - 1) = 11) := fun q => by
        have := strn_u q
        omega
      have q6 : ¬ strn (M 664 (c - 1)) = 3 := by omega
      rw [if_neg q4, if_neg q5, if_neg q6, if_pos h2]
theorem abr_21 (s0 : List (Int × Int × Int × Int)) (e : M 598 102 = c) (h0 : 0 < c) (h : strn (M 664 (c - 1)) = 3) : (abr M s0).2 = 1 := by
  have q4 : ¬ M 664 (c - 1) = 40 := fun q => by
    rw [q] at h
    exact absurd h (by decide)
  have q5 : ¬ (M 664 (c - 1) = 10 ∨ M 664 (c - 1) = 11) := fun q => by
    have := strn_u q
    omega
  rw [abr_s s0 e h0, if_neg q4, if_neg q5, if_pos h]
/-- where no sign of one waits on top, none waits for the machine -/
theorem abr_hd (hs : HD s0) (h : NU M) (e : M 598 102 = c) (hc : 0 ≤ c) (ht : c = 0 ∨ ¬ (M 664 (c - 1) = 10 ∨ M 664 (c - 1) = 11)) : HD (abr M s0).1 := by
  obtain ⟨n, rfl⟩ := Int.eq_ofNat_of_zero_le hc
  induction n generalizing M with
  | zero =>
    unfold abr
    rw [e]
    exact hs
  | succ n ih =>
    have ht2 : ¬ (M 664 (((n + 1 : Nat) : Int) - 1) = 10 ∨ M 664 (((n + 1 : Nat) : Int) - 1) = 11) := ht.resolve_left (by omega)
    by_cases h4 : M 664 (((n + 1 : Nat) : Int) - 1) = 40
    · rw [abr_o s0 e (by omega) h4]
      exact ⟨21, _, _, _, _, rfl, by decide⟩
    · rw [(abr_b s0 e (by omega) rfl ⟨h4, fun q => ht2 (Or.inl q), fun q => ht2 (Or.inr q)⟩).1]
      refine ih (NU.pop h e) ?_ (by omega) ?_
      · rw [ju_same]
        omega
      · by_cases hn : n = 0
        · exact Or.inl (by omega)
        · refine Or.inr (fun q => ?_)
          rw [ju_c _ _ (by decide)] at q
          have q2 := h ((n : Int) - 1) (by omega) (by omega) q
          rw [show (n : Int) - 1 + 1 = ((n + 1 : Nat) : Int) - 1 by omega] at q2
          rcases q2 with q2 | q2 | q2
          · exact ht2 (Or.inl q2)
          · exact ht2 (Or.inr q2)
          · exact h4 q2
theorem zrs_s {x : Int} (h0 : x ≠ 10) (h1 : x ≠ 11) : (strn x = 0 → zrs x = 9) ∧ (strn x ≠ 0 → zrs x = strn x - 1) := by
  by_cases h : x = 124 ∨ x = 38 ∨ x = 61 ∨ x = 60 ∨ x = 62 ∨ x = 43 ∨ x = 45 ∨ x = 42 ∨ x = 47 ∨ x = 37
  · rcases h with rfl | rfl | rfl | rfl | rfl | rfl | rfl | rfl | rfl | rfl <;> exact ⟨by decide, by decide⟩
  · have e1 : strn x = 0 := by
      unfold strn
      rw [if_neg (by omega), if_neg (by omega), if_neg (by omega), if_neg (by omega), if_neg (by omega), if_neg (by omega)]
    have e2 : zrs x = 9 := by
      unfold zrs
      rw [if_neg (by omega), if_neg (by omega), if_neg (by omega), if_neg (by omega), if_neg (by omega)]
    exact ⟨fun _ => e2, fun q => absurd e1 q⟩
end ZU
noncomputable def ABQ (y : Int) (M M' : jm) (s0 : List (Int × Int × Int × Int)) : Prop := 4 ≤ y → (abr M' s0).2 = (abr M s0).2
theorem zr.es {f : Int → Int} {N : Int} {x : ZS} {m t k d c b k' d' : Int} {s s' : List (Int × Int × Int × Int)} {nm ak : List Int} (h : zr f N x (m, t, k, d, c, b, s, nm, ak)) (e3 : k' = k) (e4 : d' = d) (es : s' = s) : zr f N x (m, t, k', d', c, b, s', nm, ak) := by
  rw [e3, e4, es]
  exact h
theorem r_reduce_L0_z {A : Nat → Option (Nat × (Nat → Int32))} {Q : Option Value → jm → Prop} {f : Int → Int} {N : Int} {b kk : Int} {xs : ZS} {t cc bh : Int} {s0 : List (Int × Int × Int × Int)} {nm ak : List Int} {M0 : jm} {y0 : Int} (q : ∀ (M' : jm), RI M' → RH M' → RF M' → GS M' b 1 kk → (M' 598 102 = 0 ∨ strn (M' 664 (M' 598 102 - 1)) < y0) → TK M' = TK M0 → CP M0 M' → zr f N xs (3, t, M' 598 89, M' 598 100, cc, bh, (abr M' s0).1, nm, ak) → ABQ y0 M0 M' s0 → NU M' → (∀ (a : Nat) (i : Int), a ≠ 598 → a ≠ 659 → a ≠ 660 → M' a i = M0 a i) → (∀ (i : Int), i ≠ 90 → i ≠ 100 → i ≠ 102 → M' 598 i = M0 598 i) → Q none M') : ∀ (nM : Nat) (M : jm) (y : Int), RI M → RH M → RF M → (∀ (a : Nat) (i : Int), a ≠ 598 → a ≠ 659 → a ≠ 660 → M a i = M0 a i) → (∀ (i : Int), i ≠ 90 → i ≠ 100 → i ≠ 102 → M 598 i = M0 598 i) → 1 ≤ y ∧ y ≤ 6 → GS M b 1 kk → TK M = TK M0 → CP M0 M → zr f N xs (3, t, M 598 89, M 598 100, cc, bh, (abr M s0).1, nm, ak) → ABQ y M0 M s0 → NU M → y = y0 → M 598 102 ≤ nM → jr A 1 xm_355 0 [(1, .int (Int32.ofInt (y))), (0, .ref (598))] [] M Q := by
  intro nM
  induction nM using Nat.strongRecOn with
  | ind nM ih =>
    intro M y hI_M hH_M hS_M hF_M hG_M h_y hy0 hy1 hy2 hy3 hy4 hy5 hy6 hm
    subst hy6
    obtain ⟨gs1, gs2, gs3, gs4, gs5, gs6⟩ := id hy0
    have hE := gs2
    have sl := ES.sgle gs2
    have bb := ES.bb gs2
    have kb := ES.kz gs2
    have b107 : (0 : Int) ≤ M 598 107 ∧ M 598 107 ≤ 16 := hI_M 598 107 (by decide)
    have b73 : (0 : Int) ≤ M 598 73 ∧ M 598 73 ≤ 1600 := hI_M 598 73 (by decide)
    have b88 : (0 : Int) ≤ M 598 88 ∧ M 598 88 ≤ 16 := hI_M 598 88 (by decide)
    have b100 : (0 : Int) ≤ M 598 100 ∧ M 598 100 ≤ 13 := hI_M 598 100 (by decide)
    have hCP := hy2
    have hz := hy3
    have h42 := hy4
    have hNU := hy5
    refine jr.aload_n rfl rfl ?_
    obtain ⟨v1, e1⟩ : ∃ z, M 598 102 = z := ⟨_, rfl⟩
    have b1 : 0 ≤ v1 ∧ v1 ≤ 400 := by rw [← e1]; exact hI_M 598 102 (by decide)
    refine jr.getf (i := 102) (x := v1) (v := .int (Int32.ofInt (v1))) rfl rfl (by decide) rfl (by decide) rfl rfl e1 rfl ?_
    refine jr.if_le rfl rfl (by omega) (fun h4 => ?_) (fun h4 => ?_)
    · exact jr.vreturn rfl rfl (q _ hI_M hH_M hS_M  hy0 (Or.inl (by omega)) hy1 hCP hz h42 hNU (fun a i f598 f659 f660 => (hF_M a i f598 f659 f660)) (fun i g90 g100 g102 => (hG_M i g90 g100 g102)))
    · refine jr.aload_n rfl rfl ?_
      refine jr.getf (i := 103) (v := .ref 664) rfl rfl (by decide) rfl (by decide) rfl rfl rfl rfl ?_
      refine jr.aload_n rfl rfl ?_
      refine jr.getf (i := 102) (x := v1) (v := .int (Int32.ofInt (v1))) rfl rfl (by decide) rfl (by decide) rfl rfl e1 rfl ?_
      refine jr.iconst rfl ?_
      refine jr.isub rfl ?_
      obtain ⟨v2, e2⟩ : ∃ z, M 664 (v1 - 1) = z := ⟨_, rfl⟩
      have b2 : 0 ≤ v2 ∧ v2 ≤ 255 := by rw [← e2]; exact (by have q := hI_M 664 (v1 - 1) (by decide); rw [xri_row rfl rfl] at q; exact q)
      refine jr.iald (i := (v1 - 1)) (x := v2) rfl (by decide) rfl (by decide) (by omega) (by omega) e2 ?_
      refine jr.bipush rfl (by decide) ?_
      refine jr.icmp_eq rfl rfl (by omega) (by omega) (fun h20 => ?_) (fun h20 => ?_)
      · exact jr.vreturn rfl rfl (q _ hI_M hH_M hS_M  hy0 (by rw [e1]; first | exact Or.inr (by rw [e2, h20]; show (0 : Int) < y; omega) | exact Or.inr (by rw [e2]; omega)) hy1 hCP hz h42 hNU (fun a i f598 f659 f660 => (hF_M a i f598 f659 f660)) (fun i g90 g100 g102 => (hG_M i g90 g100 g102)))
      · refine jr.aload_n rfl rfl ?_
        refine jr.getf (i := 103) (v := .ref 664) rfl rfl (by decide) rfl (by decide) rfl rfl rfl rfl ?_
        refine jr.aload_n rfl rfl ?_
        refine jr.getf (i := 102) (x := v1) (v := .int (Int32.ofInt (v1))) rfl rfl (by decide) rfl (by decide) rfl rfl e1 rfl ?_
        refine jr.iconst rfl ?_
        refine jr.isub rfl ?_
        refine jr.iald (i := (v1 - 1)) (x := v2) rfl (by decide) rfl (by decide) (by omega) (by omega) e2 ?_
        refine jr_s rfl rfl (Or.inl rfl) ⟨Nat.le_of_ble_eq_true rfl, Nat.le_of_ble_eq_true rfl⟩ rfl rfl (jc.deep (r_strength hI_M hH_M hS_M (Kp.rfl _) (by omega)  (fun r3 z3 w3_0 => ?_)) (by decide))
        have tp := ES.top gs2 (by omega)
        rw [e1, e2] at tp
        have dp1 := ES.dpos gs2 (by omega)
        rw [e1, e2] at dp1
        have pt1 := ES.ptl gs2 (by omega)
        rw [e1, e2] at pt1
        refine jr.iload_n rfl rfl ?_
        refine jr.icmp_lt rfl rfl (by omega) (by omega) (fun h38 => ?_) (fun h38 => ?_)
        · exact jr.vreturn rfl rfl (q _ hI_M hH_M hS_M  hy0 (by rw [e1]; first | exact Or.inr (by rw [e2, h20]; show (0 : Int) < y; omega) | exact Or.inr (by rw [e2]; omega)) hy1 hCP hz h42 hNU (fun a i f598 f659 f660 => (hF_M a i f598 f659 f660)) (fun i g90 g100 g102 => (hG_M i g90 g100 g102)))
        · refine jr.aload_n rfl rfl ?_
          refine jr.dup rfl rfl ?_
          refine jr.getf (i := 102) (x := v1) (v := .int (Int32.ofInt (v1))) rfl rfl (by decide) rfl (by decide) rfl rfl e1 rfl ?_
          refine jr.iconst rfl ?_
          refine jr.isub rfl ?_
          refine jr.putf (i := 102) (x := (v1 - 1)) rfl rfl (by decide) rfl (by decide) rfl rfl rfl rfl rfl ?_
          refine jr.aload_n rfl rfl ?_
          refine jr.getf (i := 103) (v := .ref 664) rfl rfl (by decide) rfl (by decide) rfl rfl rfl rfl ?_
          refine jr.aload_n rfl rfl ?_
          refine jr.getf (i := 102) (x := (v1 - 1)) (v := .int (Int32.ofInt (v1 - 1))) rfl rfl (by decide) rfl (by decide) rfl rfl (ju_same _ _ _ _) rfl ?_
          refine jr.iald (i := (v1 - 1)) (x := v2) rfl (by decide) rfl (by decide) (by omega) (by omega) ((ju_c _ _ (by decide)).trans e2) ?_
          refine jr.istore_n rfl (by decide) rfl ?_
          refine jr.iload_n rfl rfl ?_
          refine jr.bipush rfl (by decide) ?_
          refine jr.icmp_eq rfl rfl (by omega) (by omega) (fun h64 => ?_) (fun h64 => ?_)
          · refine jr.aload_n rfl rfl ?_
            refine jr.iload_n rfl rfl ?_
            refine jr.lconst (x := 0) rfl (by decide) ?_
            obtain ⟨v4, e4⟩ : ∃ z, M 598 90 = z := ⟨_, rfl⟩
            have b4 : 0 ≤ v4 ∧ v4 ≤ 2200 := by rw [← e4]; exact hI_M 598 90 (by decide)
            refine jr_v rfl rfl (Or.inl rfl) rfl rfl (by decide) rfl ⟨rfl, Nat.le_of_ble_eq_true rfl, Nat.le_of_ble_eq_true rfl⟩ rfl (jc.deep (r_emit ((ju_i _ _ (by decide)).trans e4) (by omega) (by omega) (by omega) ?_) (by decide))
            refine jr.aload_n rfl rfl ?_
            refine jr.dup rfl rfl ?_
            obtain ⟨v5, e5⟩ : ∃ z, M 598 100 = z := ⟨_, rfl⟩
            have b5 : 0 ≤ v5 ∧ v5 ≤ 13 := by rw [← e5]; exact hI_M 598 100 (by decide)
            refine jr.getf (i := 100) (x := v5) (v := .int (Int32.ofInt (v5))) rfl rfl (by decide) rfl (by decide) rfl rfl ((ju_i _ _ (by decide)).trans ((ju_c _ _ (by decide)).trans ((ju_c _ _ (by decide)).trans ((ju_i _ _ (by decide)).trans e5)))) rfl ?_
            refine jr.iconst rfl ?_
            refine jr.isub rfl ?_
            refine jr.putf (i := 100) (x := (v5 - 1)) rfl rfl (by decide) rfl (by decide) rfl rfl rfl rfl rfl ?_
            refine jr.goto rfl rfl ?_
            refine jr.goto rfl rfl ?_
            obtain ⟨v6, e6⟩ : ∃ z, M 598 72 = z := ⟨_, rfl⟩
            have b6 : 0 ≤ v6 ∧ v6 ≤ 1600 := by rw [← e6]; exact hI_M 598 72 (by decide)
            have y7 : (ju (ju (ju (ju (ju M 598 102 (v1 - 1)) 659 v4 v2) 660 v4 0) 598 90 (v4 + 1)) 598 100 (v5 - 1)) 598 72 = v6 := ((ju_i _ _ (by decide)).trans ((ju_i _ _ (by decide)).trans ((ju_c _ _ (by decide)).trans ((ju_c _ _ (by decide)).trans ((ju_i _ _ (by decide)).trans e6)))))
            obtain ⟨v8, e8⟩ : ∃ z, M 598 73 = z := ⟨_, rfl⟩
            have b8 : 0 ≤ v8 ∧ v8 ≤ 1600 := by rw [← e8]; exact hI_M 598 73 (by decide)
            have y9 : (ju (ju (ju (ju (ju M 598 102 (v1 - 1)) 659 v4 v2) 660 v4 0) 598 90 (v4 + 1)) 598 100 (v5 - 1)) 598 73 = v8 := ((ju_i _ _ (by decide)).trans ((ju_i _ _ (by decide)).trans ((ju_c _ _ (by decide)).trans ((ju_c _ _ (by decide)).trans ((ju_i _ _ (by decide)).trans e8)))))
            obtain ⟨v10, e10⟩ : ∃ z, M 598 74 = z := ⟨_, rfl⟩
            have b10 : 0 ≤ v10 ∧ v10 ≤ 4 := by rw [← e10]; exact hI_M 598 74 (by decide)
            have y11 : (ju (ju (ju (ju (ju M 598 102 (v1 - 1)) 659 v4 v2) 660 v4 0) 598 90 (v4 + 1)) 598 100 (v5 - 1)) 598 74 = v10 := ((ju_i _ _ (by decide)).trans ((ju_i _ _ (by decide)).trans ((ju_c _ _ (by decide)).trans ((ju_c _ _ (by decide)).trans ((ju_i _ _ (by decide)).trans e10)))))
            obtain ⟨v12, e12⟩ : ∃ z, M 598 79 = z := ⟨_, rfl⟩
            have b12 : 0 ≤ v12 ∧ v12 ≤ 255 := by rw [← e12]; exact hI_M 598 79 (by decide)
            have y13 : (ju (ju (ju (ju (ju M 598 102 (v1 - 1)) 659 v4 v2) 660 v4 0) 598 90 (v4 + 1)) 598 100 (v5 - 1)) 598 79 = v12 := ((ju_i _ _ (by decide)).trans ((ju_i _ _ (by decide)).trans ((ju_c _ _ (by decide)).trans ((ju_c _ _ (by decide)).trans ((ju_i _ _ (by decide)).trans e12)))))
            obtain ⟨v14, e14⟩ : ∃ z, M 598 80 = z := ⟨_, rfl⟩
            have b14 : 0 ≤ v14 ∧ v14 ≤ 7 := by rw [← e14]; exact hI_M 598 80 (by decide)
            have y15 : (ju (ju (ju (ju (ju M 598 102 (v1 - 1)) 659 v4 v2) 660 v4 0) 598 90 (v4 + 1)) 598 100 (v5 - 1)) 598 80 = v14 := ((ju_i _ _ (by decide)).trans ((ju_i _ _ (by decide)).trans ((ju_c _ _ (by decide)).trans ((ju_c _ _ (by decide)).trans ((ju_i _ _ (by decide)).trans e14)))))
            obtain ⟨v16, e16⟩ : ∃ z, M 598 89 = z := ⟨_, rfl⟩
            have b16 : 0 ≤ v16 ∧ v16 ≤ 301 := by rw [← e16]; exact hI_M 598 89 (by decide)
            have y17 : (ju (ju (ju (ju (ju M 598 102 (v1 - 1)) 659 v4 v2) 660 v4 0) 598 90 (v4 + 1)) 598 100 (v5 - 1)) 598 89 = v16 := ((ju_i _ _ (by decide)).trans ((ju_i _ _ (by decide)).trans ((ju_c _ _ (by decide)).trans ((ju_c _ _ (by decide)).trans ((ju_i _ _ (by decide)).trans e16)))))
            have y18 : (ju (ju (ju (ju (ju M 598 102 (v1 - 1)) 659 v4 v2) 660 v4 0) 598 90 (v4 + 1)) 598 100 (v5 - 1)) 598 100 = v5 - 1 := (ju_same _ _ _ _)
            have y19 : (ju (ju (ju (ju (ju M 598 102 (v1 - 1)) 659 v4 v2) 660 v4 0) 598 90 (v4 + 1)) 598 100 (v5 - 1)) 598 89 = v16 := ((ju_i _ _ (by decide)).trans ((ju_i _ _ (by decide)).trans ((ju_c _ _ (by decide)).trans ((ju_c _ _ (by decide)).trans ((ju_i _ _ (by decide)).trans e16)))))
            have y20 : (ju (ju (ju (ju (ju M 598 102 (v1 - 1)) 659 v4 v2) 660 v4 0) 598 90 (v4 + 1)) 598 100 (v5 - 1)) 598 100 = v5 - 1 := (ju_same _ _ _ _)
            refine jr.pick [1, 2] rfl rfl ?_
            exact ih (nM - 1) (by omega) (ju (ju (ju (ju (ju M 598 102 (v1 - 1)) 659 v4 v2) 660 v4 0) 598 90 (v4 + 1)) 598 100 (v5 - 1)) y (RI.u (RI.u (RI.u (RI.u (RI.u hI_M (a := 598) (i := 102) (show (0 : Int) ≤ _ ∧ _ ≤ (400 : Int) from by omega)) (a := 659) (i := v4) (by rw [xri_row rfl rfl]; show (0 : Int) ≤ _ ∧ _ ≤ (1000 : Int); omega)) (a := 660) (i := v4) (by rw [xri_row rfl rfl]; show (-9223372036854775808 : Int) ≤ _ ∧ _ ≤ (9223372036854775807 : Int); omega)) (a := 598) (i := 90) (show (0 : Int) ≤ _ ∧ _ ≤ (2200 : Int) from by omega)) (a := 598) (i := 100) (show (0 : Int) ≤ _ ∧ _ ≤ (13 : Int) from by omega)) (RH.o (RH.o (RH.o (RH.o (RH.o hH_M (by decide) (by decide) (by decide)) (by decide) (by decide) (by decide)) (by decide) (by decide) (by decide)) (by decide) (by decide) (by decide)) (by decide) (by decide) (by decide)) (RF.o (RF.o (RF.o (RF.o (RF.o hS_M (by decide) (by decide)) (by decide) (by decide)) (by decide) (by decide)) (by decide) (by decide)) (by decide) (by decide))  (fun a i f598 f659 f660 => ((ju_c _ _ f598).trans ((ju_c _ _ f598).trans ((ju_c _ _ f660).trans ((ju_c _ _ f659).trans ((ju_c _ _ f598).trans (hF_M a i f598 f659 f660))))))) (fun i g90 g100 g102 => ((ju_i _ _ g100).trans ((ju_i _ _ g90).trans ((ju_c _ _ (by decide)).trans ((ju_c _ _ (by decide)).trans ((ju_i _ _ g102).trans (hG_M i g90 g100 g102))))))) (by omega) ⟨by omega, ES.adj (ES.redU gs2 e1 e4 e5 e2 (by omega) (by omega) (by omega)) (k' := kk) (z' := 0) (by omega) (by omega) (by omega), by omega, by omega, by omega, by omega⟩ ((((TK.o (Or.inr ⟨by decide, by decide⟩)).trans ((TK.o (Or.inr ⟨by decide, by decide⟩)).trans ((TK.o (Or.inl (by decide))).trans ((TK.o (Or.inl (by decide))).trans ((TK.o (Or.inr ⟨by decide, by decide⟩)).trans rfl)))))).trans hy1) (CP.o (CP.emit (CP.o hCP (by decide) (Or.inr (by decide))) ((ju_i _ _ (by decide)).trans e4)) (by decide) (Or.inr (by decide))) (by have q := abr_u s0 e1 (by omega) e2 (by omega); have z := hz; rw [q] at z; exact zr.es (zr.pop z) (by omega) (by omega) (congrArg Prod.fst ((abr_fr s0 (fun i => ju_c _ _ (by decide)) (fun i => ju_c _ _ (by decide)) (fun i => ju_c _ _ (by decide)) (ju_i _ _ (by decide))).trans ((abr_fr s0 (fun i => ju_c _ _ (by decide)) (fun i => ju_c _ _ (by decide)) (fun i => ju_c _ _ (by decide)) (ju_i _ _ (by decide))).trans ((abr_fr s0 (fun i => ju_c _ _ (by decide)) (fun i => ju_c _ _ (by decide)) (fun i => ju_c _ _ (by decide)) (ju_c _ _ (by decide))).trans ((abr_fr s0 (fun i => ju_c _ _ (by decide)) (fun i => ju_c _ _ (by decide)) (fun i => ju_c _ _ (by decide)) (ju_c _ _ (by decide))).trans rfl)))))) (fun q => by have q1 := congrArg Prod.snd (abr_u s0 e1 (by omega) e2 (by omega)); exact ((congrArg Prod.snd ((abr_fr s0 (fun i => ju_c _ _ (by decide)) (fun i => ju_c _ _ (by decide)) (fun i => ju_c _ _ (by decide)) (ju_i _ _ (by decide))).trans ((abr_fr s0 (fun i => ju_c _ _ (by decide)) (fun i => ju_c _ _ (by decide)) (fun i => ju_c _ _ (by decide)) (ju_i _ _ (by decide))).trans ((abr_fr s0 (fun i => ju_c _ _ (by decide)) (fun i => ju_c _ _ (by decide)) (fun i => ju_c _ _ (by decide)) (ju_c _ _ (by decide))).trans ((abr_fr s0 (fun i => ju_c _ _ (by decide)) (fun i => ju_c _ _ (by decide)) (fun i => ju_c _ _ (by decide)) (ju_c _ _ (by decide))).trans rfl))))).trans q1.symm).trans (h42 q)) (NU.fr (NU.fr (NU.fr (NU.fr (NU.pop hNU e1) (fun i => ju_c _ _ (by decide)) (ju_c _ _ (by decide))) (fun i => ju_c _ _ (by decide)) (ju_c _ _ (by decide))) (fun i => ju_c _ _ (by decide)) (ju_i _ _ (by decide))) (fun i => ju_c _ _ (by decide)) (ju_i _ _ (by decide))) (by omega) (by rw [((ju_i _ _ (by decide)).trans ((ju_i _ _ (by decide)).trans ((ju_c _ _ (by decide)).trans ((ju_c _ _ (by decide)).trans (ju_same _ _ _ _)))))]; omega)
          · refine jr.iload_n rfl rfl ?_
            refine jr.bipush rfl (by decide) ?_
            refine jr.icmp_ne rfl rfl (by omega) (by omega) (fun h70 => ?_) (fun h70 => ?_)
            · refine jr.iload_n rfl rfl ?_
              refine jr.bipush rfl (by decide) ?_
              refine jr.icmp_eq rfl rfl (by omega) (by omega) (fun h95 => ?_) (fun h95 => ?_)
              · refine jr.aload_n rfl rfl ?_
                refine jr.bipush rfl (by decide) ?_
                refine jr.lconst (x := 0) rfl (by decide) ?_
                obtain ⟨v21, e21⟩ : ∃ z, M 598 90 = z := ⟨_, rfl⟩
                have b21 : 0 ≤ v21 ∧ v21 ≤ 2200 := by rw [← e21]; exact hI_M 598 90 (by decide)
                refine jr_v rfl rfl (Or.inl rfl) rfl rfl (by decide) rfl ⟨rfl, Nat.le_of_ble_eq_true rfl, Nat.le_of_ble_eq_true rfl⟩ rfl (jc.deep (r_emit ((ju_i _ _ (by decide)).trans e21) (by omega) (by omega) (by omega) ?_) (by decide))
                refine jr.aload_n rfl rfl ?_
                refine jr.getf (i := 95) (v := .ref 660) rfl rfl (by decide) rfl (by decide) rfl rfl rfl rfl ?_
                refine jr.aload_n rfl rfl ?_
                refine jr.getf (i := 104) (v := .ref 665) rfl rfl (by decide) rfl (by decide) rfl rfl rfl rfl ?_
                refine jr.aload_n rfl rfl ?_
                refine jr.getf (i := 102) (x := (v1 - 1)) (v := .int (Int32.ofInt (v1 - 1))) rfl rfl (by decide) rfl (by decide) rfl rfl ((ju_i _ _ (by decide)).trans ((ju_c _ _ (by decide)).trans ((ju_c _ _ (by decide)).trans (ju_same _ _ _ _)))) rfl ?_
                obtain ⟨v22, e22⟩ : ∃ z, M 665 (v1 - 1) = z := ⟨_, rfl⟩
                have b22 : 0 ≤ v22 ∧ v22 ≤ 2200 := by rw [← e22]; exact (by have q := hI_M 665 (v1 - 1) (by decide); rw [xri_row rfl rfl] at q; exact q)
                refine jr.iald (i := (v1 - 1)) (x := v22) rfl (by decide) rfl (by decide) (by omega) (by omega) ((ju_c _ _ (by decide)).trans ((ju_c _ _ (by decide)).trans ((ju_c _ _ (by decide)).trans ((ju_c _ _ (by decide)).trans e22)))) ?_
                refine jr.aload_n rfl rfl ?_
                refine jr.getf (i := 90) (x := (v21 + 1)) (v := .int (Int32.ofInt (v21 + 1))) rfl rfl (by decide) rfl (by decide) rfl rfl (ju_same _ _ _ _) rfl ?_
                refine jr.i2l rfl (by omega) ?_
                refine jr.last (i := v22) (x := (v21 + 1)) rfl (by decide) rfl (by decide) (by omega) (by omega) ?_
                refine jr.goto rfl rfl ?_
                refine jr.goto rfl rfl ?_
                obtain ⟨v23, e23⟩ : ∃ z, M 598 72 = z := ⟨_, rfl⟩
                have b23 : 0 ≤ v23 ∧ v23 ≤ 1600 := by rw [← e23]; exact hI_M 598 72 (by decide)
                have y24 : (ju (ju (ju (ju (ju M 598 102 (v1 - 1)) 659 v21 9) 660 v21 0) 598 90 (v21 + 1)) 660 v22 (v21 + 1)) 598 72 = v23 := ((ju_c _ _ (by decide)).trans ((ju_i _ _ (by decide)).trans ((ju_c _ _ (by decide)).trans ((ju_c _ _ (by decide)).trans ((ju_i _ _ (by decide)).trans e23)))))
                obtain ⟨v25, e25⟩ : ∃ z, M 598 73 = z := ⟨_, rfl⟩
                have b25 : 0 ≤ v25 ∧ v25 ≤ 1600 := by rw [← e25]; exact hI_M 598 73 (by decide)
                have y26 : (ju (ju (ju (ju (ju M 598 102 (v1 - 1)) 659 v21 9) 660 v21 0) 598 90 (v21 + 1)) 660 v22 (v21 + 1)) 598 73 = v25 := ((ju_c _ _ (by decide)).trans ((ju_i _ _ (by decide)).trans ((ju_c _ _ (by decide)).trans ((ju_c _ _ (by decide)).trans ((ju_i _ _ (by decide)).trans e25)))))
                obtain ⟨v27, e27⟩ : ∃ z, M 598 74 = z := ⟨_, rfl⟩
                have b27 : 0 ≤ v27 ∧ v27 ≤ 4 := by rw [← e27]; exact hI_M 598 74 (by decide)
                have y28 : (ju (ju (ju (ju (ju M 598 102 (v1 - 1)) 659 v21 9) 660 v21 0) 598 90 (v21 + 1)) 660 v22 (v21 + 1)) 598 74 = v27 := ((ju_c _ _ (by decide)).trans ((ju_i _ _ (by decide)).trans ((ju_c _ _ (by decide)).trans ((ju_c _ _ (by decide)).trans ((ju_i _ _ (by decide)).trans e27)))))
                obtain ⟨v29, e29⟩ : ∃ z, M 598 79 = z := ⟨_, rfl⟩
                have b29 : 0 ≤ v29 ∧ v29 ≤ 255 := by rw [← e29]; exact hI_M 598 79 (by decide)
                have y30 : (ju (ju (ju (ju (ju M 598 102 (v1 - 1)) 659 v21 9) 660 v21 0) 598 90 (v21 + 1)) 660 v22 (v21 + 1)) 598 79 = v29 := ((ju_c _ _ (by decide)).trans ((ju_i _ _ (by decide)).trans ((ju_c _ _ (by decide)).trans ((ju_c _ _ (by decide)).trans ((ju_i _ _ (by decide)).trans e29)))))
                obtain ⟨v31, e31⟩ : ∃ z, M 598 80 = z := ⟨_, rfl⟩
                have b31 : 0 ≤ v31 ∧ v31 ≤ 7 := by rw [← e31]; exact hI_M 598 80 (by decide)
                have y32 : (ju (ju (ju (ju (ju M 598 102 (v1 - 1)) 659 v21 9) 660 v21 0) 598 90 (v21 + 1)) 660 v22 (v21 + 1)) 598 80 = v31 := ((ju_c _ _ (by decide)).trans ((ju_i _ _ (by decide)).trans ((ju_c _ _ (by decide)).trans ((ju_c _ _ (by decide)).trans ((ju_i _ _ (by decide)).trans e31)))))
                obtain ⟨v33, e33⟩ : ∃ z, M 598 89 = z := ⟨_, rfl⟩
                have b33 : 0 ≤ v33 ∧ v33 ≤ 301 := by rw [← e33]; exact hI_M 598 89 (by decide)
                have y34 : (ju (ju (ju (ju (ju M 598 102 (v1 - 1)) 659 v21 9) 660 v21 0) 598 90 (v21 + 1)) 660 v22 (v21 + 1)) 598 89 = v33 := ((ju_c _ _ (by decide)).trans ((ju_i _ _ (by decide)).trans ((ju_c _ _ (by decide)).trans ((ju_c _ _ (by decide)).trans ((ju_i _ _ (by decide)).trans e33)))))
                obtain ⟨v35, e35⟩ : ∃ z, M 598 100 = z := ⟨_, rfl⟩
                have b35 : 0 ≤ v35 ∧ v35 ≤ 13 := by rw [← e35]; exact hI_M 598 100 (by decide)
                have y36 : (ju (ju (ju (ju (ju M 598 102 (v1 - 1)) 659 v21 9) 660 v21 0) 598 90 (v21 + 1)) 660 v22 (v21 + 1)) 598 100 = v35 := ((ju_c _ _ (by decide)).trans ((ju_i _ _ (by decide)).trans ((ju_c _ _ (by decide)).trans ((ju_c _ _ (by decide)).trans ((ju_i _ _ (by decide)).trans e35)))))
                have y37 : (ju (ju (ju (ju (ju M 598 102 (v1 - 1)) 659 v21 9) 660 v21 0) 598 90 (v21 + 1)) 660 v22 (v21 + 1)) 598 89 = v33 := ((ju_c _ _ (by decide)).trans ((ju_i _ _ (by decide)).trans ((ju_c _ _ (by decide)).trans ((ju_c _ _ (by decide)).trans ((ju_i _ _ (by decide)).trans e33)))))
                have y38 : (ju (ju (ju (ju (ju M 598 102 (v1 - 1)) 659 v21 9) 660 v21 0) 598 90 (v21 + 1)) 660 v22 (v21 + 1)) 598 100 = v35 := ((ju_c _ _ (by decide)).trans ((ju_i _ _ (by decide)).trans ((ju_c _ _ (by decide)).trans ((ju_c _ _ (by decide)).trans ((ju_i _ _ (by decide)).trans e35)))))
                refine jr.pick [1, 2] rfl rfl ?_
                exact ih (nM - 1) (by omega) (ju (ju (ju (ju (ju M 598 102 (v1 - 1)) 659 v21 9) 660 v21 0) 598 90 (v21 + 1)) 660 v22 (v21 + 1)) y (RI.u (RI.u (RI.u (RI.u (RI.u hI_M (a := 598) (i := 102) (show (0 : Int) ≤ _ ∧ _ ≤ (400 : Int) from by omega)) (a := 659) (i := v21) (by rw [xri_row rfl rfl]; show (0 : Int) ≤ _ ∧ _ ≤ (1000 : Int); omega)) (a := 660) (i := v21) (by rw [xri_row rfl rfl]; show (-9223372036854775808 : Int) ≤ _ ∧ _ ≤ (9223372036854775807 : Int); omega)) (a := 598) (i := 90) (show (0 : Int) ≤ _ ∧ _ ≤ (2200 : Int) from by omega)) (a := 660) (i := v22) (by rw [xri_row rfl rfl]; show (-9223372036854775808 : Int) ≤ _ ∧ _ ≤ (9223372036854775807 : Int); omega)) (RH.o (RH.o (RH.o (RH.o (RH.o hH_M (by decide) (by decide) (by decide)) (by decide) (by decide) (by decide)) (by decide) (by decide) (by decide)) (by decide) (by decide) (by decide)) (by decide) (by decide) (by decide)) (RF.o (RF.o (RF.o (RF.o (RF.o hS_M (by decide) (by decide)) (by decide) (by decide)) (by decide) (by decide)) (by decide) (by decide)) (by decide) (by decide))  (fun a i f598 f659 f660 => ((ju_c _ _ f660).trans ((ju_c _ _ f598).trans ((ju_c _ _ f660).trans ((ju_c _ _ f659).trans ((ju_c _ _ f598).trans (hF_M a i f598 f659 f660))))))) (fun i g90 g100 g102 => ((ju_c _ _ (by decide)).trans ((ju_i _ _ g90).trans ((ju_c _ _ (by decide)).trans ((ju_c _ _ (by decide)).trans ((ju_i _ _ g102).trans (hG_M i g90 g100 g102))))))) (by omega) ⟨by omega, ES.adj (ES.redA gs2 e1 e21 e22 (by omega) (by rw [e2]; omega) (by omega)) (k' := kk) (z' := 0) (by omega) (by omega) (by omega), by omega, by omega, by omega, by omega⟩ ((((TK.o (Or.inl (by decide))).trans ((TK.o (Or.inr ⟨by decide, by decide⟩)).trans ((TK.o (Or.inl (by decide))).trans ((TK.o (Or.inl (by decide))).trans ((TK.o (Or.inr ⟨by decide, by decide⟩)).trans rfl)))))).trans hy1) (CP.o (CP.emit (CP.o hCP (by decide) (Or.inr (by decide))) ((ju_i _ _ (by decide)).trans e21)) (by decide) (Or.inl (by decide))) (zr.es hz (by omega) (by omega) ((congrArg Prod.fst ((abr_fr s0 (fun i => ju_c _ _ (by decide)) (fun i => ju_c _ _ (by decide)) (fun i => ju_c _ _ (by decide)) (ju_c _ _ (by decide))).trans ((abr_fr s0 (fun i => ju_c _ _ (by decide)) (fun i => ju_c _ _ (by decide)) (fun i => ju_c _ _ (by decide)) (ju_i _ _ (by decide))).trans ((abr_fr s0 (fun i => ju_c _ _ (by decide)) (fun i => ju_c _ _ (by decide)) (fun i => ju_c _ _ (by decide)) (ju_c _ _ (by decide))).trans ((abr_fr s0 (fun i => ju_c _ _ (by decide)) (fun i => ju_c _ _ (by decide)) (fun i => ju_c _ _ (by decide)) (ju_c _ _ (by decide))).trans rfl))))).trans (abr_b s0 e1 (by omega) e2 (by omega)).1.symm)) (fun q => ((congrArg Prod.snd ((abr_fr s0 (fun i => ju_c _ _ (by decide)) (fun i => ju_c _ _ (by decide)) (fun i => ju_c _ _ (by decide)) (ju_c _ _ (by decide))).trans ((abr_fr s0 (fun i => ju_c _ _ (by decide)) (fun i => ju_c _ _ (by decide)) (fun i => ju_c _ _ (by decide)) (ju_i _ _ (by decide))).trans ((abr_fr s0 (fun i => ju_c _ _ (by decide)) (fun i => ju_c _ _ (by decide)) (fun i => ju_c _ _ (by decide)) (ju_c _ _ (by decide))).trans ((abr_fr s0 (fun i => ju_c _ _ (by decide)) (fun i => ju_c _ _ (by decide)) (fun i => ju_c _ _ (by decide)) (ju_c _ _ (by decide))).trans rfl))))).trans ((abr_b s0 e1 (by omega) e2 (by omega)).2 (by omega)).symm).trans (h42 q)) (NU.fr (NU.fr (NU.fr (NU.fr (NU.pop hNU e1) (fun i => ju_c _ _ (by decide)) (ju_c _ _ (by decide))) (fun i => ju_c _ _ (by decide)) (ju_c _ _ (by decide))) (fun i => ju_c _ _ (by decide)) (ju_i _ _ (by decide))) (fun i => ju_c _ _ (by decide)) (ju_c _ _ (by decide))) (by omega) (by rw [((ju_c _ _ (by decide)).trans ((ju_i _ _ (by decide)).trans ((ju_c _ _ (by decide)).trans ((ju_c _ _ (by decide)).trans (ju_same _ _ _ _)))))]; omega)
              · refine jr.iload_n rfl rfl ?_
                refine jr.bipush rfl (by decide) ?_
                refine jr.icmp_ne rfl rfl (by omega) (by omega) (fun h101 => ?_) (fun h101 => ?_)
                · refine jr.aload_n rfl rfl ?_
                  refine jr.bipush rfl (by decide) ?_
                  refine jr.iload_n rfl rfl ?_
                  refine jr.iadd rfl ?_
                  refine jr.lconst (x := 0) rfl (by decide) ?_
                  obtain ⟨v39, e39⟩ : ∃ z, M 598 90 = z := ⟨_, rfl⟩
                  have b39 : 0 ≤ v39 ∧ v39 ≤ 2200 := by rw [← e39]; exact hI_M 598 90 (by decide)
                  refine jr_v rfl rfl (Or.inl rfl) rfl rfl (by decide) rfl ⟨rfl, Nat.le_of_ble_eq_true rfl, Nat.le_of_ble_eq_true rfl⟩ rfl (jc.deep (r_emit ((ju_i _ _ (by decide)).trans e39) (by omega) (by omega) (by omega) ?_) (by decide))
                  refine jr.goto rfl rfl ?_
                  obtain ⟨v40, e40⟩ : ∃ z, M 598 72 = z := ⟨_, rfl⟩
                  have b40 : 0 ≤ v40 ∧ v40 ≤ 1600 := by rw [← e40]; exact hI_M 598 72 (by decide)
                  have y41 : (ju (ju (ju (ju M 598 102 (v1 - 1)) 659 v39 (100 + v2)) 660 v39 0) 598 90 (v39 + 1)) 598 72 = v40 := ((ju_i _ _ (by decide)).trans ((ju_c _ _ (by decide)).trans ((ju_c _ _ (by decide)).trans ((ju_i _ _ (by decide)).trans e40))))
                  obtain ⟨v42, e42⟩ : ∃ z, M 598 73 = z := ⟨_, rfl⟩
                  have b42 : 0 ≤ v42 ∧ v42 ≤ 1600 := by rw [← e42]; exact hI_M 598 73 (by decide)
                  have y43 : (ju (ju (ju (ju M 598 102 (v1 - 1)) 659 v39 (100 + v2)) 660 v39 0) 598 90 (v39 + 1)) 598 73 = v42 := ((ju_i _ _ (by decide)).trans ((ju_c _ _ (by decide)).trans ((ju_c _ _ (by decide)).trans ((ju_i _ _ (by decide)).trans e42))))
                  obtain ⟨v44, e44⟩ : ∃ z, M 598 74 = z := ⟨_, rfl⟩
                  have b44 : 0 ≤ v44 ∧ v44 ≤ 4 := by rw [← e44]; exact hI_M 598 74 (by decide)
                  have y45 : (ju (ju (ju (ju M 598 102 (v1 - 1)) 659 v39 (100 + v2)) 660 v39 0) 598 90 (v39 + 1)) 598 74 = v44 := ((ju_i _ _ (by decide)).trans ((ju_c _ _ (by decide)).trans ((ju_c _ _ (by decide)).trans ((ju_i _ _ (by decide)).trans e44))))
                  obtain ⟨v46, e46⟩ : ∃ z, M 598 79 = z := ⟨_, rfl⟩
                  have b46 : 0 ≤ v46 ∧ v46 ≤ 255 := by rw [← e46]; exact hI_M 598 79 (by decide)
                  have y47 : (ju (ju (ju (ju M 598 102 (v1 - 1)) 659 v39 (100 + v2)) 660 v39 0) 598 90 (v39 + 1)) 598 79 = v46 := ((ju_i _ _ (by decide)).trans ((ju_c _ _ (by decide)).trans ((ju_c _ _ (by decide)).trans ((ju_i _ _ (by decide)).trans e46))))
                  obtain ⟨v48, e48⟩ : ∃ z, M 598 80 = z := ⟨_, rfl⟩
                  have b48 : 0 ≤ v48 ∧ v48 ≤ 7 := by rw [← e48]; exact hI_M 598 80 (by decide)
                  have y49 : (ju (ju (ju (ju M 598 102 (v1 - 1)) 659 v39 (100 + v2)) 660 v39 0) 598 90 (v39 + 1)) 598 80 = v48 := ((ju_i _ _ (by decide)).trans ((ju_c _ _ (by decide)).trans ((ju_c _ _ (by decide)).trans ((ju_i _ _ (by decide)).trans e48))))
                  obtain ⟨v50, e50⟩ : ∃ z, M 598 89 = z := ⟨_, rfl⟩
                  have b50 : 0 ≤ v50 ∧ v50 ≤ 301 := by rw [← e50]; exact hI_M 598 89 (by decide)
                  have y51 : (ju (ju (ju (ju M 598 102 (v1 - 1)) 659 v39 (100 + v2)) 660 v39 0) 598 90 (v39 + 1)) 598 89 = v50 := ((ju_i _ _ (by decide)).trans ((ju_c _ _ (by decide)).trans ((ju_c _ _ (by decide)).trans ((ju_i _ _ (by decide)).trans e50))))
                  obtain ⟨v52, e52⟩ : ∃ z, M 598 100 = z := ⟨_, rfl⟩
                  have b52 : 0 ≤ v52 ∧ v52 ≤ 13 := by rw [← e52]; exact hI_M 598 100 (by decide)
                  have y53 : (ju (ju (ju (ju M 598 102 (v1 - 1)) 659 v39 (100 + v2)) 660 v39 0) 598 90 (v39 + 1)) 598 100 = v52 := ((ju_i _ _ (by decide)).trans ((ju_c _ _ (by decide)).trans ((ju_c _ _ (by decide)).trans ((ju_i _ _ (by decide)).trans e52))))
                  have y54 : (ju (ju (ju (ju M 598 102 (v1 - 1)) 659 v39 (100 + v2)) 660 v39 0) 598 90 (v39 + 1)) 598 89 = v50 := ((ju_i _ _ (by decide)).trans ((ju_c _ _ (by decide)).trans ((ju_c _ _ (by decide)).trans ((ju_i _ _ (by decide)).trans e50))))
                  have y55 : (ju (ju (ju (ju M 598 102 (v1 - 1)) 659 v39 (100 + v2)) 660 v39 0) 598 90 (v39 + 1)) 598 100 = v52 := ((ju_i _ _ (by decide)).trans ((ju_c _ _ (by decide)).trans ((ju_c _ _ (by decide)).trans ((ju_i _ _ (by decide)).trans e52))))
                  refine jr.pick [1, 2] rfl rfl ?_
                  exact ih (nM - 1) (by omega) (ju (ju (ju (ju M 598 102 (v1 - 1)) 659 v39 (100 + v2)) 660 v39 0) 598 90 (v39 + 1)) y (RI.u (RI.u (RI.u (RI.u hI_M (a := 598) (i := 102) (show (0 : Int) ≤ _ ∧ _ ≤ (400 : Int) from by omega)) (a := 659) (i := v39) (by rw [xri_row rfl rfl]; show (0 : Int) ≤ _ ∧ _ ≤ (1000 : Int); omega)) (a := 660) (i := v39) (by rw [xri_row rfl rfl]; show (-9223372036854775808 : Int) ≤ _ ∧ _ ≤ (9223372036854775807 : Int); omega)) (a := 598) (i := 90) (show (0 : Int) ≤ _ ∧ _ ≤ (2200 : Int) from by omega)) (RH.o (RH.o (RH.o (RH.o hH_M (by decide) (by decide) (by decide)) (by decide) (by decide) (by decide)) (by decide) (by decide) (by decide)) (by decide) (by decide) (by decide)) (RF.o (RF.o (RF.o (RF.o hS_M (by decide) (by decide)) (by decide) (by decide)) (by decide) (by decide)) (by decide) (by decide))  (fun a i f598 f659 f660 => ((ju_c _ _ f598).trans ((ju_c _ _ f660).trans ((ju_c _ _ f659).trans ((ju_c _ _ f598).trans (hF_M a i f598 f659 f660)))))) (fun i g90 g100 g102 => ((ju_i _ _ g90).trans ((ju_c _ _ (by decide)).trans ((ju_c _ _ (by decide)).trans ((ju_i _ _ g102).trans (hG_M i g90 g100 g102)))))) (by omega) ⟨by omega, ES.adj (ES.redB gs2 e1 e39 e2 (by omega) (by omega) (by omega)) (k' := kk) (z' := 0) (by omega) (by omega) (by omega), by omega, by omega, by omega, by omega⟩ ((((TK.o (Or.inr ⟨by decide, by decide⟩)).trans ((TK.o (Or.inl (by decide))).trans ((TK.o (Or.inl (by decide))).trans ((TK.o (Or.inr ⟨by decide, by decide⟩)).trans rfl))))).trans hy1) (CP.emit (CP.o hCP (by decide) (Or.inr (by decide))) ((ju_i _ _ (by decide)).trans e39)) (zr.es hz (by omega) (by omega) ((congrArg Prod.fst ((abr_fr s0 (fun i => ju_c _ _ (by decide)) (fun i => ju_c _ _ (by decide)) (fun i => ju_c _ _ (by decide)) (ju_i _ _ (by decide))).trans ((abr_fr s0 (fun i => ju_c _ _ (by decide)) (fun i => ju_c _ _ (by decide)) (fun i => ju_c _ _ (by decide)) (ju_c _ _ (by decide))).trans ((abr_fr s0 (fun i => ju_c _ _ (by decide)) (fun i => ju_c _ _ (by decide)) (fun i => ju_c _ _ (by decide)) (ju_c _ _ (by decide))).trans rfl)))).trans (abr_b s0 e1 (by omega) e2 (by omega)).1.symm)) (fun q => ((congrArg Prod.snd ((abr_fr s0 (fun i => ju_c _ _ (by decide)) (fun i => ju_c _ _ (by decide)) (fun i => ju_c _ _ (by decide)) (ju_i _ _ (by decide))).trans ((abr_fr s0 (fun i => ju_c _ _ (by decide)) (fun i => ju_c _ _ (by decide)) (fun i => ju_c _ _ (by decide)) (ju_c _ _ (by decide))).trans ((abr_fr s0 (fun i => ju_c _ _ (by decide)) (fun i => ju_c _ _ (by decide)) (fun i => ju_c _ _ (by decide)) (ju_c _ _ (by decide))).trans rfl)))).trans ((abr_b s0 e1 (by omega) e2 (by omega)).2 (by omega)).symm).trans (h42 q)) (NU.fr (NU.fr (NU.fr (NU.pop hNU e1) (fun i => ju_c _ _ (by decide)) (ju_c _ _ (by decide))) (fun i => ju_c _ _ (by decide)) (ju_c _ _ (by decide))) (fun i => ju_c _ _ (by decide)) (ju_i _ _ (by decide))) (by omega) (by rw [((ju_i _ _ (by decide)).trans ((ju_c _ _ (by decide)).trans ((ju_c _ _ (by decide)).trans (ju_same _ _ _ _))))]; omega)
                · refine jr.aload_n rfl rfl ?_
                  refine jr.bipush rfl (by decide) ?_
                  refine jr.lconst (x := 0) rfl (by decide) ?_
                  obtain ⟨v56, e56⟩ : ∃ z, M 598 90 = z := ⟨_, rfl⟩
                  have b56 : 0 ≤ v56 ∧ v56 ≤ 2200 := by rw [← e56]; exact hI_M 598 90 (by decide)
                  refine jr_v rfl rfl (Or.inl rfl) rfl rfl (by decide) rfl ⟨rfl, Nat.le_of_ble_eq_true rfl, Nat.le_of_ble_eq_true rfl⟩ rfl (jc.deep (r_emit ((ju_i _ _ (by decide)).trans e56) (by omega) (by omega) (by omega) ?_) (by decide))
                  refine jr.aload_n rfl rfl ?_
                  refine jr.getf (i := 95) (v := .ref 660) rfl rfl (by decide) rfl (by decide) rfl rfl rfl rfl ?_
                  refine jr.aload_n rfl rfl ?_
                  refine jr.getf (i := 104) (v := .ref 665) rfl rfl (by decide) rfl (by decide) rfl rfl rfl rfl ?_
                  refine jr.aload_n rfl rfl ?_
                  refine jr.getf (i := 102) (x := (v1 - 1)) (v := .int (Int32.ofInt (v1 - 1))) rfl rfl (by decide) rfl (by decide) rfl rfl ((ju_i _ _ (by decide)).trans ((ju_c _ _ (by decide)).trans ((ju_c _ _ (by decide)).trans (ju_same _ _ _ _)))) rfl ?_
                  obtain ⟨v57, e57⟩ : ∃ z, M 665 (v1 - 1) = z := ⟨_, rfl⟩
                  have b57 : 0 ≤ v57 ∧ v57 ≤ 2200 := by rw [← e57]; exact (by have q := hI_M 665 (v1 - 1) (by decide); rw [xri_row rfl rfl] at q; exact q)
                  refine jr.iald (i := (v1 - 1)) (x := v57) rfl (by decide) rfl (by decide) (by omega) (by omega) ((ju_c _ _ (by decide)).trans ((ju_c _ _ (by decide)).trans ((ju_c _ _ (by decide)).trans ((ju_c _ _ (by decide)).trans e57)))) ?_
                  refine jr.aload_n rfl rfl ?_
                  refine jr.getf (i := 90) (x := (v56 + 1)) (v := .int (Int32.ofInt (v56 + 1))) rfl rfl (by decide) rfl (by decide) rfl rfl (ju_same _ _ _ _) rfl ?_
                  refine jr.i2l rfl (by omega) ?_
                  refine jr.last (i := v57) (x := (v56 + 1)) rfl (by decide) rfl (by decide) (by omega) (by omega) ?_
                  refine jr.goto rfl rfl ?_
                  refine jr.goto rfl rfl ?_
                  obtain ⟨v58, e58⟩ : ∃ z, M 598 72 = z := ⟨_, rfl⟩
                  have b58 : 0 ≤ v58 ∧ v58 ≤ 1600 := by rw [← e58]; exact hI_M 598 72 (by decide)
                  have y59 : (ju (ju (ju (ju (ju M 598 102 (v1 - 1)) 659 v56 9) 660 v56 0) 598 90 (v56 + 1)) 660 v57 (v56 + 1)) 598 72 = v58 := ((ju_c _ _ (by decide)).trans ((ju_i _ _ (by decide)).trans ((ju_c _ _ (by decide)).trans ((ju_c _ _ (by decide)).trans ((ju_i _ _ (by decide)).trans e58)))))
                  obtain ⟨v60, e60⟩ : ∃ z, M 598 73 = z := ⟨_, rfl⟩
                  have b60 : 0 ≤ v60 ∧ v60 ≤ 1600 := by rw [← e60]; exact hI_M 598 73 (by decide)
                  have y61 : (ju (ju (ju (ju (ju M 598 102 (v1 - 1)) 659 v56 9) 660 v56 0) 598 90 (v56 + 1)) 660 v57 (v56 + 1)) 598 73 = v60 := ((ju_c _ _ (by decide)).trans ((ju_i _ _ (by decide)).trans ((ju_c _ _ (by decide)).trans ((ju_c _ _ (by decide)).trans ((ju_i _ _ (by decide)).trans e60)))))
                  obtain ⟨v62, e62⟩ : ∃ z, M 598 74 = z := ⟨_, rfl⟩
                  have b62 : 0 ≤ v62 ∧ v62 ≤ 4 := by rw [← e62]; exact hI_M 598 74 (by decide)
                  have y63 : (ju (ju (ju (ju (ju M 598 102 (v1 - 1)) 659 v56 9) 660 v56 0) 598 90 (v56 + 1)) 660 v57 (v56 + 1)) 598 74 = v62 := ((ju_c _ _ (by decide)).trans ((ju_i _ _ (by decide)).trans ((ju_c _ _ (by decide)).trans ((ju_c _ _ (by decide)).trans ((ju_i _ _ (by decide)).trans e62)))))
                  obtain ⟨v64, e64⟩ : ∃ z, M 598 79 = z := ⟨_, rfl⟩
                  have b64 : 0 ≤ v64 ∧ v64 ≤ 255 := by rw [← e64]; exact hI_M 598 79 (by decide)
                  have y65 : (ju (ju (ju (ju (ju M 598 102 (v1 - 1)) 659 v56 9) 660 v56 0) 598 90 (v56 + 1)) 660 v57 (v56 + 1)) 598 79 = v64 := ((ju_c _ _ (by decide)).trans ((ju_i _ _ (by decide)).trans ((ju_c _ _ (by decide)).trans ((ju_c _ _ (by decide)).trans ((ju_i _ _ (by decide)).trans e64)))))
                  obtain ⟨v66, e66⟩ : ∃ z, M 598 80 = z := ⟨_, rfl⟩
                  have b66 : 0 ≤ v66 ∧ v66 ≤ 7 := by rw [← e66]; exact hI_M 598 80 (by decide)
                  have y67 : (ju (ju (ju (ju (ju M 598 102 (v1 - 1)) 659 v56 9) 660 v56 0) 598 90 (v56 + 1)) 660 v57 (v56 + 1)) 598 80 = v66 := ((ju_c _ _ (by decide)).trans ((ju_i _ _ (by decide)).trans ((ju_c _ _ (by decide)).trans ((ju_c _ _ (by decide)).trans ((ju_i _ _ (by decide)).trans e66)))))
                  obtain ⟨v68, e68⟩ : ∃ z, M 598 89 = z := ⟨_, rfl⟩
                  have b68 : 0 ≤ v68 ∧ v68 ≤ 301 := by rw [← e68]; exact hI_M 598 89 (by decide)
                  have y69 : (ju (ju (ju (ju (ju M 598 102 (v1 - 1)) 659 v56 9) 660 v56 0) 598 90 (v56 + 1)) 660 v57 (v56 + 1)) 598 89 = v68 := ((ju_c _ _ (by decide)).trans ((ju_i _ _ (by decide)).trans ((ju_c _ _ (by decide)).trans ((ju_c _ _ (by decide)).trans ((ju_i _ _ (by decide)).trans e68)))))
                  obtain ⟨v70, e70⟩ : ∃ z, M 598 100 = z := ⟨_, rfl⟩
                  have b70 : 0 ≤ v70 ∧ v70 ≤ 13 := by rw [← e70]; exact hI_M 598 100 (by decide)
                  have y71 : (ju (ju (ju (ju (ju M 598 102 (v1 - 1)) 659 v56 9) 660 v56 0) 598 90 (v56 + 1)) 660 v57 (v56 + 1)) 598 100 = v70 := ((ju_c _ _ (by decide)).trans ((ju_i _ _ (by decide)).trans ((ju_c _ _ (by decide)).trans ((ju_c _ _ (by decide)).trans ((ju_i _ _ (by decide)).trans e70)))))
                  have y72 : (ju (ju (ju (ju (ju M 598 102 (v1 - 1)) 659 v56 9) 660 v56 0) 598 90 (v56 + 1)) 660 v57 (v56 + 1)) 598 89 = v68 := ((ju_c _ _ (by decide)).trans ((ju_i _ _ (by decide)).trans ((ju_c _ _ (by decide)).trans ((ju_c _ _ (by decide)).trans ((ju_i _ _ (by decide)).trans e68)))))
                  have y73 : (ju (ju (ju (ju (ju M 598 102 (v1 - 1)) 659 v56 9) 660 v56 0) 598 90 (v56 + 1)) 660 v57 (v56 + 1)) 598 100 = v70 := ((ju_c _ _ (by decide)).trans ((ju_i _ _ (by decide)).trans ((ju_c _ _ (by decide)).trans ((ju_c _ _ (by decide)).trans ((ju_i _ _ (by decide)).trans e70)))))
                  refine jr.pick [1, 2] rfl rfl ?_
                  exact ih (nM - 1) (by omega) (ju (ju (ju (ju (ju M 598 102 (v1 - 1)) 659 v56 9) 660 v56 0) 598 90 (v56 + 1)) 660 v57 (v56 + 1)) y (RI.u (RI.u (RI.u (RI.u (RI.u hI_M (a := 598) (i := 102) (show (0 : Int) ≤ _ ∧ _ ≤ (400 : Int) from by omega)) (a := 659) (i := v56) (by rw [xri_row rfl rfl]; show (0 : Int) ≤ _ ∧ _ ≤ (1000 : Int); omega)) (a := 660) (i := v56) (by rw [xri_row rfl rfl]; show (-9223372036854775808 : Int) ≤ _ ∧ _ ≤ (9223372036854775807 : Int); omega)) (a := 598) (i := 90) (show (0 : Int) ≤ _ ∧ _ ≤ (2200 : Int) from by omega)) (a := 660) (i := v57) (by rw [xri_row rfl rfl]; show (-9223372036854775808 : Int) ≤ _ ∧ _ ≤ (9223372036854775807 : Int); omega)) (RH.o (RH.o (RH.o (RH.o (RH.o hH_M (by decide) (by decide) (by decide)) (by decide) (by decide) (by decide)) (by decide) (by decide) (by decide)) (by decide) (by decide) (by decide)) (by decide) (by decide) (by decide)) (RF.o (RF.o (RF.o (RF.o (RF.o hS_M (by decide) (by decide)) (by decide) (by decide)) (by decide) (by decide)) (by decide) (by decide)) (by decide) (by decide))  (fun a i f598 f659 f660 => ((ju_c _ _ f660).trans ((ju_c _ _ f598).trans ((ju_c _ _ f660).trans ((ju_c _ _ f659).trans ((ju_c _ _ f598).trans (hF_M a i f598 f659 f660))))))) (fun i g90 g100 g102 => ((ju_c _ _ (by decide)).trans ((ju_i _ _ g90).trans ((ju_c _ _ (by decide)).trans ((ju_c _ _ (by decide)).trans ((ju_i _ _ g102).trans (hG_M i g90 g100 g102))))))) (by omega) ⟨by omega, ES.adj (ES.redA gs2 e1 e56 e57 (by omega) (by rw [e2]; omega) (by omega)) (k' := kk) (z' := 0) (by omega) (by omega) (by omega), by omega, by omega, by omega, by omega⟩ ((((TK.o (Or.inl (by decide))).trans ((TK.o (Or.inr ⟨by decide, by decide⟩)).trans ((TK.o (Or.inl (by decide))).trans ((TK.o (Or.inl (by decide))).trans ((TK.o (Or.inr ⟨by decide, by decide⟩)).trans rfl)))))).trans hy1) (CP.o (CP.emit (CP.o hCP (by decide) (Or.inr (by decide))) ((ju_i _ _ (by decide)).trans e56)) (by decide) (Or.inl (by decide))) (zr.es hz (by omega) (by omega) ((congrArg Prod.fst ((abr_fr s0 (fun i => ju_c _ _ (by decide)) (fun i => ju_c _ _ (by decide)) (fun i => ju_c _ _ (by decide)) (ju_c _ _ (by decide))).trans ((abr_fr s0 (fun i => ju_c _ _ (by decide)) (fun i => ju_c _ _ (by decide)) (fun i => ju_c _ _ (by decide)) (ju_i _ _ (by decide))).trans ((abr_fr s0 (fun i => ju_c _ _ (by decide)) (fun i => ju_c _ _ (by decide)) (fun i => ju_c _ _ (by decide)) (ju_c _ _ (by decide))).trans ((abr_fr s0 (fun i => ju_c _ _ (by decide)) (fun i => ju_c _ _ (by decide)) (fun i => ju_c _ _ (by decide)) (ju_c _ _ (by decide))).trans rfl))))).trans (abr_b s0 e1 (by omega) e2 (by omega)).1.symm)) (fun q => ((congrArg Prod.snd ((abr_fr s0 (fun i => ju_c _ _ (by decide)) (fun i => ju_c _ _ (by decide)) (fun i => ju_c _ _ (by decide)) (ju_c _ _ (by decide))).trans ((abr_fr s0 (fun i => ju_c _ _ (by decide)) (fun i => ju_c _ _ (by decide)) (fun i => ju_c _ _ (by decide)) (ju_i _ _ (by decide))).trans ((abr_fr s0 (fun i => ju_c _ _ (by decide)) (fun i => ju_c _ _ (by decide)) (fun i => ju_c _ _ (by decide)) (ju_c _ _ (by decide))).trans ((abr_fr s0 (fun i => ju_c _ _ (by decide)) (fun i => ju_c _ _ (by decide)) (fun i => ju_c _ _ (by decide)) (ju_c _ _ (by decide))).trans rfl))))).trans ((abr_b s0 e1 (by omega) e2 (by omega)).2 (by omega)).symm).trans (h42 q)) (NU.fr (NU.fr (NU.fr (NU.fr (NU.pop hNU e1) (fun i => ju_c _ _ (by decide)) (ju_c _ _ (by decide))) (fun i => ju_c _ _ (by decide)) (ju_c _ _ (by decide))) (fun i => ju_c _ _ (by decide)) (ju_i _ _ (by decide))) (fun i => ju_c _ _ (by decide)) (ju_c _ _ (by decide))) (by omega) (by rw [((ju_c _ _ (by decide)).trans ((ju_i _ _ (by decide)).trans ((ju_c _ _ (by decide)).trans ((ju_c _ _ (by decide)).trans (ju_same _ _ _ _)))))]; omega)
            · refine jr.aload_n rfl rfl ?_
              refine jr.iload_n rfl rfl ?_
              refine jr.lconst (x := 0) rfl (by decide) ?_
              obtain ⟨v74, e74⟩ : ∃ z, M 598 90 = z := ⟨_, rfl⟩
              have b74 : 0 ≤ v74 ∧ v74 ≤ 2200 := by rw [← e74]; exact hI_M 598 90 (by decide)
              refine jr_v rfl rfl (Or.inl rfl) rfl rfl (by decide) rfl ⟨rfl, Nat.le_of_ble_eq_true rfl, Nat.le_of_ble_eq_true rfl⟩ rfl (jc.deep (r_emit ((ju_i _ _ (by decide)).trans e74) (by omega) (by omega) (by omega) ?_) (by decide))
              refine jr.aload_n rfl rfl ?_
              refine jr.dup rfl rfl ?_
              obtain ⟨v75, e75⟩ : ∃ z, M 598 100 = z := ⟨_, rfl⟩
              have b75 : 0 ≤ v75 ∧ v75 ≤ 13 := by rw [← e75]; exact hI_M 598 100 (by decide)
              refine jr.getf (i := 100) (x := v75) (v := .int (Int32.ofInt (v75))) rfl rfl (by decide) rfl (by decide) rfl rfl ((ju_i _ _ (by decide)).trans ((ju_c _ _ (by decide)).trans ((ju_c _ _ (by decide)).trans ((ju_i _ _ (by decide)).trans e75)))) rfl ?_
              refine jr.iconst rfl ?_
              refine jr.isub rfl ?_
              refine jr.putf (i := 100) (x := (v75 - 1)) rfl rfl (by decide) rfl (by decide) rfl rfl rfl rfl rfl ?_
              refine jr.goto rfl rfl ?_
              refine jr.goto rfl rfl ?_
              obtain ⟨v76, e76⟩ : ∃ z, M 598 72 = z := ⟨_, rfl⟩
              have b76 : 0 ≤ v76 ∧ v76 ≤ 1600 := by rw [← e76]; exact hI_M 598 72 (by decide)
              have y77 : (ju (ju (ju (ju (ju M 598 102 (v1 - 1)) 659 v74 v2) 660 v74 0) 598 90 (v74 + 1)) 598 100 (v75 - 1)) 598 72 = v76 := ((ju_i _ _ (by decide)).trans ((ju_i _ _ (by decide)).trans ((ju_c _ _ (by decide)).trans ((ju_c _ _ (by decide)).trans ((ju_i _ _ (by decide)).trans e76)))))
              obtain ⟨v78, e78⟩ : ∃ z, M 598 73 = z := ⟨_, rfl⟩
              have b78 : 0 ≤ v78 ∧ v78 ≤ 1600 := by rw [← e78]; exact hI_M 598 73 (by decide)
              have y79 : (ju (ju (ju (ju (ju M 598 102 (v1 - 1)) 659 v74 v2) 660 v74 0) 598 90 (v74 + 1)) 598 100 (v75 - 1)) 598 73 = v78 := ((ju_i _ _ (by decide)).trans ((ju_i _ _ (by decide)).trans ((ju_c _ _ (by decide)).trans ((ju_c _ _ (by decide)).trans ((ju_i _ _ (by decide)).trans e78)))))
              obtain ⟨v80, e80⟩ : ∃ z, M 598 74 = z := ⟨_, rfl⟩
              have b80 : 0 ≤ v80 ∧ v80 ≤ 4 := by rw [← e80]; exact hI_M 598 74 (by decide)
              have y81 : (ju (ju (ju (ju (ju M 598 102 (v1 - 1)) 659 v74 v2) 660 v74 0) 598 90 (v74 + 1)) 598 100 (v75 - 1)) 598 74 = v80 := ((ju_i _ _ (by decide)).trans ((ju_i _ _ (by decide)).trans ((ju_c _ _ (by decide)).trans ((ju_c _ _ (by decide)).trans ((ju_i _ _ (by decide)).trans e80)))))
              obtain ⟨v82, e82⟩ : ∃ z, M 598 79 = z := ⟨_, rfl⟩
              have b82 : 0 ≤ v82 ∧ v82 ≤ 255 := by rw [← e82]; exact hI_M 598 79 (by decide)
              have y83 : (ju (ju (ju (ju (ju M 598 102 (v1 - 1)) 659 v74 v2) 660 v74 0) 598 90 (v74 + 1)) 598 100 (v75 - 1)) 598 79 = v82 := ((ju_i _ _ (by decide)).trans ((ju_i _ _ (by decide)).trans ((ju_c _ _ (by decide)).trans ((ju_c _ _ (by decide)).trans ((ju_i _ _ (by decide)).trans e82)))))
              obtain ⟨v84, e84⟩ : ∃ z, M 598 80 = z := ⟨_, rfl⟩
              have b84 : 0 ≤ v84 ∧ v84 ≤ 7 := by rw [← e84]; exact hI_M 598 80 (by decide)
              have y85 : (ju (ju (ju (ju (ju M 598 102 (v1 - 1)) 659 v74 v2) 660 v74 0) 598 90 (v74 + 1)) 598 100 (v75 - 1)) 598 80 = v84 := ((ju_i _ _ (by decide)).trans ((ju_i _ _ (by decide)).trans ((ju_c _ _ (by decide)).trans ((ju_c _ _ (by decide)).trans ((ju_i _ _ (by decide)).trans e84)))))
              obtain ⟨v86, e86⟩ : ∃ z, M 598 89 = z := ⟨_, rfl⟩
              have b86 : 0 ≤ v86 ∧ v86 ≤ 301 := by rw [← e86]; exact hI_M 598 89 (by decide)
              have y87 : (ju (ju (ju (ju (ju M 598 102 (v1 - 1)) 659 v74 v2) 660 v74 0) 598 90 (v74 + 1)) 598 100 (v75 - 1)) 598 89 = v86 := ((ju_i _ _ (by decide)).trans ((ju_i _ _ (by decide)).trans ((ju_c _ _ (by decide)).trans ((ju_c _ _ (by decide)).trans ((ju_i _ _ (by decide)).trans e86)))))
              have y88 : (ju (ju (ju (ju (ju M 598 102 (v1 - 1)) 659 v74 v2) 660 v74 0) 598 90 (v74 + 1)) 598 100 (v75 - 1)) 598 100 = v75 - 1 := (ju_same _ _ _ _)
              have y89 : (ju (ju (ju (ju (ju M 598 102 (v1 - 1)) 659 v74 v2) 660 v74 0) 598 90 (v74 + 1)) 598 100 (v75 - 1)) 598 89 = v86 := ((ju_i _ _ (by decide)).trans ((ju_i _ _ (by decide)).trans ((ju_c _ _ (by decide)).trans ((ju_c _ _ (by decide)).trans ((ju_i _ _ (by decide)).trans e86)))))
              have y90 : (ju (ju (ju (ju (ju M 598 102 (v1 - 1)) 659 v74 v2) 660 v74 0) 598 90 (v74 + 1)) 598 100 (v75 - 1)) 598 100 = v75 - 1 := (ju_same _ _ _ _)
              refine jr.pick [1, 2] rfl rfl ?_
              exact ih (nM - 1) (by omega) (ju (ju (ju (ju (ju M 598 102 (v1 - 1)) 659 v74 v2) 660 v74 0) 598 90 (v74 + 1)) 598 100 (v75 - 1)) y (RI.u (RI.u (RI.u (RI.u (RI.u hI_M (a := 598) (i := 102) (show (0 : Int) ≤ _ ∧ _ ≤ (400 : Int) from by omega)) (a := 659) (i := v74) (by rw [xri_row rfl rfl]; show (0 : Int) ≤ _ ∧ _ ≤ (1000 : Int); omega)) (a := 660) (i := v74) (by rw [xri_row rfl rfl]; show (-9223372036854775808 : Int) ≤ _ ∧ _ ≤ (9223372036854775807 : Int); omega)) (a := 598) (i := 90) (show (0 : Int) ≤ _ ∧ _ ≤ (2200 : Int) from by omega)) (a := 598) (i := 100) (show (0 : Int) ≤ _ ∧ _ ≤ (13 : Int) from by omega)) (RH.o (RH.o (RH.o (RH.o (RH.o hH_M (by decide) (by decide) (by decide)) (by decide) (by decide) (by decide)) (by decide) (by decide) (by decide)) (by decide) (by decide) (by decide)) (by decide) (by decide) (by decide)) (RF.o (RF.o (RF.o (RF.o (RF.o hS_M (by decide) (by decide)) (by decide) (by decide)) (by decide) (by decide)) (by decide) (by decide)) (by decide) (by decide))  (fun a i f598 f659 f660 => ((ju_c _ _ f598).trans ((ju_c _ _ f598).trans ((ju_c _ _ f660).trans ((ju_c _ _ f659).trans ((ju_c _ _ f598).trans (hF_M a i f598 f659 f660))))))) (fun i g90 g100 g102 => ((ju_i _ _ g100).trans ((ju_i _ _ g90).trans ((ju_c _ _ (by decide)).trans ((ju_c _ _ (by decide)).trans ((ju_i _ _ g102).trans (hG_M i g90 g100 g102))))))) (by omega) ⟨by omega, ES.adj (ES.redU gs2 e1 e74 e75 e2 (by omega) (by omega) (by omega)) (k' := kk) (z' := 0) (by omega) (by omega) (by omega), by omega, by omega, by omega, by omega⟩ ((((TK.o (Or.inr ⟨by decide, by decide⟩)).trans ((TK.o (Or.inr ⟨by decide, by decide⟩)).trans ((TK.o (Or.inl (by decide))).trans ((TK.o (Or.inl (by decide))).trans ((TK.o (Or.inr ⟨by decide, by decide⟩)).trans rfl)))))).trans hy1) (CP.o (CP.emit (CP.o hCP (by decide) (Or.inr (by decide))) ((ju_i _ _ (by decide)).trans e74)) (by decide) (Or.inr (by decide))) (by have q := abr_u s0 e1 (by omega) e2 (by omega); have z := hz; rw [q] at z; exact zr.es (zr.pop z) (by omega) (by omega) (congrArg Prod.fst ((abr_fr s0 (fun i => ju_c _ _ (by decide)) (fun i => ju_c _ _ (by decide)) (fun i => ju_c _ _ (by decide)) (ju_i _ _ (by decide))).trans ((abr_fr s0 (fun i => ju_c _ _ (by decide)) (fun i => ju_c _ _ (by decide)) (fun i => ju_c _ _ (by decide)) (ju_i _ _ (by decide))).trans ((abr_fr s0 (fun i => ju_c _ _ (by decide)) (fun i => ju_c _ _ (by decide)) (fun i => ju_c _ _ (by decide)) (ju_c _ _ (by decide))).trans ((abr_fr s0 (fun i => ju_c _ _ (by decide)) (fun i => ju_c _ _ (by decide)) (fun i => ju_c _ _ (by decide)) (ju_c _ _ (by decide))).trans rfl)))))) (fun q => by have q1 := congrArg Prod.snd (abr_u s0 e1 (by omega) e2 (by omega)); exact ((congrArg Prod.snd ((abr_fr s0 (fun i => ju_c _ _ (by decide)) (fun i => ju_c _ _ (by decide)) (fun i => ju_c _ _ (by decide)) (ju_i _ _ (by decide))).trans ((abr_fr s0 (fun i => ju_c _ _ (by decide)) (fun i => ju_c _ _ (by decide)) (fun i => ju_c _ _ (by decide)) (ju_i _ _ (by decide))).trans ((abr_fr s0 (fun i => ju_c _ _ (by decide)) (fun i => ju_c _ _ (by decide)) (fun i => ju_c _ _ (by decide)) (ju_c _ _ (by decide))).trans ((abr_fr s0 (fun i => ju_c _ _ (by decide)) (fun i => ju_c _ _ (by decide)) (fun i => ju_c _ _ (by decide)) (ju_c _ _ (by decide))).trans rfl))))).trans q1.symm).trans (h42 q)) (NU.fr (NU.fr (NU.fr (NU.fr (NU.pop hNU e1) (fun i => ju_c _ _ (by decide)) (ju_c _ _ (by decide))) (fun i => ju_c _ _ (by decide)) (ju_c _ _ (by decide))) (fun i => ju_c _ _ (by decide)) (ju_i _ _ (by decide))) (fun i => ju_c _ _ (by decide)) (ju_i _ _ (by decide))) (by omega) (by rw [((ju_i _ _ (by decide)).trans ((ju_i _ _ (by decide)).trans ((ju_c _ _ (by decide)).trans ((ju_c _ _ (by decide)).trans (ju_same _ _ _ _)))))]; omega)
theorem r_reduce_z {A : Nat → Option (Nat × (Nat → Int32))} {Q : Option Value → jm → Prop} {f : Int → Int} {N : Int} {b kk : Int} {xs : ZS} {t cc bh : Int} {s0 : List (Int × Int × Int × Int)} {nm ak : List Int} {M : jm} (hI_M : RI M) (hH_M : RH M) (hS_M : RF M) {y : Int} (h_y : 1 ≤ y ∧ y ≤ 6) (p0 : GS M b 1 kk) (p1 : zr f N xs (3, t, M 598 89, M 598 100, cc, bh, (abr M s0).1, nm, ak)) (p2 : NU M) (q : ∀ (M' : jm), RI M' → RH M' → RF M' → GS M' b 1 kk → (M' 598 102 = 0 ∨ strn (M' 664 (M' 598 102 - 1)) < y) → TK M' = TK M → CP M M' → zr f N xs (3, t, M' 598 89, M' 598 100, cc, bh, (abr M' s0).1, nm, ak) → ABQ y M M' s0 → NU M' → (∀ (a : Nat) (i : Int), a ≠ 598 → a ≠ 659 → a ≠ 660 → M' a i = M a i) → (∀ (i : Int), i ≠ 90 → i ≠ 100 → i ≠ 102 → M' 598 i = M 598 i) → Q none M') : jc A 2 355 [.ref (598), .int (Int32.ofInt (y))] M Q := by
  refine jc_of (m := xm_355) rfl (Nat.le_of_ble_eq_true rfl) rfl ?_
  refine jr.pick [1, 0] rfl rfl ?_
  obtain ⟨v1, e1⟩ : ∃ z, M 598 102 = z := ⟨_, rfl⟩
  have b1 : 0 ≤ v1 ∧ v1 ≤ 400 := by rw [← e1]; exact hI_M 598 102 (by decide)
  exact r_reduce_L0_z q 400 M y hI_M hH_M hS_M  (fun a i f598 f659 f660 => rfl) (fun i g90 g100 g102 => rfl) (by omega) p0 rfl (CP.rfl _) p1 (fun _ => rfl) p2 (by omega) (by omega)
theorem r_isCompareOnTop_z {A : Nat → Option (Nat × (Nat → Int32))} {Q : Option Value → jm → Prop} {T : jm} {M : jm} (hI_M : RI M) (hH_M : RH M) (hS_M : RF M) (ht_M : Kp T M) (q : ∀ (r : Int), 0 ≤ r ∧ r ≤ 1 → (r = 0 → (M 598 102 = 0 ∨ strn (M 664 (M 598 102 - 1)) ≠ 3)) → (r = 1 → (0 < M 598 102 ∧ strn (M 664 (M 598 102 - 1)) = 3)) → Q (some (.int (Int32.ofInt r))) M) : jc A 2 362 [.ref (598)] M Q := by
  refine jc_of (m := xm_362) rfl (Nat.le_of_ble_eq_true rfl) rfl ?_
  refine jr.aload_n rfl rfl ?_
  obtain ⟨v1, e1⟩ : ∃ z, M 598 102 = z := ⟨_, rfl⟩
  have b1 : 0 ≤ v1 ∧ v1 ≤ 400 := by rw [← e1]; exact hI_M 598 102 (by decide)
  refine jr.getf (i := 102) (x := v1) (v := .int (Int32.ofInt (v1))) rfl rfl (by decide) rfl (by decide) rfl rfl e1 rfl ?_
  refine jr.if_le rfl rfl (by omega) (fun h4 => ?_) (fun h4 => ?_)
  · refine jr.iconst rfl ?_
    exact jr.ireturn rfl rfl rfl (q _ (by omega) (fun q => by omega) (fun q => by omega))
  · refine jr.aload_n rfl rfl ?_
    refine jr.getf (i := 103) (v := .ref 664) rfl rfl (by decide) rfl (by decide) rfl rfl rfl rfl ?_
    refine jr.aload_n rfl rfl ?_
    refine jr.getf (i := 102) (x := v1) (v := .int (Int32.ofInt (v1))) rfl rfl (by decide) rfl (by decide) rfl rfl e1 rfl ?_
    refine jr.iconst rfl ?_
    refine jr.isub rfl ?_
    obtain ⟨v2, e2⟩ : ∃ z, M 664 (v1 - 1) = z := ⟨_, rfl⟩
    have b2 : 0 ≤ v2 ∧ v2 ≤ 255 := by rw [← e2]; exact (by have q := hI_M 664 (v1 - 1) (by decide); rw [xri_row rfl rfl] at q; exact q)
    refine jr.iald (i := (v1 - 1)) (x := v2) rfl (by decide) rfl (by decide) (by omega) (by omega) e2 ?_
    refine jr_s rfl rfl (Or.inl rfl) ⟨Nat.le_of_ble_eq_true rfl, Nat.le_of_ble_eq_true rfl⟩ rfl rfl (jc.deep (r_strength hI_M hH_M hS_M ht_M (by omega)  (fun r3 z3 w3_0 => ?_)) (by decide))
    refine jr.iconst rfl ?_
    refine jr.icmp_ne rfl rfl (by omega) (by omega) (fun h22 => ?_) (fun h22 => ?_)
    · refine jr.iconst rfl ?_
      exact jr.ireturn rfl rfl rfl (q _ (by omega) (fun q => by first | omega | (rw [e1]; exact Or.inr (by rw [e2]; omega))) (fun q => by first | omega | (rw [e1]; exact ⟨by omega, by rw [e2]; omega⟩)))
    · refine jr.iconst rfl ?_
      refine jr.goto rfl rfl ?_
      exact jr.ireturn rfl rfl rfl (q _ (by omega) (fun q => by first | omega | (rw [e1]; exact Or.inr (by rw [e2]; omega))) (fun q => by first | omega | (rw [e1]; exact ⟨by omega, by rw [e2]; omega⟩)))
theorem zrk_s {f : Int → Int} {N t : Int} (h : zso f N t = 3) : zrk f N t = zrs (f t) := by
  unfold zrk
  rw [if_pos h]
theorem zrk_9 {f : Int → Int} {N t : Int} (h : zso f N t ≠ 3 ∨ (zso f N t = 3 ∧ zrs (f t) = 9)) : 4 < zrk f N t := by
  rcases h with h | h
  · unfold zrk
    rw [if_neg h]
    decide
  · rw [zrk_s h.1, h.2]
    decide
theorem zrk_v0 {f : Int → Int} {N t v : Int} (h : zso f N t = 3) (e : f t = v) (h0 : v ≠ 10) (h1 : v ≠ 11) (hv : strn v = 0) : 4 < zrk f N t := by
  have q := (zrs_s h0 h1).1 hv
  rw [zrk_s h, e, q]
  decide
theorem zrk_vn {f : Int → Int} {N t v : Int} (h : zso f N t = 3) (e : f t = v) (h0 : v ≠ 10) (h1 : v ≠ 11) (hv : strn v ≠ 0) : zrk f N t = strn v - 1 := by
  rw [zrk_s h, e]
  exact (zrs_s h0 h1).2 hv
noncomputable def ZSQ (f : Int → Int) (N : Int) (xs : ZS) (M : jm) (r bh : Int) (s0 : List (Int × Int × Int × Int)) (nm ak : List Int) : Prop := M 598 80 = 0 → r = 1 → ZOP f N xs 2 M (abr M s0).2 bh (abr M s0).1 nm ak
noncomputable def ZSR0 (f : Int → Int) (N : Int) (xs : ZS) (M : jm) (r t bh : Int) (s0 : List (Int × Int × Int × Int)) (nm ak : List Int) : Prop := r = 0 → TKr f N t M ∧ zr f N xs (3, t, M 598 89, M 598 100, (abr M s0).2, bh, (abr M s0).1, nm, ak) ∧ 4 < zrk f N t
/-- what waits on top is weaker than y -/
noncomputable def TPQ (M : jm) (y : Int) : Prop := M 598 102 = 0 ∨ strn (M 664 (M 598 102 - 1)) < y
noncomputable def CTQ (r : Int) (M : jm) : Prop := (r = 0 → (M 598 102 = 0 ∨ strn (M 664 (M 598 102 - 1)) ≠ 3)) ∧ (r = 1 → (0 < M 598 102 ∧ strn (M 664 (M 598 102 - 1)) = 3))
/-- the machine behind an operand, a sign of strength y ahead -/
noncomputable def TSP7 (f : Int → Int) (N : Int) (xs : ZS) (M : jm) (t bh : Int) (s0 : List (Int × Int × Int × Int)) (nm ak : List Int) (y : Int) : Prop := ∃ c2 : Int, zr f N xs (3, t, M 598 89, M 598 100, c2, bh, (abr M s0).1, nm, ak) ∧ (y = 3 → c2 ≠ 1) ∧ (4 ≤ y → (abr M s0).2 = c2)
/-- the machine behind that sign -/
noncomputable def TSQ7 (f : Int → Int) (N : Int) (xs : ZS) (M : jm) (k d t bh : Int) (s0 : List (Int × Int × Int × Int)) (nm ak : List Int) (y : Int) : Prop := ∃ c2 : Int, zr f N xs (2, znx f N t, k, d, (if y ≤ 2 then 0 else if y = 3 then 1 else c2), bh, (abr M s0).1, nm, ak) ∧ (4 ≤ y → (abr M s0).2 = c2)
section ZS1
variable {f : Int → Int} {N : Int} {xs : ZS} {M M' : jm} {t bh y c s w k d : Int} {s0 : List (Int × Int × Int × Int)} {nm ak : List Int}
theorem TPQ.fr (h : TPQ M y) (e1 : ∀ i : Int, M' 664 i = M 664 i) (e2 : M' 598 102 = M 598 102) : TPQ M' y := by
  unfold TPQ at *
  rw [e2, e1]
  exact h
theorem TPQ.cast {y' : Int} (h : TPQ M y) (e : y' = y) : TPQ M y' := by
  rw [e]
  exact h
theorem TPQ.of (h : TPQ M 4) (h2 : M 598 102 = 0 ∨ strn (M 664 (M 598 102 - 1)) ≠ 3) : TPQ M 3 := by
  rcases h with h | h
  · exact Or.inl h
  · rcases h2 with h2 | h2
    · exact Or.inl h2
    · exact Or.inr (by omega)
theorem TPQ.g (h : TPQ M y) (e : M 598 102 = c) (hs : strn s = y) : c = 0 ∨ strn (M 664 (c - 1)) < strn s := by
  rw [hs, ← e]
  exact h
theorem TPQ.ntop (h : TPQ M y) (e : M 598 102 = c) (hy : y ≤ 6) : c = 0 ∨ ¬ (M 664 (c - 1) = 10 ∨ M 664 (c - 1) = 11) := by
  rw [← e]
  rcases h with h | h
  · exact Or.inl h
  · refine Or.inr (fun q => ?_)
    have := strn_u q
    omega
theorem TPQ.hd (h : TPQ M y) (hy : y ≤ 6) (hs : HD s0) (hN : NU M) (hc : 0 ≤ M 598 102) : HD (abr M s0).1 := abr_hd hs hN rfl hc (h.ntop rfl hy)
theorem TPQ.c0 (s0 : List (Int × Int × Int × Int)) (h : TPQ M 3) (hc : 0 ≤ M 598 102) : (abr M s0).2 = 0 := by
  refine abr_20 s0 rfl hc ?_
  rcases h with h | h
  · exact Or.inl h
  · exact Or.inr (by omega)
theorem zr.bincc {c2 : Int} {l : List (Int × Int × Int × Int)} (h : zr f N xs (3, t, k, d, c2, bh, l, nm, ak)) (hh : HD l) (hrk : zrk f N t = 2) (hc : c2 = 1) : zr f N xs (zft 2 t) := by
  obtain ⟨a, w, n, e, r, hl, ha⟩ := hh
  rw [hl] at h
  exact zr.binc h ha ⟨hrk, hc⟩
theorem TSP7.bink (h : TSP7 f N xs M t bh s0 nm ak y) (hh : HD (abr M s0).1) (hrk : zrk f N t = y - 1) (hy : 1 ≤ y ∧ y ≤ 5) (hk : 300 ≤ M 598 89) : zr f N xs (zft 3 t) := by
  obtain ⟨c2, hz, hn, _⟩ := h
  obtain ⟨a, w, n, e, r, hl, ha⟩ := hh
  rw [hl] at hz
  exact zr.bink hz ha (by omega) (fun z => hn (by omega) z.2) hk
theorem TSP7.bin (h : TSP7 f N xs M t bh s0 nm ak y) (hh : HD (abr M s0).1) (hrk : zrk f N t = y - 1) (hy : 1 ≤ y ∧ y ≤ 5) (hk : M 598 89 < 300) : TSQ7 f N xs M (M 598 89 + 1) (M 598 100) t bh s0 nm ak y := by
  obtain ⟨c2, hz, hn, h4⟩ := h
  obtain ⟨a, w, n, e, r, hl, ha⟩ := hh
  refine ⟨c2, ?_, h4⟩
  rw [hl] at hz
  rw [hl]
  have q := zr.bin hz ha (by omega) (fun z => hn (by omega) z.2) hk
  have e2 : (if zrk f N t ≤ 1 then (0 : Int) else if zrk f N t = 2 then 1 else c2) = (if y ≤ 2 then 0 else if y = 3 then 1 else c2) := by
    rw [hrk]
    by_cases q1 : y ≤ 2
    · rw [if_pos q1, if_pos (show y - 1 ≤ 1 by omega)]
    · rw [if_neg q1, if_neg (show ¬ y - 1 ≤ 1 by omega)]
      by_cases q2 : y = 3
      · rw [if_pos q2, if_pos (show y - 1 = 2 by omega)]
      · rw [if_neg q2, if_neg (show ¬ y - 1 = 2 by omega)]
  rw [e2] at q
  exact q
theorem TSQ7.tr {k' d' : Int} (h : TSQ7 f N xs M k d t bh s0 nm ak y) (ea : abr M' s0 = abr M s0) (ek : k' = k) (ed : d' = d) : TSQ7 f N xs M' k' d' t bh s0 nm ak y := by
  unfold TSQ7 at *
  rw [ea, ek, ed]
  exact h
theorem abr_bin {c2 : Int} (s0 : List (Int × Int × Int × Int)) (e : M 598 102 = c) (h0 : 0 ≤ c) (hs : strn s = y) (h1 : 1 ≤ y ∧ y ≤ 5) (hc : 4 ≤ y → (abr M s0).2 = c2) : abr (ju (ju (ju (ju M 664 c s) 666 c w) 667 c 1) 598 102 (c + 1)) s0 = ((abr M s0).1, if y ≤ 2 then 0 else if y = 3 then 1 else c2) := by
  have n40 : ¬ s = 40 := fun z => by
    rw [z, strn_40] at hs
    omega
  have n1 : ¬ (s = 10 ∨ s = 11) := fun z => by
    have := strn_u z
    omega
  rw [abr_push s0 e h0, if_neg n40, if_neg n1]
  by_cases q3 : strn s = 3
  · rw [if_pos q3, if_neg (show ¬ y ≤ 2 by omega), if_pos (show y = 3 by omega)]
  · rw [if_neg q3]
    by_cases q2 : strn s ≤ 2
    · rw [if_pos q2, if_pos (show y ≤ 2 by omega)]
    · rw [if_neg q2, if_neg (show ¬ y ≤ 2 by omega), if_neg (show ¬ y = 3 by omega)]
      exact Prod.ext rfl (hc (by omega))
theorem TSQ7.push (h : TSQ7 f N xs M k d t bh s0 nm ak y) (e : M 598 102 = c) (h0 : 0 ≤ c) (hs : strn s = y) (hy : 1 ≤ y ∧ y ≤ 5) (ea : abr M' s0 = abr (ju (ju (ju (ju M 664 c s) 666 c w) 667 c 1) 598 102 (c + 1)) s0) (hK : TKr f N (znx f N t) M') (ek : M' 598 89 = k) (ed : M' 598 100 = d) : ZOP f N xs 2 M' (abr M' s0).2 bh (abr M' s0).1 nm ak := by
  obtain ⟨c2, hz, h4⟩ := h
  refine ⟨_, hK, ?_⟩
  rw [ea, abr_bin s0 e h0 hs hy h4, ek, ed]
  exact hz
end ZS1
set_option maxHeartbeats 8000000 in
theorem r_takeSign_L80_z {A : Nat → Option (Nat × (Nat → Int32))} {Q : Option Value → jm → Prop} {f : Int → Int} {N : Int} {b kk : Int} {xs : ZS} {t bh : Int} {s0 : List (Int × Int × Int × Int)} {nm ak : List Int} {M0 : jm} (q : ∀ (r : Int) (M' : jm), RI M' → RH M' → RF M' → 0 ≤ r ∧ r ≤ 1 → ((r = 0 ∧ GS M' b 1 kk) ∨ (r = 1 ∧ (BS M' ∨ (GS M' b 0 kk ∧ TK M' < TK M0)))) → TK M' ≤ TK M0 → M' 598 73 ≤ M' 598 72 → (r = 0 ∨ M' 598 80 ≠ 0 ∨ TK M' < TK M0) → CP M0 M' → M0 598 89 ≤ M' 598 89 → TXr f N M' → ZFQ f N xs M' → ZSQ f N xs M' r bh s0 nm ak → ZSR0 f N xs M' r t bh s0 nm ak → NUQ M' → K8Q M0 M' → (∀ (a : Nat) (i : Int), a ≠ 598 → a ≠ 659 → a ≠ 660 → a ≠ 664 → a ≠ 665 → a ≠ 666 → a ≠ 667 → M' a i = M0 a i) → (∀ (i : Int), i ≠ 73 → i ≠ 74 → i ≠ 75 → i ≠ 76 → i ≠ 77 → i ≠ 78 → i ≠ 79 → i ≠ 80 → i ≠ 81 → i ≠ 89 → i ≠ 90 → i ≠ 100 → i ≠ 102 → M' 598 i = M0 598 i) → Q (some (.int (Int32.ofInt r))) M') : ∀ (M : jm) (y : Int) (c : Int), RI M → RH M → RF M → (∀ (a : Nat) (i : Int), a ≠ 598 → a ≠ 659 → a ≠ 660 → a ≠ 664 → a ≠ 665 → a ≠ 666 → a ≠ 667 → M a i = M0 a i) → (∀ (i : Int), i ≠ 73 → i ≠ 74 → i ≠ 75 → i ≠ 76 → i ≠ 77 → i ≠ 78 → i ≠ 79 → i ≠ 80 → i ≠ 81 → i ≠ 89 → i ≠ 90 → i ≠ 100 → i ≠ 102 → M 598 i = M0 598 i) → 1 ≤ y ∧ y ≤ 5 → 0 ≤ c ∧ c ≤ 255 → ES M b 1 (kk + 4) 0 0 (-1) → M 598 80 = 0 → M 598 89 ≤ 300 → M 598 100 ≤ 12 → M 598 73 ≤ M 598 72 → (M 598 74 = 3 → M 598 79 ≠ 10 ∧ M 598 79 ≠ 11) → TK M < TK M0 → CP M0 M → M0 598 89 ≤ M 598 89 → M 598 81 = M0 598 81 → TKr f N (znx f N t) M → TSQ7 f N xs M (M 598 89) (M 598 100) t bh s0 nm ak y → NU M → TPQ M y → strn c = y → 0 ≤ kk → jr A 2 xm_363 80 [(1, .int (Int32.ofInt (y))), (2, .int (Int32.ofInt (c))), (0, .ref (598))] [] M Q := by
    intro M y c hI_M hH_M hS_M hF_M hG_M h_y h_c hy0 hy1 hy2 hy3 hy4 hy5 hy6 hy7 hy8 hy9 hy10 hy11 hy12 hy13 hy14 hy15
    have hCP := hy7
    have hE := hy0
    have sl := ES.sgle hy0
    have bb := ES.bb hy0
    have kb := ES.kz hy0
    have b107 : (0 : Int) ≤ M 598 107 ∧ M 598 107 ≤ 16 := hI_M 598 107 (by decide)
    have b73 : (0 : Int) ≤ M 598 73 ∧ M 598 73 ≤ 1600 := hI_M 598 73 (by decide)
    have b88 : (0 : Int) ≤ M 598 88 ∧ M 598 88 ≤ 16 := hI_M 598 88 (by decide)
    have b100 : (0 : Int) ≤ M 598 100 ∧ M 598 100 ≤ 13 := hI_M 598 100 (by decide)
    have hK := hy10
    have kk0 := hK.kz
    have hT := hK.1
    have hTQ := hy11
    have hNU := hy12
    have hTP := hy13
    have hst := hy14
    refine jr.iload_n rfl rfl ?_
    refine jr.iconst rfl ?_
    refine jr.icmp_ge rfl rfl (by omega) (by omega) (fun h82 => ?_) (fun h82 => ?_)
    · refine jr.aload_n rfl rfl ?_
      refine jr.iload_n rfl rfl ?_
      refine jr.iconst rfl ?_
      obtain ⟨v1, e1⟩ : ∃ z, M 598 102 = z := ⟨_, rfl⟩
      have b1 : 0 ≤ v1 ∧ v1 ≤ 400 := by rw [← e1]; exact hI_M 598 102 (by decide)
      refine jr_v rfl rfl (Or.inl rfl) rfl rfl (by decide) rfl ⟨rfl, Nat.le_of_ble_eq_true rfl, Nat.le_of_ble_eq_true rfl⟩ rfl (jc.deep (r_push e1 (by omega) (by omega) (by omega) ?_) (by decide))
      have hE := ES.two hE e1 c (-1) (kk + 2) (by omega) (TPQ.g hTP e1 hst) (by omega) (by omega)
      refine jr.iconst rfl ?_
      obtain ⟨v2, e2⟩ : ∃ z, M 598 72 = z := ⟨_, rfl⟩
      have b2 : 0 ≤ v2 ∧ v2 ≤ 1600 := by rw [← e2]; exact hI_M 598 72 (by decide)
      have y3 : (ju (ju (ju (ju M 664 v1 c) 666 v1 (-1)) 667 v1 1) 598 102 (v1 + 1)) 598 72 = v2 := ((ju_i _ _ (by decide)).trans ((ju_c _ _ (by decide)).trans ((ju_c _ _ (by decide)).trans ((ju_c _ _ (by decide)).trans e2))))
      obtain ⟨v4, e4⟩ : ∃ z, M 598 73 = z := ⟨_, rfl⟩
      have b4 : 0 ≤ v4 ∧ v4 ≤ 1600 := by rw [← e4]; exact hI_M 598 73 (by decide)
      have y5 : (ju (ju (ju (ju M 664 v1 c) 666 v1 (-1)) 667 v1 1) 598 102 (v1 + 1)) 598 73 = v4 := ((ju_i _ _ (by decide)).trans ((ju_c _ _ (by decide)).trans ((ju_c _ _ (by decide)).trans ((ju_c _ _ (by decide)).trans e4))))
      obtain ⟨v6, e6⟩ : ∃ z, M 598 74 = z := ⟨_, rfl⟩
      have b6 : 0 ≤ v6 ∧ v6 ≤ 4 := by rw [← e6]; exact hI_M 598 74 (by decide)
      have y7 : (ju (ju (ju (ju M 664 v1 c) 666 v1 (-1)) 667 v1 1) 598 102 (v1 + 1)) 598 74 = v6 := ((ju_i _ _ (by decide)).trans ((ju_c _ _ (by decide)).trans ((ju_c _ _ (by decide)).trans ((ju_c _ _ (by decide)).trans e6))))
      obtain ⟨v8, e8⟩ : ∃ z, M 598 79 = z := ⟨_, rfl⟩
      have b8 : 0 ≤ v8 ∧ v8 ≤ 255 := by rw [← e8]; exact hI_M 598 79 (by decide)
      have y9 : (ju (ju (ju (ju M 664 v1 c) 666 v1 (-1)) 667 v1 1) 598 102 (v1 + 1)) 598 79 = v8 := ((ju_i _ _ (by decide)).trans ((ju_c _ _ (by decide)).trans ((ju_c _ _ (by decide)).trans ((ju_c _ _ (by decide)).trans e8))))
      obtain ⟨v10, e10⟩ : ∃ z, M 598 80 = z := ⟨_, rfl⟩
      have b10 : 0 ≤ v10 ∧ v10 ≤ 7 := by rw [← e10]; exact hI_M 598 80 (by decide)
      have y11 : (ju (ju (ju (ju M 664 v1 c) 666 v1 (-1)) 667 v1 1) 598 102 (v1 + 1)) 598 80 = v10 := ((ju_i _ _ (by decide)).trans ((ju_c _ _ (by decide)).trans ((ju_c _ _ (by decide)).trans ((ju_c _ _ (by decide)).trans e10))))
      obtain ⟨v12, e12⟩ : ∃ z, M 598 89 = z := ⟨_, rfl⟩
      have b12 : 0 ≤ v12 ∧ v12 ≤ 301 := by rw [← e12]; exact hI_M 598 89 (by decide)
      have y13 : (ju (ju (ju (ju M 664 v1 c) 666 v1 (-1)) 667 v1 1) 598 102 (v1 + 1)) 598 89 = v12 := ((ju_i _ _ (by decide)).trans ((ju_c _ _ (by decide)).trans ((ju_c _ _ (by decide)).trans ((ju_c _ _ (by decide)).trans e12))))
      obtain ⟨v14, e14⟩ : ∃ z, M 598 90 = z := ⟨_, rfl⟩
      have b14 : 0 ≤ v14 ∧ v14 ≤ 2200 := by rw [← e14]; exact hI_M 598 90 (by decide)
      have y15 : (ju (ju (ju (ju M 664 v1 c) 666 v1 (-1)) 667 v1 1) 598 102 (v1 + 1)) 598 90 = v14 := ((ju_i _ _ (by decide)).trans ((ju_c _ _ (by decide)).trans ((ju_c _ _ (by decide)).trans ((ju_c _ _ (by decide)).trans e14))))
      obtain ⟨v16, e16⟩ : ∃ z, M 598 100 = z := ⟨_, rfl⟩
      have b16 : 0 ≤ v16 ∧ v16 ≤ 13 := by rw [← e16]; exact hI_M 598 100 (by decide)
      have y17 : (ju (ju (ju (ju M 664 v1 c) 666 v1 (-1)) 667 v1 1) 598 102 (v1 + 1)) 598 100 = v16 := ((ju_i _ _ (by decide)).trans ((ju_c _ _ (by decide)).trans ((ju_c _ _ (by decide)).trans ((ju_c _ _ (by decide)).trans e16))))
      obtain ⟨v18, e18⟩ : ∃ z, M 598 107 = z := ⟨_, rfl⟩
      have b18 : 0 ≤ v18 ∧ v18 ≤ 16 := by rw [← e18]; exact hI_M 598 107 (by decide)
      have y19 : (ju (ju (ju (ju M 664 v1 c) 666 v1 (-1)) 667 v1 1) 598 102 (v1 + 1)) 598 107 = v18 := ((ju_i _ _ (by decide)).trans ((ju_c _ _ (by decide)).trans ((ju_c _ _ (by decide)).trans ((ju_c _ _ (by decide)).trans e18))))
      have y20 : TK (ju (ju (ju (ju M 664 v1 c) 666 v1 (-1)) 667 v1 1) 598 102 (v1 + 1)) = TK M := ((TK.o (Or.inr ⟨by decide, by decide⟩)).trans ((TK.o (Or.inl (by decide))).trans ((TK.o (Or.inl (by decide))).trans ((TK.o (Or.inl (by decide))).trans rfl))))
      obtain ⟨v21, e21⟩ : ∃ z, M 598 75 = z := ⟨_, rfl⟩
      have b21 : 0 ≤ v21 ∧ v21 ≤ 1600 := by rw [← e21]; exact hI_M 598 75 (by decide)
      have y22 : (ju (ju (ju (ju M 664 v1 c) 666 v1 (-1)) 667 v1 1) 598 102 (v1 + 1)) 598 75 = v21 := ((ju_i _ _ (by decide)).trans ((ju_c _ _ (by decide)).trans ((ju_c _ _ (by decide)).trans ((ju_c _ _ (by decide)).trans e21))))
      have y23 : (ju (ju (ju (ju M 664 v1 c) 666 v1 (-1)) 667 v1 1) 598 102 (v1 + 1)) 598 80 = v10 := ((ju_i _ _ (by decide)).trans ((ju_c _ _ (by decide)).trans ((ju_c _ _ (by decide)).trans ((ju_c _ _ (by decide)).trans e10))))
      obtain ⟨v24, e24⟩ : ∃ z, M 598 81 = z := ⟨_, rfl⟩
      have b24 : (-1) ≤ v24 ∧ v24 ≤ 1600 := by rw [← e24]; exact hI_M 598 81 (by decide)
      have y25 : (ju (ju (ju (ju M 664 v1 c) 666 v1 (-1)) 667 v1 1) 598 102 (v1 + 1)) 598 81 = v24 := ((ju_i _ _ (by decide)).trans ((ju_c _ _ (by decide)).trans ((ju_c _ _ (by decide)).trans ((ju_c _ _ (by decide)).trans e24))))
      have y26 : (ju (ju (ju (ju M 664 v1 c) 666 v1 (-1)) 667 v1 1) 598 102 (v1 + 1)) 598 89 = v12 := ((ju_i _ _ (by decide)).trans ((ju_c _ _ (by decide)).trans ((ju_c _ _ (by decide)).trans ((ju_c _ _ (by decide)).trans e12))))
      have y27 : (ju (ju (ju (ju M 664 v1 c) 666 v1 (-1)) 667 v1 1) 598 102 (v1 + 1)) 598 100 = v16 := ((ju_i _ _ (by decide)).trans ((ju_c _ _ (by decide)).trans ((ju_c _ _ (by decide)).trans ((ju_c _ _ (by decide)).trans e16))))
      exact jr.ireturn rfl rfl rfl (q _ _ (RI.u (RI.u (RI.u (RI.u hI_M (a := 664) (i := v1) (by rw [xri_row rfl rfl]; show (0 : Int) ≤ _ ∧ _ ≤ (255 : Int); omega)) (a := 666) (i := v1) (by rw [xri_row rfl rfl]; show (-1 : Int) ≤ _ ∧ _ ≤ (68 : Int); omega)) (a := 667) (i := v1) (by rw [xri_row rfl rfl]; show (0 : Int) ≤ _ ∧ _ ≤ (4 : Int); omega)) (a := 598) (i := 102) (show (0 : Int) ≤ _ ∧ _ ≤ (400 : Int) from by omega)) (RH.o (RH.o (RH.o (RH.o hH_M (by decide) (by decide) (by decide)) (by decide) (by decide) (by decide)) (by decide) (by decide) (by decide)) (by decide) (by decide) (by decide)) (RF.o (RF.o (RF.o (RF.o hS_M (by decide) (by decide)) (by decide) (by decide)) (by decide) (by decide)) (by decide) (by decide))  (by omega) (Or.inr ⟨rfl, Or.inr ⟨⟨by omega, ES.adj hE (k' := kk) (z' := 0) (by omega) (by omega) (by omega), by omega, by omega, by omega, by omega⟩, by omega⟩⟩) (by omega) (by omega) (Or.inr (Or.inr (by omega))) (CP.o (CP.o (CP.o (CP.o hCP (by decide) (Or.inl (by decide))) (by decide) (Or.inl (by decide))) (by decide) (Or.inl (by decide))) (by decide) (Or.inr (by decide))) (by omega) (TXr.o (TXr.k (TXr.k (TXr.k hT (by decide) (by decide) (by decide) (by decide)) (by decide) (by decide) (by decide) (by decide)) (by decide) (by decide) (by decide) (by decide)) (by decide)) (fun q => by exfalso; omega) (fun q z => TSQ7.push hTQ e1 (by omega) hst (by omega) rfl (TKr.oo (TKr.cc (TKr.cc (TKr.cc hK (by decide) (by decide) (by decide) (by decide)) (by decide) (by decide) (by decide) (by decide)) (by decide) (by decide) (by decide) (by decide)) (by decide)) (by omega) (by omega)) (fun z => absurd z (by decide)) (fun _ => (NU.push hNU e1 (Or.inr (Or.inr (Or.inr (TPQ.ntop hTP e1 (by omega))))))) (fun q => by omega) (fun a i f598 f659 f660 f664 f665 f666 f667 => ((ju_c _ _ f598).trans ((ju_c _ _ f667).trans ((ju_c _ _ f666).trans ((ju_c _ _ f664).trans (hF_M a i f598 f659 f660 f664 f665 f666 f667)))))) (fun i g73 g74 g75 g76 g77 g78 g79 g80 g81 g89 g90 g100 g102 => ((ju_i _ _ g102).trans ((ju_c _ _ (by decide)).trans ((ju_c _ _ (by decide)).trans ((ju_c _ _ (by decide)).trans (hG_M i g73 g74 g75 g76 g77 g78 g79 g80 g81 g89 g90 g100 g102)))))))
    · refine jr.aload_n rfl rfl ?_
      refine jr.iload_n rfl rfl ?_
      obtain ⟨v28, e28⟩ : ∃ z, M 598 102 = z := ⟨_, rfl⟩
      have b28 : 0 ≤ v28 ∧ v28 ≤ 400 := by rw [← e28]; exact hI_M 598 102 (by decide)
      obtain ⟨v29, e29⟩ : ∃ z, M 598 90 = z := ⟨_, rfl⟩
      have b29 : 0 ≤ v29 ∧ v29 ≤ 2200 := by rw [← e29]; exact hI_M 598 90 (by decide)
      obtain ⟨v31, e31⟩ : ∃ z, M 598 100 = z := ⟨_, rfl⟩
      have b31 : 0 ≤ v31 ∧ v31 ≤ 13 := by rw [← e31]; exact hI_M 598 100 (by decide)
      obtain ⟨v33, e33⟩ : ∃ z, M 598 107 = z := ⟨_, rfl⟩
      have b33 : 0 ≤ v33 ∧ v33 ≤ 16 := by rw [← e33]; exact hI_M 598 107 (by decide)
      refine jr_v rfl rfl (Or.inl rfl) rfl rfl (by decide) rfl ⟨rfl, Nat.le_of_ble_eq_true rfl, Nat.le_of_ble_eq_true rfl⟩ rfl (jc.deep (r_open e28 (by omega) e29 (by omega) (by omega) (fun op30 ho30 => ?_)) (by decide))
      have y32 : M 598 100 = v31 := e31
      have y34 : M 598 107 = v33 := e33
      have hE := ES.opn hE e28 e29 c (-1) op30 kk (strn_and (by omega)) ho30 (TPQ.g hTP e28 hst) (by omega) (by omega) (by omega)
      refine jr.goto rfl rfl ?_
      refine jr.iconst rfl ?_
      obtain ⟨v35, e35⟩ : ∃ z, M 598 72 = z := ⟨_, rfl⟩
      have b35 : 0 ≤ v35 ∧ v35 ≤ 1600 := by rw [← e35]; exact hI_M 598 72 (by decide)
      have y36 : (ju (ju (ju (ju (ju (ju (ju (ju M 664 v28 c) 666 v28 (-1)) 667 v28 1) 598 102 (v28 + 1)) 665 (v28 + 1 - 1) v29) 659 v29 op30) 660 v29 0) 598 90 (v29 + 1)) 598 72 = v35 := ((ju_i _ _ (by decide)).trans ((ju_c _ _ (by decide)).trans ((ju_c _ _ (by decide)).trans ((ju_c _ _ (by decide)).trans ((ju_i _ _ (by decide)).trans ((ju_c _ _ (by decide)).trans ((ju_c _ _ (by decide)).trans ((ju_c _ _ (by decide)).trans e35))))))))
      obtain ⟨v37, e37⟩ : ∃ z, M 598 73 = z := ⟨_, rfl⟩
      have b37 : 0 ≤ v37 ∧ v37 ≤ 1600 := by rw [← e37]; exact hI_M 598 73 (by decide)
      have y38 : (ju (ju (ju (ju (ju (ju (ju (ju M 664 v28 c) 666 v28 (-1)) 667 v28 1) 598 102 (v28 + 1)) 665 (v28 + 1 - 1) v29) 659 v29 op30) 660 v29 0) 598 90 (v29 + 1)) 598 73 = v37 := ((ju_i _ _ (by decide)).trans ((ju_c _ _ (by decide)).trans ((ju_c _ _ (by decide)).trans ((ju_c _ _ (by decide)).trans ((ju_i _ _ (by decide)).trans ((ju_c _ _ (by decide)).trans ((ju_c _ _ (by decide)).trans ((ju_c _ _ (by decide)).trans e37))))))))
      obtain ⟨v39, e39⟩ : ∃ z, M 598 74 = z := ⟨_, rfl⟩
      have b39 : 0 ≤ v39 ∧ v39 ≤ 4 := by rw [← e39]; exact hI_M 598 74 (by decide)
      have y40 : (ju (ju (ju (ju (ju (ju (ju (ju M 664 v28 c) 666 v28 (-1)) 667 v28 1) 598 102 (v28 + 1)) 665 (v28 + 1 - 1) v29) 659 v29 op30) 660 v29 0) 598 90 (v29 + 1)) 598 74 = v39 := ((ju_i _ _ (by decide)).trans ((ju_c _ _ (by decide)).trans ((ju_c _ _ (by decide)).trans ((ju_c _ _ (by decide)).trans ((ju_i _ _ (by decide)).trans ((ju_c _ _ (by decide)).trans ((ju_c _ _ (by decide)).trans ((ju_c _ _ (by decide)).trans e39))))))))
      obtain ⟨v41, e41⟩ : ∃ z, M 598 79 = z := ⟨_, rfl⟩
      have b41 : 0 ≤ v41 ∧ v41 ≤ 255 := by rw [← e41]; exact hI_M 598 79 (by decide)
      have y42 : (ju (ju (ju (ju (ju (ju (ju (ju M 664 v28 c) 666 v28 (-1)) 667 v28 1) 598 102 (v28 + 1)) 665 (v28 + 1 - 1) v29) 659 v29 op30) 660 v29 0) 598 90 (v29 + 1)) 598 79 = v41 := ((ju_i _ _ (by decide)).trans ((ju_c _ _ (by decide)).trans ((ju_c _ _ (by decide)).trans ((ju_c _ _ (by decide)).trans ((ju_i _ _ (by decide)).trans ((ju_c _ _ (by decide)).trans ((ju_c _ _ (by decide)).trans ((ju_c _ _ (by decide)).trans e41))))))))
      obtain ⟨v43, e43⟩ : ∃ z, M 598 80 = z := ⟨_, rfl⟩
      have b43 : 0 ≤ v43 ∧ v43 ≤ 7 := by rw [← e43]; exact hI_M 598 80 (by decide)
      have y44 : (ju (ju (ju (ju (ju (ju (ju (ju M 664 v28 c) 666 v28 (-1)) 667 v28 1) 598 102 (v28 + 1)) 665 (v28 + 1 - 1) v29) 659 v29 op30) 660 v29 0) 598 90 (v29 + 1)) 598 80 = v43 := ((ju_i _ _ (by decide)).trans ((ju_c _ _ (by decide)).trans ((ju_c _ _ (by decide)).trans ((ju_c _ _ (by decide)).trans ((ju_i _ _ (by decide)).trans ((ju_c _ _ (by decide)).trans ((ju_c _ _ (by decide)).trans ((ju_c _ _ (by decide)).trans e43))))))))
      obtain ⟨v45, e45⟩ : ∃ z, M 598 89 = z := ⟨_, rfl⟩
      have b45 : 0 ≤ v45 ∧ v45 ≤ 301 := by rw [← e45]; exact hI_M 598 89 (by decide)
      have y46 : (ju (ju (ju (ju (ju (ju (ju (ju M 664 v28 c) 666 v28 (-1)) 667 v28 1) 598 102 (v28 + 1)) 665 (v28 + 1 - 1) v29) 659 v29 op30) 660 v29 0) 598 90 (v29 + 1)) 598 89 = v45 := ((ju_i _ _ (by decide)).trans ((ju_c _ _ (by decide)).trans ((ju_c _ _ (by decide)).trans ((ju_c _ _ (by decide)).trans ((ju_i _ _ (by decide)).trans ((ju_c _ _ (by decide)).trans ((ju_c _ _ (by decide)).trans ((ju_c _ _ (by decide)).trans e45))))))))
      have y47 : (ju (ju (ju (ju (ju (ju (ju (ju M 664 v28 c) 666 v28 (-1)) 667 v28 1) 598 102 (v28 + 1)) 665 (v28 + 1 - 1) v29) 659 v29 op30) 660 v29 0) 598 90 (v29 + 1)) 598 90 = v29 + 1 := (ju_same _ _ _ _)
      have y48 : (ju (ju (ju (ju (ju (ju (ju (ju M 664 v28 c) 666 v28 (-1)) 667 v28 1) 598 102 (v28 + 1)) 665 (v28 + 1 - 1) v29) 659 v29 op30) 660 v29 0) 598 90 (v29 + 1)) 598 100 = v31 := ((ju_i _ _ (by decide)).trans ((ju_c _ _ (by decide)).trans ((ju_c _ _ (by decide)).trans ((ju_c _ _ (by decide)).trans ((ju_i _ _ (by decide)).trans ((ju_c _ _ (by decide)).trans ((ju_c _ _ (by decide)).trans ((ju_c _ _ (by decide)).trans e31))))))))
      have y49 : (ju (ju (ju (ju (ju (ju (ju (ju M 664 v28 c) 666 v28 (-1)) 667 v28 1) 598 102 (v28 + 1)) 665 (v28 + 1 - 1) v29) 659 v29 op30) 660 v29 0) 598 90 (v29 + 1)) 598 107 = v33 := ((ju_i _ _ (by decide)).trans ((ju_c _ _ (by decide)).trans ((ju_c _ _ (by decide)).trans ((ju_c _ _ (by decide)).trans ((ju_i _ _ (by decide)).trans ((ju_c _ _ (by decide)).trans ((ju_c _ _ (by decide)).trans ((ju_c _ _ (by decide)).trans e33))))))))
      have y50 : TK (ju (ju (ju (ju (ju (ju (ju (ju M 664 v28 c) 666 v28 (-1)) 667 v28 1) 598 102 (v28 + 1)) 665 (v28 + 1 - 1) v29) 659 v29 op30) 660 v29 0) 598 90 (v29 + 1)) = TK M := ((TK.o (Or.inr ⟨by decide, by decide⟩)).trans ((TK.o (Or.inl (by decide))).trans ((TK.o (Or.inl (by decide))).trans ((TK.o (Or.inl (by decide))).trans ((TK.o (Or.inr ⟨by decide, by decide⟩)).trans ((TK.o (Or.inl (by decide))).trans ((TK.o (Or.inl (by decide))).trans ((TK.o (Or.inl (by decide))).trans rfl))))))))
      obtain ⟨v51, e51⟩ : ∃ z, M 598 75 = z := ⟨_, rfl⟩
      have b51 : 0 ≤ v51 ∧ v51 ≤ 1600 := by rw [← e51]; exact hI_M 598 75 (by decide)
      have y52 : (ju (ju (ju (ju (ju (ju (ju (ju M 664 v28 c) 666 v28 (-1)) 667 v28 1) 598 102 (v28 + 1)) 665 (v28 + 1 - 1) v29) 659 v29 op30) 660 v29 0) 598 90 (v29 + 1)) 598 75 = v51 := ((ju_i _ _ (by decide)).trans ((ju_c _ _ (by decide)).trans ((ju_c _ _ (by decide)).trans ((ju_c _ _ (by decide)).trans ((ju_i _ _ (by decide)).trans ((ju_c _ _ (by decide)).trans ((ju_c _ _ (by decide)).trans ((ju_c _ _ (by decide)).trans e51))))))))
      have y53 : (ju (ju (ju (ju (ju (ju (ju (ju M 664 v28 c) 666 v28 (-1)) 667 v28 1) 598 102 (v28 + 1)) 665 (v28 + 1 - 1) v29) 659 v29 op30) 660 v29 0) 598 90 (v29 + 1)) 598 80 = v43 := ((ju_i _ _ (by decide)).trans ((ju_c _ _ (by decide)).trans ((ju_c _ _ (by decide)).trans ((ju_c _ _ (by decide)).trans ((ju_i _ _ (by decide)).trans ((ju_c _ _ (by decide)).trans ((ju_c _ _ (by decide)).trans ((ju_c _ _ (by decide)).trans e43))))))))
      obtain ⟨v54, e54⟩ : ∃ z, M 598 81 = z := ⟨_, rfl⟩
      have b54 : (-1) ≤ v54 ∧ v54 ≤ 1600 := by rw [← e54]; exact hI_M 598 81 (by decide)
      have y55 : (ju (ju (ju (ju (ju (ju (ju (ju M 664 v28 c) 666 v28 (-1)) 667 v28 1) 598 102 (v28 + 1)) 665 (v28 + 1 - 1) v29) 659 v29 op30) 660 v29 0) 598 90 (v29 + 1)) 598 81 = v54 := ((ju_i _ _ (by decide)).trans ((ju_c _ _ (by decide)).trans ((ju_c _ _ (by decide)).trans ((ju_c _ _ (by decide)).trans ((ju_i _ _ (by decide)).trans ((ju_c _ _ (by decide)).trans ((ju_c _ _ (by decide)).trans ((ju_c _ _ (by decide)).trans e54))))))))
      have y56 : (ju (ju (ju (ju (ju (ju (ju (ju M 664 v28 c) 666 v28 (-1)) 667 v28 1) 598 102 (v28 + 1)) 665 (v28 + 1 - 1) v29) 659 v29 op30) 660 v29 0) 598 90 (v29 + 1)) 598 89 = v45 := ((ju_i _ _ (by decide)).trans ((ju_c _ _ (by decide)).trans ((ju_c _ _ (by decide)).trans ((ju_c _ _ (by decide)).trans ((ju_i _ _ (by decide)).trans ((ju_c _ _ (by decide)).trans ((ju_c _ _ (by decide)).trans ((ju_c _ _ (by decide)).trans e45))))))))
      have y57 : (ju (ju (ju (ju (ju (ju (ju (ju M 664 v28 c) 666 v28 (-1)) 667 v28 1) 598 102 (v28 + 1)) 665 (v28 + 1 - 1) v29) 659 v29 op30) 660 v29 0) 598 90 (v29 + 1)) 598 100 = v31 := ((ju_i _ _ (by decide)).trans ((ju_c _ _ (by decide)).trans ((ju_c _ _ (by decide)).trans ((ju_c _ _ (by decide)).trans ((ju_i _ _ (by decide)).trans ((ju_c _ _ (by decide)).trans ((ju_c _ _ (by decide)).trans ((ju_c _ _ (by decide)).trans e31))))))))
      exact jr.ireturn rfl rfl rfl (q _ _ (RI.u (RI.u (RI.u (RI.u (RI.u (RI.u (RI.u (RI.u hI_M (a := 664) (i := v28) (by rw [xri_row rfl rfl]; show (0 : Int) ≤ _ ∧ _ ≤ (255 : Int); omega)) (a := 666) (i := v28) (by rw [xri_row rfl rfl]; show (-1 : Int) ≤ _ ∧ _ ≤ (68 : Int); omega)) (a := 667) (i := v28) (by rw [xri_row rfl rfl]; show (0 : Int) ≤ _ ∧ _ ≤ (4 : Int); omega)) (a := 598) (i := 102) (show (0 : Int) ≤ _ ∧ _ ≤ (400 : Int) from by omega)) (a := 665) (i := (v28 + 1 - 1)) (by rw [xri_row rfl rfl]; show (0 : Int) ≤ _ ∧ _ ≤ (2200 : Int); omega)) (a := 659) (i := v29) (by rw [xri_row rfl rfl]; show (0 : Int) ≤ _ ∧ _ ≤ (1000 : Int); omega)) (a := 660) (i := v29) (by rw [xri_row rfl rfl]; show (-9223372036854775808 : Int) ≤ _ ∧ _ ≤ (9223372036854775807 : Int); omega)) (a := 598) (i := 90) (show (0 : Int) ≤ _ ∧ _ ≤ (2200 : Int) from by omega)) (RH.o (RH.o (RH.o (RH.o (RH.o (RH.o (RH.o (RH.o hH_M (by decide) (by decide) (by decide)) (by decide) (by decide) (by decide)) (by decide) (by decide) (by decide)) (by decide) (by decide) (by decide)) (by decide) (by decide) (by decide)) (by decide) (by decide) (by decide)) (by decide) (by decide) (by decide)) (by decide) (by decide) (by decide)) (RF.o (RF.o (RF.o (RF.o (RF.o (RF.o (RF.o (RF.o hS_M (by decide) (by decide)) (by decide) (by decide)) (by decide) (by decide)) (by decide) (by decide)) (by decide) (by decide)) (by decide) (by decide)) (by decide) (by decide)) (by decide) (by decide))  (by omega) (Or.inr ⟨rfl, Or.inr ⟨⟨by omega, ES.adj hE (k' := kk) (z' := 0) (by omega) (by omega) (by omega), by omega, by omega, by omega, by omega⟩, by omega⟩⟩) (by omega) (by omega) (Or.inr (Or.inr (by omega))) (CP.emit (CP.o (CP.o (CP.o (CP.o (CP.o hCP (by decide) (Or.inl (by decide))) (by decide) (Or.inl (by decide))) (by decide) (Or.inl (by decide))) (by decide) (Or.inr (by decide))) (by decide) (Or.inl (by decide))) ((ju_c _ _ (by decide)).trans ((ju_i _ _ (by decide)).trans ((ju_c _ _ (by decide)).trans ((ju_c _ _ (by decide)).trans ((ju_c _ _ (by decide)).trans e29)))))) (by omega) (TXr.o (TXr.k (TXr.k (TXr.k (TXr.o (TXr.k (TXr.k (TXr.k hT (by decide) (by decide) (by decide) (by decide)) (by decide) (by decide) (by decide) (by decide)) (by decide) (by decide) (by decide) (by decide)) (by decide)) (by decide) (by decide) (by decide) (by decide)) (by decide) (by decide) (by decide) (by decide)) (by decide) (by decide) (by decide) (by decide)) (by decide)) (fun q => by exfalso; omega) (fun q z => TSQ7.push hTQ e28 (by omega) hst (by omega) ((abr_fr s0 (fun i => ju_c _ _ (by decide)) (fun i => ju_c _ _ (by decide)) (fun i => ju_c _ _ (by decide)) (ju_i _ _ (by decide))).trans ((abr_fr s0 (fun i => ju_c _ _ (by decide)) (fun i => ju_c _ _ (by decide)) (fun i => ju_c _ _ (by decide)) (ju_c _ _ (by decide))).trans ((abr_fr s0 (fun i => ju_c _ _ (by decide)) (fun i => ju_c _ _ (by decide)) (fun i => ju_c _ _ (by decide)) (ju_c _ _ (by decide))).trans ((abr_fr s0 (fun i => ju_c _ _ (by decide)) (fun i => ju_c _ _ (by decide)) (fun i => ju_c _ _ (by decide)) (ju_c _ _ (by decide))).trans rfl)))) (TKr.oo (TKr.cc (TKr.cc (TKr.cc (TKr.oo (TKr.cc (TKr.cc (TKr.cc hK (by decide) (by decide) (by decide) (by decide)) (by decide) (by decide) (by decide) (by decide)) (by decide) (by decide) (by decide) (by decide)) (by decide)) (by decide) (by decide) (by decide) (by decide)) (by decide) (by decide) (by decide) (by decide)) (by decide) (by decide) (by decide) (by decide)) (by decide)) (by omega) (by omega)) (fun z => absurd z (by decide)) (fun _ => (NU.fr (NU.fr (NU.fr (NU.fr (NU.push hNU e28 (Or.inr (Or.inr (Or.inr (TPQ.ntop hTP e28 (by omega)))))) (fun i => ju_c _ _ (by decide)) (ju_c _ _ (by decide))) (fun i => ju_c _ _ (by decide)) (ju_c _ _ (by decide))) (fun i => ju_c _ _ (by decide)) (ju_c _ _ (by decide))) (fun i => ju_c _ _ (by decide)) (ju_i _ _ (by decide)))) (fun q => by omega) (fun a i f598 f659 f660 f664 f665 f666 f667 => ((ju_c _ _ f598).trans ((ju_c _ _ f660).trans ((ju_c _ _ f659).trans ((ju_c _ _ f665).trans ((ju_c _ _ f598).trans ((ju_c _ _ f667).trans ((ju_c _ _ f666).trans ((ju_c _ _ f664).trans (hF_M a i f598 f659 f660 f664 f665 f666 f667)))))))))) (fun i g73 g74 g75 g76 g77 g78 g79 g80 g81 g89 g90 g100 g102 => ((ju_i _ _ g90).trans ((ju_c _ _ (by decide)).trans ((ju_c _ _ (by decide)).trans ((ju_c _ _ (by decide)).trans ((ju_i _ _ g102).trans ((ju_c _ _ (by decide)).trans ((ju_c _ _ (by decide)).trans ((ju_c _ _ (by decide)).trans (hG_M i g73 g74 g75 g76 g77 g78 g79 g80 g81 g89 g90 g100 g102)))))))))))
set_option maxHeartbeats 8000000 in
theorem r_takeSign_L63_z {A : Nat → Option (Nat × (Nat → Int32))} {Q : Option Value → jm → Prop} {f : Int → Int} {N : Int} {b kk : Int} {xs : ZS} {t bh : Int} {s0 : List (Int × Int × Int × Int)} {nm ak : List Int} {M0 : jm} (q : ∀ (r : Int) (M' : jm), RI M' → RH M' → RF M' → 0 ≤ r ∧ r ≤ 1 → ((r = 0 ∧ GS M' b 1 kk) ∨ (r = 1 ∧ (BS M' ∨ (GS M' b 0 kk ∧ TK M' < TK M0)))) → TK M' ≤ TK M0 → M' 598 73 ≤ M' 598 72 → (r = 0 ∨ M' 598 80 ≠ 0 ∨ TK M' < TK M0) → CP M0 M' → M0 598 89 ≤ M' 598 89 → TXr f N M' → ZFQ f N xs M' → ZSQ f N xs M' r bh s0 nm ak → ZSR0 f N xs M' r t bh s0 nm ak → NUQ M' → K8Q M0 M' → (∀ (a : Nat) (i : Int), a ≠ 598 → a ≠ 659 → a ≠ 660 → a ≠ 664 → a ≠ 665 → a ≠ 666 → a ≠ 667 → M' a i = M0 a i) → (∀ (i : Int), i ≠ 73 → i ≠ 74 → i ≠ 75 → i ≠ 76 → i ≠ 77 → i ≠ 78 → i ≠ 79 → i ≠ 80 → i ≠ 81 → i ≠ 89 → i ≠ 90 → i ≠ 100 → i ≠ 102 → M' 598 i = M0 598 i) → Q (some (.int (Int32.ofInt r))) M') : ∀ (M : jm) (y : Int) (c : Int), RI M → RH M → RF M → (∀ (a : Nat) (i : Int), a ≠ 598 → a ≠ 659 → a ≠ 660 → a ≠ 664 → a ≠ 665 → a ≠ 666 → a ≠ 667 → M a i = M0 a i) → (∀ (i : Int), i ≠ 73 → i ≠ 74 → i ≠ 75 → i ≠ 76 → i ≠ 77 → i ≠ 78 → i ≠ 79 → i ≠ 80 → i ≠ 81 → i ≠ 89 → i ≠ 90 → i ≠ 100 → i ≠ 102 → M 598 i = M0 598 i) → 1 ≤ y ∧ y ≤ 5 → 0 ≤ c ∧ c ≤ 255 → GS M b 1 kk → TK M = TK M0 → CP M0 M → M 598 89 = M0 598 89 → M 598 81 = M0 598 81 → TKr f N t M → TSP7 f N xs M t bh s0 nm ak y → NU M → TPQ M y → strn c = y → M 598 79 = c → M 598 74 = 3 → HD s0 → jr A 2 xm_363 63 [(1, .int (Int32.ofInt (y))), (2, .int (Int32.ofInt (c))), (0, .ref (598))] [] M Q := by
    intro M y c hI_M hH_M hS_M hF_M hG_M h_y h_c hy0 hy1 hy2 hy3 hy4 hy5 hy6 hy7 hy8 hy9 hy10 hy11 hy12
    have hCP := hy2
    obtain ⟨gs1, gs2, gs3, gs4, gs5, gs6⟩ := id hy0
    have hE := gs2
    have sl := ES.sgle gs2
    have bb := ES.bb gs2
    have kb := ES.kz gs2
    have b107 : (0 : Int) ≤ M 598 107 ∧ M 598 107 ≤ 16 := hI_M 598 107 (by decide)
    have b73 : (0 : Int) ≤ M 598 73 ∧ M 598 73 ≤ 1600 := hI_M 598 73 (by decide)
    have b88 : (0 : Int) ≤ M 598 88 ∧ M 598 88 ≤ 16 := hI_M 598 88 (by decide)
    have b100 : (0 : Int) ≤ M 598 100 ∧ M 598 100 ≤ 13 := hI_M 598 100 (by decide)
    have hK := hy5
    have kk0 := hK.kz
    have hT := hK.1
    have s0t := hK.sz hy11
    have hTS := hy6
    have hNU := hy7
    have hTP := hy8
    have hst := hy9
    have hrk : zrk f N t = y - 1 := by
      have q := gs6 hy11
      rw [hy10] at q
      rw [← hst]
      exact zrk_vn s0t.1 (s0t.2.symm.trans hy10) q.1 q.2 (by omega)
    have b102 : (0 : Int) ≤ M 598 102 ∧ M 598 102 ≤ 400 := hI_M 598 102 (by decide)
    have hHD := TPQ.hd hy8 (by omega) hy12 hy7 b102.1
    refine jr.aload_n rfl rfl ?_
    obtain ⟨v1, e1⟩ : ∃ z, M 598 80 = z := ⟨_, rfl⟩
    have b1 : 0 ≤ v1 ∧ v1 ≤ 7 := by rw [← e1]; exact hI_M 598 80 (by decide)
    obtain ⟨v2, e2⟩ : ∃ z, M 598 89 = z := ⟨_, rfl⟩
    have b2 : 0 ≤ v2 ∧ v2 ≤ 301 := by rw [← e2]; exact hI_M 598 89 (by decide)
    obtain ⟨v3, e3⟩ : ∃ z, M 598 100 = z := ⟨_, rfl⟩
    have b3 : 0 ≤ v3 ∧ v3 ≤ 13 := by rw [← e3]; exact hI_M 598 100 (by decide)
    obtain ⟨v4, e4⟩ : ∃ z, M 598 81 = z := ⟨_, rfl⟩
    have b4 : (-1) ≤ v4 ∧ v4 ≤ 1600 := by rw [← e4]; exact hI_M 598 81 (by decide)
    obtain ⟨v6, e6⟩ : ∃ z, M 598 73 = z := ⟨_, rfl⟩
    have b6 : 0 ≤ v6 ∧ v6 ≤ 1600 := by rw [← e6]; exact hI_M 598 73 (by decide)
    refine jr_v rfl rfl (Or.inl rfl) rfl rfl (by decide) rfl ⟨rfl, Nat.le_of_ble_eq_true rfl, Nat.le_of_ble_eq_true rfl⟩ rfl (jc.deep (c_node_z (f := f) (N := N) hI_M hH_M hS_M (by rw [e2]; omega) (by rw [e1]; omega) (fun M5 hI_M5 hH_M5 hS_M5 q95 ql5 q05 q15 w5_50 w5_51 => ?_) (fun M5 hI_M5 hH_M5 hS_M5 q95 ql5 q05 q15 w5_50 w5_51 => ?_)) (by decide))
    · have tk5 : TK M5 = TK M := TK.fr (w5_51 73 (by decide) (by decide) (by decide)) (w5_51 74 (by decide) (by decide) (by decide))
      have x5_72 := w5_51 72 (by decide) (by decide) (by decide)
      have x5_73 := w5_51 73 (by decide) (by decide) (by decide)
      have x5_74 := w5_51 74 (by decide) (by decide) (by decide)
      have x5_75 := w5_51 75 (by decide) (by decide) (by decide)
      have x5_76 := w5_51 76 (by decide) (by decide) (by decide)
      have x5_78 := w5_51 78 (by decide) (by decide) (by decide)
      have x5_79 := w5_51 79 (by decide) (by decide) (by decide)
      have x5_100 := w5_51 100 (by decide) (by decide) (by decide)
      have y7 : M 598 73 = v6 := e6
      have y8 : M 598 89 = v2 := e2
      have y9 : M 598 100 = v3 := e3
      have x5_73 := w5_51 73 (by decide) (by decide) (by decide)
      have x5_100 := w5_51 100 (by decide) (by decide) (by decide)
      have hE := ES.fr2 hE w5_50 (w5_51 88 (by decide) (by decide) (by decide)) (w5_51 90 (by decide) (by decide) (by decide)) (w5_51 101 (by decide) (by decide) (by decide)) (w5_51 102 (by decide) (by decide) (by decide)) (w5_51 107 (by decide) (by decide) (by decide)) (k' := kk + 4) (d' := 0) (z' := 0) (by omega) (by omega) (by omega) (by omega)
      refine jr.aload_n rfl rfl ?_
      obtain ⟨v10, e10⟩ : ∃ z, M5 598 80 = z := ⟨_, rfl⟩
      have b10 : 0 ≤ v10 ∧ v10 ≤ 7 := by rw [← e10]; exact hI_M5 598 80 (by decide)
      refine jr_v rfl rfl (Or.inl rfl) rfl rfl (by decide) rfl ⟨rfl, Nat.le_of_ble_eq_true rfl, Nat.le_of_ble_eq_true rfl⟩ rfl (jc.deep (c_good hI_M5  (fun t68_0 => ?_) (fun f68_0 => ?_)) (by decide))
      · refine jr.if_ne rfl rfl (by omega) (fun _ => ?_) (fun h => absurd (by decide) h)
        refine jr.aload_n rfl rfl ?_
        have e11 : M5 598 73 = v6 := ((w5_51 73 (by decide) (by decide) (by decide)).trans e6)
        obtain ⟨v12, e12⟩ : ∃ z, M 598 72 = z := ⟨_, rfl⟩
        have b12 : 0 ≤ v12 ∧ v12 ≤ 1600 := by rw [← e12]; exact hI_M 598 72 (by decide)
        have e13 : M5 598 72 = v12 := ((w5_51 72 (by decide) (by decide) (by decide)).trans e12)
        obtain ⟨v14, e14⟩ : ∃ z, M 598 74 = z := ⟨_, rfl⟩
        have b14 : 0 ≤ v14 ∧ v14 ≤ 4 := by rw [← e14]; exact hI_M 598 74 (by decide)
        have e15 : M5 598 74 = v14 := ((w5_51 74 (by decide) (by decide) (by decide)).trans e14)
        obtain ⟨v16, e16⟩ : ∃ z, M5 598 89 = z := ⟨_, rfl⟩
        have b16 : 0 ≤ v16 ∧ v16 ≤ 301 := by rw [← e16]; exact hI_M5 598 89 (by decide)
        have e17 : M5 598 100 = v3 := ((w5_51 100 (by decide) (by decide) (by decide)).trans e3)
        obtain ⟨v18, e18⟩ : ∃ z, M5 598 81 = z := ⟨_, rfl⟩
        have b18 : (-1) ≤ v18 ∧ v18 ≤ 1600 := by rw [← e18]; exact hI_M5 598 81 (by decide)
        refine jr_v rfl rfl (Or.inl rfl) rfl rfl (by decide) rfl ⟨rfl, Nat.le_of_ble_eq_true rfl, Nat.le_of_ble_eq_true rfl⟩ rfl (jc.deep (c_next_z (f := f) (N := N) hI_M5 hH_M5 hS_M5 (by rw [e11, e13]; omega) (TKr.fr hK (w5_51 72 (by decide) (by decide) (by decide)) (fun i => w5_50 651 i (by decide)) (fun i => w5_50 649 i (by decide)) (fun i => w5_50 650 i (by decide)) (w5_51 73 (by decide) (by decide) (by decide)) (w5_51 74 (by decide) (by decide) (by decide)) (w5_51 75 (by decide) (by decide) (by decide)) (w5_51 76 (by decide) (by decide) (by decide)) (w5_51 77 (by decide) (by decide) (by decide)) (w5_51 78 (by decide) (by decide) (by decide)) (w5_51 79 (by decide) (by decide) (by decide))) (by rw [e10]; omega) (by rw [e15]; omega) (fun M19 hI_M19 hH_M19 hS_M19 qa19 qb19 qt19 sn19 hK19 w19_50 w19_51 => ?_)) (by decide))
        have x19_72 := w19_51 72 (by decide) (by decide) (by decide) (by decide) (by decide) (by decide) (by decide)
        have x19_80 := w19_51 80 (by decide) (by decide) (by decide) (by decide) (by decide) (by decide) (by decide)
        have x19_81 := w19_51 81 (by decide) (by decide) (by decide) (by decide) (by decide) (by decide) (by decide)
        have x19_89 := w19_51 89 (by decide) (by decide) (by decide) (by decide) (by decide) (by decide) (by decide)
        have x19_100 := w19_51 100 (by decide) (by decide) (by decide) (by decide) (by decide) (by decide) (by decide)
        have hT19 := hK19.1
        have kk19 := hK19.kz
        have y20 : M5 598 73 = v6 := e11
        have y21 : M5 598 89 = v16 := e16
        have y22 : M5 598 100 = v3 := e17
        have x19_89 := w19_51 89 (by decide) (by decide) (by decide) (by decide) (by decide) (by decide) (by decide)
        have x19_100 := w19_51 100 (by decide) (by decide) (by decide) (by decide) (by decide) (by decide) (by decide)
        have hE := ES.fr2 hE w19_50 (w19_51 88 (by decide) (by decide) (by decide) (by decide) (by decide) (by decide) (by decide)) (w19_51 90 (by decide) (by decide) (by decide) (by decide) (by decide) (by decide) (by decide)) (w19_51 101 (by decide) (by decide) (by decide) (by decide) (by decide) (by decide) (by decide)) (w19_51 102 (by decide) (by decide) (by decide) (by decide) (by decide) (by decide) (by decide)) (w19_51 107 (by decide) (by decide) (by decide) (by decide) (by decide) (by decide) (by decide)) (k' := kk + 4) (d' := 0) (z' := 0) (by omega) (by omega) (by omega) (by omega)
        have e23 : M19 598 80 = v10 := ((w19_51 80 (by decide) (by decide) (by decide) (by decide) (by decide) (by decide) (by decide)).trans e10)
        have e24 : M19 598 89 = v16 := ((w19_51 89 (by decide) (by decide) (by decide) (by decide) (by decide) (by decide) (by decide)).trans e16)
        have e25 : M19 598 100 = v3 := ((w19_51 100 (by decide) (by decide) (by decide) (by decide) (by decide) (by decide) (by decide)).trans e17)
        obtain ⟨v26, e26⟩ : ∃ z, M19 598 73 = z := ⟨_, rfl⟩
        have b26 : 0 ≤ v26 ∧ v26 ≤ 1600 := by rw [← e26]; exact hI_M19 598 73 (by decide)
        have e27 : M19 598 72 = v12 := ((w19_51 72 (by decide) (by decide) (by decide) (by decide) (by decide) (by decide) (by decide)).trans e13)
        have e28 : M19 598 81 = v18 := ((w19_51 81 (by decide) (by decide) (by decide) (by decide) (by decide) (by decide) (by decide)).trans e18)
        refine jr.pick [0, 1, 2] rfl rfl ?_
        exact r_takeSign_L80_z q M19 y c hI_M19 hH_M19 hS_M19  (fun a i f598 f659 f660 f664 f665 f666 f667 => ((w19_50 a i f598).trans ((w5_50 a i f598).trans (hF_M a i f598 f659 f660 f664 f665 f666 f667)))) (fun i g73 g74 g75 g76 g77 g78 g79 g80 g81 g89 g90 g100 g102 => ((w19_51 i g73 g74 g75 g76 g77 g78 g79).trans ((w5_51 i g80 g81 g89).trans (hG_M i g73 g74 g75 g76 g77 g78 g79 g80 g81 g89 g90 g100 g102)))) (by omega) (by omega) hE (by rw [e23] <;> omega) (by rw [e24] <;> omega) (by rw [e25] <;> omega) (by rw [e26, e27] <;> omega) sn19 (by omega) (CP.f (CP.f hCP (fun i => w5_50 659 i (by decide)) (w5_51 90 (by decide) (by decide) (by decide))) (fun i => w19_50 659 i (by decide)) (w19_51 90 (by decide) (by decide) (by decide) (by decide) (by decide) (by decide) (by decide))) (by rw [e24] <;> omega) (by rw [e28] <;> omega) hK19 (TSQ7.tr (TSP7.bin hTS hHD hrk (by omega) (by omega)) ((abr_fr s0 (fun i => w19_50 664 i (by decide)) (fun i => w19_50 666 i (by decide)) (fun i => w19_50 667 i (by decide)) (w19_51 102 (by decide) (by decide) (by decide) (by decide) (by decide) (by decide) (by decide))).trans ((abr_fr s0 (fun i => w5_50 664 i (by decide)) (fun i => w5_50 666 i (by decide)) (fun i => w5_50 667 i (by decide)) (w5_51 102 (by decide) (by decide) (by decide))).trans rfl)) (by omega) (by omega)) (NU.fr (NU.fr hNU (fun i => w5_50 664 i (by decide)) (w5_51 102 (by decide) (by decide) (by decide))) (fun i => w19_50 664 i (by decide)) (w19_51 102 (by decide) (by decide) (by decide) (by decide) (by decide) (by decide) (by decide))) (TPQ.fr (TPQ.fr hTP (fun i => w5_50 664 i (by decide)) (w5_51 102 (by decide) (by decide) (by decide))) (fun i => w19_50 664 i (by decide)) (w19_51 102 (by decide) (by decide) (by decide) (by decide) (by decide) (by decide) (by decide))) (by omega) (by omega)
      · exfalso
        omega
    · have tk5 : TK M5 = TK M := TK.fr (w5_51 73 (by decide) (by decide) (by decide)) (w5_51 74 (by decide) (by decide) (by decide))
      have x5_72 := w5_51 72 (by decide) (by decide) (by decide)
      have x5_73 := w5_51 73 (by decide) (by decide) (by decide)
      have x5_74 := w5_51 74 (by decide) (by decide) (by decide)
      have x5_75 := w5_51 75 (by decide) (by decide) (by decide)
      have x5_76 := w5_51 76 (by decide) (by decide) (by decide)
      have x5_78 := w5_51 78 (by decide) (by decide) (by decide)
      have x5_79 := w5_51 79 (by decide) (by decide) (by decide)
      have x5_100 := w5_51 100 (by decide) (by decide) (by decide)
      have zfz : zr f N xs (zft (M5 598 80) (M5 598 81)) := zr.fe (TSP7.bink hTS hHD hrk (by omega) (by omega)) (by omega) (by omega)
      refine jr.aload_n rfl rfl ?_
      obtain ⟨v29, e29⟩ : ∃ z, M5 598 80 = z := ⟨_, rfl⟩
      have b29 : 0 ≤ v29 ∧ v29 ≤ 7 := by rw [← e29]; exact hI_M5 598 80 (by decide)
      refine jr_v rfl rfl (Or.inl rfl) rfl rfl (by decide) rfl ⟨rfl, Nat.le_of_ble_eq_true rfl, Nat.le_of_ble_eq_true rfl⟩ rfl (jc.deep (c_good hI_M5  (fun t68_0 => ?_) (fun f68_0 => ?_)) (by decide))
      · exfalso
        omega
      · refine jr.if_ne rfl rfl (by omega) (fun h => absurd h (by decide)) (fun _ => ?_)
        refine jr.iconst rfl ?_
        obtain ⟨v30, e30⟩ : ∃ z, M 598 72 = z := ⟨_, rfl⟩
        have b30 : 0 ≤ v30 ∧ v30 ≤ 1600 := by rw [← e30]; exact hI_M 598 72 (by decide)
        have e31 : M5 598 72 = v30 := ((w5_51 72 (by decide) (by decide) (by decide)).trans e30)
        have y32 : M5 598 72 = v30 := e31
        have e33 : M5 598 73 = v6 := ((w5_51 73 (by decide) (by decide) (by decide)).trans e6)
        have y34 : M5 598 73 = v6 := e33
        obtain ⟨v35, e35⟩ : ∃ z, M 598 74 = z := ⟨_, rfl⟩
        have b35 : 0 ≤ v35 ∧ v35 ≤ 4 := by rw [← e35]; exact hI_M 598 74 (by decide)
        have e36 : M5 598 74 = v35 := ((w5_51 74 (by decide) (by decide) (by decide)).trans e35)
        have y37 : M5 598 74 = v35 := e36
        obtain ⟨v38, e38⟩ : ∃ z, M 598 79 = z := ⟨_, rfl⟩
        have b38 : 0 ≤ v38 ∧ v38 ≤ 255 := by rw [← e38]; exact hI_M 598 79 (by decide)
        have e39 : M5 598 79 = v38 := ((w5_51 79 (by decide) (by decide) (by decide)).trans e38)
        have y40 : M5 598 79 = v38 := e39
        have y41 : M5 598 80 = v29 := e29
        obtain ⟨v42, e42⟩ : ∃ z, M5 598 89 = z := ⟨_, rfl⟩
        have b42 : 0 ≤ v42 ∧ v42 ≤ 301 := by rw [← e42]; exact hI_M5 598 89 (by decide)
        have y43 : M5 598 89 = v42 := e42
        obtain ⟨v44, e44⟩ : ∃ z, M 598 90 = z := ⟨_, rfl⟩
        have b44 : 0 ≤ v44 ∧ v44 ≤ 2200 := by rw [← e44]; exact hI_M 598 90 (by decide)
        have e45 : M5 598 90 = v44 := ((w5_51 90 (by decide) (by decide) (by decide)).trans e44)
        have y46 : M5 598 90 = v44 := e45
        have e47 : M5 598 100 = v3 := ((w5_51 100 (by decide) (by decide) (by decide)).trans e3)
        have y48 : M5 598 100 = v3 := e47
        obtain ⟨v49, e49⟩ : ∃ z, M 598 107 = z := ⟨_, rfl⟩
        have b49 : 0 ≤ v49 ∧ v49 ≤ 16 := by rw [← e49]; exact hI_M 598 107 (by decide)
        have e50 : M5 598 107 = v49 := ((w5_51 107 (by decide) (by decide) (by decide)).trans e49)
        have y51 : M5 598 107 = v49 := e50
        obtain ⟨v52, e52⟩ : ∃ z, M 598 75 = z := ⟨_, rfl⟩
        have b52 : 0 ≤ v52 ∧ v52 ≤ 1600 := by rw [← e52]; exact hI_M 598 75 (by decide)
        have e53 : M5 598 75 = v52 := ((w5_51 75 (by decide) (by decide) (by decide)).trans e52)
        have y54 : M5 598 75 = v52 := e53
        have y55 : M5 598 80 = v29 := e29
        obtain ⟨v56, e56⟩ : ∃ z, M5 598 81 = z := ⟨_, rfl⟩
        have b56 : (-1) ≤ v56 ∧ v56 ≤ 1600 := by rw [← e56]; exact hI_M5 598 81 (by decide)
        have y57 : M5 598 81 = v56 := e56
        have y58 : M5 598 89 = v42 := e42
        have y59 : M5 598 100 = v3 := e47
        exact jr.ireturn rfl rfl rfl (q _ _ hI_M5 hH_M5 hS_M5  (by omega) (Or.inr ⟨rfl, Or.inl ⟨by omega, by omega⟩⟩) (by omega) (by omega) (Or.inr (Or.inl (by omega))) (CP.f hCP (fun i => w5_50 659 i (by decide)) (w5_51 90 (by decide) (by decide) (by decide))) (by omega) (TXr.fr hT (w5_51 72 (by decide) (by decide) (by decide)) (fun i => w5_50 651 i (by decide)) (fun i => w5_50 649 i (by decide)) (fun i => w5_50 650 i (by decide))) (fun _ => zr.fe zfz (by omega) (by omega)) (fun q z => by exfalso; omega) (fun z => absurd z (by decide)) (fun q => by exfalso; omega) (fun q => by omega) (fun a i f598 f659 f660 f664 f665 f666 f667 => ((w5_50 a i f598).trans (hF_M a i f598 f659 f660 f664 f665 f666 f667))) (fun i g73 g74 g75 g76 g77 g78 g79 g80 g81 g89 g90 g100 g102 => ((w5_51 i g80 g81 g89).trans (hG_M i g73 g74 g75 g76 g77 g78 g79 g80 g81 g89 g90 g100 g102))))
set_option maxHeartbeats 8000000 in
theorem r_takeSign_z {A : Nat → Option (Nat × (Nat → Int32))} {Q : Option Value → jm → Prop} {f : Int → Int} {N : Int} {b kk : Int} {xs : ZS} {t bh : Int} {s0 : List (Int × Int × Int × Int)} {nm ak : List Int} {M : jm} (hI_M : RI M) (hH_M : RH M) (hS_M : RF M) (p0 : GS M b 1 kk) (p1 : TKr f N t M) (p2 : zr f N xs (3, t, M 598 89, M 598 100, (abr M s0).2, bh, (abr M s0).1, nm, ak)) (p3 : HD s0) (p4 : NU M) (p5 : (M 598 102 = 0 ∨ strn (M 664 (M 598 102 - 1)) < 6)) (q : ∀ (r : Int) (M' : jm), RI M' → RH M' → RF M' → 0 ≤ r ∧ r ≤ 1 → ((r = 0 ∧ GS M' b 1 kk) ∨ (r = 1 ∧ (BS M' ∨ (GS M' b 0 kk ∧ TK M' < TK M)))) → TK M' ≤ TK M → M' 598 73 ≤ M' 598 72 → (r = 0 ∨ M' 598 80 ≠ 0 ∨ TK M' < TK M) → CP M M' → M 598 89 ≤ M' 598 89 → TXr f N M' → ZFQ f N xs M' → ZSQ f N xs M' r bh s0 nm ak → ZSR0 f N xs M' r t bh s0 nm ak → NUQ M' → K8Q M M' → (∀ (a : Nat) (i : Int), a ≠ 598 → a ≠ 659 → a ≠ 660 → a ≠ 664 → a ≠ 665 → a ≠ 666 → a ≠ 667 → M' a i = M a i) → (∀ (i : Int), i ≠ 73 → i ≠ 74 → i ≠ 75 → i ≠ 76 → i ≠ 77 → i ≠ 78 → i ≠ 79 → i ≠ 80 → i ≠ 81 → i ≠ 89 → i ≠ 90 → i ≠ 100 → i ≠ 102 → M' 598 i = M 598 i) → Q (some (.int (Int32.ofInt r))) M') : jc A 3 363 [.ref (598)] M Q := by
  obtain ⟨gs1, gs2, gs3, gs4, gs5, gs6⟩ := id p0
  have hE := gs2
  have sl := ES.sgle gs2
  have bb := ES.bb gs2
  have kb := ES.kz gs2
  have b107 : (0 : Int) ≤ M 598 107 ∧ M 598 107 ≤ 16 := hI_M 598 107 (by decide)
  have b73 : (0 : Int) ≤ M 598 73 ∧ M 598 73 ≤ 1600 := hI_M 598 73 (by decide)
  have b88 : (0 : Int) ≤ M 598 88 ∧ M 598 88 ≤ 16 := hI_M 598 88 (by decide)
  have b100 : (0 : Int) ≤ M 598 100 ∧ M 598 100 ≤ 13 := hI_M 598 100 (by decide)
  have hK := p1
  have kk0 := hK.kz
  have hT := hK.1
  have hz := p2
  clear p5
  refine jc_of (m := xm_363) rfl (Nat.le_of_ble_eq_true rfl) rfl ?_
  refine jr.aload_n rfl rfl ?_
  obtain ⟨v1, e1⟩ : ∃ z, M 598 74 = z := ⟨_, rfl⟩
  have b1 : 0 ≤ v1 ∧ v1 ≤ 4 := by rw [← e1]; exact hI_M 598 74 (by decide)
  refine jr.getf (i := 74) (x := v1) (v := .int (Int32.ofInt (v1))) rfl rfl (by decide) rfl (by decide) rfl rfl e1 rfl ?_
  refine jr.iconst rfl ?_
  refine jr.icmp_ne rfl rfl (by omega) (by omega) (fun h5 => ?_) (fun h5 => ?_)
  · refine jr.iconst rfl ?_
    refine jr.istore_n rfl (by decide) rfl ?_
    refine jr.iload_n rfl rfl ?_
    refine jr.if_ne rfl rfl (by omega) (fun h => absurd h (by decide)) (fun _ => ?_)
    refine jr.iconst rfl ?_
    obtain ⟨v2, e2⟩ : ∃ z, M 598 72 = z := ⟨_, rfl⟩
    have b2 : 0 ≤ v2 ∧ v2 ≤ 1600 := by rw [← e2]; exact hI_M 598 72 (by decide)
    have y3 : M 598 72 = v2 := e2
    obtain ⟨v4, e4⟩ : ∃ z, M 598 73 = z := ⟨_, rfl⟩
    have b4 : 0 ≤ v4 ∧ v4 ≤ 1600 := by rw [← e4]; exact hI_M 598 73 (by decide)
    have y5 : M 598 73 = v4 := e4
    have y6 : M 598 74 = v1 := e1
    obtain ⟨v7, e7⟩ : ∃ z, M 598 79 = z := ⟨_, rfl⟩
    have b7 : 0 ≤ v7 ∧ v7 ≤ 255 := by rw [← e7]; exact hI_M 598 79 (by decide)
    have y8 : M 598 79 = v7 := e7
    obtain ⟨v9, e9⟩ : ∃ z, M 598 80 = z := ⟨_, rfl⟩
    have b9 : 0 ≤ v9 ∧ v9 ≤ 7 := by rw [← e9]; exact hI_M 598 80 (by decide)
    have y10 : M 598 80 = v9 := e9
    obtain ⟨v11, e11⟩ : ∃ z, M 598 89 = z := ⟨_, rfl⟩
    have b11 : 0 ≤ v11 ∧ v11 ≤ 301 := by rw [← e11]; exact hI_M 598 89 (by decide)
    have y12 : M 598 89 = v11 := e11
    obtain ⟨v13, e13⟩ : ∃ z, M 598 90 = z := ⟨_, rfl⟩
    have b13 : 0 ≤ v13 ∧ v13 ≤ 2200 := by rw [← e13]; exact hI_M 598 90 (by decide)
    have y14 : M 598 90 = v13 := e13
    obtain ⟨v15, e15⟩ : ∃ z, M 598 100 = z := ⟨_, rfl⟩
    have b15 : 0 ≤ v15 ∧ v15 ≤ 13 := by rw [← e15]; exact hI_M 598 100 (by decide)
    have y16 : M 598 100 = v15 := e15
    obtain ⟨v17, e17⟩ : ∃ z, M 598 107 = z := ⟨_, rfl⟩
    have b17 : 0 ≤ v17 ∧ v17 ≤ 16 := by rw [← e17]; exact hI_M 598 107 (by decide)
    have y18 : M 598 107 = v17 := e17
    obtain ⟨v19, e19⟩ : ∃ z, M 598 75 = z := ⟨_, rfl⟩
    have b19 : 0 ≤ v19 ∧ v19 ≤ 1600 := by rw [← e19]; exact hI_M 598 75 (by decide)
    have y20 : M 598 75 = v19 := e19
    have y21 : M 598 80 = v9 := e9
    obtain ⟨v22, e22⟩ : ∃ z, M 598 81 = z := ⟨_, rfl⟩
    have b22 : (-1) ≤ v22 ∧ v22 ≤ 1600 := by rw [← e22]; exact hI_M 598 81 (by decide)
    have y23 : M 598 81 = v22 := e22
    have y24 : M 598 89 = v11 := e11
    have y25 : M 598 100 = v15 := e15
    exact jr.ireturn rfl rfl rfl (q _ _ hI_M hH_M hS_M  (by omega) (Or.inl ⟨rfl, p0⟩) (by omega) (by omega) (Or.inl rfl) (CP.rfl _) (by omega) hT (fun q => by exfalso; omega) (fun q z => absurd z (by decide)) (fun _ => ⟨p1, p2, by first | exact zrk_v0 s0t.1 (v := v7) (by omega) (by omega) (by omega) (by omega) | exact zrk_9 (Or.inl (by omega))⟩) (fun _ => p4) (fun q => by omega) (fun a i f598 f659 f660 f664 f665 f666 f667 => rfl) (fun i g73 g74 g75 g76 g77 g78 g79 g80 g81 g89 g90 g100 g102 => rfl))
  · refine jr.aload_n rfl rfl ?_
    obtain ⟨v26, e26⟩ : ∃ z, M 598 79 = z := ⟨_, rfl⟩
    have b26 : 0 ≤ v26 ∧ v26 ≤ 255 := by rw [← e26]; exact hI_M 598 79 (by decide)
    refine jr.getf (i := 79) (x := v26) (v := .int (Int32.ofInt (v26))) rfl rfl (by decide) rfl (by decide) rfl rfl e26 rfl ?_
    refine jr_s rfl rfl (Or.inl rfl) ⟨Nat.le_of_ble_eq_true rfl, Nat.le_of_ble_eq_true rfl⟩ rfl rfl (jc.deep (r_strength hI_M hH_M hS_M (Kp.rfl _) (by omega)  (fun r27 z27 w27_0 => ?_)) (by decide))
    have n6 : ¬ r27 = 6 := fun z => by
      have z1 := strn_un (show strn v26 = 6 by omega)
      omega
    have n5 : r27 ≤ 5 := by omega
    clear n6
    have s0t := hK.sz (by omega)
    refine jr.goto rfl rfl ?_
    refine jr.istore_n rfl (by decide) rfl ?_
    refine jr.iload_n rfl rfl ?_
    refine jr.if_ne rfl rfl (by omega) (fun h21 => ?_) (fun h21 => ?_)
    · refine jr.aload_n rfl rfl ?_
      refine jr.getf (i := 79) (x := v26) (v := .int (Int32.ofInt (v26))) rfl rfl (by decide) rfl (by decide) rfl rfl e26 rfl ?_
      refine jr.istore_n rfl (by decide) rfl ?_
      refine jr.aload_n rfl rfl ?_
      refine jr.iload_n rfl rfl ?_
      refine jr.iconst rfl ?_
      refine jr.icmp_ne rfl rfl (by omega) (by omega) (fun h34 => ?_) (fun h34 => ?_)
      · refine jr.iload_n rfl rfl ?_
        refine jr_v rfl rfl (Or.inl rfl) rfl rfl (by decide) rfl ⟨rfl, Nat.le_of_ble_eq_true rfl, Nat.le_of_ble_eq_true rfl⟩ rfl (jc.deep (r_reduce_z hI_M hH_M hS_M  (by omega) p0 p2 p4 (fun M28 hI_M28 hH_M28 hS_M28  w28_0 w28_1 w28_2 w28_3 w28_4 w28_5 w28_6 w28_7 w28_8 => ?_)) (by decide))
        have tk28 : TK M28 = TK M := TK.fr (w28_8 73 (by decide) (by decide) (by decide)) (w28_8 74 (by decide) (by decide) (by decide))
        have sl := ES.sgle w28_0.2.1
        have bb := ES.bb w28_0.2.1
        have kb := ES.kz w28_0.2.1
        have bM28_107 : (0 : Int) ≤ M28 598 107 ∧ M28 598 107 ≤ 16 := hI_M28 598 107 (by decide)
        have bM28_73 : (0 : Int) ≤ M28 598 73 ∧ M28 598 73 ≤ 1600 := hI_M28 598 73 (by decide)
        have bM28_88 : (0 : Int) ≤ M28 598 88 ∧ M28 598 88 ≤ 16 := hI_M28 598 88 (by decide)
        have bM28_100 : (0 : Int) ≤ M28 598 100 ∧ M28 598 100 ≤ 13 := hI_M28 598 100 (by decide)
        have b102 : (0 : Int) ≤ M28 598 102 ∧ M28 598 102 ≤ 400 := hI_M28 598 102 (by decide)
        have tpq : TPQ M28 r27 := w28_1
        clear w28_1
        refine jr.iload_n rfl rfl ?_
        refine jr.iconst rfl ?_
        refine jr.icmp_ne rfl rfl (by omega) (by omega) (fun h47 => ?_) (fun h => absurd h (by omega))
        obtain ⟨v29, e29⟩ : ∃ z, M 598 89 = z := ⟨_, rfl⟩
        have b29 : 0 ≤ v29 ∧ v29 ≤ 301 := by rw [← e29]; exact hI_M 598 89 (by decide)
        have e30 : M28 598 89 = v29 := ((w28_8 89 (by decide) (by decide) (by decide)).trans e29)
        obtain ⟨v31, e31⟩ : ∃ z, M 598 81 = z := ⟨_, rfl⟩
        have b31 : (-1) ≤ v31 ∧ v31 ≤ 1600 := by rw [← e31]; exact hI_M 598 81 (by decide)
        have e32 : M28 598 81 = v31 := ((w28_8 81 (by decide) (by decide) (by decide)).trans e31)
        have e33 : M28 598 79 = v26 := ((w28_8 79 (by decide) (by decide) (by decide)).trans e26)
        have e34 : M28 598 74 = v1 := ((w28_8 74 (by decide) (by decide) (by decide)).trans e1)
        refine jr.pick [1, 0, 2] rfl rfl ?_
        exact r_takeSign_L63_z q M28 r27 v26 hI_M28 hH_M28 hS_M28  (fun a i f598 f659 f660 f664 f665 f666 f667 => ((w28_7 a i f598 f659 f660).trans rfl)) (fun i g73 g74 g75 g76 g77 g78 g79 g80 g81 g89 g90 g100 g102 => ((w28_8 i g90 g100 g102).trans rfl)) (by omega) (by omega) w28_0 (by omega) (CP.trans (CP.rfl _) w28_3) (by rw [e30] <;> omega) (by rw [e32] <;> omega) (TKr.fr hK (w28_8 72 (by decide) (by decide) (by decide)) (fun i => w28_7 651 i (by decide) (by decide) (by decide)) (fun i => w28_7 649 i (by decide) (by decide) (by decide)) (fun i => w28_7 650 i (by decide) (by decide) (by decide)) (w28_8 73 (by decide) (by decide) (by decide)) (w28_8 74 (by decide) (by decide) (by decide)) (w28_8 75 (by decide) (by decide) (by decide)) (w28_8 76 (by decide) (by decide) (by decide)) (w28_8 77 (by decide) (by decide) (by decide)) (w28_8 78 (by decide) (by decide) (by decide)) (w28_8 79 (by decide) (by decide) (by decide))) ⟨_, w28_4, fun z => absurd z (by omega), w28_5⟩ w28_6 tpq (by omega) (by rw [e33] <;> omega) (by rw [e34] <;> omega) p3
      · refine jr.iconst rfl ?_
        refine jr.goto rfl rfl ?_
        refine jr_v rfl rfl (Or.inl rfl) rfl rfl (by decide) rfl ⟨rfl, Nat.le_of_ble_eq_true rfl, Nat.le_of_ble_eq_true rfl⟩ rfl (jc.deep (r_reduce_z hI_M hH_M hS_M  (by omega) p0 p2 p4 (fun M35 hI_M35 hH_M35 hS_M35  w35_0 w35_1 w35_2 w35_3 w35_4 w35_5 w35_6 w35_7 w35_8 => ?_)) (by decide))
        have tk35 : TK M35 = TK M := TK.fr (w35_8 73 (by decide) (by decide) (by decide)) (w35_8 74 (by decide) (by decide) (by decide))
        have sl := ES.sgle w35_0.2.1
        have bb := ES.bb w35_0.2.1
        have kb := ES.kz w35_0.2.1
        have bM35_107 : (0 : Int) ≤ M35 598 107 ∧ M35 598 107 ≤ 16 := hI_M35 598 107 (by decide)
        have bM35_73 : (0 : Int) ≤ M35 598 73 ∧ M35 598 73 ≤ 1600 := hI_M35 598 73 (by decide)
        have bM35_88 : (0 : Int) ≤ M35 598 88 ∧ M35 598 88 ≤ 16 := hI_M35 598 88 (by decide)
        have bM35_100 : (0 : Int) ≤ M35 598 100 ∧ M35 598 100 ≤ 13 := hI_M35 598 100 (by decide)
        have b102 : (0 : Int) ≤ M35 598 102 ∧ M35 598 102 ≤ 400 := hI_M35 598 102 (by decide)
        have tpq : TPQ M35 4 := w35_1
        clear w35_1
        refine jr.iload_n rfl rfl ?_
        refine jr.iconst rfl ?_
        refine jr.icmp_ne rfl rfl (by omega) (by omega) (fun h47 => ?_) (fun h47 => ?_)
        · exact absurd h47 (by omega)
        · refine jr.aload_n rfl rfl ?_
          refine jr_v rfl rfl (Or.inl rfl) rfl rfl (by decide) rfl ⟨rfl, Nat.le_of_ble_eq_true rfl, Nat.le_of_ble_eq_true rfl⟩ rfl (jc.deep (r_isCompareOnTop_z hI_M35 hH_M35 hS_M35 (Kp.rfl _)   (fun r36 z36 w36_0 w36_1 => ?_)) (by decide))
          have ctq : CTQ r36 M35 := ⟨w36_0, w36_1⟩
          clear w36_0 w36_1
          refine jr.if_eq rfl rfl (by omega) (fun h54 => ?_) (fun h54 => ?_)
          · obtain ⟨v37, e37⟩ : ∃ z, M 598 89 = z := ⟨_, rfl⟩
            have b37 : 0 ≤ v37 ∧ v37 ≤ 301 := by rw [← e37]; exact hI_M 598 89 (by decide)
            have e38 : M35 598 89 = v37 := ((w35_8 89 (by decide) (by decide) (by decide)).trans e37)
            obtain ⟨v39, e39⟩ : ∃ z, M 598 81 = z := ⟨_, rfl⟩
            have b39 : (-1) ≤ v39 ∧ v39 ≤ 1600 := by rw [← e39]; exact hI_M 598 81 (by decide)
            have e40 : M35 598 81 = v39 := ((w35_8 81 (by decide) (by decide) (by decide)).trans e39)
            have e41 : M35 598 79 = v26 := ((w35_8 79 (by decide) (by decide) (by decide)).trans e26)
            have e42 : M35 598 74 = v1 := ((w35_8 74 (by decide) (by decide) (by decide)).trans e1)
            refine jr.pick [1, 0, 2] rfl rfl ?_
            exact r_takeSign_L63_z q M35 r27 v26 hI_M35 hH_M35 hS_M35  (fun a i f598 f659 f660 f664 f665 f666 f667 => ((w35_7 a i f598 f659 f660).trans rfl)) (fun i g73 g74 g75 g76 g77 g78 g79 g80 g81 g89 g90 g100 g102 => ((w35_8 i g90 g100 g102).trans rfl)) (by omega) (by omega) w35_0 (by omega) (CP.trans (CP.rfl _) w35_3) (by rw [e38] <;> omega) (by rw [e40] <;> omega) (TKr.fr hK (w35_8 72 (by decide) (by decide) (by decide)) (fun i => w35_7 651 i (by decide) (by decide) (by decide)) (fun i => w35_7 649 i (by decide) (by decide) (by decide)) (fun i => w35_7 650 i (by decide) (by decide) (by decide)) (w35_8 73 (by decide) (by decide) (by decide)) (w35_8 74 (by decide) (by decide) (by decide)) (w35_8 75 (by decide) (by decide) (by decide)) (w35_8 76 (by decide) (by decide) (by decide)) (w35_8 77 (by decide) (by decide) (by decide)) (w35_8 78 (by decide) (by decide) (by decide)) (w35_8 79 (by decide) (by decide) (by decide))) ⟨_, w35_4, fun _ z => absurd (((TPQ.c0 s0 (TPQ.of tpq (ctq.1 (by omega))) b102.1).symm.trans (w35_5 (by decide))).trans z) (by decide), fun z => absurd z (by omega)⟩ w35_6 (TPQ.cast (TPQ.of tpq (ctq.1 (by omega))) (by omega)) (by omega) (by rw [e41] <;> omega) (by rw [e42] <;> omega) p3
          · refine jr.aload_n rfl rfl ?_
            obtain ⟨v43, e43⟩ : ∃ z, M 598 80 = z := ⟨_, rfl⟩
            have b43 : 0 ≤ v43 ∧ v43 ≤ 7 := by rw [← e43]; exact hI_M 598 80 (by decide)
            have e44 : M35 598 80 = v43 := ((w35_8 80 (by decide) (by decide) (by decide)).trans e43)
            obtain ⟨v45, e45⟩ : ∃ z, M 598 89 = z := ⟨_, rfl⟩
            have b45 : 0 ≤ v45 ∧ v45 ≤ 301 := by rw [← e45]; exact hI_M 598 89 (by decide)
            have e46 : M35 598 89 = v45 := ((w35_8 89 (by decide) (by decide) (by decide)).trans e45)
            obtain ⟨v47, e47⟩ : ∃ z, M35 598 100 = z := ⟨_, rfl⟩
            have b47 : 0 ≤ v47 ∧ v47 ≤ 13 := by rw [← e47]; exact hI_M35 598 100 (by decide)
            obtain ⟨v48, e48⟩ : ∃ z, M 598 81 = z := ⟨_, rfl⟩
            have b48 : (-1) ≤ v48 ∧ v48 ≤ 1600 := by rw [← e48]; exact hI_M 598 81 (by decide)
            have e49 : M35 598 81 = v48 := ((w35_8 81 (by decide) (by decide) (by decide)).trans e48)
            refine jr_v rfl rfl (Or.inl rfl) rfl rfl (by decide) rfl ⟨rfl, Nat.le_of_ble_eq_true rfl, Nat.le_of_ble_eq_true rfl⟩ rfl (jc.deep (c_wrongToken_z (f := f) (N := N) hI_M35 hH_M35 hS_M35 (TKr.fr hK (w35_8 72 (by decide) (by decide) (by decide)) (fun i => w35_7 651 i (by decide) (by decide) (by decide)) (fun i => w35_7 649 i (by decide) (by decide) (by decide)) (fun i => w35_7 650 i (by decide) (by decide) (by decide)) (w35_8 73 (by decide) (by decide) (by decide)) (w35_8 74 (by decide) (by decide) (by decide)) (w35_8 75 (by decide) (by decide) (by decide)) (w35_8 76 (by decide) (by decide) (by decide)) (w35_8 77 (by decide) (by decide) (by decide)) (w35_8 78 (by decide) (by decide) (by decide)) (w35_8 79 (by decide) (by decide) (by decide))) (by rw [e44]; omega) (fun M50 hI_M50 hH_M50 hS_M50 qn50 q050 q150 w50_50 w50_51 => ?_)) (by decide))
            have tk50 : TK M50 = TK M35 := TK.fr (w50_51 73 (by decide) (by decide)) (w50_51 74 (by decide) (by decide))
            have x50_72 := w50_51 72 (by decide) (by decide)
            have x50_73 := w50_51 73 (by decide) (by decide)
            have x50_74 := w50_51 74 (by decide) (by decide)
            have x50_75 := w50_51 75 (by decide) (by decide)
            have x50_76 := w50_51 76 (by decide) (by decide)
            have x50_78 := w50_51 78 (by decide) (by decide)
            have x50_79 := w50_51 79 (by decide) (by decide)
            have x50_89 := w50_51 89 (by decide) (by decide)
            have x50_100 := w50_51 100 (by decide) (by decide)
            have zfz : zr f N xs (zft (M50 598 80) (M50 598 81)) := zr.fe (zr.bincc w35_4 (TPQ.hd tpq (by decide) p3 w35_6 b102.1) ((zrk_vn (v := v26) s0t.1 (by omega) (by omega) (by omega) (by omega)).trans (by omega)) ((w35_5 (by decide)).symm.trans (abr_21 s0 rfl (ctq.2 (by omega)).1 (ctq.2 (by omega)).2))) (q050.trans (zwr_n (by omega))) q150
            refine jr.iconst rfl ?_
            obtain ⟨v51, e51⟩ : ∃ z, M 598 72 = z := ⟨_, rfl⟩
            have b51 : 0 ≤ v51 ∧ v51 ≤ 1600 := by rw [← e51]; exact hI_M 598 72 (by decide)
            have e52 : M35 598 72 = v51 := ((w35_8 72 (by decide) (by decide) (by decide)).trans e51)
            have e53 : M50 598 72 = v51 := ((w50_51 72 (by decide) (by decide)).trans e52)
            have y54 : M50 598 72 = v51 := e53
            obtain ⟨v55, e55⟩ : ∃ z, M 598 73 = z := ⟨_, rfl⟩
            have b55 : 0 ≤ v55 ∧ v55 ≤ 1600 := by rw [← e55]; exact hI_M 598 73 (by decide)
            have e56 : M35 598 73 = v55 := ((w35_8 73 (by decide) (by decide) (by decide)).trans e55)
            have e57 : M50 598 73 = v55 := ((w50_51 73 (by decide) (by decide)).trans e56)
            have y58 : M50 598 73 = v55 := e57
            have e59 : M35 598 74 = v1 := ((w35_8 74 (by decide) (by decide) (by decide)).trans e1)
            have e60 : M50 598 74 = v1 := ((w50_51 74 (by decide) (by decide)).trans e59)
            have y61 : M50 598 74 = v1 := e60
            have e62 : M35 598 79 = v26 := ((w35_8 79 (by decide) (by decide) (by decide)).trans e26)
            have e63 : M50 598 79 = v26 := ((w50_51 79 (by decide) (by decide)).trans e62)
            have y64 : M50 598 79 = v26 := e63
            obtain ⟨v65, e65⟩ : ∃ z, M50 598 80 = z := ⟨_, rfl⟩
            have b65 : 0 ≤ v65 ∧ v65 ≤ 7 := by rw [← e65]; exact hI_M50 598 80 (by decide)
            have y66 : M50 598 80 = v65 := e65
            have e67 : M50 598 89 = v45 := ((w50_51 89 (by decide) (by decide)).trans e46)
            have y68 : M50 598 89 = v45 := e67
            obtain ⟨v69, e69⟩ : ∃ z, M35 598 90 = z := ⟨_, rfl⟩
            have b69 : 0 ≤ v69 ∧ v69 ≤ 2200 := by rw [← e69]; exact hI_M35 598 90 (by decide)
            have e70 : M50 598 90 = v69 := ((w50_51 90 (by decide) (by decide)).trans e69)
            have y71 : M50 598 90 = v69 := e70
            have e72 : M50 598 100 = v47 := ((w50_51 100 (by decide) (by decide)).trans e47)
            have y73 : M50 598 100 = v47 := e72
            obtain ⟨v74, e74⟩ : ∃ z, M 598 107 = z := ⟨_, rfl⟩
            have b74 : 0 ≤ v74 ∧ v74 ≤ 16 := by rw [← e74]; exact hI_M 598 107 (by decide)
            have e75 : M35 598 107 = v74 := ((w35_8 107 (by decide) (by decide) (by decide)).trans e74)
            have e76 : M50 598 107 = v74 := ((w50_51 107 (by decide) (by decide)).trans e75)
            have y77 : M50 598 107 = v74 := e76
            obtain ⟨v78, e78⟩ : ∃ z, M 598 75 = z := ⟨_, rfl⟩
            have b78 : 0 ≤ v78 ∧ v78 ≤ 1600 := by rw [← e78]; exact hI_M 598 75 (by decide)
            have e79 : M35 598 75 = v78 := ((w35_8 75 (by decide) (by decide) (by decide)).trans e78)
            have e80 : M50 598 75 = v78 := ((w50_51 75 (by decide) (by decide)).trans e79)
            have y81 : M50 598 75 = v78 := e80
            have y82 : M50 598 80 = v65 := e65
            obtain ⟨v83, e83⟩ : ∃ z, M50 598 81 = z := ⟨_, rfl⟩
            have b83 : (-1) ≤ v83 ∧ v83 ≤ 1600 := by rw [← e83]; exact hI_M50 598 81 (by decide)
            have y84 : M50 598 81 = v83 := e83
            have y85 : M50 598 89 = v45 := e67
            have y86 : M50 598 100 = v47 := e72
            exact jr.ireturn rfl rfl rfl (q _ _ hI_M50 hH_M50 hS_M50  (by omega) (Or.inr ⟨rfl, Or.inl ⟨by omega, by omega⟩⟩) (by omega) (by omega) (Or.inr (Or.inl (by omega))) (CP.f (CP.trans (CP.rfl _) w35_3) (fun i => w50_50 659 i (by decide)) (w50_51 90 (by decide) (by decide))) (by omega) (TXr.fr (TXr.fr hT (w35_8 72 (by decide) (by decide) (by decide)) (fun i => w35_7 651 i (by decide) (by decide) (by decide)) (fun i => w35_7 649 i (by decide) (by decide) (by decide)) (fun i => w35_7 650 i (by decide) (by decide) (by decide))) (w50_51 72 (by decide) (by decide)) (fun i => w50_50 651 i (by decide)) (fun i => w50_50 649 i (by decide)) (fun i => w50_50 650 i (by decide))) (fun _ => zr.fe zfz (by omega) (by omega)) (fun q z => by exfalso; omega) (fun z => absurd z (by decide)) (fun q => by exfalso; omega) (fun q => by omega) (fun a i f598 f659 f660 f664 f665 f666 f667 => ((w50_50 a i f598).trans ((w35_7 a i f598 f659 f660).trans rfl))) (fun i g73 g74 g75 g76 g77 g78 g79 g80 g81 g89 g90 g100 g102 => ((w50_51 i g80 g81).trans ((w35_8 i g90 g100 g102).trans rfl))))
    · refine jr.iconst rfl ?_
      obtain ⟨v87, e87⟩ : ∃ z, M 598 72 = z := ⟨_, rfl⟩
      have b87 : 0 ≤ v87 ∧ v87 ≤ 1600 := by rw [← e87]; exact hI_M 598 72 (by decide)
      have y88 : M 598 72 = v87 := e87
      obtain ⟨v89, e89⟩ : ∃ z, M 598 73 = z := ⟨_, rfl⟩
      have b89 : 0 ≤ v89 ∧ v89 ≤ 1600 := by rw [← e89]; exact hI_M 598 73 (by decide)
      have y90 : M 598 73 = v89 := e89
      have y91 : M 598 74 = v1 := e1
      have y92 : M 598 79 = v26 := e26
      obtain ⟨v93, e93⟩ : ∃ z, M 598 80 = z := ⟨_, rfl⟩
      have b93 : 0 ≤ v93 ∧ v93 ≤ 7 := by rw [← e93]; exact hI_M 598 80 (by decide)
      have y94 : M 598 80 = v93 := e93
      obtain ⟨v95, e95⟩ : ∃ z, M 598 89 = z := ⟨_, rfl⟩
      have b95 : 0 ≤ v95 ∧ v95 ≤ 301 := by rw [← e95]; exact hI_M 598 89 (by decide)
      have y96 : M 598 89 = v95 := e95
      obtain ⟨v97, e97⟩ : ∃ z, M 598 90 = z := ⟨_, rfl⟩
      have b97 : 0 ≤ v97 ∧ v97 ≤ 2200 := by rw [← e97]; exact hI_M 598 90 (by decide)
      have y98 : M 598 90 = v97 := e97
      obtain ⟨v99, e99⟩ : ∃ z, M 598 100 = z := ⟨_, rfl⟩
      have b99 : 0 ≤ v99 ∧ v99 ≤ 13 := by rw [← e99]; exact hI_M 598 100 (by decide)
      have y100 : M 598 100 = v99 := e99
      obtain ⟨v101, e101⟩ : ∃ z, M 598 107 = z := ⟨_, rfl⟩
      have b101 : 0 ≤ v101 ∧ v101 ≤ 16 := by rw [← e101]; exact hI_M 598 107 (by decide)
      have y102 : M 598 107 = v101 := e101
      obtain ⟨v103, e103⟩ : ∃ z, M 598 75 = z := ⟨_, rfl⟩
      have b103 : 0 ≤ v103 ∧ v103 ≤ 1600 := by rw [← e103]; exact hI_M 598 75 (by decide)
      have y104 : M 598 75 = v103 := e103
      have y105 : M 598 80 = v93 := e93
      obtain ⟨v106, e106⟩ : ∃ z, M 598 81 = z := ⟨_, rfl⟩
      have b106 : (-1) ≤ v106 ∧ v106 ≤ 1600 := by rw [← e106]; exact hI_M 598 81 (by decide)
      have y107 : M 598 81 = v106 := e106
      have y108 : M 598 89 = v95 := e95
      have y109 : M 598 100 = v99 := e99
      exact jr.ireturn rfl rfl rfl (q _ _ hI_M hH_M hS_M  (by omega) (Or.inl ⟨rfl, p0⟩) (by omega) (by omega) (Or.inl rfl) (CP.rfl _) (by omega) hT (fun q => by exfalso; omega) (fun q z => absurd z (by decide)) (fun _ => ⟨p1, p2, by first | exact zrk_v0 s0t.1 (v := v26) (by omega) (by omega) (by omega) (by omega) | exact zrk_9 (Or.inl (by omega))⟩) (fun _ => p4) (fun q => by omega) (fun a i f598 f659 f660 f664 f665 f666 f667 => rfl) (fun i g73 g74 g75 g76 g77 g78 g79 g80 g81 g89 g90 g100 g102 => rfl))
