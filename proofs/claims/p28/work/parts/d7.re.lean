/-! ===== an expression ===== -/
theorem abr_0 (M : jm) (s0 : List (Int × Int × Int × Int)) : abr (ju M 598 102 0) s0 = (s0, 0) := by
  unfold abr
  rw [ju_same]
  rfl
theorem abr_z {M : jm} (s0 : List (Int × Int × Int × Int)) (h : M 598 102 = 0) : abr M s0 = (s0, 0) := by
  unfold abr
  rw [h]
  rfl
theorem abr_inc {M : jm} {c v : Int} (s0 : List (Int × Int × Int × Int)) (e : M 598 102 = c) (h0 : 0 < c) (e4 : M 664 (c - 1) = 40) : abr (ju M 667 (c - 1) v) s0 = ((21, M 666 (c - 1), v, (abr (ju M 598 102 (c - 1)) s0).2) :: (abr (ju M 598 102 (c - 1)) s0).1, 0) := by
  have q := abr_o (M := ju M 667 (c - 1) v) (c := c) s0 ((ju_c _ _ (by decide)).trans e) h0 ((ju_c _ _ (by decide)).trans e4)
  have z : abr (ju (ju M 667 (c - 1) v) 598 102 (c - 1)) s0 = abr (ju M 598 102 (c - 1)) s0 := by
    unfold abr
    rw [ju_same, ju_same]
    refine zab_c s0 _ (fun i h1 h2 => ⟨?_, ?_, ?_⟩)
    · rw [ju_c _ _ (by decide), ju_c _ _ (by decide), ju_c _ _ (by decide)]
    · rw [ju_c _ _ (by decide), ju_c _ _ (by decide), ju_c _ _ (by decide)]
    · rw [ju_c _ _ (by decide), ju_i _ _ (by omega), ju_c _ _ (by decide)]
  rw [q, z, ju_same, ju_c _ _ (by decide)]
theorem ES.topn {M : jm} {b o k d z x : Int} (h : ES M b o k d z x) (h0 : 0 < M 598 102) (h4 : M 664 (M 598 102 - 1) = 40) : 1 ≤ M 667 (M 598 102 - 1) ∧ (M 666 (M 598 102 - 1) = -1 → M 667 (M 598 102 - 1) = 1) := by
  obtain ⟨ht, P, D, E, g, i1, i2, i3⟩ := h
  have v := i2 (M 598 102 - 1) (by omega) (by omega)
  unfold SWq at v
  rcases v with ⟨v0, v1, v2, v3, v4⟩ | ⟨v, _⟩ | ⟨v, _⟩ | ⟨v1, v2, _⟩
  · refine ⟨v1, fun q => ?_⟩
    rcases v4 with ⟨u1, u2, u3⟩ | ⟨u1, u2, u3, u4⟩
    · exact u2
    · omega
  · omega
  · omega
  · rw [h4] at v1
    exact absurd v1 (by decide)
set_option maxHeartbeats 8000000 in
theorem r_exp_L64_z {A : Nat → Option (Nat × (Nat → Int32))} {Q : Option Value → jm → Prop} {f : Int → Int} {N : Int} {b kk : Int} {xs : ZS} {t bh : Int} {s0 : List (Int × Int × Int × Int)} {nm ak : List Int} {M0 : jm} (q : ∀ (M' : jm), RI M' → RH M' → RF M' → (BS M' ∨ (SS M' (b + 1) kk ∧ TK M' < TK M0)) → TK M' ≤ TK M0 → M' 598 73 ≤ M' 598 72 → (M' 598 80 ≠ 0 ∨ TK M' < TK M0) → CP M0 M' → M0 598 89 ≤ M' 598 89 → TXr f N M' → ZFQ f N xs M' → ZEQQ f N xs M' bh s0 nm ak → K8Q M0 M' → (∀ (a : Nat) (i : Int), a ≠ 598 → a ≠ 659 → a ≠ 660 → a ≠ 664 → a ≠ 665 → a ≠ 666 → a ≠ 667 → M' a i = M0 a i) → (∀ (i : Int), i ≠ 73 → i ≠ 74 → i ≠ 75 → i ≠ 76 → i ≠ 77 → i ≠ 78 → i ≠ 79 → i ≠ 80 → i ≠ 81 → i ≠ 89 → i ≠ 90 → i ≠ 100 → i ≠ 102 → M' 598 i = M0 598 i) → Q none M') (nO : Nat) (ko : ∀ (M : jm) (o : Int) (m : Int), RI M → RH M → RF M → (∀ (a : Nat) (i : Int), a ≠ 598 → a ≠ 659 → a ≠ 660 → a ≠ 664 → a ≠ 665 → a ≠ 666 → a ≠ 667 → M a i = M0 a i) → (∀ (i : Int), i ≠ 73 → i ≠ 74 → i ≠ 75 → i ≠ 76 → i ≠ 77 → i ≠ 78 → i ≠ 79 → i ≠ 80 → i ≠ 81 → i ≠ 89 → i ≠ 90 → i ≠ 100 → i ≠ 102 → M 598 i = M0 598 i) → 0 ≤ o ∧ o ≤ 1 → 390 ≤ m ∧ m ≤ 390 → (BS M ∨ GS M b (1 - o) kk) → (TK M < TK M0 ∨ o = 1 ∨ M 598 80 ≠ 0) → TK M ≤ TK M0 → M 598 73 ≤ M 598 72 → 0 ≤ b ∧ b ≤ 4 → CP M0 M → M0 598 89 ≤ M 598 89 → TXr f N M → ZFQ f N xs M → ZOQ f N xs (3 - o) M (abr M s0).2 bh (abr M s0).1 nm ak → NUQ M → HD s0 → K8Q M0 M → TK M + 1 - min 1 (M 598 80) ≤ nO → jr A 6 xm_364 11 [(2, .int (Int32.ofInt (o))), (1, .int (Int32.ofInt (m))), (0, .ref (598))] [] M Q) : ∀ (M : jm) (o : Int) (m : Int), RI M → RH M → RF M → (∀ (a : Nat) (i : Int), a ≠ 598 → a ≠ 659 → a ≠ 660 → a ≠ 664 → a ≠ 665 → a ≠ 666 → a ≠ 667 → M a i = M0 a i) → (∀ (i : Int), i ≠ 73 → i ≠ 74 → i ≠ 75 → i ≠ 76 → i ≠ 77 → i ≠ 78 → i ≠ 79 → i ≠ 80 → i ≠ 81 → i ≠ 89 → i ≠ 90 → i ≠ 100 → i ≠ 102 → M 598 i = M0 598 i) → 0 ≤ o ∧ o ≤ 1 → 390 ≤ m ∧ m ≤ 390 → GS M b 1 kk → o = 0 → TK M < TK M0 → TK M ≤ nO → 0 ≤ b ∧ b ≤ 4 → CP M0 M → M0 598 89 ≤ M 598 89 → ZEQ f N xs M (abr M s0).2 bh (abr M s0).1 nm ak → NU M → HD s0 → M 598 81 = M0 598 81 → jr A 6 xm_364 64 [(2, .int (Int32.ofInt (o))), (1, .int (Int32.ofInt (m))), (0, .ref (598))] [] M Q := by
    intro M o m hI_M hH_M hS_M hF_M hG_M h_o h_m hy0 hy1 hy2 hy3 hy4 hy5 hy6 hy7 hy8 hy9 hy10
    have hCP := hy5
    obtain ⟨t1, hK0, hz, hrk⟩ := hy7
    have hNU := hy8
    have hHD := hy9
    have hT := hK0.1
    have kk0 := hK0.kz
    refine jr.aload_n rfl rfl ?_
    refine jr.iconst rfl ?_
    refine jr_v rfl rfl (Or.inl rfl) rfl rfl (by decide) rfl ⟨rfl, Nat.le_of_ble_eq_true rfl, Nat.le_of_ble_eq_true rfl⟩ rfl (jc.deep (r_reduce_z hI_M hH_M hS_M  (by omega) hy0 hz hNU (fun M1 hI_M1 hH_M1 hS_M1  w1_0 w1_1 w1_2 w1_3 w1_4 w1_5 w1_6 w1_7 w1_8 => ?_)) (by decide))
    have tk1 : TK M1 = TK M := TK.fr (w1_8 73 (by decide) (by decide) (by decide)) (w1_8 74 (by decide) (by decide) (by decide))
    obtain ⟨gs1, gs2, gs3, gs4, gs5, gs6⟩ := id w1_0
    have hE := gs2
    have sl := ES.sgle gs2
    have bb := ES.bb gs2
    have kb := ES.kz gs2
    have bM1_107 : (0 : Int) ≤ M1 598 107 ∧ M1 598 107 ≤ 16 := hI_M1 598 107 (by decide)
    have bM1_73 : (0 : Int) ≤ M1 598 73 ∧ M1 598 73 ≤ 1600 := hI_M1 598 73 (by decide)
    have bM1_88 : (0 : Int) ≤ M1 598 88 ∧ M1 598 88 ≤ 16 := hI_M1 598 88 (by decide)
    have bM1_100 : (0 : Int) ≤ M1 598 100 ∧ M1 598 100 ≤ 13 := hI_M1 598 100 (by decide)
    obtain ⟨sg, hsg⟩ : ∃ z, M1 598 102 = z := ⟨_, rfl⟩
    rw [hsg] at w1_1
    have bsg : (0 : Int) ≤ sg ∧ sg ≤ 400 := by rw [← hsg]; exact hI_M1 598 102 (by decide)
    have hz3 := w1_4
    have hNU3 := w1_6
    have xr_72 := w1_8 72 (by decide) (by decide) (by decide)
    have xr_73 := w1_8 73 (by decide) (by decide) (by decide)
    have xr_74 := w1_8 74 (by decide) (by decide) (by decide)
    have xr_75 := w1_8 75 (by decide) (by decide) (by decide)
    have xr_79 := w1_8 79 (by decide) (by decide) (by decide)
    have xr_80 := w1_8 80 (by decide) (by decide) (by decide)
    have xr_81 := w1_8 81 (by decide) (by decide) (by decide)
    have xr_89 := w1_8 89 (by decide) (by decide) (by decide)
    have hKr : TKr f N t1 M1 := TKr.fr hK0 (w1_8 72 (by decide) (by decide) (by decide)) (fun i => w1_7 651 i (by decide) (by decide) (by decide)) (fun i => w1_7 649 i (by decide) (by decide) (by decide)) (fun i => w1_7 650 i (by decide) (by decide) (by decide)) (w1_8 73 (by decide) (by decide) (by decide)) (w1_8 74 (by decide) (by decide) (by decide)) (w1_8 75 (by decide) (by decide) (by decide)) (w1_8 76 (by decide) (by decide) (by decide)) (w1_8 77 (by decide) (by decide) (by decide)) (w1_8 78 (by decide) (by decide) (by decide)) (w1_8 79 (by decide) (by decide) (by decide))
    have kkr := hKr.kz
    refine jr.aload_n rfl rfl ?_
    refine jr.getf (i := 102) (x := sg) (v := .int (Int32.ofInt (sg))) rfl rfl (by decide) rfl (by decide) rfl rfl hsg rfl ?_
    refine jr.if_ne rfl rfl (by omega) (fun h73 => ?_) (fun h73 => ?_)
    · refine jr.aload_n rfl rfl ?_
      refine jr.getf (i := 105) (v := .ref 666) rfl rfl (by decide) rfl (by decide) rfl rfl rfl rfl ?_
      refine jr.aload_n rfl rfl ?_
      refine jr.getf (i := 102) (x := sg) (v := .int (Int32.ofInt (sg))) rfl rfl (by decide) rfl (by decide) rfl rfl hsg rfl ?_
      refine jr.iconst rfl ?_
      refine jr.isub rfl ?_
      obtain ⟨v2, e2⟩ : ∃ z, M 666 (sg - 1) = z := ⟨_, rfl⟩
      have b2 : (-1) ≤ v2 ∧ v2 ≤ 68 := by rw [← e2]; exact (by have q := hI_M 666 (sg - 1) (by decide); rw [xri_row rfl rfl] at q; exact q)
      have e3 : M1 666 (sg - 1) = v2 := ((w1_7 666 (sg - 1) (by decide) (by decide) (by decide)).trans e2)
      refine jr.iald (i := (sg - 1)) (x := v2) rfl (by decide) rfl (by decide) (by omega) (by omega) e3 ?_
      refine jr.istore_n rfl (by decide) rfl ?_
      refine jr.iload_n rfl rfl ?_
      refine jr.iconst rfl ?_
      refine jr.icmp_eq rfl rfl (by omega) (by omega) (fun h91 => ?_) (fun h91 => ?_)
      · refine jr.iconst rfl ?_
        refine jr.goto rfl rfl ?_
        refine jr.istore rfl (by decide) rfl ?_
        refine jr.aload_n rfl rfl ?_
        refine jr.bipush rfl (by decide) ?_
        obtain ⟨v4, e4⟩ : ∃ z, M 667 (sg - 1) = z := ⟨_, rfl⟩
        have b4 : 0 ≤ v4 ∧ v4 ≤ 4 := by rw [← e4]; exact (by have q := hI_M 667 (sg - 1) (by decide); rw [xri_row rfl rfl] at q; exact q)
        have e5 : M1 667 (sg - 1) = v4 := ((w1_7 667 (sg - 1) (by decide) (by decide) (by decide)).trans e4)
        refine jr_v rfl rfl (Or.inl rfl) rfl rfl (by decide) rfl ⟨rfl, Nat.le_of_ble_eq_true rfl, Nat.le_of_ble_eq_true rfl⟩ rfl (jc.deep (c_isSign hI_M1 (by omega) (fun t122_0 t122_1 => ?_) (fun f122_0 => ?_)) (by decide))
        · have tq := ES.top40 gs2 (by omega) (by rw [hsg]; omega)
          rw [hsg, e3] at tq
          have dp1 := ES.dpos gs2 (by omega)
          rw [hsg] at dp1
          have dp2 := dp1 (Or.inl tq.1)
          have ho := abr_o s0 hsg (by omega) tq.1
          rw [ho, e3, e5] at hz3
          have hza : zar v2 = argn v2 := rfl
          have hzm : v2 = -1 → zar v2 = 1 := fun z => by rw [z]; decide
          have htn := ES.topn gs2 (by omega) (by rw [hsg]; exact tq.1)
          rw [hsg, e3, e5] at htn
          have hv6 : M1 666 (sg - 1) = v2 := e3
          clear dp1 w1_1
          refine jr.if_eq rfl rfl (by omega) (fun h => absurd h (by decide)) (fun _ => ?_)
          refine jr.iload rfl rfl ?_
          refine jr.if_ne rfl rfl (by omega) (fun _ => ?_) (fun h => absurd (by decide) h)
          refine jr.aload_n rfl rfl ?_
          refine jr.bipush rfl (by decide) ?_
          refine jr_v rfl rfl (Or.inl rfl) rfl rfl (by decide) rfl ⟨rfl, Nat.le_of_ble_eq_true rfl, Nat.le_of_ble_eq_true rfl⟩ rfl (jc.deep (c_isSign hI_M1 (by omega) (fun t160_0 t160_1 => ?_) (fun f160_0 => ?_)) (by decide))
          · refine jr.if_eq rfl rfl (by omega) (fun h => absurd h (by decide)) (fun _ => ?_)
            refine jr.iload rfl rfl ?_
            refine jr.if_eq rfl rfl (by omega) (fun h => absurd h (by decide)) (fun _ => ?_)
            refine jr.aload_n rfl rfl ?_
            refine jr.dup rfl rfl ?_
            refine jr.getf (i := 102) (x := sg) (v := .int (Int32.ofInt (sg))) rfl rfl (by decide) rfl (by decide) rfl rfl hsg rfl ?_
            refine jr.iconst rfl ?_
            refine jr.isub rfl ?_
            refine jr.putf (i := 102) (x := (sg - 1)) rfl rfl (by decide) rfl (by decide) rfl rfl rfl rfl rfl ?_
            refine jr.aload_n rfl rfl ?_
            refine jr.dup rfl rfl ?_
            obtain ⟨v6, e6⟩ : ∃ z, M1 598 100 = z := ⟨_, rfl⟩
            have b6 : 0 ≤ v6 ∧ v6 ≤ 13 := by rw [← e6]; exact hI_M1 598 100 (by decide)
            refine jr.getf (i := 100) (x := v6) (v := .int (Int32.ofInt (v6))) rfl rfl (by decide) rfl (by decide) rfl rfl ((ju_i _ _ (by decide)).trans e6) rfl ?_
            refine jr.iconst rfl ?_
            refine jr.isub rfl ?_
            refine jr.putf (i := 100) (x := (v6 - 1)) rfl rfl (by decide) rfl (by decide) rfl rfl rfl rfl rfl ?_
            refine jr.aload_n rfl rfl ?_
            obtain ⟨v7, e7⟩ : ∃ z, M 598 73 = z := ⟨_, rfl⟩
            have b7 : 0 ≤ v7 ∧ v7 ≤ 1600 := by rw [← e7]; exact hI_M 598 73 (by decide)
            have e8 : M1 598 73 = v7 := ((w1_8 73 (by decide) (by decide) (by decide)).trans e7)
            obtain ⟨v9, e9⟩ : ∃ z, M 598 72 = z := ⟨_, rfl⟩
            have b9 : 0 ≤ v9 ∧ v9 ≤ 1600 := by rw [← e9]; exact hI_M 598 72 (by decide)
            have e10 : M1 598 72 = v9 := ((w1_8 72 (by decide) (by decide) (by decide)).trans e9)
            obtain ⟨v11, e11⟩ : ∃ z, M 598 80 = z := ⟨_, rfl⟩
            have b11 : 0 ≤ v11 ∧ v11 ≤ 7 := by rw [← e11]; exact hI_M 598 80 (by decide)
            have e12 : M1 598 80 = v11 := ((w1_8 80 (by decide) (by decide) (by decide)).trans e11)
            obtain ⟨v13, e13⟩ : ∃ z, M 598 74 = z := ⟨_, rfl⟩
            have b13 : 0 ≤ v13 ∧ v13 ≤ 4 := by rw [← e13]; exact hI_M 598 74 (by decide)
            have e14 : M1 598 74 = v13 := ((w1_8 74 (by decide) (by decide) (by decide)).trans e13)
            obtain ⟨v17, e17⟩ : ∃ z, M 598 75 = z := ⟨_, rfl⟩
            have b17 : 0 ≤ v17 ∧ v17 ≤ 1600 := by rw [← e17]; exact hI_M 598 75 (by decide)
            have e18 : M1 598 75 = v17 := ((w1_8 75 (by decide) (by decide) (by decide)).trans e17)
            obtain ⟨v20, e20⟩ : ∃ z, M 598 79 = z := ⟨_, rfl⟩
            have b20 : 0 ≤ v20 ∧ v20 ≤ 255 := by rw [← e20]; exact hI_M 598 79 (by decide)
            have e21 : M1 598 79 = v20 := ((w1_8 79 (by decide) (by decide) (by decide)).trans e20)
            obtain ⟨v24, e24⟩ : ∃ z, M 598 81 = z := ⟨_, rfl⟩
            have b24 : (-1) ≤ v24 ∧ v24 ≤ 1600 := by rw [← e24]; exact hI_M 598 81 (by decide)
            have e25 : M1 598 81 = v24 := ((w1_8 81 (by decide) (by decide) (by decide)).trans e24)
            obtain ⟨v27, e27⟩ : ∃ z, M 598 89 = z := ⟨_, rfl⟩
            have b27 : 0 ≤ v27 ∧ v27 ≤ 301 := by rw [← e27]; exact hI_M 598 89 (by decide)
            have e28 : M1 598 89 = v27 := ((w1_8 89 (by decide) (by decide) (by decide)).trans e27)
            refine jr_v rfl rfl (Or.inl rfl) rfl rfl (by decide) rfl ⟨rfl, Nat.le_of_ble_eq_true rfl, Nat.le_of_ble_eq_true rfl⟩ rfl (jc.deep (c_next_z (f := f) (N := N) (RI.u (RI.u hI_M1 (a := 598) (i := 102) (show (0 : Int) ≤ _ ∧ _ ≤ (400 : Int) from by omega)) (a := 598) (i := 100) (show (0 : Int) ≤ _ ∧ _ ≤ (13 : Int) from by omega)) (RH.o (RH.o hH_M1 (by decide) (by decide) (by decide)) (by decide) (by decide) (by decide)) (RF.o (RF.o hS_M1 (by decide) (by decide)) (by decide) (by decide)) (by rw [((ju_i _ _ (by decide)).trans ((ju_i _ _ (by decide)).trans e8)), ((ju_i _ _ (by decide)).trans ((ju_i _ _ (by decide)).trans e10))]; omega) (TKr.oo (TKr.oo (TKr.fr hK0 (w1_8 72 (by decide) (by decide) (by decide)) (fun i => w1_7 651 i (by decide) (by decide) (by decide)) (fun i => w1_7 649 i (by decide) (by decide) (by decide)) (fun i => w1_7 650 i (by decide) (by decide) (by decide)) (w1_8 73 (by decide) (by decide) (by decide)) (w1_8 74 (by decide) (by decide) (by decide)) (w1_8 75 (by decide) (by decide) (by decide)) (w1_8 76 (by decide) (by decide) (by decide)) (w1_8 77 (by decide) (by decide) (by decide)) (w1_8 78 (by decide) (by decide) (by decide)) (w1_8 79 (by decide) (by decide) (by decide))) (by decide)) (by decide)) (by rw [((ju_i _ _ (by decide)).trans ((ju_i _ _ (by decide)).trans e12))]; omega) (by rw [((ju_i _ _ (by decide)).trans ((ju_i _ _ (by decide)).trans e14))]; omega) (fun M31 hI_M31 hH_M31 hS_M31 qa31 qb31 qt31 sn31 hK31 w31_50 w31_51 => ?_)) (by decide))
            have y15 : (ju (ju M1 598 102 (sg - 1)) 598 100 (v6 - 1)) 598 73 = v7 := ((ju_i _ _ (by decide)).trans ((ju_i _ _ (by decide)).trans e8))
            have y16 : (ju (ju M1 598 102 (sg - 1)) 598 100 (v6 - 1)) 598 74 = v13 := ((ju_i _ _ (by decide)).trans ((ju_i _ _ (by decide)).trans e14))
            have y19 : (ju (ju M1 598 102 (sg - 1)) 598 100 (v6 - 1)) 598 75 = v17 := ((ju_i _ _ (by decide)).trans ((ju_i _ _ (by decide)).trans e18))
            have y22 : (ju (ju M1 598 102 (sg - 1)) 598 100 (v6 - 1)) 598 79 = v20 := ((ju_i _ _ (by decide)).trans ((ju_i _ _ (by decide)).trans e21))
            have y23 : (ju (ju M1 598 102 (sg - 1)) 598 100 (v6 - 1)) 598 80 = v11 := ((ju_i _ _ (by decide)).trans ((ju_i _ _ (by decide)).trans e12))
            have y26 : (ju (ju M1 598 102 (sg - 1)) 598 100 (v6 - 1)) 598 81 = v24 := ((ju_i _ _ (by decide)).trans ((ju_i _ _ (by decide)).trans e25))
            have y29 : (ju (ju M1 598 102 (sg - 1)) 598 100 (v6 - 1)) 598 89 = v27 := ((ju_i _ _ (by decide)).trans ((ju_i _ _ (by decide)).trans e28))
            have y30 : (ju (ju M1 598 102 (sg - 1)) 598 100 (v6 - 1)) 598 100 = v6 - 1 := (ju_same _ _ _ _)
            have tb31 : TK (ju (ju M1 598 102 (sg - 1)) 598 100 (v6 - 1)) = TK M1 := ((TK.o (Or.inr ⟨by decide, by decide⟩)).trans ((TK.o (Or.inr ⟨by decide, by decide⟩)).trans rfl))
            have x31_72 := w31_51 72 (by decide) (by decide) (by decide) (by decide) (by decide) (by decide) (by decide)
            have x31_80 := w31_51 80 (by decide) (by decide) (by decide) (by decide) (by decide) (by decide) (by decide)
            have x31_81 := w31_51 81 (by decide) (by decide) (by decide) (by decide) (by decide) (by decide) (by decide)
            have x31_89 := w31_51 89 (by decide) (by decide) (by decide) (by decide) (by decide) (by decide) (by decide)
            have x31_100 := w31_51 100 (by decide) (by decide) (by decide) (by decide) (by decide) (by decide) (by decide)
            have hT31 := hK31.1
            have kk31 := hK31.kz
            have hE := ES.clo1 gs2 hsg e6 tq.1 e3 (by omega) (by omega)
            have ck : 0 ≤ kcK v2 := by unfold kcK; split <;> omega
            have y35 : (ju (ju M1 598 102 (sg - 1)) 598 100 (v6 - 1)) 598 73 = v7 := ((ju_i _ _ (by decide)).trans ((ju_i _ _ (by decide)).trans e8))
            have y36 : (ju (ju M1 598 102 (sg - 1)) 598 100 (v6 - 1)) 598 89 = v27 := ((ju_i _ _ (by decide)).trans ((ju_i _ _ (by decide)).trans e28))
            have y37 : (ju (ju M1 598 102 (sg - 1)) 598 100 (v6 - 1)) 598 100 = v6 - 1 := (ju_same _ _ _ _)
            have x31_89 := w31_51 89 (by decide) (by decide) (by decide) (by decide) (by decide) (by decide) (by decide)
            have x31_100 := w31_51 100 (by decide) (by decide) (by decide) (by decide) (by decide) (by decide) (by decide)
            have hE := ES.fr2 hE w31_50 (w31_51 88 (by decide) (by decide) (by decide) (by decide) (by decide) (by decide) (by decide)) (w31_51 90 (by decide) (by decide) (by decide) (by decide) (by decide) (by decide) (by decide)) (w31_51 101 (by decide) (by decide) (by decide) (by decide) (by decide) (by decide) (by decide)) (w31_51 102 (by decide) (by decide) (by decide) (by decide) (by decide) (by decide) (by decide)) (w31_51 107 (by decide) (by decide) (by decide) (by decide) (by decide) (by decide) (by decide)) (k' := kk + kcK v2) (d' := 0) (z' := 0) (by omega) (by omega) (by omega) (by omega)
            have co1 : v2 = -1 → kcO v2 = 1 := fun z => by unfold kcO; rw [if_pos z]
            refine jr.iload_n rfl rfl ?_
            refine jr.iconst rfl ?_
            refine jr.icmp_eq rfl rfl (by omega) (by omega) (fun h197 => ?_) (fun h197 => ?_)
            · refine jr.goto rfl rfl ?_
              have e38 : M31 598 72 = v9 := ((w31_51 72 (by decide) (by decide) (by decide) (by decide) (by decide) (by decide) (by decide)).trans ((ju_i _ _ (by decide)).trans ((ju_i _ _ (by decide)).trans e10)))
              have y39 : M31 598 72 = v9 := e38
              obtain ⟨v40, e40⟩ : ∃ z, M31 598 73 = z := ⟨_, rfl⟩
              have b40 : 0 ≤ v40 ∧ v40 ≤ 1600 := by rw [← e40]; exact hI_M31 598 73 (by decide)
              have y41 : M31 598 73 = v40 := e40
              obtain ⟨v42, e42⟩ : ∃ z, M31 598 74 = z := ⟨_, rfl⟩
              have b42 : 0 ≤ v42 ∧ v42 ≤ 4 := by rw [← e42]; exact hI_M31 598 74 (by decide)
              have y43 : M31 598 74 = v42 := e42
              obtain ⟨v44, e44⟩ : ∃ z, M31 598 79 = z := ⟨_, rfl⟩
              have b44 : 0 ≤ v44 ∧ v44 ≤ 255 := by rw [← e44]; exact hI_M31 598 79 (by decide)
              have y45 : M31 598 79 = v44 := e44
              have e46 : M31 598 80 = v11 := ((w31_51 80 (by decide) (by decide) (by decide) (by decide) (by decide) (by decide) (by decide)).trans ((ju_i _ _ (by decide)).trans ((ju_i _ _ (by decide)).trans e12)))
              have y47 : M31 598 80 = v11 := e46
              have e48 : M31 598 89 = v27 := ((w31_51 89 (by decide) (by decide) (by decide) (by decide) (by decide) (by decide) (by decide)).trans ((ju_i _ _ (by decide)).trans ((ju_i _ _ (by decide)).trans e28)))
              have y49 : M31 598 89 = v27 := e48
              obtain ⟨v50, e50⟩ : ∃ z, M1 598 90 = z := ⟨_, rfl⟩
              have b50 : 0 ≤ v50 ∧ v50 ≤ 2200 := by rw [← e50]; exact hI_M1 598 90 (by decide)
              have e51 : M31 598 90 = v50 := ((w31_51 90 (by decide) (by decide) (by decide) (by decide) (by decide) (by decide) (by decide)).trans ((ju_i _ _ (by decide)).trans ((ju_i _ _ (by decide)).trans e50)))
              have y52 : M31 598 90 = v50 := e51
              have e53 : M31 598 100 = v6 - 1 := ((w31_51 100 (by decide) (by decide) (by decide) (by decide) (by decide) (by decide) (by decide)).trans (ju_same _ _ _ _))
              have y54 : M31 598 100 = v6 - 1 := e53
              obtain ⟨v55, e55⟩ : ∃ z, M 598 107 = z := ⟨_, rfl⟩
              have b55 : 0 ≤ v55 ∧ v55 ≤ 16 := by rw [← e55]; exact hI_M 598 107 (by decide)
              have e56 : M1 598 107 = v55 := ((w1_8 107 (by decide) (by decide) (by decide)).trans e55)
              have e57 : M31 598 107 = v55 := ((w31_51 107 (by decide) (by decide) (by decide) (by decide) (by decide) (by decide) (by decide)).trans ((ju_i _ _ (by decide)).trans ((ju_i _ _ (by decide)).trans e56)))
              have y58 : M31 598 107 = v55 := e57
              have y59 : M31 598 80 = v11 := e46
              obtain ⟨v60, e60⟩ : ∃ z, M31 598 75 = z := ⟨_, rfl⟩
              have b60 : 0 ≤ v60 ∧ v60 ≤ 1600 := by rw [← e60]; exact hI_M31 598 75 (by decide)
              have y61 : M31 598 75 = v60 := e60
              have y62 : M31 598 80 = v11 := e46
              have e63 : M31 598 81 = v24 := ((w31_51 81 (by decide) (by decide) (by decide) (by decide) (by decide) (by decide) (by decide)).trans ((ju_i _ _ (by decide)).trans ((ju_i _ _ (by decide)).trans e25)))
              have y64 : M31 598 81 = v24 := e63
              have y65 : M31 598 89 = v27 := e48
              have y66 : M31 598 100 = v6 - 1 := e53
              refine jr.pick [2, 3, 4] rfl rfl ?_
              have y67 : M31 598 80 = v11 := e46
              exact ko M31 o m hI_M31 hH_M31 hS_M31  (fun a i f598 f659 f660 f664 f665 f666 f667 => ((w31_50 a i f598).trans ((ju_c _ _ f598).trans ((ju_c _ _ f598).trans ((w1_7 a i f598 f659 f660).trans (hF_M a i f598 f659 f660 f664 f665 f666 f667)))))) (fun i g73 g74 g75 g76 g77 g78 g79 g80 g81 g89 g90 g100 g102 => ((w31_51 i g73 g74 g75 g76 g77 g78 g79).trans ((ju_i _ _ g100).trans ((ju_i _ _ g102).trans ((w1_8 i g90 g100 g102).trans (hG_M i g73 g74 g75 g76 g77 g78 g79 g80 g81 g89 g90 g100 g102)))))) (by omega) (by omega) (Or.inr (GS.cast (o := kcO v2) ⟨by omega, ES.adj hE (k' := kk) (z' := 0) (by omega) (by omega) (by omega), by omega, by omega, by omega, by omega⟩ (by omega))) (by omega) (by omega) (by rw [e40, e38] <;> omega) (by omega) (CP.f (CP.o (CP.o (CP.trans hCP w1_3) (by decide) (Or.inr (by decide))) (by decide) (Or.inr (by decide))) (fun i => w31_50 659 i (by decide)) (w31_51 90 (by decide) (by decide) (by decide) (by decide) (by decide) (by decide) (by decide))) (by rw [e48] <;> omega) hT31 (fun q => by exfalso; omega) (fun q => ⟨_, hK31, zr.eqx (zr.clo hz3 hrk (by omega) (hKr.sy (by omega) (by omega))) (by omega) rfl (by omega) (by omega) rfl ((abr_fr s0 (fun i => w31_50 664 i (by decide)) (fun i => w31_50 666 i (by decide)) (fun i => w31_50 667 i (by decide)) (w31_51 102 (by decide) (by decide) (by decide) (by decide) (by decide) (by decide) (by decide))).trans (abr_fr s0 (fun i => ju_c _ _ (by decide)) (fun i => ju_c _ _ (by decide)) (fun i => ju_c _ _ (by decide)) (ju_i _ _ (by decide))))⟩) (fun _ => (NU.fr (NU.fr (NU.pop hNU3 hsg) (fun i => ju_c _ _ (by decide)) (ju_i _ _ (by decide))) (fun i => w31_50 664 i (by decide)) (w31_51 102 (by decide) (by decide) (by decide) (by decide) (by decide) (by decide) (by decide)))) hHD (fun q => by omega) (by omega)
            · exact absurd (by omega) h197
          · refine jr.if_eq rfl rfl (by omega) (fun _ => ?_) (fun h => absurd (by decide) h)
            refine jr.aload_n rfl rfl ?_
            obtain ⟨v68, e68⟩ : ∃ z, M 598 80 = z := ⟨_, rfl⟩
            have b68 : 0 ≤ v68 ∧ v68 ≤ 7 := by rw [← e68]; exact hI_M 598 80 (by decide)
            have e69 : M1 598 80 = v68 := ((w1_8 80 (by decide) (by decide) (by decide)).trans e68)
            obtain ⟨v70, e70⟩ : ∃ z, M 598 89 = z := ⟨_, rfl⟩
            have b70 : 0 ≤ v70 ∧ v70 ≤ 301 := by rw [← e70]; exact hI_M 598 89 (by decide)
            have e71 : M1 598 89 = v70 := ((w1_8 89 (by decide) (by decide) (by decide)).trans e70)
            obtain ⟨v72, e72⟩ : ∃ z, M1 598 100 = z := ⟨_, rfl⟩
            have b72 : 0 ≤ v72 ∧ v72 ≤ 13 := by rw [← e72]; exact hI_M1 598 100 (by decide)
            obtain ⟨v73, e73⟩ : ∃ z, M 598 81 = z := ⟨_, rfl⟩
            have b73 : (-1) ≤ v73 ∧ v73 ≤ 1600 := by rw [← e73]; exact hI_M 598 81 (by decide)
            have e74 : M1 598 81 = v73 := ((w1_8 81 (by decide) (by decide) (by decide)).trans e73)
            refine jr_v rfl rfl (Or.inl rfl) rfl rfl (by decide) rfl ⟨rfl, Nat.le_of_ble_eq_true rfl, Nat.le_of_ble_eq_true rfl⟩ rfl (jc.deep (c_wrongToken_z (f := f) (N := N) hI_M1 hH_M1 hS_M1 (TKr.fr hK0 (w1_8 72 (by decide) (by decide) (by decide)) (fun i => w1_7 651 i (by decide) (by decide) (by decide)) (fun i => w1_7 649 i (by decide) (by decide) (by decide)) (fun i => w1_7 650 i (by decide) (by decide) (by decide)) (w1_8 73 (by decide) (by decide) (by decide)) (w1_8 74 (by decide) (by decide) (by decide)) (w1_8 75 (by decide) (by decide) (by decide)) (w1_8 76 (by decide) (by decide) (by decide)) (w1_8 77 (by decide) (by decide) (by decide)) (w1_8 78 (by decide) (by decide) (by decide)) (w1_8 79 (by decide) (by decide) (by decide))) (by rw [e69]; omega) (fun M75 hI_M75 hH_M75 hS_M75 qn75 q075 q175 w75_50 w75_51 => ?_)) (by decide))
            have tk75 : TK M75 = TK M1 := TK.fr (w75_51 73 (by decide) (by decide)) (w75_51 74 (by decide) (by decide))
            have x75_72 := w75_51 72 (by decide) (by decide)
            have x75_73 := w75_51 73 (by decide) (by decide)
            have x75_74 := w75_51 74 (by decide) (by decide)
            have x75_75 := w75_51 75 (by decide) (by decide)
            have x75_76 := w75_51 76 (by decide) (by decide)
            have x75_78 := w75_51 78 (by decide) (by decide)
            have x75_79 := w75_51 79 (by decide) (by decide)
            have x75_89 := w75_51 89 (by decide) (by decide)
            have x75_100 := w75_51 100 (by decide) (by decide)
            have zfz : zr f N xs (zft (M75 598 80) (M75 598 81)) := by first | exact zr.rfz (zr.argf hz3 hrk (by omega) (hKr.sn (by omega))) q075 q175 | exact zr.rfz (zr.clof hz3 hrk (by omega) (hKr.sn (by omega))) q075 q175
            refine jr.goto rfl rfl ?_
            obtain ⟨v76, e76⟩ : ∃ z, M 598 72 = z := ⟨_, rfl⟩
            have b76 : 0 ≤ v76 ∧ v76 ≤ 1600 := by rw [← e76]; exact hI_M 598 72 (by decide)
            have e77 : M1 598 72 = v76 := ((w1_8 72 (by decide) (by decide) (by decide)).trans e76)
            have e78 : M75 598 72 = v76 := ((w75_51 72 (by decide) (by decide)).trans e77)
            have y79 : M75 598 72 = v76 := e78
            obtain ⟨v80, e80⟩ : ∃ z, M 598 73 = z := ⟨_, rfl⟩
            have b80 : 0 ≤ v80 ∧ v80 ≤ 1600 := by rw [← e80]; exact hI_M 598 73 (by decide)
            have e81 : M1 598 73 = v80 := ((w1_8 73 (by decide) (by decide) (by decide)).trans e80)
            have e82 : M75 598 73 = v80 := ((w75_51 73 (by decide) (by decide)).trans e81)
            have y83 : M75 598 73 = v80 := e82
            obtain ⟨v84, e84⟩ : ∃ z, M 598 74 = z := ⟨_, rfl⟩
            have b84 : 0 ≤ v84 ∧ v84 ≤ 4 := by rw [← e84]; exact hI_M 598 74 (by decide)
            have e85 : M1 598 74 = v84 := ((w1_8 74 (by decide) (by decide) (by decide)).trans e84)
            have e86 : M75 598 74 = v84 := ((w75_51 74 (by decide) (by decide)).trans e85)
            have y87 : M75 598 74 = v84 := e86
            obtain ⟨v88, e88⟩ : ∃ z, M 598 79 = z := ⟨_, rfl⟩
            have b88 : 0 ≤ v88 ∧ v88 ≤ 255 := by rw [← e88]; exact hI_M 598 79 (by decide)
            have e89 : M1 598 79 = v88 := ((w1_8 79 (by decide) (by decide) (by decide)).trans e88)
            have e90 : M75 598 79 = v88 := ((w75_51 79 (by decide) (by decide)).trans e89)
            have y91 : M75 598 79 = v88 := e90
            obtain ⟨v92, e92⟩ : ∃ z, M75 598 80 = z := ⟨_, rfl⟩
            have b92 : 0 ≤ v92 ∧ v92 ≤ 7 := by rw [← e92]; exact hI_M75 598 80 (by decide)
            have y93 : M75 598 80 = v92 := e92
            have e94 : M75 598 89 = v70 := ((w75_51 89 (by decide) (by decide)).trans e71)
            have y95 : M75 598 89 = v70 := e94
            obtain ⟨v96, e96⟩ : ∃ z, M1 598 90 = z := ⟨_, rfl⟩
            have b96 : 0 ≤ v96 ∧ v96 ≤ 2200 := by rw [← e96]; exact hI_M1 598 90 (by decide)
            have e97 : M75 598 90 = v96 := ((w75_51 90 (by decide) (by decide)).trans e96)
            have y98 : M75 598 90 = v96 := e97
            have e99 : M75 598 100 = v72 := ((w75_51 100 (by decide) (by decide)).trans e72)
            have y100 : M75 598 100 = v72 := e99
            obtain ⟨v101, e101⟩ : ∃ z, M 598 107 = z := ⟨_, rfl⟩
            have b101 : 0 ≤ v101 ∧ v101 ≤ 16 := by rw [← e101]; exact hI_M 598 107 (by decide)
            have e102 : M1 598 107 = v101 := ((w1_8 107 (by decide) (by decide) (by decide)).trans e101)
            have e103 : M75 598 107 = v101 := ((w75_51 107 (by decide) (by decide)).trans e102)
            have y104 : M75 598 107 = v101 := e103
            have y105 : M75 598 80 = v92 := e92
            obtain ⟨v106, e106⟩ : ∃ z, M 598 75 = z := ⟨_, rfl⟩
            have b106 : 0 ≤ v106 ∧ v106 ≤ 1600 := by rw [← e106]; exact hI_M 598 75 (by decide)
            have e107 : M1 598 75 = v106 := ((w1_8 75 (by decide) (by decide) (by decide)).trans e106)
            have e108 : M75 598 75 = v106 := ((w75_51 75 (by decide) (by decide)).trans e107)
            have y109 : M75 598 75 = v106 := e108
            have y110 : M75 598 80 = v92 := e92
            obtain ⟨v111, e111⟩ : ∃ z, M75 598 81 = z := ⟨_, rfl⟩
            have b111 : (-1) ≤ v111 ∧ v111 ≤ 1600 := by rw [← e111]; exact hI_M75 598 81 (by decide)
            have y112 : M75 598 81 = v111 := e111
            have y113 : M75 598 89 = v70 := e94
            have y114 : M75 598 100 = v72 := e99
            refine jr.pick [2, 3, 4] rfl rfl ?_
            have y115 : M75 598 80 = v92 := e92
            exact ko M75 o m hI_M75 hH_M75 hS_M75  (fun a i f598 f659 f660 f664 f665 f666 f667 => ((w75_50 a i f598).trans ((w1_7 a i f598 f659 f660).trans (hF_M a i f598 f659 f660 f664 f665 f666 f667)))) (fun i g73 g74 g75 g76 g77 g78 g79 g80 g81 g89 g90 g100 g102 => ((w75_51 i g80 g81).trans ((w1_8 i g90 g100 g102).trans (hG_M i g73 g74 g75 g76 g77 g78 g79 g80 g81 g89 g90 g100 g102)))) (by omega) (by omega) (Or.inl ⟨by omega, by omega⟩) (by omega) (by omega) (by rw [e82, e78] <;> omega) (by omega) (CP.f (CP.trans hCP w1_3) (fun i => w75_50 659 i (by decide)) (w75_51 90 (by decide) (by decide))) (by rw [e94] <;> omega) (TXr.fr (TXr.fr hT (w1_8 72 (by decide) (by decide) (by decide)) (fun i => w1_7 651 i (by decide) (by decide) (by decide)) (fun i => w1_7 649 i (by decide) (by decide) (by decide)) (fun i => w1_7 650 i (by decide) (by decide) (by decide))) (w75_51 72 (by decide) (by decide)) (fun i => w75_50 651 i (by decide)) (fun i => w75_50 649 i (by decide)) (fun i => w75_50 650 i (by decide))) (fun _ => zr.fe zfz (by omega) (by omega)) (fun q => by exfalso; omega) (fun q => by exfalso; omega) hHD (fun q => by omega) (by omega)
        · have tq := ES.top40 gs2 (by omega) (by rw [hsg]; omega)
          rw [hsg, e3] at tq
          have dp1 := ES.dpos gs2 (by omega)
          rw [hsg] at dp1
          have dp2 := dp1 (Or.inl tq.1)
          have ho := abr_o s0 hsg (by omega) tq.1
          rw [ho, e3, e5] at hz3
          have hza : zar v2 = argn v2 := rfl
          have hzm : v2 = -1 → zar v2 = 1 := fun z => by rw [z]; decide
          have htn := ES.topn gs2 (by omega) (by rw [hsg]; exact tq.1)
          rw [hsg, e3, e5] at htn
          have hv6 : M1 666 (sg - 1) = v2 := e3
          clear dp1 w1_1
          refine jr.if_eq rfl rfl (by omega) (fun _ => ?_) (fun h => absurd (by decide) h)
          refine jr.aload_n rfl rfl ?_
          refine jr.bipush rfl (by decide) ?_
          refine jr_v rfl rfl (Or.inl rfl) rfl rfl (by decide) rfl ⟨rfl, Nat.le_of_ble_eq_true rfl, Nat.le_of_ble_eq_true rfl⟩ rfl (jc.deep (c_isSign hI_M1 (by omega) (fun t160_0 t160_1 => ?_) (fun f160_0 => ?_)) (by decide))
          · refine jr.if_eq rfl rfl (by omega) (fun h => absurd h (by decide)) (fun _ => ?_)
            refine jr.iload rfl rfl ?_
            refine jr.if_eq rfl rfl (by omega) (fun h => absurd h (by decide)) (fun _ => ?_)
            refine jr.aload_n rfl rfl ?_
            refine jr.dup rfl rfl ?_
            refine jr.getf (i := 102) (x := sg) (v := .int (Int32.ofInt (sg))) rfl rfl (by decide) rfl (by decide) rfl rfl hsg rfl ?_
            refine jr.iconst rfl ?_
            refine jr.isub rfl ?_
            refine jr.putf (i := 102) (x := (sg - 1)) rfl rfl (by decide) rfl (by decide) rfl rfl rfl rfl rfl ?_
            refine jr.aload_n rfl rfl ?_
            refine jr.dup rfl rfl ?_
            obtain ⟨v116, e116⟩ : ∃ z, M1 598 100 = z := ⟨_, rfl⟩
            have b116 : 0 ≤ v116 ∧ v116 ≤ 13 := by rw [← e116]; exact hI_M1 598 100 (by decide)
            refine jr.getf (i := 100) (x := v116) (v := .int (Int32.ofInt (v116))) rfl rfl (by decide) rfl (by decide) rfl rfl ((ju_i _ _ (by decide)).trans e116) rfl ?_
            refine jr.iconst rfl ?_
            refine jr.isub rfl ?_
            refine jr.putf (i := 100) (x := (v116 - 1)) rfl rfl (by decide) rfl (by decide) rfl rfl rfl rfl rfl ?_
            refine jr.aload_n rfl rfl ?_
            obtain ⟨v117, e117⟩ : ∃ z, M 598 73 = z := ⟨_, rfl⟩
            have b117 : 0 ≤ v117 ∧ v117 ≤ 1600 := by rw [← e117]; exact hI_M 598 73 (by decide)
            have e118 : M1 598 73 = v117 := ((w1_8 73 (by decide) (by decide) (by decide)).trans e117)
            obtain ⟨v119, e119⟩ : ∃ z, M 598 72 = z := ⟨_, rfl⟩
            have b119 : 0 ≤ v119 ∧ v119 ≤ 1600 := by rw [← e119]; exact hI_M 598 72 (by decide)
            have e120 : M1 598 72 = v119 := ((w1_8 72 (by decide) (by decide) (by decide)).trans e119)
            obtain ⟨v121, e121⟩ : ∃ z, M 598 80 = z := ⟨_, rfl⟩
            have b121 : 0 ≤ v121 ∧ v121 ≤ 7 := by rw [← e121]; exact hI_M 598 80 (by decide)
            have e122 : M1 598 80 = v121 := ((w1_8 80 (by decide) (by decide) (by decide)).trans e121)
            obtain ⟨v123, e123⟩ : ∃ z, M 598 74 = z := ⟨_, rfl⟩
            have b123 : 0 ≤ v123 ∧ v123 ≤ 4 := by rw [← e123]; exact hI_M 598 74 (by decide)
            have e124 : M1 598 74 = v123 := ((w1_8 74 (by decide) (by decide) (by decide)).trans e123)
            obtain ⟨v127, e127⟩ : ∃ z, M 598 75 = z := ⟨_, rfl⟩
            have b127 : 0 ≤ v127 ∧ v127 ≤ 1600 := by rw [← e127]; exact hI_M 598 75 (by decide)
            have e128 : M1 598 75 = v127 := ((w1_8 75 (by decide) (by decide) (by decide)).trans e127)
            obtain ⟨v130, e130⟩ : ∃ z, M 598 79 = z := ⟨_, rfl⟩
            have b130 : 0 ≤ v130 ∧ v130 ≤ 255 := by rw [← e130]; exact hI_M 598 79 (by decide)
            have e131 : M1 598 79 = v130 := ((w1_8 79 (by decide) (by decide) (by decide)).trans e130)
            obtain ⟨v134, e134⟩ : ∃ z, M 598 81 = z := ⟨_, rfl⟩
            have b134 : (-1) ≤ v134 ∧ v134 ≤ 1600 := by rw [← e134]; exact hI_M 598 81 (by decide)
            have e135 : M1 598 81 = v134 := ((w1_8 81 (by decide) (by decide) (by decide)).trans e134)
            obtain ⟨v137, e137⟩ : ∃ z, M 598 89 = z := ⟨_, rfl⟩
            have b137 : 0 ≤ v137 ∧ v137 ≤ 301 := by rw [← e137]; exact hI_M 598 89 (by decide)
            have e138 : M1 598 89 = v137 := ((w1_8 89 (by decide) (by decide) (by decide)).trans e137)
            refine jr_v rfl rfl (Or.inl rfl) rfl rfl (by decide) rfl ⟨rfl, Nat.le_of_ble_eq_true rfl, Nat.le_of_ble_eq_true rfl⟩ rfl (jc.deep (c_next_z (f := f) (N := N) (RI.u (RI.u hI_M1 (a := 598) (i := 102) (show (0 : Int) ≤ _ ∧ _ ≤ (400 : Int) from by omega)) (a := 598) (i := 100) (show (0 : Int) ≤ _ ∧ _ ≤ (13 : Int) from by omega)) (RH.o (RH.o hH_M1 (by decide) (by decide) (by decide)) (by decide) (by decide) (by decide)) (RF.o (RF.o hS_M1 (by decide) (by decide)) (by decide) (by decide)) (by rw [((ju_i _ _ (by decide)).trans ((ju_i _ _ (by decide)).trans e118)), ((ju_i _ _ (by decide)).trans ((ju_i _ _ (by decide)).trans e120))]; omega) (TKr.oo (TKr.oo (TKr.fr hK0 (w1_8 72 (by decide) (by decide) (by decide)) (fun i => w1_7 651 i (by decide) (by decide) (by decide)) (fun i => w1_7 649 i (by decide) (by decide) (by decide)) (fun i => w1_7 650 i (by decide) (by decide) (by decide)) (w1_8 73 (by decide) (by decide) (by decide)) (w1_8 74 (by decide) (by decide) (by decide)) (w1_8 75 (by decide) (by decide) (by decide)) (w1_8 76 (by decide) (by decide) (by decide)) (w1_8 77 (by decide) (by decide) (by decide)) (w1_8 78 (by decide) (by decide) (by decide)) (w1_8 79 (by decide) (by decide) (by decide))) (by decide)) (by decide)) (by rw [((ju_i _ _ (by decide)).trans ((ju_i _ _ (by decide)).trans e122))]; omega) (by rw [((ju_i _ _ (by decide)).trans ((ju_i _ _ (by decide)).trans e124))]; omega) (fun M141 hI_M141 hH_M141 hS_M141 qa141 qb141 qt141 sn141 hK141 w141_50 w141_51 => ?_)) (by decide))
            have y125 : (ju (ju M1 598 102 (sg - 1)) 598 100 (v116 - 1)) 598 73 = v117 := ((ju_i _ _ (by decide)).trans ((ju_i _ _ (by decide)).trans e118))
            have y126 : (ju (ju M1 598 102 (sg - 1)) 598 100 (v116 - 1)) 598 74 = v123 := ((ju_i _ _ (by decide)).trans ((ju_i _ _ (by decide)).trans e124))
            have y129 : (ju (ju M1 598 102 (sg - 1)) 598 100 (v116 - 1)) 598 75 = v127 := ((ju_i _ _ (by decide)).trans ((ju_i _ _ (by decide)).trans e128))
            have y132 : (ju (ju M1 598 102 (sg - 1)) 598 100 (v116 - 1)) 598 79 = v130 := ((ju_i _ _ (by decide)).trans ((ju_i _ _ (by decide)).trans e131))
            have y133 : (ju (ju M1 598 102 (sg - 1)) 598 100 (v116 - 1)) 598 80 = v121 := ((ju_i _ _ (by decide)).trans ((ju_i _ _ (by decide)).trans e122))
            have y136 : (ju (ju M1 598 102 (sg - 1)) 598 100 (v116 - 1)) 598 81 = v134 := ((ju_i _ _ (by decide)).trans ((ju_i _ _ (by decide)).trans e135))
            have y139 : (ju (ju M1 598 102 (sg - 1)) 598 100 (v116 - 1)) 598 89 = v137 := ((ju_i _ _ (by decide)).trans ((ju_i _ _ (by decide)).trans e138))
            have y140 : (ju (ju M1 598 102 (sg - 1)) 598 100 (v116 - 1)) 598 100 = v116 - 1 := (ju_same _ _ _ _)
            have tb141 : TK (ju (ju M1 598 102 (sg - 1)) 598 100 (v116 - 1)) = TK M1 := ((TK.o (Or.inr ⟨by decide, by decide⟩)).trans ((TK.o (Or.inr ⟨by decide, by decide⟩)).trans rfl))
            have x141_72 := w141_51 72 (by decide) (by decide) (by decide) (by decide) (by decide) (by decide) (by decide)
            have x141_80 := w141_51 80 (by decide) (by decide) (by decide) (by decide) (by decide) (by decide) (by decide)
            have x141_81 := w141_51 81 (by decide) (by decide) (by decide) (by decide) (by decide) (by decide) (by decide)
            have x141_89 := w141_51 89 (by decide) (by decide) (by decide) (by decide) (by decide) (by decide) (by decide)
            have x141_100 := w141_51 100 (by decide) (by decide) (by decide) (by decide) (by decide) (by decide) (by decide)
            have hT141 := hK141.1
            have kk141 := hK141.kz
            have hE := ES.clo1 gs2 hsg e116 tq.1 e3 (by omega) (by omega)
            have ck : 0 ≤ kcK v2 := by unfold kcK; split <;> omega
            have y145 : (ju (ju M1 598 102 (sg - 1)) 598 100 (v116 - 1)) 598 73 = v117 := ((ju_i _ _ (by decide)).trans ((ju_i _ _ (by decide)).trans e118))
            have y146 : (ju (ju M1 598 102 (sg - 1)) 598 100 (v116 - 1)) 598 89 = v137 := ((ju_i _ _ (by decide)).trans ((ju_i _ _ (by decide)).trans e138))
            have y147 : (ju (ju M1 598 102 (sg - 1)) 598 100 (v116 - 1)) 598 100 = v116 - 1 := (ju_same _ _ _ _)
            have x141_89 := w141_51 89 (by decide) (by decide) (by decide) (by decide) (by decide) (by decide) (by decide)
            have x141_100 := w141_51 100 (by decide) (by decide) (by decide) (by decide) (by decide) (by decide) (by decide)
            have hE := ES.fr2 hE w141_50 (w141_51 88 (by decide) (by decide) (by decide) (by decide) (by decide) (by decide) (by decide)) (w141_51 90 (by decide) (by decide) (by decide) (by decide) (by decide) (by decide) (by decide)) (w141_51 101 (by decide) (by decide) (by decide) (by decide) (by decide) (by decide) (by decide)) (w141_51 102 (by decide) (by decide) (by decide) (by decide) (by decide) (by decide) (by decide)) (w141_51 107 (by decide) (by decide) (by decide) (by decide) (by decide) (by decide) (by decide)) (k' := kk + kcK v2) (d' := 0) (z' := 0) (by omega) (by omega) (by omega) (by omega)
            have co1 : v2 = -1 → kcO v2 = 1 := fun z => by unfold kcO; rw [if_pos z]
            refine jr.iload_n rfl rfl ?_
            refine jr.iconst rfl ?_
            refine jr.icmp_eq rfl rfl (by omega) (by omega) (fun h197 => ?_) (fun h197 => ?_)
            · refine jr.goto rfl rfl ?_
              have e148 : M141 598 72 = v119 := ((w141_51 72 (by decide) (by decide) (by decide) (by decide) (by decide) (by decide) (by decide)).trans ((ju_i _ _ (by decide)).trans ((ju_i _ _ (by decide)).trans e120)))
              have y149 : M141 598 72 = v119 := e148
              obtain ⟨v150, e150⟩ : ∃ z, M141 598 73 = z := ⟨_, rfl⟩
              have b150 : 0 ≤ v150 ∧ v150 ≤ 1600 := by rw [← e150]; exact hI_M141 598 73 (by decide)
              have y151 : M141 598 73 = v150 := e150
              obtain ⟨v152, e152⟩ : ∃ z, M141 598 74 = z := ⟨_, rfl⟩
              have b152 : 0 ≤ v152 ∧ v152 ≤ 4 := by rw [← e152]; exact hI_M141 598 74 (by decide)
              have y153 : M141 598 74 = v152 := e152
              obtain ⟨v154, e154⟩ : ∃ z, M141 598 79 = z := ⟨_, rfl⟩
              have b154 : 0 ≤ v154 ∧ v154 ≤ 255 := by rw [← e154]; exact hI_M141 598 79 (by decide)
              have y155 : M141 598 79 = v154 := e154
              have e156 : M141 598 80 = v121 := ((w141_51 80 (by decide) (by decide) (by decide) (by decide) (by decide) (by decide) (by decide)).trans ((ju_i _ _ (by decide)).trans ((ju_i _ _ (by decide)).trans e122)))
              have y157 : M141 598 80 = v121 := e156
              have e158 : M141 598 89 = v137 := ((w141_51 89 (by decide) (by decide) (by decide) (by decide) (by decide) (by decide) (by decide)).trans ((ju_i _ _ (by decide)).trans ((ju_i _ _ (by decide)).trans e138)))
              have y159 : M141 598 89 = v137 := e158
              obtain ⟨v160, e160⟩ : ∃ z, M1 598 90 = z := ⟨_, rfl⟩
              have b160 : 0 ≤ v160 ∧ v160 ≤ 2200 := by rw [← e160]; exact hI_M1 598 90 (by decide)
              have e161 : M141 598 90 = v160 := ((w141_51 90 (by decide) (by decide) (by decide) (by decide) (by decide) (by decide) (by decide)).trans ((ju_i _ _ (by decide)).trans ((ju_i _ _ (by decide)).trans e160)))
              have y162 : M141 598 90 = v160 := e161
              have e163 : M141 598 100 = v116 - 1 := ((w141_51 100 (by decide) (by decide) (by decide) (by decide) (by decide) (by decide) (by decide)).trans (ju_same _ _ _ _))
              have y164 : M141 598 100 = v116 - 1 := e163
              obtain ⟨v165, e165⟩ : ∃ z, M 598 107 = z := ⟨_, rfl⟩
              have b165 : 0 ≤ v165 ∧ v165 ≤ 16 := by rw [← e165]; exact hI_M 598 107 (by decide)
              have e166 : M1 598 107 = v165 := ((w1_8 107 (by decide) (by decide) (by decide)).trans e165)
              have e167 : M141 598 107 = v165 := ((w141_51 107 (by decide) (by decide) (by decide) (by decide) (by decide) (by decide) (by decide)).trans ((ju_i _ _ (by decide)).trans ((ju_i _ _ (by decide)).trans e166)))
              have y168 : M141 598 107 = v165 := e167
              have y169 : M141 598 80 = v121 := e156
              obtain ⟨v170, e170⟩ : ∃ z, M141 598 75 = z := ⟨_, rfl⟩
              have b170 : 0 ≤ v170 ∧ v170 ≤ 1600 := by rw [← e170]; exact hI_M141 598 75 (by decide)
              have y171 : M141 598 75 = v170 := e170
              have y172 : M141 598 80 = v121 := e156
              have e173 : M141 598 81 = v134 := ((w141_51 81 (by decide) (by decide) (by decide) (by decide) (by decide) (by decide) (by decide)).trans ((ju_i _ _ (by decide)).trans ((ju_i _ _ (by decide)).trans e135)))
              have y174 : M141 598 81 = v134 := e173
              have y175 : M141 598 89 = v137 := e158
              have y176 : M141 598 100 = v116 - 1 := e163
              refine jr.pick [2, 3, 4] rfl rfl ?_
              have y177 : M141 598 80 = v121 := e156
              exact ko M141 o m hI_M141 hH_M141 hS_M141  (fun a i f598 f659 f660 f664 f665 f666 f667 => ((w141_50 a i f598).trans ((ju_c _ _ f598).trans ((ju_c _ _ f598).trans ((w1_7 a i f598 f659 f660).trans (hF_M a i f598 f659 f660 f664 f665 f666 f667)))))) (fun i g73 g74 g75 g76 g77 g78 g79 g80 g81 g89 g90 g100 g102 => ((w141_51 i g73 g74 g75 g76 g77 g78 g79).trans ((ju_i _ _ g100).trans ((ju_i _ _ g102).trans ((w1_8 i g90 g100 g102).trans (hG_M i g73 g74 g75 g76 g77 g78 g79 g80 g81 g89 g90 g100 g102)))))) (by omega) (by omega) (Or.inr (GS.cast (o := kcO v2) ⟨by omega, ES.adj hE (k' := kk) (z' := 0) (by omega) (by omega) (by omega), by omega, by omega, by omega, by omega⟩ (by omega))) (by omega) (by omega) (by rw [e150, e148] <;> omega) (by omega) (CP.f (CP.o (CP.o (CP.trans hCP w1_3) (by decide) (Or.inr (by decide))) (by decide) (Or.inr (by decide))) (fun i => w141_50 659 i (by decide)) (w141_51 90 (by decide) (by decide) (by decide) (by decide) (by decide) (by decide) (by decide))) (by rw [e158] <;> omega) hT141 (fun q => by exfalso; omega) (fun q => ⟨_, hK141, zr.eqx (zr.clo hz3 hrk (by omega) (hKr.sy (by omega) (by omega))) (by omega) rfl (by omega) (by omega) rfl ((abr_fr s0 (fun i => w141_50 664 i (by decide)) (fun i => w141_50 666 i (by decide)) (fun i => w141_50 667 i (by decide)) (w141_51 102 (by decide) (by decide) (by decide) (by decide) (by decide) (by decide) (by decide))).trans (abr_fr s0 (fun i => ju_c _ _ (by decide)) (fun i => ju_c _ _ (by decide)) (fun i => ju_c _ _ (by decide)) (ju_i _ _ (by decide))))⟩) (fun _ => (NU.fr (NU.fr (NU.pop hNU3 hsg) (fun i => ju_c _ _ (by decide)) (ju_i _ _ (by decide))) (fun i => w141_50 664 i (by decide)) (w141_51 102 (by decide) (by decide) (by decide) (by decide) (by decide) (by decide) (by decide)))) hHD (fun q => by omega) (by omega)
            · exact absurd (by omega) h197
          · refine jr.if_eq rfl rfl (by omega) (fun _ => ?_) (fun h => absurd (by decide) h)
            refine jr.aload_n rfl rfl ?_
            obtain ⟨v178, e178⟩ : ∃ z, M 598 80 = z := ⟨_, rfl⟩
            have b178 : 0 ≤ v178 ∧ v178 ≤ 7 := by rw [← e178]; exact hI_M 598 80 (by decide)
            have e179 : M1 598 80 = v178 := ((w1_8 80 (by decide) (by decide) (by decide)).trans e178)
            obtain ⟨v180, e180⟩ : ∃ z, M 598 89 = z := ⟨_, rfl⟩
            have b180 : 0 ≤ v180 ∧ v180 ≤ 301 := by rw [← e180]; exact hI_M 598 89 (by decide)
            have e181 : M1 598 89 = v180 := ((w1_8 89 (by decide) (by decide) (by decide)).trans e180)
            obtain ⟨v182, e182⟩ : ∃ z, M1 598 100 = z := ⟨_, rfl⟩
            have b182 : 0 ≤ v182 ∧ v182 ≤ 13 := by rw [← e182]; exact hI_M1 598 100 (by decide)
            obtain ⟨v183, e183⟩ : ∃ z, M 598 81 = z := ⟨_, rfl⟩
            have b183 : (-1) ≤ v183 ∧ v183 ≤ 1600 := by rw [← e183]; exact hI_M 598 81 (by decide)
            have e184 : M1 598 81 = v183 := ((w1_8 81 (by decide) (by decide) (by decide)).trans e183)
            refine jr_v rfl rfl (Or.inl rfl) rfl rfl (by decide) rfl ⟨rfl, Nat.le_of_ble_eq_true rfl, Nat.le_of_ble_eq_true rfl⟩ rfl (jc.deep (c_wrongToken_z (f := f) (N := N) hI_M1 hH_M1 hS_M1 (TKr.fr hK0 (w1_8 72 (by decide) (by decide) (by decide)) (fun i => w1_7 651 i (by decide) (by decide) (by decide)) (fun i => w1_7 649 i (by decide) (by decide) (by decide)) (fun i => w1_7 650 i (by decide) (by decide) (by decide)) (w1_8 73 (by decide) (by decide) (by decide)) (w1_8 74 (by decide) (by decide) (by decide)) (w1_8 75 (by decide) (by decide) (by decide)) (w1_8 76 (by decide) (by decide) (by decide)) (w1_8 77 (by decide) (by decide) (by decide)) (w1_8 78 (by decide) (by decide) (by decide)) (w1_8 79 (by decide) (by decide) (by decide))) (by rw [e179]; omega) (fun M185 hI_M185 hH_M185 hS_M185 qn185 q0185 q1185 w185_50 w185_51 => ?_)) (by decide))
            have tk185 : TK M185 = TK M1 := TK.fr (w185_51 73 (by decide) (by decide)) (w185_51 74 (by decide) (by decide))
            have x185_72 := w185_51 72 (by decide) (by decide)
            have x185_73 := w185_51 73 (by decide) (by decide)
            have x185_74 := w185_51 74 (by decide) (by decide)
            have x185_75 := w185_51 75 (by decide) (by decide)
            have x185_76 := w185_51 76 (by decide) (by decide)
            have x185_78 := w185_51 78 (by decide) (by decide)
            have x185_79 := w185_51 79 (by decide) (by decide)
            have x185_89 := w185_51 89 (by decide) (by decide)
            have x185_100 := w185_51 100 (by decide) (by decide)
            have zfz : zr f N xs (zft (M185 598 80) (M185 598 81)) := by first | exact zr.rfz (zr.argf hz3 hrk (by omega) (hKr.sn (by omega))) q0185 q1185 | exact zr.rfz (zr.clof hz3 hrk (by omega) (hKr.sn (by omega))) q0185 q1185
            refine jr.goto rfl rfl ?_
            obtain ⟨v186, e186⟩ : ∃ z, M 598 72 = z := ⟨_, rfl⟩
            have b186 : 0 ≤ v186 ∧ v186 ≤ 1600 := by rw [← e186]; exact hI_M 598 72 (by decide)
            have e187 : M1 598 72 = v186 := ((w1_8 72 (by decide) (by decide) (by decide)).trans e186)
            have e188 : M185 598 72 = v186 := ((w185_51 72 (by decide) (by decide)).trans e187)
            have y189 : M185 598 72 = v186 := e188
            obtain ⟨v190, e190⟩ : ∃ z, M 598 73 = z := ⟨_, rfl⟩
            have b190 : 0 ≤ v190 ∧ v190 ≤ 1600 := by rw [← e190]; exact hI_M 598 73 (by decide)
            have e191 : M1 598 73 = v190 := ((w1_8 73 (by decide) (by decide) (by decide)).trans e190)
            have e192 : M185 598 73 = v190 := ((w185_51 73 (by decide) (by decide)).trans e191)
            have y193 : M185 598 73 = v190 := e192
            obtain ⟨v194, e194⟩ : ∃ z, M 598 74 = z := ⟨_, rfl⟩
            have b194 : 0 ≤ v194 ∧ v194 ≤ 4 := by rw [← e194]; exact hI_M 598 74 (by decide)
            have e195 : M1 598 74 = v194 := ((w1_8 74 (by decide) (by decide) (by decide)).trans e194)
            have e196 : M185 598 74 = v194 := ((w185_51 74 (by decide) (by decide)).trans e195)
            have y197 : M185 598 74 = v194 := e196
            obtain ⟨v198, e198⟩ : ∃ z, M 598 79 = z := ⟨_, rfl⟩
            have b198 : 0 ≤ v198 ∧ v198 ≤ 255 := by rw [← e198]; exact hI_M 598 79 (by decide)
            have e199 : M1 598 79 = v198 := ((w1_8 79 (by decide) (by decide) (by decide)).trans e198)
            have e200 : M185 598 79 = v198 := ((w185_51 79 (by decide) (by decide)).trans e199)
            have y201 : M185 598 79 = v198 := e200
            obtain ⟨v202, e202⟩ : ∃ z, M185 598 80 = z := ⟨_, rfl⟩
            have b202 : 0 ≤ v202 ∧ v202 ≤ 7 := by rw [← e202]; exact hI_M185 598 80 (by decide)
            have y203 : M185 598 80 = v202 := e202
            have e204 : M185 598 89 = v180 := ((w185_51 89 (by decide) (by decide)).trans e181)
            have y205 : M185 598 89 = v180 := e204
            obtain ⟨v206, e206⟩ : ∃ z, M1 598 90 = z := ⟨_, rfl⟩
            have b206 : 0 ≤ v206 ∧ v206 ≤ 2200 := by rw [← e206]; exact hI_M1 598 90 (by decide)
            have e207 : M185 598 90 = v206 := ((w185_51 90 (by decide) (by decide)).trans e206)
            have y208 : M185 598 90 = v206 := e207
            have e209 : M185 598 100 = v182 := ((w185_51 100 (by decide) (by decide)).trans e182)
            have y210 : M185 598 100 = v182 := e209
            obtain ⟨v211, e211⟩ : ∃ z, M 598 107 = z := ⟨_, rfl⟩
            have b211 : 0 ≤ v211 ∧ v211 ≤ 16 := by rw [← e211]; exact hI_M 598 107 (by decide)
            have e212 : M1 598 107 = v211 := ((w1_8 107 (by decide) (by decide) (by decide)).trans e211)
            have e213 : M185 598 107 = v211 := ((w185_51 107 (by decide) (by decide)).trans e212)
            have y214 : M185 598 107 = v211 := e213
            have y215 : M185 598 80 = v202 := e202
            obtain ⟨v216, e216⟩ : ∃ z, M 598 75 = z := ⟨_, rfl⟩
            have b216 : 0 ≤ v216 ∧ v216 ≤ 1600 := by rw [← e216]; exact hI_M 598 75 (by decide)
            have e217 : M1 598 75 = v216 := ((w1_8 75 (by decide) (by decide) (by decide)).trans e216)
            have e218 : M185 598 75 = v216 := ((w185_51 75 (by decide) (by decide)).trans e217)
            have y219 : M185 598 75 = v216 := e218
            have y220 : M185 598 80 = v202 := e202
            obtain ⟨v221, e221⟩ : ∃ z, M185 598 81 = z := ⟨_, rfl⟩
            have b221 : (-1) ≤ v221 ∧ v221 ≤ 1600 := by rw [← e221]; exact hI_M185 598 81 (by decide)
            have y222 : M185 598 81 = v221 := e221
            have y223 : M185 598 89 = v180 := e204
            have y224 : M185 598 100 = v182 := e209
            refine jr.pick [2, 3, 4] rfl rfl ?_
            have y225 : M185 598 80 = v202 := e202
            exact ko M185 o m hI_M185 hH_M185 hS_M185  (fun a i f598 f659 f660 f664 f665 f666 f667 => ((w185_50 a i f598).trans ((w1_7 a i f598 f659 f660).trans (hF_M a i f598 f659 f660 f664 f665 f666 f667)))) (fun i g73 g74 g75 g76 g77 g78 g79 g80 g81 g89 g90 g100 g102 => ((w185_51 i g80 g81).trans ((w1_8 i g90 g100 g102).trans (hG_M i g73 g74 g75 g76 g77 g78 g79 g80 g81 g89 g90 g100 g102)))) (by omega) (by omega) (Or.inl ⟨by omega, by omega⟩) (by omega) (by omega) (by rw [e192, e188] <;> omega) (by omega) (CP.f (CP.trans hCP w1_3) (fun i => w185_50 659 i (by decide)) (w185_51 90 (by decide) (by decide))) (by rw [e204] <;> omega) (TXr.fr (TXr.fr hT (w1_8 72 (by decide) (by decide) (by decide)) (fun i => w1_7 651 i (by decide) (by decide) (by decide)) (fun i => w1_7 649 i (by decide) (by decide) (by decide)) (fun i => w1_7 650 i (by decide) (by decide) (by decide))) (w185_51 72 (by decide) (by decide)) (fun i => w185_50 651 i (by decide)) (fun i => w185_50 649 i (by decide)) (fun i => w185_50 650 i (by decide))) (fun _ => zr.fe zfz (by omega) (by omega)) (fun q => by exfalso; omega) (fun q => by exfalso; omega) hHD (fun q => by omega) (by omega)
      · refine jr.aload_n rfl rfl ?_
        refine jr.getf (i := 106) (v := .ref 667) rfl rfl (by decide) rfl (by decide) rfl rfl rfl rfl ?_
        refine jr.aload_n rfl rfl ?_
        refine jr.getf (i := 102) (x := sg) (v := .int (Int32.ofInt (sg))) rfl rfl (by decide) rfl (by decide) rfl rfl hsg rfl ?_
        refine jr.iconst rfl ?_
        refine jr.isub rfl ?_
        obtain ⟨v226, e226⟩ : ∃ z, M 667 (sg - 1) = z := ⟨_, rfl⟩
        have b226 : 0 ≤ v226 ∧ v226 ≤ 4 := by rw [← e226]; exact (by have q := hI_M 667 (sg - 1) (by decide); rw [xri_row rfl rfl] at q; exact q)
        have e227 : M1 667 (sg - 1) = v226 := ((w1_7 667 (sg - 1) (by decide) (by decide) (by decide)).trans e226)
        refine jr.iald (i := (sg - 1)) (x := v226) rfl (by decide) rfl (by decide) (by omega) (by omega) e227 ?_
        refine jr.iload_n rfl rfl ?_
        refine jr_s rfl rfl (Or.inl rfl) ⟨Nat.le_of_ble_eq_true rfl, Nat.le_of_ble_eq_true rfl⟩ rfl rfl (jc.deep (r_argsOf hI_M1 hH_M1 hS_M1 (Kp.rfl _) (by omega)  (fun r228 z228 w228_0 => ?_)) (by decide))
        refine jr.icmp_ne rfl rfl (by omega) (by omega) (fun h109 => ?_) (fun h109 => ?_)
        · refine jr.iconst rfl ?_
          refine jr.istore rfl (by decide) rfl ?_
          refine jr.aload_n rfl rfl ?_
          refine jr.bipush rfl (by decide) ?_
          refine jr_v rfl rfl (Or.inl rfl) rfl rfl (by decide) rfl ⟨rfl, Nat.le_of_ble_eq_true rfl, Nat.le_of_ble_eq_true rfl⟩ rfl (jc.deep (c_isSign hI_M1 (by omega) (fun t122_0 t122_1 => ?_) (fun f122_0 => ?_)) (by decide))
          · have tq := ES.top40 gs2 (by omega) (by rw [hsg]; omega)
            rw [hsg, e3] at tq
            have dp1 := ES.dpos gs2 (by omega)
            rw [hsg] at dp1
            have dp2 := dp1 (Or.inl tq.1)
            have ho := abr_o s0 hsg (by omega) tq.1
            rw [ho, e3, e227] at hz3
            have hza : zar v2 = argn v2 := rfl
            have hzm : v2 = -1 → zar v2 = 1 := fun z => by rw [z]; decide
            have htn := ES.topn gs2 (by omega) (by rw [hsg]; exact tq.1)
            rw [hsg, e3, e227] at htn
            have hv6 : M1 666 (sg - 1) = v2 := e3
            clear dp1 w1_1
            refine jr.if_eq rfl rfl (by omega) (fun h => absurd h (by decide)) (fun _ => ?_)
            refine jr.iload rfl rfl ?_
            refine jr.if_ne rfl rfl (by omega) (fun h => absurd h (by decide)) (fun _ => ?_)
            refine jr.aload_n rfl rfl ?_
            refine jr.getf (i := 106) (v := .ref 667) rfl rfl (by decide) rfl (by decide) rfl rfl rfl rfl ?_
            refine jr.aload_n rfl rfl ?_
            refine jr.getf (i := 102) (x := sg) (v := .int (Int32.ofInt (sg))) rfl rfl (by decide) rfl (by decide) rfl rfl hsg rfl ?_
            refine jr.iconst rfl ?_
            refine jr.isub rfl ?_
            refine jr.dup2 rfl ⟨rfl, rfl⟩ ?_
            refine jr.iald (i := (sg - 1)) (x := v226) rfl (by decide) rfl (by decide) (by omega) (by omega) e227 ?_
            refine jr.iconst rfl ?_
            refine jr.iadd rfl ?_
            refine jr.iast (i := (sg - 1)) (x := (v226 + 1)) rfl (by decide) rfl (by decide) (by omega) (by omega) ?_
            refine jr.aload_n rfl rfl ?_
            obtain ⟨v229, e229⟩ : ∃ z, M 598 73 = z := ⟨_, rfl⟩
            have b229 : 0 ≤ v229 ∧ v229 ≤ 1600 := by rw [← e229]; exact hI_M 598 73 (by decide)
            have e230 : M1 598 73 = v229 := ((w1_8 73 (by decide) (by decide) (by decide)).trans e229)
            obtain ⟨v231, e231⟩ : ∃ z, M 598 72 = z := ⟨_, rfl⟩
            have b231 : 0 ≤ v231 ∧ v231 ≤ 1600 := by rw [← e231]; exact hI_M 598 72 (by decide)
            have e232 : M1 598 72 = v231 := ((w1_8 72 (by decide) (by decide) (by decide)).trans e231)
            obtain ⟨v233, e233⟩ : ∃ z, M 598 80 = z := ⟨_, rfl⟩
            have b233 : 0 ≤ v233 ∧ v233 ≤ 7 := by rw [← e233]; exact hI_M 598 80 (by decide)
            have e234 : M1 598 80 = v233 := ((w1_8 80 (by decide) (by decide) (by decide)).trans e233)
            obtain ⟨v235, e235⟩ : ∃ z, M 598 74 = z := ⟨_, rfl⟩
            have b235 : 0 ≤ v235 ∧ v235 ≤ 4 := by rw [← e235]; exact hI_M 598 74 (by decide)
            have e236 : M1 598 74 = v235 := ((w1_8 74 (by decide) (by decide) (by decide)).trans e235)
            obtain ⟨v239, e239⟩ : ∃ z, M 598 75 = z := ⟨_, rfl⟩
            have b239 : 0 ≤ v239 ∧ v239 ≤ 1600 := by rw [← e239]; exact hI_M 598 75 (by decide)
            have e240 : M1 598 75 = v239 := ((w1_8 75 (by decide) (by decide) (by decide)).trans e239)
            obtain ⟨v242, e242⟩ : ∃ z, M 598 79 = z := ⟨_, rfl⟩
            have b242 : 0 ≤ v242 ∧ v242 ≤ 255 := by rw [← e242]; exact hI_M 598 79 (by decide)
            have e243 : M1 598 79 = v242 := ((w1_8 79 (by decide) (by decide) (by decide)).trans e242)
            obtain ⟨v246, e246⟩ : ∃ z, M 598 81 = z := ⟨_, rfl⟩
            have b246 : (-1) ≤ v246 ∧ v246 ≤ 1600 := by rw [← e246]; exact hI_M 598 81 (by decide)
            have e247 : M1 598 81 = v246 := ((w1_8 81 (by decide) (by decide) (by decide)).trans e246)
            obtain ⟨v249, e249⟩ : ∃ z, M 598 89 = z := ⟨_, rfl⟩
            have b249 : 0 ≤ v249 ∧ v249 ≤ 301 := by rw [← e249]; exact hI_M 598 89 (by decide)
            have e250 : M1 598 89 = v249 := ((w1_8 89 (by decide) (by decide) (by decide)).trans e249)
            obtain ⟨v252, e252⟩ : ∃ z, M1 598 100 = z := ⟨_, rfl⟩
            have b252 : 0 ≤ v252 ∧ v252 ≤ 13 := by rw [← e252]; exact hI_M1 598 100 (by decide)
            refine jr_v rfl rfl (Or.inl rfl) rfl rfl (by decide) rfl ⟨rfl, Nat.le_of_ble_eq_true rfl, Nat.le_of_ble_eq_true rfl⟩ rfl (jc.deep (c_next_z (f := f) (N := N) (RI.u hI_M1 (a := 667) (i := (sg - 1)) (by rw [xri_row rfl rfl]; show (0 : Int) ≤ _ ∧ _ ≤ (4 : Int); omega)) (RH.o hH_M1 (by decide) (by decide) (by decide)) (RF.o hS_M1 (by decide) (by decide)) (by rw [((ju_c _ _ (by decide)).trans e230), ((ju_c _ _ (by decide)).trans e232)]; omega) (TKr.cc (TKr.fr hK0 (w1_8 72 (by decide) (by decide) (by decide)) (fun i => w1_7 651 i (by decide) (by decide) (by decide)) (fun i => w1_7 649 i (by decide) (by decide) (by decide)) (fun i => w1_7 650 i (by decide) (by decide) (by decide)) (w1_8 73 (by decide) (by decide) (by decide)) (w1_8 74 (by decide) (by decide) (by decide)) (w1_8 75 (by decide) (by decide) (by decide)) (w1_8 76 (by decide) (by decide) (by decide)) (w1_8 77 (by decide) (by decide) (by decide)) (w1_8 78 (by decide) (by decide) (by decide)) (w1_8 79 (by decide) (by decide) (by decide))) (by decide) (by decide) (by decide) (by decide)) (by rw [((ju_c _ _ (by decide)).trans e234)]; omega) (by rw [((ju_c _ _ (by decide)).trans e236)]; omega) (fun M254 hI_M254 hH_M254 hS_M254 qa254 qb254 qt254 sn254 hK254 w254_50 w254_51 => ?_)) (by decide))
            have y237 : (ju M1 667 (sg - 1) (v226 + 1)) 598 73 = v229 := ((ju_c _ _ (by decide)).trans e230)
            have y238 : (ju M1 667 (sg - 1) (v226 + 1)) 598 74 = v235 := ((ju_c _ _ (by decide)).trans e236)
            have y241 : (ju M1 667 (sg - 1) (v226 + 1)) 598 75 = v239 := ((ju_c _ _ (by decide)).trans e240)
            have y244 : (ju M1 667 (sg - 1) (v226 + 1)) 598 79 = v242 := ((ju_c _ _ (by decide)).trans e243)
            have y245 : (ju M1 667 (sg - 1) (v226 + 1)) 598 80 = v233 := ((ju_c _ _ (by decide)).trans e234)
            have y248 : (ju M1 667 (sg - 1) (v226 + 1)) 598 81 = v246 := ((ju_c _ _ (by decide)).trans e247)
            have y251 : (ju M1 667 (sg - 1) (v226 + 1)) 598 89 = v249 := ((ju_c _ _ (by decide)).trans e250)
            have y253 : (ju M1 667 (sg - 1) (v226 + 1)) 598 100 = v252 := ((ju_c _ _ (by decide)).trans e252)
            have tb254 : TK (ju M1 667 (sg - 1) (v226 + 1)) = TK M1 := ((TK.o (Or.inl (by decide))).trans rfl)
            have x254_72 := w254_51 72 (by decide) (by decide) (by decide) (by decide) (by decide) (by decide) (by decide)
            have x254_80 := w254_51 80 (by decide) (by decide) (by decide) (by decide) (by decide) (by decide) (by decide)
            have x254_81 := w254_51 81 (by decide) (by decide) (by decide) (by decide) (by decide) (by decide) (by decide)
            have x254_89 := w254_51 89 (by decide) (by decide) (by decide) (by decide) (by decide) (by decide) (by decide)
            have x254_100 := w254_51 100 (by decide) (by decide) (by decide) (by decide) (by decide) (by decide) (by decide)
            have hT254 := hK254.1
            have kk254 := hK254.kz
            have hE := ES.inc gs2 hsg e227 (by omega) tq.1 (by rw [e3]; omega) (by rw [e3]; omega)
            have y255 : (ju M1 667 (sg - 1) (v226 + 1)) 598 73 = v229 := ((ju_c _ _ (by decide)).trans e230)
            have y256 : (ju M1 667 (sg - 1) (v226 + 1)) 598 89 = v249 := ((ju_c _ _ (by decide)).trans e250)
            have y257 : (ju M1 667 (sg - 1) (v226 + 1)) 598 100 = v252 := ((ju_c _ _ (by decide)).trans e252)
            have x254_89 := w254_51 89 (by decide) (by decide) (by decide) (by decide) (by decide) (by decide) (by decide)
            have x254_100 := w254_51 100 (by decide) (by decide) (by decide) (by decide) (by decide) (by decide) (by decide)
            have hE := ES.fr2 hE w254_50 (w254_51 88 (by decide) (by decide) (by decide) (by decide) (by decide) (by decide) (by decide)) (w254_51 90 (by decide) (by decide) (by decide) (by decide) (by decide) (by decide) (by decide)) (w254_51 101 (by decide) (by decide) (by decide) (by decide) (by decide) (by decide) (by decide)) (w254_51 102 (by decide) (by decide) (by decide) (by decide) (by decide) (by decide) (by decide)) (w254_51 107 (by decide) (by decide) (by decide) (by decide) (by decide) (by decide) (by decide)) (k' := kk) (d' := 0) (z' := 0) (by omega) (by omega) (by omega) (by omega)
            refine jr.iconst rfl ?_
            refine jr.istore_n rfl (by decide) rfl ?_
            refine jr.goto rfl rfl ?_
            refine jr.goto rfl rfl ?_
            have e258 : M254 598 72 = v231 := ((w254_51 72 (by decide) (by decide) (by decide) (by decide) (by decide) (by decide) (by decide)).trans ((ju_c _ _ (by decide)).trans e232))
            have y259 : M254 598 72 = v231 := e258
            obtain ⟨v260, e260⟩ : ∃ z, M254 598 73 = z := ⟨_, rfl⟩
            have b260 : 0 ≤ v260 ∧ v260 ≤ 1600 := by rw [← e260]; exact hI_M254 598 73 (by decide)
            have y261 : M254 598 73 = v260 := e260
            obtain ⟨v262, e262⟩ : ∃ z, M254 598 74 = z := ⟨_, rfl⟩
            have b262 : 0 ≤ v262 ∧ v262 ≤ 4 := by rw [← e262]; exact hI_M254 598 74 (by decide)
            have y263 : M254 598 74 = v262 := e262
            obtain ⟨v264, e264⟩ : ∃ z, M254 598 79 = z := ⟨_, rfl⟩
            have b264 : 0 ≤ v264 ∧ v264 ≤ 255 := by rw [← e264]; exact hI_M254 598 79 (by decide)
            have y265 : M254 598 79 = v264 := e264
            have e266 : M254 598 80 = v233 := ((w254_51 80 (by decide) (by decide) (by decide) (by decide) (by decide) (by decide) (by decide)).trans ((ju_c _ _ (by decide)).trans e234))
            have y267 : M254 598 80 = v233 := e266
            have e268 : M254 598 89 = v249 := ((w254_51 89 (by decide) (by decide) (by decide) (by decide) (by decide) (by decide) (by decide)).trans ((ju_c _ _ (by decide)).trans e250))
            have y269 : M254 598 89 = v249 := e268
            obtain ⟨v270, e270⟩ : ∃ z, M1 598 90 = z := ⟨_, rfl⟩
            have b270 : 0 ≤ v270 ∧ v270 ≤ 2200 := by rw [← e270]; exact hI_M1 598 90 (by decide)
            have e271 : M254 598 90 = v270 := ((w254_51 90 (by decide) (by decide) (by decide) (by decide) (by decide) (by decide) (by decide)).trans ((ju_c _ _ (by decide)).trans e270))
            have y272 : M254 598 90 = v270 := e271
            have e273 : M254 598 100 = v252 := ((w254_51 100 (by decide) (by decide) (by decide) (by decide) (by decide) (by decide) (by decide)).trans ((ju_c _ _ (by decide)).trans e252))
            have y274 : M254 598 100 = v252 := e273
            obtain ⟨v275, e275⟩ : ∃ z, M 598 107 = z := ⟨_, rfl⟩
            have b275 : 0 ≤ v275 ∧ v275 ≤ 16 := by rw [← e275]; exact hI_M 598 107 (by decide)
            have e276 : M1 598 107 = v275 := ((w1_8 107 (by decide) (by decide) (by decide)).trans e275)
            have e277 : M254 598 107 = v275 := ((w254_51 107 (by decide) (by decide) (by decide) (by decide) (by decide) (by decide) (by decide)).trans ((ju_c _ _ (by decide)).trans e276))
            have y278 : M254 598 107 = v275 := e277
            have y279 : M254 598 80 = v233 := e266
            obtain ⟨v280, e280⟩ : ∃ z, M254 598 75 = z := ⟨_, rfl⟩
            have b280 : 0 ≤ v280 ∧ v280 ≤ 1600 := by rw [← e280]; exact hI_M254 598 75 (by decide)
            have y281 : M254 598 75 = v280 := e280
            have y282 : M254 598 80 = v233 := e266
            have e283 : M254 598 81 = v246 := ((w254_51 81 (by decide) (by decide) (by decide) (by decide) (by decide) (by decide) (by decide)).trans ((ju_c _ _ (by decide)).trans e247))
            have y284 : M254 598 81 = v246 := e283
            have y285 : M254 598 89 = v249 := e268
            have y286 : M254 598 100 = v252 := e273
            refine jr.pick [0, 3, 4] rfl rfl ?_
            have y287 : M254 598 80 = v233 := e266
            exact ko M254 1 m hI_M254 hH_M254 hS_M254  (fun a i f598 f659 f660 f664 f665 f666 f667 => ((w254_50 a i f598).trans ((ju_c _ _ f667).trans ((w1_7 a i f598 f659 f660).trans (hF_M a i f598 f659 f660 f664 f665 f666 f667))))) (fun i g73 g74 g75 g76 g77 g78 g79 g80 g81 g89 g90 g100 g102 => ((w254_51 i g73 g74 g75 g76 g77 g78 g79).trans ((ju_c _ _ (by decide)).trans ((w1_8 i g90 g100 g102).trans (hG_M i g73 g74 g75 g76 g77 g78 g79 g80 g81 g89 g90 g100 g102))))) (by omega) (by omega) (Or.inr (GS.cast (o := 0) ⟨by omega, ES.adj hE (k' := kk) (z' := 0) (by omega) (by omega) (by omega), by omega, by omega, by omega, by omega⟩ (by omega))) (by omega) (by omega) (by rw [e260, e258] <;> omega) (by omega) (CP.f (CP.o (CP.trans hCP w1_3) (by decide) (Or.inl (by decide))) (fun i => w254_50 659 i (by decide)) (w254_51 90 (by decide) (by decide) (by decide) (by decide) (by decide) (by decide) (by decide))) (by rw [e268] <;> omega) hT254 (fun q => by exfalso; omega) (fun q => ⟨_, hK254, zr.eqx (zr.arg hz3 hrk (by omega) (hKr.sy (by omega) (by omega))) (by omega) rfl (by omega) (by omega) rfl ((abr_fr s0 (fun i => w254_50 664 i (by decide)) (fun i => w254_50 666 i (by decide)) (fun i => w254_50 667 i (by decide)) (w254_51 102 (by decide) (by decide) (by decide) (by decide) (by decide) (by decide) (by decide))).trans ((abr_inc s0 hsg (by omega) tq.1).trans (by rw [hv6])))⟩) (fun _ => (NU.fr (NU.inc hNU3) (fun i => w254_50 664 i (by decide)) (w254_51 102 (by decide) (by decide) (by decide) (by decide) (by decide) (by decide) (by decide)))) hHD (fun q => by omega) (by omega)
          · have tq := ES.top40 gs2 (by omega) (by rw [hsg]; omega)
            rw [hsg, e3] at tq
            have dp1 := ES.dpos gs2 (by omega)
            rw [hsg] at dp1
            have dp2 := dp1 (Or.inl tq.1)
            have ho := abr_o s0 hsg (by omega) tq.1
            rw [ho, e3, e227] at hz3
            have hza : zar v2 = argn v2 := rfl
            have hzm : v2 = -1 → zar v2 = 1 := fun z => by rw [z]; decide
            have htn := ES.topn gs2 (by omega) (by rw [hsg]; exact tq.1)
            rw [hsg, e3, e227] at htn
            have hv6 : M1 666 (sg - 1) = v2 := e3
            clear dp1 w1_1
            refine jr.if_eq rfl rfl (by omega) (fun _ => ?_) (fun h => absurd (by decide) h)
            refine jr.aload_n rfl rfl ?_
            refine jr.bipush rfl (by decide) ?_
            refine jr_v rfl rfl (Or.inl rfl) rfl rfl (by decide) rfl ⟨rfl, Nat.le_of_ble_eq_true rfl, Nat.le_of_ble_eq_true rfl⟩ rfl (jc.deep (c_isSign hI_M1 (by omega) (fun t160_0 t160_1 => ?_) (fun f160_0 => ?_)) (by decide))
            · refine jr.if_eq rfl rfl (by omega) (fun h => absurd h (by decide)) (fun _ => ?_)
              refine jr.iload rfl rfl ?_
              refine jr.if_eq rfl rfl (by omega) (fun _ => ?_) (fun h => absurd (by decide) h)
              refine jr.aload_n rfl rfl ?_
              obtain ⟨v288, e288⟩ : ∃ z, M 598 80 = z := ⟨_, rfl⟩
              have b288 : 0 ≤ v288 ∧ v288 ≤ 7 := by rw [← e288]; exact hI_M 598 80 (by decide)
              have e289 : M1 598 80 = v288 := ((w1_8 80 (by decide) (by decide) (by decide)).trans e288)
              obtain ⟨v290, e290⟩ : ∃ z, M 598 89 = z := ⟨_, rfl⟩
              have b290 : 0 ≤ v290 ∧ v290 ≤ 301 := by rw [← e290]; exact hI_M 598 89 (by decide)
              have e291 : M1 598 89 = v290 := ((w1_8 89 (by decide) (by decide) (by decide)).trans e290)
              obtain ⟨v292, e292⟩ : ∃ z, M1 598 100 = z := ⟨_, rfl⟩
              have b292 : 0 ≤ v292 ∧ v292 ≤ 13 := by rw [← e292]; exact hI_M1 598 100 (by decide)
              obtain ⟨v293, e293⟩ : ∃ z, M 598 81 = z := ⟨_, rfl⟩
              have b293 : (-1) ≤ v293 ∧ v293 ≤ 1600 := by rw [← e293]; exact hI_M 598 81 (by decide)
              have e294 : M1 598 81 = v293 := ((w1_8 81 (by decide) (by decide) (by decide)).trans e293)
              refine jr_v rfl rfl (Or.inl rfl) rfl rfl (by decide) rfl ⟨rfl, Nat.le_of_ble_eq_true rfl, Nat.le_of_ble_eq_true rfl⟩ rfl (jc.deep (c_wrongToken_z (f := f) (N := N) hI_M1 hH_M1 hS_M1 (TKr.fr hK0 (w1_8 72 (by decide) (by decide) (by decide)) (fun i => w1_7 651 i (by decide) (by decide) (by decide)) (fun i => w1_7 649 i (by decide) (by decide) (by decide)) (fun i => w1_7 650 i (by decide) (by decide) (by decide)) (w1_8 73 (by decide) (by decide) (by decide)) (w1_8 74 (by decide) (by decide) (by decide)) (w1_8 75 (by decide) (by decide) (by decide)) (w1_8 76 (by decide) (by decide) (by decide)) (w1_8 77 (by decide) (by decide) (by decide)) (w1_8 78 (by decide) (by decide) (by decide)) (w1_8 79 (by decide) (by decide) (by decide))) (by rw [e289]; omega) (fun M295 hI_M295 hH_M295 hS_M295 qn295 q0295 q1295 w295_50 w295_51 => ?_)) (by decide))
              have tk295 : TK M295 = TK M1 := TK.fr (w295_51 73 (by decide) (by decide)) (w295_51 74 (by decide) (by decide))
              have x295_72 := w295_51 72 (by decide) (by decide)
              have x295_73 := w295_51 73 (by decide) (by decide)
              have x295_74 := w295_51 74 (by decide) (by decide)
              have x295_75 := w295_51 75 (by decide) (by decide)
              have x295_76 := w295_51 76 (by decide) (by decide)
              have x295_78 := w295_51 78 (by decide) (by decide)
              have x295_79 := w295_51 79 (by decide) (by decide)
              have x295_89 := w295_51 89 (by decide) (by decide)
              have x295_100 := w295_51 100 (by decide) (by decide)
              have zfz : zr f N xs (zft (M295 598 80) (M295 598 81)) := by first | exact zr.rfz (zr.argf hz3 hrk (by omega) (hKr.sn (by omega))) q0295 q1295 | exact zr.rfz (zr.clof hz3 hrk (by omega) (hKr.sn (by omega))) q0295 q1295
              refine jr.goto rfl rfl ?_
              obtain ⟨v296, e296⟩ : ∃ z, M 598 72 = z := ⟨_, rfl⟩
              have b296 : 0 ≤ v296 ∧ v296 ≤ 1600 := by rw [← e296]; exact hI_M 598 72 (by decide)
              have e297 : M1 598 72 = v296 := ((w1_8 72 (by decide) (by decide) (by decide)).trans e296)
              have e298 : M295 598 72 = v296 := ((w295_51 72 (by decide) (by decide)).trans e297)
              have y299 : M295 598 72 = v296 := e298
              obtain ⟨v300, e300⟩ : ∃ z, M 598 73 = z := ⟨_, rfl⟩
              have b300 : 0 ≤ v300 ∧ v300 ≤ 1600 := by rw [← e300]; exact hI_M 598 73 (by decide)
              have e301 : M1 598 73 = v300 := ((w1_8 73 (by decide) (by decide) (by decide)).trans e300)
              have e302 : M295 598 73 = v300 := ((w295_51 73 (by decide) (by decide)).trans e301)
              have y303 : M295 598 73 = v300 := e302
              obtain ⟨v304, e304⟩ : ∃ z, M 598 74 = z := ⟨_, rfl⟩
              have b304 : 0 ≤ v304 ∧ v304 ≤ 4 := by rw [← e304]; exact hI_M 598 74 (by decide)
              have e305 : M1 598 74 = v304 := ((w1_8 74 (by decide) (by decide) (by decide)).trans e304)
              have e306 : M295 598 74 = v304 := ((w295_51 74 (by decide) (by decide)).trans e305)
              have y307 : M295 598 74 = v304 := e306
              obtain ⟨v308, e308⟩ : ∃ z, M 598 79 = z := ⟨_, rfl⟩
              have b308 : 0 ≤ v308 ∧ v308 ≤ 255 := by rw [← e308]; exact hI_M 598 79 (by decide)
              have e309 : M1 598 79 = v308 := ((w1_8 79 (by decide) (by decide) (by decide)).trans e308)
              have e310 : M295 598 79 = v308 := ((w295_51 79 (by decide) (by decide)).trans e309)
              have y311 : M295 598 79 = v308 := e310
              obtain ⟨v312, e312⟩ : ∃ z, M295 598 80 = z := ⟨_, rfl⟩
              have b312 : 0 ≤ v312 ∧ v312 ≤ 7 := by rw [← e312]; exact hI_M295 598 80 (by decide)
              have y313 : M295 598 80 = v312 := e312
              have e314 : M295 598 89 = v290 := ((w295_51 89 (by decide) (by decide)).trans e291)
              have y315 : M295 598 89 = v290 := e314
              obtain ⟨v316, e316⟩ : ∃ z, M1 598 90 = z := ⟨_, rfl⟩
              have b316 : 0 ≤ v316 ∧ v316 ≤ 2200 := by rw [← e316]; exact hI_M1 598 90 (by decide)
              have e317 : M295 598 90 = v316 := ((w295_51 90 (by decide) (by decide)).trans e316)
              have y318 : M295 598 90 = v316 := e317
              have e319 : M295 598 100 = v292 := ((w295_51 100 (by decide) (by decide)).trans e292)
              have y320 : M295 598 100 = v292 := e319
              obtain ⟨v321, e321⟩ : ∃ z, M 598 107 = z := ⟨_, rfl⟩
              have b321 : 0 ≤ v321 ∧ v321 ≤ 16 := by rw [← e321]; exact hI_M 598 107 (by decide)
              have e322 : M1 598 107 = v321 := ((w1_8 107 (by decide) (by decide) (by decide)).trans e321)
              have e323 : M295 598 107 = v321 := ((w295_51 107 (by decide) (by decide)).trans e322)
              have y324 : M295 598 107 = v321 := e323
              have y325 : M295 598 80 = v312 := e312
              obtain ⟨v326, e326⟩ : ∃ z, M 598 75 = z := ⟨_, rfl⟩
              have b326 : 0 ≤ v326 ∧ v326 ≤ 1600 := by rw [← e326]; exact hI_M 598 75 (by decide)
              have e327 : M1 598 75 = v326 := ((w1_8 75 (by decide) (by decide) (by decide)).trans e326)
              have e328 : M295 598 75 = v326 := ((w295_51 75 (by decide) (by decide)).trans e327)
              have y329 : M295 598 75 = v326 := e328
              have y330 : M295 598 80 = v312 := e312
              obtain ⟨v331, e331⟩ : ∃ z, M295 598 81 = z := ⟨_, rfl⟩
              have b331 : (-1) ≤ v331 ∧ v331 ≤ 1600 := by rw [← e331]; exact hI_M295 598 81 (by decide)
              have y332 : M295 598 81 = v331 := e331
              have y333 : M295 598 89 = v290 := e314
              have y334 : M295 598 100 = v292 := e319
              refine jr.pick [2, 3, 4] rfl rfl ?_
              have y335 : M295 598 80 = v312 := e312
              exact ko M295 o m hI_M295 hH_M295 hS_M295  (fun a i f598 f659 f660 f664 f665 f666 f667 => ((w295_50 a i f598).trans ((w1_7 a i f598 f659 f660).trans (hF_M a i f598 f659 f660 f664 f665 f666 f667)))) (fun i g73 g74 g75 g76 g77 g78 g79 g80 g81 g89 g90 g100 g102 => ((w295_51 i g80 g81).trans ((w1_8 i g90 g100 g102).trans (hG_M i g73 g74 g75 g76 g77 g78 g79 g80 g81 g89 g90 g100 g102)))) (by omega) (by omega) (Or.inl ⟨by omega, by omega⟩) (by omega) (by omega) (by rw [e302, e298] <;> omega) (by omega) (CP.f (CP.trans hCP w1_3) (fun i => w295_50 659 i (by decide)) (w295_51 90 (by decide) (by decide))) (by rw [e314] <;> omega) (TXr.fr (TXr.fr hT (w1_8 72 (by decide) (by decide) (by decide)) (fun i => w1_7 651 i (by decide) (by decide) (by decide)) (fun i => w1_7 649 i (by decide) (by decide) (by decide)) (fun i => w1_7 650 i (by decide) (by decide) (by decide))) (w295_51 72 (by decide) (by decide)) (fun i => w295_50 651 i (by decide)) (fun i => w295_50 649 i (by decide)) (fun i => w295_50 650 i (by decide))) (fun _ => zr.fe zfz (by omega) (by omega)) (fun q => by exfalso; omega) (fun q => by exfalso; omega) hHD (fun q => by omega) (by omega)
            · refine jr.if_eq rfl rfl (by omega) (fun _ => ?_) (fun h => absurd (by decide) h)
              refine jr.aload_n rfl rfl ?_
              obtain ⟨v336, e336⟩ : ∃ z, M 598 80 = z := ⟨_, rfl⟩
              have b336 : 0 ≤ v336 ∧ v336 ≤ 7 := by rw [← e336]; exact hI_M 598 80 (by decide)
              have e337 : M1 598 80 = v336 := ((w1_8 80 (by decide) (by decide) (by decide)).trans e336)
              obtain ⟨v338, e338⟩ : ∃ z, M 598 89 = z := ⟨_, rfl⟩
              have b338 : 0 ≤ v338 ∧ v338 ≤ 301 := by rw [← e338]; exact hI_M 598 89 (by decide)
              have e339 : M1 598 89 = v338 := ((w1_8 89 (by decide) (by decide) (by decide)).trans e338)
              obtain ⟨v340, e340⟩ : ∃ z, M1 598 100 = z := ⟨_, rfl⟩
              have b340 : 0 ≤ v340 ∧ v340 ≤ 13 := by rw [← e340]; exact hI_M1 598 100 (by decide)
              obtain ⟨v341, e341⟩ : ∃ z, M 598 81 = z := ⟨_, rfl⟩
              have b341 : (-1) ≤ v341 ∧ v341 ≤ 1600 := by rw [← e341]; exact hI_M 598 81 (by decide)
              have e342 : M1 598 81 = v341 := ((w1_8 81 (by decide) (by decide) (by decide)).trans e341)
              refine jr_v rfl rfl (Or.inl rfl) rfl rfl (by decide) rfl ⟨rfl, Nat.le_of_ble_eq_true rfl, Nat.le_of_ble_eq_true rfl⟩ rfl (jc.deep (c_wrongToken_z (f := f) (N := N) hI_M1 hH_M1 hS_M1 (TKr.fr hK0 (w1_8 72 (by decide) (by decide) (by decide)) (fun i => w1_7 651 i (by decide) (by decide) (by decide)) (fun i => w1_7 649 i (by decide) (by decide) (by decide)) (fun i => w1_7 650 i (by decide) (by decide) (by decide)) (w1_8 73 (by decide) (by decide) (by decide)) (w1_8 74 (by decide) (by decide) (by decide)) (w1_8 75 (by decide) (by decide) (by decide)) (w1_8 76 (by decide) (by decide) (by decide)) (w1_8 77 (by decide) (by decide) (by decide)) (w1_8 78 (by decide) (by decide) (by decide)) (w1_8 79 (by decide) (by decide) (by decide))) (by rw [e337]; omega) (fun M343 hI_M343 hH_M343 hS_M343 qn343 q0343 q1343 w343_50 w343_51 => ?_)) (by decide))
              have tk343 : TK M343 = TK M1 := TK.fr (w343_51 73 (by decide) (by decide)) (w343_51 74 (by decide) (by decide))
              have x343_72 := w343_51 72 (by decide) (by decide)
              have x343_73 := w343_51 73 (by decide) (by decide)
              have x343_74 := w343_51 74 (by decide) (by decide)
              have x343_75 := w343_51 75 (by decide) (by decide)
              have x343_76 := w343_51 76 (by decide) (by decide)
              have x343_78 := w343_51 78 (by decide) (by decide)
              have x343_79 := w343_51 79 (by decide) (by decide)
              have x343_89 := w343_51 89 (by decide) (by decide)
              have x343_100 := w343_51 100 (by decide) (by decide)
              have zfz : zr f N xs (zft (M343 598 80) (M343 598 81)) := by first | exact zr.rfz (zr.argf hz3 hrk (by omega) (hKr.sn (by omega))) q0343 q1343 | exact zr.rfz (zr.clof hz3 hrk (by omega) (hKr.sn (by omega))) q0343 q1343
              refine jr.goto rfl rfl ?_
              obtain ⟨v344, e344⟩ : ∃ z, M 598 72 = z := ⟨_, rfl⟩
              have b344 : 0 ≤ v344 ∧ v344 ≤ 1600 := by rw [← e344]; exact hI_M 598 72 (by decide)
              have e345 : M1 598 72 = v344 := ((w1_8 72 (by decide) (by decide) (by decide)).trans e344)
              have e346 : M343 598 72 = v344 := ((w343_51 72 (by decide) (by decide)).trans e345)
              have y347 : M343 598 72 = v344 := e346
              obtain ⟨v348, e348⟩ : ∃ z, M 598 73 = z := ⟨_, rfl⟩
              have b348 : 0 ≤ v348 ∧ v348 ≤ 1600 := by rw [← e348]; exact hI_M 598 73 (by decide)
              have e349 : M1 598 73 = v348 := ((w1_8 73 (by decide) (by decide) (by decide)).trans e348)
              have e350 : M343 598 73 = v348 := ((w343_51 73 (by decide) (by decide)).trans e349)
              have y351 : M343 598 73 = v348 := e350
              obtain ⟨v352, e352⟩ : ∃ z, M 598 74 = z := ⟨_, rfl⟩
              have b352 : 0 ≤ v352 ∧ v352 ≤ 4 := by rw [← e352]; exact hI_M 598 74 (by decide)
              have e353 : M1 598 74 = v352 := ((w1_8 74 (by decide) (by decide) (by decide)).trans e352)
              have e354 : M343 598 74 = v352 := ((w343_51 74 (by decide) (by decide)).trans e353)
              have y355 : M343 598 74 = v352 := e354
              obtain ⟨v356, e356⟩ : ∃ z, M 598 79 = z := ⟨_, rfl⟩
              have b356 : 0 ≤ v356 ∧ v356 ≤ 255 := by rw [← e356]; exact hI_M 598 79 (by decide)
              have e357 : M1 598 79 = v356 := ((w1_8 79 (by decide) (by decide) (by decide)).trans e356)
              have e358 : M343 598 79 = v356 := ((w343_51 79 (by decide) (by decide)).trans e357)
              have y359 : M343 598 79 = v356 := e358
              obtain ⟨v360, e360⟩ : ∃ z, M343 598 80 = z := ⟨_, rfl⟩
              have b360 : 0 ≤ v360 ∧ v360 ≤ 7 := by rw [← e360]; exact hI_M343 598 80 (by decide)
              have y361 : M343 598 80 = v360 := e360
              have e362 : M343 598 89 = v338 := ((w343_51 89 (by decide) (by decide)).trans e339)
              have y363 : M343 598 89 = v338 := e362
              obtain ⟨v364, e364⟩ : ∃ z, M1 598 90 = z := ⟨_, rfl⟩
              have b364 : 0 ≤ v364 ∧ v364 ≤ 2200 := by rw [← e364]; exact hI_M1 598 90 (by decide)
              have e365 : M343 598 90 = v364 := ((w343_51 90 (by decide) (by decide)).trans e364)
              have y366 : M343 598 90 = v364 := e365
              have e367 : M343 598 100 = v340 := ((w343_51 100 (by decide) (by decide)).trans e340)
              have y368 : M343 598 100 = v340 := e367
              obtain ⟨v369, e369⟩ : ∃ z, M 598 107 = z := ⟨_, rfl⟩
              have b369 : 0 ≤ v369 ∧ v369 ≤ 16 := by rw [← e369]; exact hI_M 598 107 (by decide)
              have e370 : M1 598 107 = v369 := ((w1_8 107 (by decide) (by decide) (by decide)).trans e369)
              have e371 : M343 598 107 = v369 := ((w343_51 107 (by decide) (by decide)).trans e370)
              have y372 : M343 598 107 = v369 := e371
              have y373 : M343 598 80 = v360 := e360
              obtain ⟨v374, e374⟩ : ∃ z, M 598 75 = z := ⟨_, rfl⟩
              have b374 : 0 ≤ v374 ∧ v374 ≤ 1600 := by rw [← e374]; exact hI_M 598 75 (by decide)
              have e375 : M1 598 75 = v374 := ((w1_8 75 (by decide) (by decide) (by decide)).trans e374)
              have e376 : M343 598 75 = v374 := ((w343_51 75 (by decide) (by decide)).trans e375)
              have y377 : M343 598 75 = v374 := e376
              have y378 : M343 598 80 = v360 := e360
              obtain ⟨v379, e379⟩ : ∃ z, M343 598 81 = z := ⟨_, rfl⟩
              have b379 : (-1) ≤ v379 ∧ v379 ≤ 1600 := by rw [← e379]; exact hI_M343 598 81 (by decide)
              have y380 : M343 598 81 = v379 := e379
              have y381 : M343 598 89 = v338 := e362
              have y382 : M343 598 100 = v340 := e367
              refine jr.pick [2, 3, 4] rfl rfl ?_
              have y383 : M343 598 80 = v360 := e360
              exact ko M343 o m hI_M343 hH_M343 hS_M343  (fun a i f598 f659 f660 f664 f665 f666 f667 => ((w343_50 a i f598).trans ((w1_7 a i f598 f659 f660).trans (hF_M a i f598 f659 f660 f664 f665 f666 f667)))) (fun i g73 g74 g75 g76 g77 g78 g79 g80 g81 g89 g90 g100 g102 => ((w343_51 i g80 g81).trans ((w1_8 i g90 g100 g102).trans (hG_M i g73 g74 g75 g76 g77 g78 g79 g80 g81 g89 g90 g100 g102)))) (by omega) (by omega) (Or.inl ⟨by omega, by omega⟩) (by omega) (by omega) (by rw [e350, e346] <;> omega) (by omega) (CP.f (CP.trans hCP w1_3) (fun i => w343_50 659 i (by decide)) (w343_51 90 (by decide) (by decide))) (by rw [e362] <;> omega) (TXr.fr (TXr.fr hT (w1_8 72 (by decide) (by decide) (by decide)) (fun i => w1_7 651 i (by decide) (by decide) (by decide)) (fun i => w1_7 649 i (by decide) (by decide) (by decide)) (fun i => w1_7 650 i (by decide) (by decide) (by decide))) (w343_51 72 (by decide) (by decide)) (fun i => w343_50 651 i (by decide)) (fun i => w343_50 649 i (by decide)) (fun i => w343_50 650 i (by decide))) (fun _ => zr.fe zfz (by omega) (by omega)) (fun q => by exfalso; omega) (fun q => by exfalso; omega) hHD (fun q => by omega) (by omega)
        · refine jr.iconst rfl ?_
          refine jr.goto rfl rfl ?_
          refine jr.istore rfl (by decide) rfl ?_
          refine jr.aload_n rfl rfl ?_
          refine jr.bipush rfl (by decide) ?_
          refine jr_v rfl rfl (Or.inl rfl) rfl rfl (by decide) rfl ⟨rfl, Nat.le_of_ble_eq_true rfl, Nat.le_of_ble_eq_true rfl⟩ rfl (jc.deep (c_isSign hI_M1 (by omega) (fun t122_0 t122_1 => ?_) (fun f122_0 => ?_)) (by decide))
          · have tq := ES.top40 gs2 (by omega) (by rw [hsg]; omega)
            rw [hsg, e3] at tq
            have dp1 := ES.dpos gs2 (by omega)
            rw [hsg] at dp1
            have dp2 := dp1 (Or.inl tq.1)
            have ho := abr_o s0 hsg (by omega) tq.1
            rw [ho, e3, e227] at hz3
            have hza : zar v2 = argn v2 := rfl
            have hzm : v2 = -1 → zar v2 = 1 := fun z => by rw [z]; decide
            have htn := ES.topn gs2 (by omega) (by rw [hsg]; exact tq.1)
            rw [hsg, e3, e227] at htn
            have hv6 : M1 666 (sg - 1) = v2 := e3
            clear dp1 w1_1
            refine jr.if_eq rfl rfl (by omega) (fun h => absurd h (by decide)) (fun _ => ?_)
            refine jr.iload rfl rfl ?_
            refine jr.if_ne rfl rfl (by omega) (fun _ => ?_) (fun h => absurd (by decide) h)
            refine jr.aload_n rfl rfl ?_
            refine jr.bipush rfl (by decide) ?_
            refine jr_v rfl rfl (Or.inl rfl) rfl rfl (by decide) rfl ⟨rfl, Nat.le_of_ble_eq_true rfl, Nat.le_of_ble_eq_true rfl⟩ rfl (jc.deep (c_isSign hI_M1 (by omega) (fun t160_0 t160_1 => ?_) (fun f160_0 => ?_)) (by decide))
            · refine jr.if_eq rfl rfl (by omega) (fun h => absurd h (by decide)) (fun _ => ?_)
              refine jr.iload rfl rfl ?_
              refine jr.if_eq rfl rfl (by omega) (fun h => absurd h (by decide)) (fun _ => ?_)
              refine jr.aload_n rfl rfl ?_
              refine jr.dup rfl rfl ?_
              refine jr.getf (i := 102) (x := sg) (v := .int (Int32.ofInt (sg))) rfl rfl (by decide) rfl (by decide) rfl rfl hsg rfl ?_
              refine jr.iconst rfl ?_
              refine jr.isub rfl ?_
              refine jr.putf (i := 102) (x := (sg - 1)) rfl rfl (by decide) rfl (by decide) rfl rfl rfl rfl rfl ?_
              refine jr.aload_n rfl rfl ?_
              refine jr.dup rfl rfl ?_
              obtain ⟨v384, e384⟩ : ∃ z, M1 598 100 = z := ⟨_, rfl⟩
              have b384 : 0 ≤ v384 ∧ v384 ≤ 13 := by rw [← e384]; exact hI_M1 598 100 (by decide)
              refine jr.getf (i := 100) (x := v384) (v := .int (Int32.ofInt (v384))) rfl rfl (by decide) rfl (by decide) rfl rfl ((ju_i _ _ (by decide)).trans e384) rfl ?_
              refine jr.iconst rfl ?_
              refine jr.isub rfl ?_
              refine jr.putf (i := 100) (x := (v384 - 1)) rfl rfl (by decide) rfl (by decide) rfl rfl rfl rfl rfl ?_
              refine jr.aload_n rfl rfl ?_
              obtain ⟨v385, e385⟩ : ∃ z, M 598 73 = z := ⟨_, rfl⟩
              have b385 : 0 ≤ v385 ∧ v385 ≤ 1600 := by rw [← e385]; exact hI_M 598 73 (by decide)
              have e386 : M1 598 73 = v385 := ((w1_8 73 (by decide) (by decide) (by decide)).trans e385)
              obtain ⟨v387, e387⟩ : ∃ z, M 598 72 = z := ⟨_, rfl⟩
              have b387 : 0 ≤ v387 ∧ v387 ≤ 1600 := by rw [← e387]; exact hI_M 598 72 (by decide)
              have e388 : M1 598 72 = v387 := ((w1_8 72 (by decide) (by decide) (by decide)).trans e387)
              obtain ⟨v389, e389⟩ : ∃ z, M 598 80 = z := ⟨_, rfl⟩
              have b389 : 0 ≤ v389 ∧ v389 ≤ 7 := by rw [← e389]; exact hI_M 598 80 (by decide)
              have e390 : M1 598 80 = v389 := ((w1_8 80 (by decide) (by decide) (by decide)).trans e389)
              obtain ⟨v391, e391⟩ : ∃ z, M 598 74 = z := ⟨_, rfl⟩
              have b391 : 0 ≤ v391 ∧ v391 ≤ 4 := by rw [← e391]; exact hI_M 598 74 (by decide)
              have e392 : M1 598 74 = v391 := ((w1_8 74 (by decide) (by decide) (by decide)).trans e391)
              obtain ⟨v395, e395⟩ : ∃ z, M 598 75 = z := ⟨_, rfl⟩
              have b395 : 0 ≤ v395 ∧ v395 ≤ 1600 := by rw [← e395]; exact hI_M 598 75 (by decide)
              have e396 : M1 598 75 = v395 := ((w1_8 75 (by decide) (by decide) (by decide)).trans e395)
              obtain ⟨v398, e398⟩ : ∃ z, M 598 79 = z := ⟨_, rfl⟩
              have b398 : 0 ≤ v398 ∧ v398 ≤ 255 := by rw [← e398]; exact hI_M 598 79 (by decide)
              have e399 : M1 598 79 = v398 := ((w1_8 79 (by decide) (by decide) (by decide)).trans e398)
              obtain ⟨v402, e402⟩ : ∃ z, M 598 81 = z := ⟨_, rfl⟩
              have b402 : (-1) ≤ v402 ∧ v402 ≤ 1600 := by rw [← e402]; exact hI_M 598 81 (by decide)
              have e403 : M1 598 81 = v402 := ((w1_8 81 (by decide) (by decide) (by decide)).trans e402)
              obtain ⟨v405, e405⟩ : ∃ z, M 598 89 = z := ⟨_, rfl⟩
              have b405 : 0 ≤ v405 ∧ v405 ≤ 301 := by rw [← e405]; exact hI_M 598 89 (by decide)
              have e406 : M1 598 89 = v405 := ((w1_8 89 (by decide) (by decide) (by decide)).trans e405)
              refine jr_v rfl rfl (Or.inl rfl) rfl rfl (by decide) rfl ⟨rfl, Nat.le_of_ble_eq_true rfl, Nat.le_of_ble_eq_true rfl⟩ rfl (jc.deep (c_next_z (f := f) (N := N) (RI.u (RI.u hI_M1 (a := 598) (i := 102) (show (0 : Int) ≤ _ ∧ _ ≤ (400 : Int) from by omega)) (a := 598) (i := 100) (show (0 : Int) ≤ _ ∧ _ ≤ (13 : Int) from by omega)) (RH.o (RH.o hH_M1 (by decide) (by decide) (by decide)) (by decide) (by decide) (by decide)) (RF.o (RF.o hS_M1 (by decide) (by decide)) (by decide) (by decide)) (by rw [((ju_i _ _ (by decide)).trans ((ju_i _ _ (by decide)).trans e386)), ((ju_i _ _ (by decide)).trans ((ju_i _ _ (by decide)).trans e388))]; omega) (TKr.oo (TKr.oo (TKr.fr hK0 (w1_8 72 (by decide) (by decide) (by decide)) (fun i => w1_7 651 i (by decide) (by decide) (by decide)) (fun i => w1_7 649 i (by decide) (by decide) (by decide)) (fun i => w1_7 650 i (by decide) (by decide) (by decide)) (w1_8 73 (by decide) (by decide) (by decide)) (w1_8 74 (by decide) (by decide) (by decide)) (w1_8 75 (by decide) (by decide) (by decide)) (w1_8 76 (by decide) (by decide) (by decide)) (w1_8 77 (by decide) (by decide) (by decide)) (w1_8 78 (by decide) (by decide) (by decide)) (w1_8 79 (by decide) (by decide) (by decide))) (by decide)) (by decide)) (by rw [((ju_i _ _ (by decide)).trans ((ju_i _ _ (by decide)).trans e390))]; omega) (by rw [((ju_i _ _ (by decide)).trans ((ju_i _ _ (by decide)).trans e392))]; omega) (fun M409 hI_M409 hH_M409 hS_M409 qa409 qb409 qt409 sn409 hK409 w409_50 w409_51 => ?_)) (by decide))
              have y393 : (ju (ju M1 598 102 (sg - 1)) 598 100 (v384 - 1)) 598 73 = v385 := ((ju_i _ _ (by decide)).trans ((ju_i _ _ (by decide)).trans e386))
              have y394 : (ju (ju M1 598 102 (sg - 1)) 598 100 (v384 - 1)) 598 74 = v391 := ((ju_i _ _ (by decide)).trans ((ju_i _ _ (by decide)).trans e392))
              have y397 : (ju (ju M1 598 102 (sg - 1)) 598 100 (v384 - 1)) 598 75 = v395 := ((ju_i _ _ (by decide)).trans ((ju_i _ _ (by decide)).trans e396))
              have y400 : (ju (ju M1 598 102 (sg - 1)) 598 100 (v384 - 1)) 598 79 = v398 := ((ju_i _ _ (by decide)).trans ((ju_i _ _ (by decide)).trans e399))
              have y401 : (ju (ju M1 598 102 (sg - 1)) 598 100 (v384 - 1)) 598 80 = v389 := ((ju_i _ _ (by decide)).trans ((ju_i _ _ (by decide)).trans e390))
              have y404 : (ju (ju M1 598 102 (sg - 1)) 598 100 (v384 - 1)) 598 81 = v402 := ((ju_i _ _ (by decide)).trans ((ju_i _ _ (by decide)).trans e403))
              have y407 : (ju (ju M1 598 102 (sg - 1)) 598 100 (v384 - 1)) 598 89 = v405 := ((ju_i _ _ (by decide)).trans ((ju_i _ _ (by decide)).trans e406))
              have y408 : (ju (ju M1 598 102 (sg - 1)) 598 100 (v384 - 1)) 598 100 = v384 - 1 := (ju_same _ _ _ _)
              have tb409 : TK (ju (ju M1 598 102 (sg - 1)) 598 100 (v384 - 1)) = TK M1 := ((TK.o (Or.inr ⟨by decide, by decide⟩)).trans ((TK.o (Or.inr ⟨by decide, by decide⟩)).trans rfl))
              have x409_72 := w409_51 72 (by decide) (by decide) (by decide) (by decide) (by decide) (by decide) (by decide)
              have x409_80 := w409_51 80 (by decide) (by decide) (by decide) (by decide) (by decide) (by decide) (by decide)
              have x409_81 := w409_51 81 (by decide) (by decide) (by decide) (by decide) (by decide) (by decide) (by decide)
              have x409_89 := w409_51 89 (by decide) (by decide) (by decide) (by decide) (by decide) (by decide) (by decide)
              have x409_100 := w409_51 100 (by decide) (by decide) (by decide) (by decide) (by decide) (by decide) (by decide)
              have hT409 := hK409.1
              have kk409 := hK409.kz
              have hE := ES.clo1 gs2 hsg e384 tq.1 e3 (by omega) (by omega)
              have ck : 0 ≤ kcK v2 := by unfold kcK; split <;> omega
              have y413 : (ju (ju M1 598 102 (sg - 1)) 598 100 (v384 - 1)) 598 73 = v385 := ((ju_i _ _ (by decide)).trans ((ju_i _ _ (by decide)).trans e386))
              have y414 : (ju (ju M1 598 102 (sg - 1)) 598 100 (v384 - 1)) 598 89 = v405 := ((ju_i _ _ (by decide)).trans ((ju_i _ _ (by decide)).trans e406))
              have y415 : (ju (ju M1 598 102 (sg - 1)) 598 100 (v384 - 1)) 598 100 = v384 - 1 := (ju_same _ _ _ _)
              have x409_89 := w409_51 89 (by decide) (by decide) (by decide) (by decide) (by decide) (by decide) (by decide)
              have x409_100 := w409_51 100 (by decide) (by decide) (by decide) (by decide) (by decide) (by decide) (by decide)
              have hE := ES.fr2 hE w409_50 (w409_51 88 (by decide) (by decide) (by decide) (by decide) (by decide) (by decide) (by decide)) (w409_51 90 (by decide) (by decide) (by decide) (by decide) (by decide) (by decide) (by decide)) (w409_51 101 (by decide) (by decide) (by decide) (by decide) (by decide) (by decide) (by decide)) (w409_51 102 (by decide) (by decide) (by decide) (by decide) (by decide) (by decide) (by decide)) (w409_51 107 (by decide) (by decide) (by decide) (by decide) (by decide) (by decide) (by decide)) (k' := kk + kcK v2) (d' := 0) (z' := 0) (by omega) (by omega) (by omega) (by omega)
              have co1 : v2 = -1 → kcO v2 = 1 := fun z => by unfold kcO; rw [if_pos z]
              refine jr.iload_n rfl rfl ?_
              refine jr.iconst rfl ?_
              refine jr.icmp_eq rfl rfl (by omega) (by omega) (fun h197 => ?_) (fun h197 => ?_)
              · exact absurd h197 (by omega)
              · refine jr.aload_n rfl rfl ?_
                refine jr.sipush rfl (by decide) ?_
                refine jr.iload_n rfl rfl ?_
                refine jr.iadd rfl ?_
                refine jr.lconst (x := 0) rfl (by decide) ?_
                obtain ⟨v416, e416⟩ : ∃ z, M1 598 90 = z := ⟨_, rfl⟩
                have b416 : 0 ≤ v416 ∧ v416 ≤ 2200 := by rw [← e416]; exact hI_M1 598 90 (by decide)
                have e417 : M409 598 90 = v416 := ((w409_51 90 (by decide) (by decide) (by decide) (by decide) (by decide) (by decide) (by decide)).trans ((ju_i _ _ (by decide)).trans ((ju_i _ _ (by decide)).trans e416)))
                have e418 : M409 598 100 = v384 - 1 := ((w409_51 100 (by decide) (by decide) (by decide) (by decide) (by decide) (by decide) (by decide)).trans (ju_same _ _ _ _))
                obtain ⟨v420, e420⟩ : ∃ z, M 598 107 = z := ⟨_, rfl⟩
                have b420 : 0 ≤ v420 ∧ v420 ≤ 16 := by rw [← e420]; exact hI_M 598 107 (by decide)
                have e421 : M1 598 107 = v420 := ((w1_8 107 (by decide) (by decide) (by decide)).trans e420)
                have e422 : M409 598 107 = v420 := ((w409_51 107 (by decide) (by decide) (by decide) (by decide) (by decide) (by decide) (by decide)).trans ((ju_i _ _ (by decide)).trans ((ju_i _ _ (by decide)).trans e421)))
                refine jr_v rfl rfl (Or.inl rfl) rfl rfl (by decide) rfl ⟨rfl, Nat.le_of_ble_eq_true rfl, Nat.le_of_ble_eq_true rfl⟩ rfl (jc.deep (r_emit e417 (by omega) (by omega) (by omega) ?_) (by decide))
                have y419 : M409 598 100 = v384 - 1 := e418
                have y423 : M409 598 107 = v420 := e422
                have al := argn_le v2
                have co : kcO v2 = argn v2 := by unfold kcO; rw [if_neg (by omega)]
                have ck2 : kcK v2 = 2 := by unfold kcK; rw [if_neg (by omega)]
                have nd : ndo (340 + v2) = argn v2 := (by rcases (show v2 = 25 ∨ v2 = 26 ∨ v2 = 27 ∨ v2 = 28 ∨ v2 = 29 ∨ v2 = 30 by omega) with r | r | r | r | r | r <;> rw [r] <;> decide)
                have dl : dlo (340 + v2) = 1 - argn v2 := (by rcases (show v2 = 25 ∨ v2 = 26 ∨ v2 = 27 ∨ v2 = 28 ∨ v2 = 29 ∨ v2 = 30 by omega) with r | r | r | r | r | r <;> rw [r] <;> decide)
                have hE := ES.emit hE e417 (340 + v2) 0 kk (by unfold vop; omega) (by omega) (by unfold exo; omega) (by unfold jpo; omega) (by omega) (by omega) (by omega) (by omega) (by omega) (by omega)
                refine jr.goto rfl rfl ?_
                refine jr.goto rfl rfl ?_
                have e424 : M409 598 72 = v387 := ((w409_51 72 (by decide) (by decide) (by decide) (by decide) (by decide) (by decide) (by decide)).trans ((ju_i _ _ (by decide)).trans ((ju_i _ _ (by decide)).trans e388)))
                have y425 : (ju (ju (ju M409 659 v416 (340 + v2)) 660 v416 0) 598 90 (v416 + 1)) 598 72 = v387 := ((ju_i _ _ (by decide)).trans ((ju_c _ _ (by decide)).trans ((ju_c _ _ (by decide)).trans e424)))
                obtain ⟨v426, e426⟩ : ∃ z, M409 598 73 = z := ⟨_, rfl⟩
                have b426 : 0 ≤ v426 ∧ v426 ≤ 1600 := by rw [← e426]; exact hI_M409 598 73 (by decide)
                have y427 : (ju (ju (ju M409 659 v416 (340 + v2)) 660 v416 0) 598 90 (v416 + 1)) 598 73 = v426 := ((ju_i _ _ (by decide)).trans ((ju_c _ _ (by decide)).trans ((ju_c _ _ (by decide)).trans e426)))
                obtain ⟨v428, e428⟩ : ∃ z, M409 598 74 = z := ⟨_, rfl⟩
                have b428 : 0 ≤ v428 ∧ v428 ≤ 4 := by rw [← e428]; exact hI_M409 598 74 (by decide)
                have y429 : (ju (ju (ju M409 659 v416 (340 + v2)) 660 v416 0) 598 90 (v416 + 1)) 598 74 = v428 := ((ju_i _ _ (by decide)).trans ((ju_c _ _ (by decide)).trans ((ju_c _ _ (by decide)).trans e428)))
                obtain ⟨v430, e430⟩ : ∃ z, M409 598 79 = z := ⟨_, rfl⟩
                have b430 : 0 ≤ v430 ∧ v430 ≤ 255 := by rw [← e430]; exact hI_M409 598 79 (by decide)
                have y431 : (ju (ju (ju M409 659 v416 (340 + v2)) 660 v416 0) 598 90 (v416 + 1)) 598 79 = v430 := ((ju_i _ _ (by decide)).trans ((ju_c _ _ (by decide)).trans ((ju_c _ _ (by decide)).trans e430)))
                have e432 : M409 598 80 = v389 := ((w409_51 80 (by decide) (by decide) (by decide) (by decide) (by decide) (by decide) (by decide)).trans ((ju_i _ _ (by decide)).trans ((ju_i _ _ (by decide)).trans e390)))
                have y433 : (ju (ju (ju M409 659 v416 (340 + v2)) 660 v416 0) 598 90 (v416 + 1)) 598 80 = v389 := ((ju_i _ _ (by decide)).trans ((ju_c _ _ (by decide)).trans ((ju_c _ _ (by decide)).trans e432)))
                have e434 : M409 598 89 = v405 := ((w409_51 89 (by decide) (by decide) (by decide) (by decide) (by decide) (by decide) (by decide)).trans ((ju_i _ _ (by decide)).trans ((ju_i _ _ (by decide)).trans e406)))
                have y435 : (ju (ju (ju M409 659 v416 (340 + v2)) 660 v416 0) 598 90 (v416 + 1)) 598 89 = v405 := ((ju_i _ _ (by decide)).trans ((ju_c _ _ (by decide)).trans ((ju_c _ _ (by decide)).trans e434)))
                have y436 : (ju (ju (ju M409 659 v416 (340 + v2)) 660 v416 0) 598 90 (v416 + 1)) 598 90 = v416 + 1 := (ju_same _ _ _ _)
                have y437 : (ju (ju (ju M409 659 v416 (340 + v2)) 660 v416 0) 598 90 (v416 + 1)) 598 100 = v384 - 1 := ((ju_i _ _ (by decide)).trans ((ju_c _ _ (by decide)).trans ((ju_c _ _ (by decide)).trans e418)))
                have y438 : (ju (ju (ju M409 659 v416 (340 + v2)) 660 v416 0) 598 90 (v416 + 1)) 598 107 = v420 := ((ju_i _ _ (by decide)).trans ((ju_c _ _ (by decide)).trans ((ju_c _ _ (by decide)).trans e422)))
                have y439 : TK (ju (ju (ju M409 659 v416 (340 + v2)) 660 v416 0) 598 90 (v416 + 1)) = TK M409 := ((TK.o (Or.inr ⟨by decide, by decide⟩)).trans ((TK.o (Or.inl (by decide))).trans ((TK.o (Or.inl (by decide))).trans rfl)))
                have y440 : (ju (ju (ju M409 659 v416 (340 + v2)) 660 v416 0) 598 90 (v416 + 1)) 598 80 = v389 := ((ju_i _ _ (by decide)).trans ((ju_c _ _ (by decide)).trans ((ju_c _ _ (by decide)).trans e432)))
                have y441 : TK (ju (ju (ju M409 659 v416 (340 + v2)) 660 v416 0) 598 90 (v416 + 1)) = TK M409 := ((TK.o (Or.inr ⟨by decide, by decide⟩)).trans ((TK.o (Or.inl (by decide))).trans ((TK.o (Or.inl (by decide))).trans rfl)))
                obtain ⟨v442, e442⟩ : ∃ z, M409 598 75 = z := ⟨_, rfl⟩
                have b442 : 0 ≤ v442 ∧ v442 ≤ 1600 := by rw [← e442]; exact hI_M409 598 75 (by decide)
                have y443 : (ju (ju (ju M409 659 v416 (340 + v2)) 660 v416 0) 598 90 (v416 + 1)) 598 75 = v442 := ((ju_i _ _ (by decide)).trans ((ju_c _ _ (by decide)).trans ((ju_c _ _ (by decide)).trans e442)))
                have y444 : (ju (ju (ju M409 659 v416 (340 + v2)) 660 v416 0) 598 90 (v416 + 1)) 598 80 = v389 := ((ju_i _ _ (by decide)).trans ((ju_c _ _ (by decide)).trans ((ju_c _ _ (by decide)).trans e432)))
                have e445 : M409 598 81 = v402 := ((w409_51 81 (by decide) (by decide) (by decide) (by decide) (by decide) (by decide) (by decide)).trans ((ju_i _ _ (by decide)).trans ((ju_i _ _ (by decide)).trans e403)))
                have y446 : (ju (ju (ju M409 659 v416 (340 + v2)) 660 v416 0) 598 90 (v416 + 1)) 598 81 = v402 := ((ju_i _ _ (by decide)).trans ((ju_c _ _ (by decide)).trans ((ju_c _ _ (by decide)).trans e445)))
                have y447 : (ju (ju (ju M409 659 v416 (340 + v2)) 660 v416 0) 598 90 (v416 + 1)) 598 89 = v405 := ((ju_i _ _ (by decide)).trans ((ju_c _ _ (by decide)).trans ((ju_c _ _ (by decide)).trans e434)))
                have y448 : (ju (ju (ju M409 659 v416 (340 + v2)) 660 v416 0) 598 90 (v416 + 1)) 598 100 = v384 - 1 := ((ju_i _ _ (by decide)).trans ((ju_c _ _ (by decide)).trans ((ju_c _ _ (by decide)).trans e418)))
                refine jr.pick [2, 3, 4] rfl rfl ?_
                have y449 : (ju (ju (ju M409 659 v416 (340 + v2)) 660 v416 0) 598 90 (v416 + 1)) 598 80 = v389 := ((ju_i _ _ (by decide)).trans ((ju_c _ _ (by decide)).trans ((ju_c _ _ (by decide)).trans e432)))
                have y450 : TK (ju (ju (ju M409 659 v416 (340 + v2)) 660 v416 0) 598 90 (v416 + 1)) = TK M409 := ((TK.o (Or.inr ⟨by decide, by decide⟩)).trans ((TK.o (Or.inl (by decide))).trans ((TK.o (Or.inl (by decide))).trans rfl)))
                exact ko (ju (ju (ju M409 659 v416 (340 + v2)) 660 v416 0) 598 90 (v416 + 1)) o m (RI.u (RI.u (RI.u hI_M409 (a := 659) (i := v416) (by rw [xri_row rfl rfl]; show (0 : Int) ≤ _ ∧ _ ≤ (1000 : Int); omega)) (a := 660) (i := v416) (by rw [xri_row rfl rfl]; show (-9223372036854775808 : Int) ≤ _ ∧ _ ≤ (9223372036854775807 : Int); omega)) (a := 598) (i := 90) (show (0 : Int) ≤ _ ∧ _ ≤ (2200 : Int) from by omega)) (RH.o (RH.o (RH.o hH_M409 (by decide) (by decide) (by decide)) (by decide) (by decide) (by decide)) (by decide) (by decide) (by decide)) (RF.o (RF.o (RF.o hS_M409 (by decide) (by decide)) (by decide) (by decide)) (by decide) (by decide))  (fun a i f598 f659 f660 f664 f665 f666 f667 => ((ju_c _ _ f598).trans ((ju_c _ _ f660).trans ((ju_c _ _ f659).trans ((w409_50 a i f598).trans ((ju_c _ _ f598).trans ((ju_c _ _ f598).trans ((w1_7 a i f598 f659 f660).trans (hF_M a i f598 f659 f660 f664 f665 f666 f667))))))))) (fun i g73 g74 g75 g76 g77 g78 g79 g80 g81 g89 g90 g100 g102 => ((ju_i _ _ g90).trans ((ju_c _ _ (by decide)).trans ((ju_c _ _ (by decide)).trans ((w409_51 i g73 g74 g75 g76 g77 g78 g79).trans ((ju_i _ _ g100).trans ((ju_i _ _ g102).trans ((w1_8 i g90 g100 g102).trans (hG_M i g73 g74 g75 g76 g77 g78 g79 g80 g81 g89 g90 g100 g102))))))))) (by omega) (by omega) (Or.inr (GS.cast (o := kcO v2 + dlo (340 + v2)) ⟨by omega, ES.adj hE (k' := kk) (z' := 0) (by omega) (by omega) (by omega), by omega, by omega, by omega, by omega⟩ (by omega))) (by omega) (by omega) (by rw [((ju_i _ _ (by decide)).trans ((ju_c _ _ (by decide)).trans ((ju_c _ _ (by decide)).trans e426))), ((ju_i _ _ (by decide)).trans ((ju_c _ _ (by decide)).trans ((ju_c _ _ (by decide)).trans e424)))] <;> omega) (by omega) (CP.emit (CP.f (CP.o (CP.o (CP.trans hCP w1_3) (by decide) (Or.inr (by decide))) (by decide) (Or.inr (by decide))) (fun i => w409_50 659 i (by decide)) (w409_51 90 (by decide) (by decide) (by decide) (by decide) (by decide) (by decide) (by decide))) e417) (by rw [((ju_i _ _ (by decide)).trans ((ju_c _ _ (by decide)).trans ((ju_c _ _ (by decide)).trans e434)))] <;> omega) (TXr.o (TXr.k (TXr.k hT409 (by decide) (by decide) (by decide) (by decide)) (by decide) (by decide) (by decide) (by decide)) (by decide)) (fun q => by exfalso; omega) (fun q => ⟨_, (TKr.oo (TKr.cc (TKr.cc hK409 (by decide) (by decide) (by decide) (by decide)) (by decide) (by decide) (by decide) (by decide)) (by decide)), zr.eqx (zr.clo hz3 hrk (by omega) (hKr.sy (by omega) (by omega))) (by omega) rfl (by omega) (by omega) rfl (((abr_fr s0 (fun i => ju_c _ _ (by decide)) (fun i => ju_c _ _ (by decide)) (fun i => ju_c _ _ (by decide)) (ju_i _ _ (by decide))).trans ((abr_fr s0 (fun i => ju_c _ _ (by decide)) (fun i => ju_c _ _ (by decide)) (fun i => ju_c _ _ (by decide)) (ju_c _ _ (by decide))).trans ((abr_fr s0 (fun i => ju_c _ _ (by decide)) (fun i => ju_c _ _ (by decide)) (fun i => ju_c _ _ (by decide)) (ju_c _ _ (by decide))).trans (abr_fr s0 (fun i => w409_50 664 i (by decide)) (fun i => w409_50 666 i (by decide)) (fun i => w409_50 667 i (by decide)) (w409_51 102 (by decide) (by decide) (by decide) (by decide) (by decide) (by decide) (by decide)))))).trans (abr_fr s0 (fun i => ju_c _ _ (by decide)) (fun i => ju_c _ _ (by decide)) (fun i => ju_c _ _ (by decide)) (ju_i _ _ (by decide))))⟩) (fun _ => (NU.fr (NU.fr (NU.fr (NU.fr (NU.fr (NU.pop hNU3 hsg) (fun i => ju_c _ _ (by decide)) (ju_i _ _ (by decide))) (fun i => w409_50 664 i (by decide)) (w409_51 102 (by decide) (by decide) (by decide) (by decide) (by decide) (by decide) (by decide))) (fun i => ju_c _ _ (by decide)) (ju_c _ _ (by decide))) (fun i => ju_c _ _ (by decide)) (ju_c _ _ (by decide))) (fun i => ju_c _ _ (by decide)) (ju_i _ _ (by decide)))) hHD (fun q => by omega) (by omega)
            · refine jr.if_eq rfl rfl (by omega) (fun _ => ?_) (fun h => absurd (by decide) h)
              refine jr.aload_n rfl rfl ?_
              obtain ⟨v451, e451⟩ : ∃ z, M 598 80 = z := ⟨_, rfl⟩
              have b451 : 0 ≤ v451 ∧ v451 ≤ 7 := by rw [← e451]; exact hI_M 598 80 (by decide)
              have e452 : M1 598 80 = v451 := ((w1_8 80 (by decide) (by decide) (by decide)).trans e451)
              obtain ⟨v453, e453⟩ : ∃ z, M 598 89 = z := ⟨_, rfl⟩
              have b453 : 0 ≤ v453 ∧ v453 ≤ 301 := by rw [← e453]; exact hI_M 598 89 (by decide)
              have e454 : M1 598 89 = v453 := ((w1_8 89 (by decide) (by decide) (by decide)).trans e453)
              obtain ⟨v455, e455⟩ : ∃ z, M1 598 100 = z := ⟨_, rfl⟩
              have b455 : 0 ≤ v455 ∧ v455 ≤ 13 := by rw [← e455]; exact hI_M1 598 100 (by decide)
              obtain ⟨v456, e456⟩ : ∃ z, M 598 81 = z := ⟨_, rfl⟩
              have b456 : (-1) ≤ v456 ∧ v456 ≤ 1600 := by rw [← e456]; exact hI_M 598 81 (by decide)
              have e457 : M1 598 81 = v456 := ((w1_8 81 (by decide) (by decide) (by decide)).trans e456)
              refine jr_v rfl rfl (Or.inl rfl) rfl rfl (by decide) rfl ⟨rfl, Nat.le_of_ble_eq_true rfl, Nat.le_of_ble_eq_true rfl⟩ rfl (jc.deep (c_wrongToken_z (f := f) (N := N) hI_M1 hH_M1 hS_M1 (TKr.fr hK0 (w1_8 72 (by decide) (by decide) (by decide)) (fun i => w1_7 651 i (by decide) (by decide) (by decide)) (fun i => w1_7 649 i (by decide) (by decide) (by decide)) (fun i => w1_7 650 i (by decide) (by decide) (by decide)) (w1_8 73 (by decide) (by decide) (by decide)) (w1_8 74 (by decide) (by decide) (by decide)) (w1_8 75 (by decide) (by decide) (by decide)) (w1_8 76 (by decide) (by decide) (by decide)) (w1_8 77 (by decide) (by decide) (by decide)) (w1_8 78 (by decide) (by decide) (by decide)) (w1_8 79 (by decide) (by decide) (by decide))) (by rw [e452]; omega) (fun M458 hI_M458 hH_M458 hS_M458 qn458 q0458 q1458 w458_50 w458_51 => ?_)) (by decide))
              have tk458 : TK M458 = TK M1 := TK.fr (w458_51 73 (by decide) (by decide)) (w458_51 74 (by decide) (by decide))
              have x458_72 := w458_51 72 (by decide) (by decide)
              have x458_73 := w458_51 73 (by decide) (by decide)
              have x458_74 := w458_51 74 (by decide) (by decide)
              have x458_75 := w458_51 75 (by decide) (by decide)
              have x458_76 := w458_51 76 (by decide) (by decide)
              have x458_78 := w458_51 78 (by decide) (by decide)
              have x458_79 := w458_51 79 (by decide) (by decide)
              have x458_89 := w458_51 89 (by decide) (by decide)
              have x458_100 := w458_51 100 (by decide) (by decide)
              have zfz : zr f N xs (zft (M458 598 80) (M458 598 81)) := by first | exact zr.rfz (zr.argf hz3 hrk (by omega) (hKr.sn (by omega))) q0458 q1458 | exact zr.rfz (zr.clof hz3 hrk (by omega) (hKr.sn (by omega))) q0458 q1458
              refine jr.goto rfl rfl ?_
              obtain ⟨v459, e459⟩ : ∃ z, M 598 72 = z := ⟨_, rfl⟩
              have b459 : 0 ≤ v459 ∧ v459 ≤ 1600 := by rw [← e459]; exact hI_M 598 72 (by decide)
              have e460 : M1 598 72 = v459 := ((w1_8 72 (by decide) (by decide) (by decide)).trans e459)
              have e461 : M458 598 72 = v459 := ((w458_51 72 (by decide) (by decide)).trans e460)
              have y462 : M458 598 72 = v459 := e461
              obtain ⟨v463, e463⟩ : ∃ z, M 598 73 = z := ⟨_, rfl⟩
              have b463 : 0 ≤ v463 ∧ v463 ≤ 1600 := by rw [← e463]; exact hI_M 598 73 (by decide)
              have e464 : M1 598 73 = v463 := ((w1_8 73 (by decide) (by decide) (by decide)).trans e463)
              have e465 : M458 598 73 = v463 := ((w458_51 73 (by decide) (by decide)).trans e464)
              have y466 : M458 598 73 = v463 := e465
              obtain ⟨v467, e467⟩ : ∃ z, M 598 74 = z := ⟨_, rfl⟩
              have b467 : 0 ≤ v467 ∧ v467 ≤ 4 := by rw [← e467]; exact hI_M 598 74 (by decide)
              have e468 : M1 598 74 = v467 := ((w1_8 74 (by decide) (by decide) (by decide)).trans e467)
              have e469 : M458 598 74 = v467 := ((w458_51 74 (by decide) (by decide)).trans e468)
              have y470 : M458 598 74 = v467 := e469
              obtain ⟨v471, e471⟩ : ∃ z, M 598 79 = z := ⟨_, rfl⟩
              have b471 : 0 ≤ v471 ∧ v471 ≤ 255 := by rw [← e471]; exact hI_M 598 79 (by decide)
              have e472 : M1 598 79 = v471 := ((w1_8 79 (by decide) (by decide) (by decide)).trans e471)
              have e473 : M458 598 79 = v471 := ((w458_51 79 (by decide) (by decide)).trans e472)
              have y474 : M458 598 79 = v471 := e473
              obtain ⟨v475, e475⟩ : ∃ z, M458 598 80 = z := ⟨_, rfl⟩
              have b475 : 0 ≤ v475 ∧ v475 ≤ 7 := by rw [← e475]; exact hI_M458 598 80 (by decide)
              have y476 : M458 598 80 = v475 := e475
              have e477 : M458 598 89 = v453 := ((w458_51 89 (by decide) (by decide)).trans e454)
              have y478 : M458 598 89 = v453 := e477
              obtain ⟨v479, e479⟩ : ∃ z, M1 598 90 = z := ⟨_, rfl⟩
              have b479 : 0 ≤ v479 ∧ v479 ≤ 2200 := by rw [← e479]; exact hI_M1 598 90 (by decide)
              have e480 : M458 598 90 = v479 := ((w458_51 90 (by decide) (by decide)).trans e479)
              have y481 : M458 598 90 = v479 := e480
              have e482 : M458 598 100 = v455 := ((w458_51 100 (by decide) (by decide)).trans e455)
              have y483 : M458 598 100 = v455 := e482
              obtain ⟨v484, e484⟩ : ∃ z, M 598 107 = z := ⟨_, rfl⟩
              have b484 : 0 ≤ v484 ∧ v484 ≤ 16 := by rw [← e484]; exact hI_M 598 107 (by decide)
              have e485 : M1 598 107 = v484 := ((w1_8 107 (by decide) (by decide) (by decide)).trans e484)
              have e486 : M458 598 107 = v484 := ((w458_51 107 (by decide) (by decide)).trans e485)
              have y487 : M458 598 107 = v484 := e486
              have y488 : M458 598 80 = v475 := e475
              obtain ⟨v489, e489⟩ : ∃ z, M 598 75 = z := ⟨_, rfl⟩
              have b489 : 0 ≤ v489 ∧ v489 ≤ 1600 := by rw [← e489]; exact hI_M 598 75 (by decide)
              have e490 : M1 598 75 = v489 := ((w1_8 75 (by decide) (by decide) (by decide)).trans e489)
              have e491 : M458 598 75 = v489 := ((w458_51 75 (by decide) (by decide)).trans e490)
              have y492 : M458 598 75 = v489 := e491
              have y493 : M458 598 80 = v475 := e475
              obtain ⟨v494, e494⟩ : ∃ z, M458 598 81 = z := ⟨_, rfl⟩
              have b494 : (-1) ≤ v494 ∧ v494 ≤ 1600 := by rw [← e494]; exact hI_M458 598 81 (by decide)
              have y495 : M458 598 81 = v494 := e494
              have y496 : M458 598 89 = v453 := e477
              have y497 : M458 598 100 = v455 := e482
              refine jr.pick [2, 3, 4] rfl rfl ?_
              have y498 : M458 598 80 = v475 := e475
              exact ko M458 o m hI_M458 hH_M458 hS_M458  (fun a i f598 f659 f660 f664 f665 f666 f667 => ((w458_50 a i f598).trans ((w1_7 a i f598 f659 f660).trans (hF_M a i f598 f659 f660 f664 f665 f666 f667)))) (fun i g73 g74 g75 g76 g77 g78 g79 g80 g81 g89 g90 g100 g102 => ((w458_51 i g80 g81).trans ((w1_8 i g90 g100 g102).trans (hG_M i g73 g74 g75 g76 g77 g78 g79 g80 g81 g89 g90 g100 g102)))) (by omega) (by omega) (Or.inl ⟨by omega, by omega⟩) (by omega) (by omega) (by rw [e465, e461] <;> omega) (by omega) (CP.f (CP.trans hCP w1_3) (fun i => w458_50 659 i (by decide)) (w458_51 90 (by decide) (by decide))) (by rw [e477] <;> omega) (TXr.fr (TXr.fr hT (w1_8 72 (by decide) (by decide) (by decide)) (fun i => w1_7 651 i (by decide) (by decide) (by decide)) (fun i => w1_7 649 i (by decide) (by decide) (by decide)) (fun i => w1_7 650 i (by decide) (by decide) (by decide))) (w458_51 72 (by decide) (by decide)) (fun i => w458_50 651 i (by decide)) (fun i => w458_50 649 i (by decide)) (fun i => w458_50 650 i (by decide))) (fun _ => zr.fe zfz (by omega) (by omega)) (fun q => by exfalso; omega) (fun q => by exfalso; omega) hHD (fun q => by omega) (by omega)
          · have tq := ES.top40 gs2 (by omega) (by rw [hsg]; omega)
            rw [hsg, e3] at tq
            have dp1 := ES.dpos gs2 (by omega)
            rw [hsg] at dp1
            have dp2 := dp1 (Or.inl tq.1)
            have ho := abr_o s0 hsg (by omega) tq.1
            rw [ho, e3, e227] at hz3
            have hza : zar v2 = argn v2 := rfl
            have hzm : v2 = -1 → zar v2 = 1 := fun z => by rw [z]; decide
            have htn := ES.topn gs2 (by omega) (by rw [hsg]; exact tq.1)
            rw [hsg, e3, e227] at htn
            have hv6 : M1 666 (sg - 1) = v2 := e3
            clear dp1 w1_1
            refine jr.if_eq rfl rfl (by omega) (fun _ => ?_) (fun h => absurd (by decide) h)
            refine jr.aload_n rfl rfl ?_
            refine jr.bipush rfl (by decide) ?_
            refine jr_v rfl rfl (Or.inl rfl) rfl rfl (by decide) rfl ⟨rfl, Nat.le_of_ble_eq_true rfl, Nat.le_of_ble_eq_true rfl⟩ rfl (jc.deep (c_isSign hI_M1 (by omega) (fun t160_0 t160_1 => ?_) (fun f160_0 => ?_)) (by decide))
            · refine jr.if_eq rfl rfl (by omega) (fun h => absurd h (by decide)) (fun _ => ?_)
              refine jr.iload rfl rfl ?_
              refine jr.if_eq rfl rfl (by omega) (fun h => absurd h (by decide)) (fun _ => ?_)
              refine jr.aload_n rfl rfl ?_
              refine jr.dup rfl rfl ?_
              refine jr.getf (i := 102) (x := sg) (v := .int (Int32.ofInt (sg))) rfl rfl (by decide) rfl (by decide) rfl rfl hsg rfl ?_
              refine jr.iconst rfl ?_
              refine jr.isub rfl ?_
              refine jr.putf (i := 102) (x := (sg - 1)) rfl rfl (by decide) rfl (by decide) rfl rfl rfl rfl rfl ?_
              refine jr.aload_n rfl rfl ?_
              refine jr.dup rfl rfl ?_
              obtain ⟨v499, e499⟩ : ∃ z, M1 598 100 = z := ⟨_, rfl⟩
              have b499 : 0 ≤ v499 ∧ v499 ≤ 13 := by rw [← e499]; exact hI_M1 598 100 (by decide)
              refine jr.getf (i := 100) (x := v499) (v := .int (Int32.ofInt (v499))) rfl rfl (by decide) rfl (by decide) rfl rfl ((ju_i _ _ (by decide)).trans e499) rfl ?_
              refine jr.iconst rfl ?_
              refine jr.isub rfl ?_
              refine jr.putf (i := 100) (x := (v499 - 1)) rfl rfl (by decide) rfl (by decide) rfl rfl rfl rfl rfl ?_
              refine jr.aload_n rfl rfl ?_
              obtain ⟨v500, e500⟩ : ∃ z, M 598 73 = z := ⟨_, rfl⟩
              have b500 : 0 ≤ v500 ∧ v500 ≤ 1600 := by rw [← e500]; exact hI_M 598 73 (by decide)
              have e501 : M1 598 73 = v500 := ((w1_8 73 (by decide) (by decide) (by decide)).trans e500)
              obtain ⟨v502, e502⟩ : ∃ z, M 598 72 = z := ⟨_, rfl⟩
              have b502 : 0 ≤ v502 ∧ v502 ≤ 1600 := by rw [← e502]; exact hI_M 598 72 (by decide)
              have e503 : M1 598 72 = v502 := ((w1_8 72 (by decide) (by decide) (by decide)).trans e502)
              obtain ⟨v504, e504⟩ : ∃ z, M 598 80 = z := ⟨_, rfl⟩
              have b504 : 0 ≤ v504 ∧ v504 ≤ 7 := by rw [← e504]; exact hI_M 598 80 (by decide)
              have e505 : M1 598 80 = v504 := ((w1_8 80 (by decide) (by decide) (by decide)).trans e504)
              obtain ⟨v506, e506⟩ : ∃ z, M 598 74 = z := ⟨_, rfl⟩
              have b506 : 0 ≤ v506 ∧ v506 ≤ 4 := by rw [← e506]; exact hI_M 598 74 (by decide)
              have e507 : M1 598 74 = v506 := ((w1_8 74 (by decide) (by decide) (by decide)).trans e506)
              obtain ⟨v510, e510⟩ : ∃ z, M 598 75 = z := ⟨_, rfl⟩
              have b510 : 0 ≤ v510 ∧ v510 ≤ 1600 := by rw [← e510]; exact hI_M 598 75 (by decide)
              have e511 : M1 598 75 = v510 := ((w1_8 75 (by decide) (by decide) (by decide)).trans e510)
              obtain ⟨v513, e513⟩ : ∃ z, M 598 79 = z := ⟨_, rfl⟩
              have b513 : 0 ≤ v513 ∧ v513 ≤ 255 := by rw [← e513]; exact hI_M 598 79 (by decide)
              have e514 : M1 598 79 = v513 := ((w1_8 79 (by decide) (by decide) (by decide)).trans e513)
              obtain ⟨v517, e517⟩ : ∃ z, M 598 81 = z := ⟨_, rfl⟩
              have b517 : (-1) ≤ v517 ∧ v517 ≤ 1600 := by rw [← e517]; exact hI_M 598 81 (by decide)
              have e518 : M1 598 81 = v517 := ((w1_8 81 (by decide) (by decide) (by decide)).trans e517)
              obtain ⟨v520, e520⟩ : ∃ z, M 598 89 = z := ⟨_, rfl⟩
              have b520 : 0 ≤ v520 ∧ v520 ≤ 301 := by rw [← e520]; exact hI_M 598 89 (by decide)
              have e521 : M1 598 89 = v520 := ((w1_8 89 (by decide) (by decide) (by decide)).trans e520)
              refine jr_v rfl rfl (Or.inl rfl) rfl rfl (by decide) rfl ⟨rfl, Nat.le_of_ble_eq_true rfl, Nat.le_of_ble_eq_true rfl⟩ rfl (jc.deep (c_next_z (f := f) (N := N) (RI.u (RI.u hI_M1 (a := 598) (i := 102) (show (0 : Int) ≤ _ ∧ _ ≤ (400 : Int) from by omega)) (a := 598) (i := 100) (show (0 : Int) ≤ _ ∧ _ ≤ (13 : Int) from by omega)) (RH.o (RH.o hH_M1 (by decide) (by decide) (by decide)) (by decide) (by decide) (by decide)) (RF.o (RF.o hS_M1 (by decide) (by decide)) (by decide) (by decide)) (by rw [((ju_i _ _ (by decide)).trans ((ju_i _ _ (by decide)).trans e501)), ((ju_i _ _ (by decide)).trans ((ju_i _ _ (by decide)).trans e503))]; omega) (TKr.oo (TKr.oo (TKr.fr hK0 (w1_8 72 (by decide) (by decide) (by decide)) (fun i => w1_7 651 i (by decide) (by decide) (by decide)) (fun i => w1_7 649 i (by decide) (by decide) (by decide)) (fun i => w1_7 650 i (by decide) (by decide) (by decide)) (w1_8 73 (by decide) (by decide) (by decide)) (w1_8 74 (by decide) (by decide) (by decide)) (w1_8 75 (by decide) (by decide) (by decide)) (w1_8 76 (by decide) (by decide) (by decide)) (w1_8 77 (by decide) (by decide) (by decide)) (w1_8 78 (by decide) (by decide) (by decide)) (w1_8 79 (by decide) (by decide) (by decide))) (by decide)) (by decide)) (by rw [((ju_i _ _ (by decide)).trans ((ju_i _ _ (by decide)).trans e505))]; omega) (by rw [((ju_i _ _ (by decide)).trans ((ju_i _ _ (by decide)).trans e507))]; omega) (fun M524 hI_M524 hH_M524 hS_M524 qa524 qb524 qt524 sn524 hK524 w524_50 w524_51 => ?_)) (by decide))
              have y508 : (ju (ju M1 598 102 (sg - 1)) 598 100 (v499 - 1)) 598 73 = v500 := ((ju_i _ _ (by decide)).trans ((ju_i _ _ (by decide)).trans e501))
              have y509 : (ju (ju M1 598 102 (sg - 1)) 598 100 (v499 - 1)) 598 74 = v506 := ((ju_i _ _ (by decide)).trans ((ju_i _ _ (by decide)).trans e507))
              have y512 : (ju (ju M1 598 102 (sg - 1)) 598 100 (v499 - 1)) 598 75 = v510 := ((ju_i _ _ (by decide)).trans ((ju_i _ _ (by decide)).trans e511))
              have y515 : (ju (ju M1 598 102 (sg - 1)) 598 100 (v499 - 1)) 598 79 = v513 := ((ju_i _ _ (by decide)).trans ((ju_i _ _ (by decide)).trans e514))
              have y516 : (ju (ju M1 598 102 (sg - 1)) 598 100 (v499 - 1)) 598 80 = v504 := ((ju_i _ _ (by decide)).trans ((ju_i _ _ (by decide)).trans e505))
              have y519 : (ju (ju M1 598 102 (sg - 1)) 598 100 (v499 - 1)) 598 81 = v517 := ((ju_i _ _ (by decide)).trans ((ju_i _ _ (by decide)).trans e518))
              have y522 : (ju (ju M1 598 102 (sg - 1)) 598 100 (v499 - 1)) 598 89 = v520 := ((ju_i _ _ (by decide)).trans ((ju_i _ _ (by decide)).trans e521))
              have y523 : (ju (ju M1 598 102 (sg - 1)) 598 100 (v499 - 1)) 598 100 = v499 - 1 := (ju_same _ _ _ _)
              have tb524 : TK (ju (ju M1 598 102 (sg - 1)) 598 100 (v499 - 1)) = TK M1 := ((TK.o (Or.inr ⟨by decide, by decide⟩)).trans ((TK.o (Or.inr ⟨by decide, by decide⟩)).trans rfl))
              have x524_72 := w524_51 72 (by decide) (by decide) (by decide) (by decide) (by decide) (by decide) (by decide)
              have x524_80 := w524_51 80 (by decide) (by decide) (by decide) (by decide) (by decide) (by decide) (by decide)
              have x524_81 := w524_51 81 (by decide) (by decide) (by decide) (by decide) (by decide) (by decide) (by decide)
              have x524_89 := w524_51 89 (by decide) (by decide) (by decide) (by decide) (by decide) (by decide) (by decide)
              have x524_100 := w524_51 100 (by decide) (by decide) (by decide) (by decide) (by decide) (by decide) (by decide)
              have hT524 := hK524.1
              have kk524 := hK524.kz
              have hE := ES.clo1 gs2 hsg e499 tq.1 e3 (by omega) (by omega)
              have ck : 0 ≤ kcK v2 := by unfold kcK; split <;> omega
              have y528 : (ju (ju M1 598 102 (sg - 1)) 598 100 (v499 - 1)) 598 73 = v500 := ((ju_i _ _ (by decide)).trans ((ju_i _ _ (by decide)).trans e501))
              have y529 : (ju (ju M1 598 102 (sg - 1)) 598 100 (v499 - 1)) 598 89 = v520 := ((ju_i _ _ (by decide)).trans ((ju_i _ _ (by decide)).trans e521))
              have y530 : (ju (ju M1 598 102 (sg - 1)) 598 100 (v499 - 1)) 598 100 = v499 - 1 := (ju_same _ _ _ _)
              have x524_89 := w524_51 89 (by decide) (by decide) (by decide) (by decide) (by decide) (by decide) (by decide)
              have x524_100 := w524_51 100 (by decide) (by decide) (by decide) (by decide) (by decide) (by decide) (by decide)
              have hE := ES.fr2 hE w524_50 (w524_51 88 (by decide) (by decide) (by decide) (by decide) (by decide) (by decide) (by decide)) (w524_51 90 (by decide) (by decide) (by decide) (by decide) (by decide) (by decide) (by decide)) (w524_51 101 (by decide) (by decide) (by decide) (by decide) (by decide) (by decide) (by decide)) (w524_51 102 (by decide) (by decide) (by decide) (by decide) (by decide) (by decide) (by decide)) (w524_51 107 (by decide) (by decide) (by decide) (by decide) (by decide) (by decide) (by decide)) (k' := kk + kcK v2) (d' := 0) (z' := 0) (by omega) (by omega) (by omega) (by omega)
              have co1 : v2 = -1 → kcO v2 = 1 := fun z => by unfold kcO; rw [if_pos z]
              refine jr.iload_n rfl rfl ?_
              refine jr.iconst rfl ?_
              refine jr.icmp_eq rfl rfl (by omega) (by omega) (fun h197 => ?_) (fun h197 => ?_)
              · exact absurd h197 (by omega)
              · refine jr.aload_n rfl rfl ?_
                refine jr.sipush rfl (by decide) ?_
                refine jr.iload_n rfl rfl ?_
                refine jr.iadd rfl ?_
                refine jr.lconst (x := 0) rfl (by decide) ?_
                obtain ⟨v531, e531⟩ : ∃ z, M1 598 90 = z := ⟨_, rfl⟩
                have b531 : 0 ≤ v531 ∧ v531 ≤ 2200 := by rw [← e531]; exact hI_M1 598 90 (by decide)
                have e532 : M524 598 90 = v531 := ((w524_51 90 (by decide) (by decide) (by decide) (by decide) (by decide) (by decide) (by decide)).trans ((ju_i _ _ (by decide)).trans ((ju_i _ _ (by decide)).trans e531)))
                have e533 : M524 598 100 = v499 - 1 := ((w524_51 100 (by decide) (by decide) (by decide) (by decide) (by decide) (by decide) (by decide)).trans (ju_same _ _ _ _))
                obtain ⟨v535, e535⟩ : ∃ z, M 598 107 = z := ⟨_, rfl⟩
                have b535 : 0 ≤ v535 ∧ v535 ≤ 16 := by rw [← e535]; exact hI_M 598 107 (by decide)
                have e536 : M1 598 107 = v535 := ((w1_8 107 (by decide) (by decide) (by decide)).trans e535)
                have e537 : M524 598 107 = v535 := ((w524_51 107 (by decide) (by decide) (by decide) (by decide) (by decide) (by decide) (by decide)).trans ((ju_i _ _ (by decide)).trans ((ju_i _ _ (by decide)).trans e536)))
                refine jr_v rfl rfl (Or.inl rfl) rfl rfl (by decide) rfl ⟨rfl, Nat.le_of_ble_eq_true rfl, Nat.le_of_ble_eq_true rfl⟩ rfl (jc.deep (r_emit e532 (by omega) (by omega) (by omega) ?_) (by decide))
                have y534 : M524 598 100 = v499 - 1 := e533
                have y538 : M524 598 107 = v535 := e537
                have al := argn_le v2
                have co : kcO v2 = argn v2 := by unfold kcO; rw [if_neg (by omega)]
                have ck2 : kcK v2 = 2 := by unfold kcK; rw [if_neg (by omega)]
                have nd : ndo (340 + v2) = argn v2 := (by rcases (show v2 = 25 ∨ v2 = 26 ∨ v2 = 27 ∨ v2 = 28 ∨ v2 = 29 ∨ v2 = 30 by omega) with r | r | r | r | r | r <;> rw [r] <;> decide)
                have dl : dlo (340 + v2) = 1 - argn v2 := (by rcases (show v2 = 25 ∨ v2 = 26 ∨ v2 = 27 ∨ v2 = 28 ∨ v2 = 29 ∨ v2 = 30 by omega) with r | r | r | r | r | r <;> rw [r] <;> decide)
                have hE := ES.emit hE e532 (340 + v2) 0 kk (by unfold vop; omega) (by omega) (by unfold exo; omega) (by unfold jpo; omega) (by omega) (by omega) (by omega) (by omega) (by omega) (by omega)
                refine jr.goto rfl rfl ?_
                refine jr.goto rfl rfl ?_
                have e539 : M524 598 72 = v502 := ((w524_51 72 (by decide) (by decide) (by decide) (by decide) (by decide) (by decide) (by decide)).trans ((ju_i _ _ (by decide)).trans ((ju_i _ _ (by decide)).trans e503)))
                have y540 : (ju (ju (ju M524 659 v531 (340 + v2)) 660 v531 0) 598 90 (v531 + 1)) 598 72 = v502 := ((ju_i _ _ (by decide)).trans ((ju_c _ _ (by decide)).trans ((ju_c _ _ (by decide)).trans e539)))
                obtain ⟨v541, e541⟩ : ∃ z, M524 598 73 = z := ⟨_, rfl⟩
                have b541 : 0 ≤ v541 ∧ v541 ≤ 1600 := by rw [← e541]; exact hI_M524 598 73 (by decide)
                have y542 : (ju (ju (ju M524 659 v531 (340 + v2)) 660 v531 0) 598 90 (v531 + 1)) 598 73 = v541 := ((ju_i _ _ (by decide)).trans ((ju_c _ _ (by decide)).trans ((ju_c _ _ (by decide)).trans e541)))
                obtain ⟨v543, e543⟩ : ∃ z, M524 598 74 = z := ⟨_, rfl⟩
                have b543 : 0 ≤ v543 ∧ v543 ≤ 4 := by rw [← e543]; exact hI_M524 598 74 (by decide)
                have y544 : (ju (ju (ju M524 659 v531 (340 + v2)) 660 v531 0) 598 90 (v531 + 1)) 598 74 = v543 := ((ju_i _ _ (by decide)).trans ((ju_c _ _ (by decide)).trans ((ju_c _ _ (by decide)).trans e543)))
                obtain ⟨v545, e545⟩ : ∃ z, M524 598 79 = z := ⟨_, rfl⟩
                have b545 : 0 ≤ v545 ∧ v545 ≤ 255 := by rw [← e545]; exact hI_M524 598 79 (by decide)
                have y546 : (ju (ju (ju M524 659 v531 (340 + v2)) 660 v531 0) 598 90 (v531 + 1)) 598 79 = v545 := ((ju_i _ _ (by decide)).trans ((ju_c _ _ (by decide)).trans ((ju_c _ _ (by decide)).trans e545)))
                have e547 : M524 598 80 = v504 := ((w524_51 80 (by decide) (by decide) (by decide) (by decide) (by decide) (by decide) (by decide)).trans ((ju_i _ _ (by decide)).trans ((ju_i _ _ (by decide)).trans e505)))
                have y548 : (ju (ju (ju M524 659 v531 (340 + v2)) 660 v531 0) 598 90 (v531 + 1)) 598 80 = v504 := ((ju_i _ _ (by decide)).trans ((ju_c _ _ (by decide)).trans ((ju_c _ _ (by decide)).trans e547)))
                have e549 : M524 598 89 = v520 := ((w524_51 89 (by decide) (by decide) (by decide) (by decide) (by decide) (by decide) (by decide)).trans ((ju_i _ _ (by decide)).trans ((ju_i _ _ (by decide)).trans e521)))
                have y550 : (ju (ju (ju M524 659 v531 (340 + v2)) 660 v531 0) 598 90 (v531 + 1)) 598 89 = v520 := ((ju_i _ _ (by decide)).trans ((ju_c _ _ (by decide)).trans ((ju_c _ _ (by decide)).trans e549)))
                have y551 : (ju (ju (ju M524 659 v531 (340 + v2)) 660 v531 0) 598 90 (v531 + 1)) 598 90 = v531 + 1 := (ju_same _ _ _ _)
                have y552 : (ju (ju (ju M524 659 v531 (340 + v2)) 660 v531 0) 598 90 (v531 + 1)) 598 100 = v499 - 1 := ((ju_i _ _ (by decide)).trans ((ju_c _ _ (by decide)).trans ((ju_c _ _ (by decide)).trans e533)))
                have y553 : (ju (ju (ju M524 659 v531 (340 + v2)) 660 v531 0) 598 90 (v531 + 1)) 598 107 = v535 := ((ju_i _ _ (by decide)).trans ((ju_c _ _ (by decide)).trans ((ju_c _ _ (by decide)).trans e537)))
                have y554 : TK (ju (ju (ju M524 659 v531 (340 + v2)) 660 v531 0) 598 90 (v531 + 1)) = TK M524 := ((TK.o (Or.inr ⟨by decide, by decide⟩)).trans ((TK.o (Or.inl (by decide))).trans ((TK.o (Or.inl (by decide))).trans rfl)))
                have y555 : (ju (ju (ju M524 659 v531 (340 + v2)) 660 v531 0) 598 90 (v531 + 1)) 598 80 = v504 := ((ju_i _ _ (by decide)).trans ((ju_c _ _ (by decide)).trans ((ju_c _ _ (by decide)).trans e547)))
                have y556 : TK (ju (ju (ju M524 659 v531 (340 + v2)) 660 v531 0) 598 90 (v531 + 1)) = TK M524 := ((TK.o (Or.inr ⟨by decide, by decide⟩)).trans ((TK.o (Or.inl (by decide))).trans ((TK.o (Or.inl (by decide))).trans rfl)))
                obtain ⟨v557, e557⟩ : ∃ z, M524 598 75 = z := ⟨_, rfl⟩
                have b557 : 0 ≤ v557 ∧ v557 ≤ 1600 := by rw [← e557]; exact hI_M524 598 75 (by decide)
                have y558 : (ju (ju (ju M524 659 v531 (340 + v2)) 660 v531 0) 598 90 (v531 + 1)) 598 75 = v557 := ((ju_i _ _ (by decide)).trans ((ju_c _ _ (by decide)).trans ((ju_c _ _ (by decide)).trans e557)))
                have y559 : (ju (ju (ju M524 659 v531 (340 + v2)) 660 v531 0) 598 90 (v531 + 1)) 598 80 = v504 := ((ju_i _ _ (by decide)).trans ((ju_c _ _ (by decide)).trans ((ju_c _ _ (by decide)).trans e547)))
                have e560 : M524 598 81 = v517 := ((w524_51 81 (by decide) (by decide) (by decide) (by decide) (by decide) (by decide) (by decide)).trans ((ju_i _ _ (by decide)).trans ((ju_i _ _ (by decide)).trans e518)))
                have y561 : (ju (ju (ju M524 659 v531 (340 + v2)) 660 v531 0) 598 90 (v531 + 1)) 598 81 = v517 := ((ju_i _ _ (by decide)).trans ((ju_c _ _ (by decide)).trans ((ju_c _ _ (by decide)).trans e560)))
                have y562 : (ju (ju (ju M524 659 v531 (340 + v2)) 660 v531 0) 598 90 (v531 + 1)) 598 89 = v520 := ((ju_i _ _ (by decide)).trans ((ju_c _ _ (by decide)).trans ((ju_c _ _ (by decide)).trans e549)))
                have y563 : (ju (ju (ju M524 659 v531 (340 + v2)) 660 v531 0) 598 90 (v531 + 1)) 598 100 = v499 - 1 := ((ju_i _ _ (by decide)).trans ((ju_c _ _ (by decide)).trans ((ju_c _ _ (by decide)).trans e533)))
                refine jr.pick [2, 3, 4] rfl rfl ?_
                have y564 : (ju (ju (ju M524 659 v531 (340 + v2)) 660 v531 0) 598 90 (v531 + 1)) 598 80 = v504 := ((ju_i _ _ (by decide)).trans ((ju_c _ _ (by decide)).trans ((ju_c _ _ (by decide)).trans e547)))
                have y565 : TK (ju (ju (ju M524 659 v531 (340 + v2)) 660 v531 0) 598 90 (v531 + 1)) = TK M524 := ((TK.o (Or.inr ⟨by decide, by decide⟩)).trans ((TK.o (Or.inl (by decide))).trans ((TK.o (Or.inl (by decide))).trans rfl)))
                exact ko (ju (ju (ju M524 659 v531 (340 + v2)) 660 v531 0) 598 90 (v531 + 1)) o m (RI.u (RI.u (RI.u hI_M524 (a := 659) (i := v531) (by rw [xri_row rfl rfl]; show (0 : Int) ≤ _ ∧ _ ≤ (1000 : Int); omega)) (a := 660) (i := v531) (by rw [xri_row rfl rfl]; show (-9223372036854775808 : Int) ≤ _ ∧ _ ≤ (9223372036854775807 : Int); omega)) (a := 598) (i := 90) (show (0 : Int) ≤ _ ∧ _ ≤ (2200 : Int) from by omega)) (RH.o (RH.o (RH.o hH_M524 (by decide) (by decide) (by decide)) (by decide) (by decide) (by decide)) (by decide) (by decide) (by decide)) (RF.o (RF.o (RF.o hS_M524 (by decide) (by decide)) (by decide) (by decide)) (by decide) (by decide))  (fun a i f598 f659 f660 f664 f665 f666 f667 => ((ju_c _ _ f598).trans ((ju_c _ _ f660).trans ((ju_c _ _ f659).trans ((w524_50 a i f598).trans ((ju_c _ _ f598).trans ((ju_c _ _ f598).trans ((w1_7 a i f598 f659 f660).trans (hF_M a i f598 f659 f660 f664 f665 f666 f667))))))))) (fun i g73 g74 g75 g76 g77 g78 g79 g80 g81 g89 g90 g100 g102 => ((ju_i _ _ g90).trans ((ju_c _ _ (by decide)).trans ((ju_c _ _ (by decide)).trans ((w524_51 i g73 g74 g75 g76 g77 g78 g79).trans ((ju_i _ _ g100).trans ((ju_i _ _ g102).trans ((w1_8 i g90 g100 g102).trans (hG_M i g73 g74 g75 g76 g77 g78 g79 g80 g81 g89 g90 g100 g102))))))))) (by omega) (by omega) (Or.inr (GS.cast (o := kcO v2 + dlo (340 + v2)) ⟨by omega, ES.adj hE (k' := kk) (z' := 0) (by omega) (by omega) (by omega), by omega, by omega, by omega, by omega⟩ (by omega))) (by omega) (by omega) (by rw [((ju_i _ _ (by decide)).trans ((ju_c _ _ (by decide)).trans ((ju_c _ _ (by decide)).trans e541))), ((ju_i _ _ (by decide)).trans ((ju_c _ _ (by decide)).trans ((ju_c _ _ (by decide)).trans e539)))] <;> omega) (by omega) (CP.emit (CP.f (CP.o (CP.o (CP.trans hCP w1_3) (by decide) (Or.inr (by decide))) (by decide) (Or.inr (by decide))) (fun i => w524_50 659 i (by decide)) (w524_51 90 (by decide) (by decide) (by decide) (by decide) (by decide) (by decide) (by decide))) e532) (by rw [((ju_i _ _ (by decide)).trans ((ju_c _ _ (by decide)).trans ((ju_c _ _ (by decide)).trans e549)))] <;> omega) (TXr.o (TXr.k (TXr.k hT524 (by decide) (by decide) (by decide) (by decide)) (by decide) (by decide) (by decide) (by decide)) (by decide)) (fun q => by exfalso; omega) (fun q => ⟨_, (TKr.oo (TKr.cc (TKr.cc hK524 (by decide) (by decide) (by decide) (by decide)) (by decide) (by decide) (by decide) (by decide)) (by decide)), zr.eqx (zr.clo hz3 hrk (by omega) (hKr.sy (by omega) (by omega))) (by omega) rfl (by omega) (by omega) rfl (((abr_fr s0 (fun i => ju_c _ _ (by decide)) (fun i => ju_c _ _ (by decide)) (fun i => ju_c _ _ (by decide)) (ju_i _ _ (by decide))).trans ((abr_fr s0 (fun i => ju_c _ _ (by decide)) (fun i => ju_c _ _ (by decide)) (fun i => ju_c _ _ (by decide)) (ju_c _ _ (by decide))).trans ((abr_fr s0 (fun i => ju_c _ _ (by decide)) (fun i => ju_c _ _ (by decide)) (fun i => ju_c _ _ (by decide)) (ju_c _ _ (by decide))).trans (abr_fr s0 (fun i => w524_50 664 i (by decide)) (fun i => w524_50 666 i (by decide)) (fun i => w524_50 667 i (by decide)) (w524_51 102 (by decide) (by decide) (by decide) (by decide) (by decide) (by decide) (by decide)))))).trans (abr_fr s0 (fun i => ju_c _ _ (by decide)) (fun i => ju_c _ _ (by decide)) (fun i => ju_c _ _ (by decide)) (ju_i _ _ (by decide))))⟩) (fun _ => (NU.fr (NU.fr (NU.fr (NU.fr (NU.fr (NU.pop hNU3 hsg) (fun i => ju_c _ _ (by decide)) (ju_i _ _ (by decide))) (fun i => w524_50 664 i (by decide)) (w524_51 102 (by decide) (by decide) (by decide) (by decide) (by decide) (by decide) (by decide))) (fun i => ju_c _ _ (by decide)) (ju_c _ _ (by decide))) (fun i => ju_c _ _ (by decide)) (ju_c _ _ (by decide))) (fun i => ju_c _ _ (by decide)) (ju_i _ _ (by decide)))) hHD (fun q => by omega) (by omega)
            · refine jr.if_eq rfl rfl (by omega) (fun _ => ?_) (fun h => absurd (by decide) h)
              refine jr.aload_n rfl rfl ?_
              obtain ⟨v566, e566⟩ : ∃ z, M 598 80 = z := ⟨_, rfl⟩
              have b566 : 0 ≤ v566 ∧ v566 ≤ 7 := by rw [← e566]; exact hI_M 598 80 (by decide)
              have e567 : M1 598 80 = v566 := ((w1_8 80 (by decide) (by decide) (by decide)).trans e566)
              obtain ⟨v568, e568⟩ : ∃ z, M 598 89 = z := ⟨_, rfl⟩
              have b568 : 0 ≤ v568 ∧ v568 ≤ 301 := by rw [← e568]; exact hI_M 598 89 (by decide)
              have e569 : M1 598 89 = v568 := ((w1_8 89 (by decide) (by decide) (by decide)).trans e568)
              obtain ⟨v570, e570⟩ : ∃ z, M1 598 100 = z := ⟨_, rfl⟩
              have b570 : 0 ≤ v570 ∧ v570 ≤ 13 := by rw [← e570]; exact hI_M1 598 100 (by decide)
              obtain ⟨v571, e571⟩ : ∃ z, M 598 81 = z := ⟨_, rfl⟩
              have b571 : (-1) ≤ v571 ∧ v571 ≤ 1600 := by rw [← e571]; exact hI_M 598 81 (by decide)
              have e572 : M1 598 81 = v571 := ((w1_8 81 (by decide) (by decide) (by decide)).trans e571)
              refine jr_v rfl rfl (Or.inl rfl) rfl rfl (by decide) rfl ⟨rfl, Nat.le_of_ble_eq_true rfl, Nat.le_of_ble_eq_true rfl⟩ rfl (jc.deep (c_wrongToken_z (f := f) (N := N) hI_M1 hH_M1 hS_M1 (TKr.fr hK0 (w1_8 72 (by decide) (by decide) (by decide)) (fun i => w1_7 651 i (by decide) (by decide) (by decide)) (fun i => w1_7 649 i (by decide) (by decide) (by decide)) (fun i => w1_7 650 i (by decide) (by decide) (by decide)) (w1_8 73 (by decide) (by decide) (by decide)) (w1_8 74 (by decide) (by decide) (by decide)) (w1_8 75 (by decide) (by decide) (by decide)) (w1_8 76 (by decide) (by decide) (by decide)) (w1_8 77 (by decide) (by decide) (by decide)) (w1_8 78 (by decide) (by decide) (by decide)) (w1_8 79 (by decide) (by decide) (by decide))) (by rw [e567]; omega) (fun M573 hI_M573 hH_M573 hS_M573 qn573 q0573 q1573 w573_50 w573_51 => ?_)) (by decide))
              have tk573 : TK M573 = TK M1 := TK.fr (w573_51 73 (by decide) (by decide)) (w573_51 74 (by decide) (by decide))
              have x573_72 := w573_51 72 (by decide) (by decide)
              have x573_73 := w573_51 73 (by decide) (by decide)
              have x573_74 := w573_51 74 (by decide) (by decide)
              have x573_75 := w573_51 75 (by decide) (by decide)
              have x573_76 := w573_51 76 (by decide) (by decide)
              have x573_78 := w573_51 78 (by decide) (by decide)
              have x573_79 := w573_51 79 (by decide) (by decide)
              have x573_89 := w573_51 89 (by decide) (by decide)
              have x573_100 := w573_51 100 (by decide) (by decide)
              have zfz : zr f N xs (zft (M573 598 80) (M573 598 81)) := by first | exact zr.rfz (zr.argf hz3 hrk (by omega) (hKr.sn (by omega))) q0573 q1573 | exact zr.rfz (zr.clof hz3 hrk (by omega) (hKr.sn (by omega))) q0573 q1573
              refine jr.goto rfl rfl ?_
              obtain ⟨v574, e574⟩ : ∃ z, M 598 72 = z := ⟨_, rfl⟩
              have b574 : 0 ≤ v574 ∧ v574 ≤ 1600 := by rw [← e574]; exact hI_M 598 72 (by decide)
              have e575 : M1 598 72 = v574 := ((w1_8 72 (by decide) (by decide) (by decide)).trans e574)
              have e576 : M573 598 72 = v574 := ((w573_51 72 (by decide) (by decide)).trans e575)
              have y577 : M573 598 72 = v574 := e576
              obtain ⟨v578, e578⟩ : ∃ z, M 598 73 = z := ⟨_, rfl⟩
              have b578 : 0 ≤ v578 ∧ v578 ≤ 1600 := by rw [← e578]; exact hI_M 598 73 (by decide)
              have e579 : M1 598 73 = v578 := ((w1_8 73 (by decide) (by decide) (by decide)).trans e578)
              have e580 : M573 598 73 = v578 := ((w573_51 73 (by decide) (by decide)).trans e579)
              have y581 : M573 598 73 = v578 := e580
              obtain ⟨v582, e582⟩ : ∃ z, M 598 74 = z := ⟨_, rfl⟩
              have b582 : 0 ≤ v582 ∧ v582 ≤ 4 := by rw [← e582]; exact hI_M 598 74 (by decide)
              have e583 : M1 598 74 = v582 := ((w1_8 74 (by decide) (by decide) (by decide)).trans e582)
              have e584 : M573 598 74 = v582 := ((w573_51 74 (by decide) (by decide)).trans e583)
              have y585 : M573 598 74 = v582 := e584
              obtain ⟨v586, e586⟩ : ∃ z, M 598 79 = z := ⟨_, rfl⟩
              have b586 : 0 ≤ v586 ∧ v586 ≤ 255 := by rw [← e586]; exact hI_M 598 79 (by decide)
              have e587 : M1 598 79 = v586 := ((w1_8 79 (by decide) (by decide) (by decide)).trans e586)
              have e588 : M573 598 79 = v586 := ((w573_51 79 (by decide) (by decide)).trans e587)
              have y589 : M573 598 79 = v586 := e588
              obtain ⟨v590, e590⟩ : ∃ z, M573 598 80 = z := ⟨_, rfl⟩
              have b590 : 0 ≤ v590 ∧ v590 ≤ 7 := by rw [← e590]; exact hI_M573 598 80 (by decide)
              have y591 : M573 598 80 = v590 := e590
              have e592 : M573 598 89 = v568 := ((w573_51 89 (by decide) (by decide)).trans e569)
              have y593 : M573 598 89 = v568 := e592
              obtain ⟨v594, e594⟩ : ∃ z, M1 598 90 = z := ⟨_, rfl⟩
              have b594 : 0 ≤ v594 ∧ v594 ≤ 2200 := by rw [← e594]; exact hI_M1 598 90 (by decide)
              have e595 : M573 598 90 = v594 := ((w573_51 90 (by decide) (by decide)).trans e594)
              have y596 : M573 598 90 = v594 := e595
              have e597 : M573 598 100 = v570 := ((w573_51 100 (by decide) (by decide)).trans e570)
              have y598 : M573 598 100 = v570 := e597
              obtain ⟨v599, e599⟩ : ∃ z, M 598 107 = z := ⟨_, rfl⟩
              have b599 : 0 ≤ v599 ∧ v599 ≤ 16 := by rw [← e599]; exact hI_M 598 107 (by decide)
              have e600 : M1 598 107 = v599 := ((w1_8 107 (by decide) (by decide) (by decide)).trans e599)
              have e601 : M573 598 107 = v599 := ((w573_51 107 (by decide) (by decide)).trans e600)
              have y602 : M573 598 107 = v599 := e601
              have y603 : M573 598 80 = v590 := e590
              obtain ⟨v604, e604⟩ : ∃ z, M 598 75 = z := ⟨_, rfl⟩
              have b604 : 0 ≤ v604 ∧ v604 ≤ 1600 := by rw [← e604]; exact hI_M 598 75 (by decide)
              have e605 : M1 598 75 = v604 := ((w1_8 75 (by decide) (by decide) (by decide)).trans e604)
              have e606 : M573 598 75 = v604 := ((w573_51 75 (by decide) (by decide)).trans e605)
              have y607 : M573 598 75 = v604 := e606
              have y608 : M573 598 80 = v590 := e590
              obtain ⟨v609, e609⟩ : ∃ z, M573 598 81 = z := ⟨_, rfl⟩
              have b609 : (-1) ≤ v609 ∧ v609 ≤ 1600 := by rw [← e609]; exact hI_M573 598 81 (by decide)
              have y610 : M573 598 81 = v609 := e609
              have y611 : M573 598 89 = v568 := e592
              have y612 : M573 598 100 = v570 := e597
              refine jr.pick [2, 3, 4] rfl rfl ?_
              have y613 : M573 598 80 = v590 := e590
              exact ko M573 o m hI_M573 hH_M573 hS_M573  (fun a i f598 f659 f660 f664 f665 f666 f667 => ((w573_50 a i f598).trans ((w1_7 a i f598 f659 f660).trans (hF_M a i f598 f659 f660 f664 f665 f666 f667)))) (fun i g73 g74 g75 g76 g77 g78 g79 g80 g81 g89 g90 g100 g102 => ((w573_51 i g80 g81).trans ((w1_8 i g90 g100 g102).trans (hG_M i g73 g74 g75 g76 g77 g78 g79 g80 g81 g89 g90 g100 g102)))) (by omega) (by omega) (Or.inl ⟨by omega, by omega⟩) (by omega) (by omega) (by rw [e580, e576] <;> omega) (by omega) (CP.f (CP.trans hCP w1_3) (fun i => w573_50 659 i (by decide)) (w573_51 90 (by decide) (by decide))) (by rw [e592] <;> omega) (TXr.fr (TXr.fr hT (w1_8 72 (by decide) (by decide) (by decide)) (fun i => w1_7 651 i (by decide) (by decide) (by decide)) (fun i => w1_7 649 i (by decide) (by decide) (by decide)) (fun i => w1_7 650 i (by decide) (by decide) (by decide))) (w573_51 72 (by decide) (by decide)) (fun i => w573_50 651 i (by decide)) (fun i => w573_50 649 i (by decide)) (fun i => w573_50 650 i (by decide))) (fun _ => zr.fe zfz (by omega) (by omega)) (fun q => by exfalso; omega) (fun q => by exfalso; omega) hHD (fun q => by omega) (by omega)
    · obtain ⟨v614, e614⟩ : ∃ z, M 598 89 = z := ⟨_, rfl⟩
      have b614 : 0 ≤ v614 ∧ v614 ≤ 301 := by rw [← e614]; exact hI_M 598 89 (by decide)
      have e615 : M1 598 89 = v614 := ((w1_8 89 (by decide) (by decide) (by decide)).trans e614)
      obtain ⟨v616, e616⟩ : ∃ z, M 598 80 = z := ⟨_, rfl⟩
      have b616 : 0 ≤ v616 ∧ v616 ≤ 7 := by rw [← e616]; exact hI_M 598 80 (by decide)
      have e617 : M1 598 80 = v616 := ((w1_8 80 (by decide) (by decide) (by decide)).trans e616)
      have y618 : M1 598 80 = v616 := e617
      obtain ⟨v619, e619⟩ : ∃ z, M 598 81 = z := ⟨_, rfl⟩
      have b619 : (-1) ≤ v619 ∧ v619 ≤ 1600 := by rw [← e619]; exact hI_M 598 81 (by decide)
      have e620 : M1 598 81 = v619 := ((w1_8 81 (by decide) (by decide) (by decide)).trans e619)
      have y621 : M1 598 81 = v619 := e620
      have y622 : M1 598 89 = v614 := e615
      obtain ⟨v623, e623⟩ : ∃ z, M1 598 100 = z := ⟨_, rfl⟩
      have b623 : 0 ≤ v623 ∧ v623 ≤ 13 := by rw [← e623]; exact hI_M1 598 100 (by decide)
      have y624 : M1 598 100 = v623 := e623
      exact jr.vreturn rfl rfl (q _ hI_M1 hH_M1 hS_M1  (Or.inr ⟨⟨gs1, ES.xs gs2 (by omega) (by omega), gs3, gs4, gs5, gs6⟩, by omega⟩) (by omega) (by omega) (by omega) (CP.trans hCP w1_3) (by rw [e615] <;> omega) (TXr.fr hT (w1_8 72 (by decide) (by decide) (by decide)) (fun i => w1_7 651 i (by decide) (by decide) (by decide)) (fun i => w1_7 649 i (by decide) (by decide) (by decide)) (fun i => w1_7 650 i (by decide) (by decide) (by decide))) (fun q => by exfalso; omega) (fun q => ⟨t1, _, (TKr.fr hK0 (w1_8 72 (by decide) (by decide) (by decide)) (fun i => w1_7 651 i (by decide) (by decide) (by decide)) (fun i => w1_7 649 i (by decide) (by decide) (by decide)) (fun i => w1_7 650 i (by decide) (by decide) (by decide)) (w1_8 73 (by decide) (by decide) (by decide)) (w1_8 74 (by decide) (by decide) (by decide)) (w1_8 75 (by decide) (by decide) (by decide)) (w1_8 76 (by decide) (by decide) (by decide)) (w1_8 77 (by decide) (by decide) (by decide)) (w1_8 78 (by decide) (by decide) (by decide)) (w1_8 79 (by decide) (by decide) (by decide))), zr.es hz3 rfl rfl (congrArg Prod.fst (abr_z s0 (hsg.trans (by omega)))).symm, hrk⟩) (fun q => by omega) (fun a i f598 f659 f660 f664 f665 f666 f667 => ((w1_7 a i f598 f659 f660).trans (hF_M a i f598 f659 f660 f664 f665 f666 f667))) (fun i g73 g74 g75 g76 g77 g78 g79 g80 g81 g89 g90 g100 g102 => ((w1_8 i g90 g100 g102).trans (hG_M i g73 g74 g75 g76 g77 g78 g79 g80 g81 g89 g90 g100 g102))))
set_option maxHeartbeats 8000000 in
theorem r_exp_L11_z {A : Nat → Option (Nat × (Nat → Int32))} {Q : Option Value → jm → Prop} {f : Int → Int} {N : Int} {b kk : Int} {xs : ZS} {t bh : Int} {s0 : List (Int × Int × Int × Int)} {nm ak : List Int} {M0 : jm} (q : ∀ (M' : jm), RI M' → RH M' → RF M' → (BS M' ∨ (SS M' (b + 1) kk ∧ TK M' < TK M0)) → TK M' ≤ TK M0 → M' 598 73 ≤ M' 598 72 → (M' 598 80 ≠ 0 ∨ TK M' < TK M0) → CP M0 M' → M0 598 89 ≤ M' 598 89 → TXr f N M' → ZFQ f N xs M' → ZEQQ f N xs M' bh s0 nm ak → K8Q M0 M' → (∀ (a : Nat) (i : Int), a ≠ 598 → a ≠ 659 → a ≠ 660 → a ≠ 664 → a ≠ 665 → a ≠ 666 → a ≠ 667 → M' a i = M0 a i) → (∀ (i : Int), i ≠ 73 → i ≠ 74 → i ≠ 75 → i ≠ 76 → i ≠ 77 → i ≠ 78 → i ≠ 79 → i ≠ 80 → i ≠ 81 → i ≠ 89 → i ≠ 90 → i ≠ 100 → i ≠ 102 → M' 598 i = M0 598 i) → Q none M') : ∀ (nM : Nat) (M : jm) (o : Int) (m : Int), RI M → RH M → RF M → (∀ (a : Nat) (i : Int), a ≠ 598 → a ≠ 659 → a ≠ 660 → a ≠ 664 → a ≠ 665 → a ≠ 666 → a ≠ 667 → M a i = M0 a i) → (∀ (i : Int), i ≠ 73 → i ≠ 74 → i ≠ 75 → i ≠ 76 → i ≠ 77 → i ≠ 78 → i ≠ 79 → i ≠ 80 → i ≠ 81 → i ≠ 89 → i ≠ 90 → i ≠ 100 → i ≠ 102 → M 598 i = M0 598 i) → 0 ≤ o ∧ o ≤ 1 → 390 ≤ m ∧ m ≤ 390 → (BS M ∨ GS M b (1 - o) kk) → (TK M < TK M0 ∨ o = 1 ∨ M 598 80 ≠ 0) → TK M ≤ TK M0 → M 598 73 ≤ M 598 72 → 0 ≤ b ∧ b ≤ 4 → CP M0 M → M0 598 89 ≤ M 598 89 → TXr f N M → ZFQ f N xs M → ZOQ f N xs (3 - o) M (abr M s0).2 bh (abr M s0).1 nm ak → NUQ M → HD s0 → K8Q M0 M → TK M + 1 - min 1 (M 598 80) ≤ nM → jr A 6 xm_364 11 [(2, .int (Int32.ofInt (o))), (1, .int (Int32.ofInt (m))), (0, .ref (598))] [] M Q := by
  intro nM
  induction nM using Nat.strongRecOn with
  | ind nM ih =>
    intro M o m hI_M hH_M hS_M hF_M hG_M h_o h_m hy0 hy1 hy2 hy3 hy4 hy5 hy6 hy7 hy8 hy9 hy10 hy11 hy12 hm
    have hCP := hy5
    have hT := hy7
    have hHD := hy11
    refine jr.aload_n rfl rfl ?_
    refine jr_v rfl rfl (Or.inl rfl) rfl rfl (by decide) rfl ⟨rfl, Nat.le_of_ble_eq_true rfl, Nat.le_of_ble_eq_true rfl⟩ rfl (jc.deep (c_good hI_M  (fun t12_0 => ?_) (fun f12_0 => ?_)) (by decide))
    · have gs := hy0.resolve_left (fun z => z.1 t12_0)
      obtain ⟨gs1, gs2, gs3, gs4, gs5, gs6⟩ := id gs
      have hE := gs2
      have sl := ES.sgle gs2
      have kb := ES.kz gs2
      have bM_107 : (0 : Int) ≤ M 598 107 ∧ M 598 107 ≤ 16 := hI_M 598 107 (by decide)
      have bM_73 : (0 : Int) ≤ M 598 73 ∧ M 598 73 ≤ 1600 := hI_M 598 73 (by decide)
      have bM_88 : (0 : Int) ≤ M 598 88 ∧ M 598 88 ≤ 16 := hI_M 598 88 (by decide)
      have bM_100 : (0 : Int) ≤ M 598 100 ∧ M 598 100 ≤ 13 := hI_M 598 100 (by decide)
      have b74 : (0 : Int) ≤ M 598 74 ∧ M 598 74 ≤ 4 := hI_M 598 74 (by decide)
      have tg := TK.ge (M := M) (by omega) (by omega)
      obtain ⟨t1, hK0, hz⟩ := hy9 t12_0
      have hNU := hy10 t12_0
      have h81 := hy12 t12_0
      have kk0 := hK0.kz
      refine jr.if_eq rfl rfl (by omega) (fun h => absurd h (by decide)) (fun _ => ?_)
      refine jr.aload_n rfl rfl ?_
      obtain ⟨v1, e1⟩ : ∃ z, M 598 102 = z := ⟨_, rfl⟩
      have b1 : 0 ≤ v1 ∧ v1 ≤ 400 := by rw [← e1]; exact hI_M 598 102 (by decide)
      refine jr.getf (i := 102) (x := v1) (v := .int (Int32.ofInt (v1))) rfl rfl (by decide) rfl (by decide) rfl rfl e1 rfl ?_
      refine jr.iload_n rfl rfl ?_
      refine jr.icmp_ge rfl rfl (by omega) (by omega) (fun h => absurd h (by omega)) (fun h23 => ?_)
      refine jr.iload_n rfl rfl ?_
      refine jr.if_eq rfl rfl (by omega) (fun h27 => ?_) (fun h27 => ?_)
      · refine jr.aload_n rfl rfl ?_
        refine jr.bipush rfl (by decide) ?_
        refine jr_v rfl rfl (Or.inl rfl) rfl rfl (by decide) rfl ⟨rfl, Nat.le_of_ble_eq_true rfl, Nat.le_of_ble_eq_true rfl⟩ rfl (jc.deep (r_reduce_z hI_M hH_M hS_M  (by omega) (GS.cast gs (by omega)) (zr.eqx hz (by omega) rfl rfl rfl rfl rfl) hNU (fun M2 hI_M2 hH_M2 hS_M2  w2_0 w2_1 w2_2 w2_3 w2_4 w2_5 w2_6 w2_7 w2_8 => ?_)) (by decide))
        have tk2 : TK M2 = TK M := TK.fr (w2_8 73 (by decide) (by decide) (by decide)) (w2_8 74 (by decide) (by decide) (by decide))
        refine jr.aload_n rfl rfl ?_
        obtain ⟨v4, e4⟩ : ∃ z, M 598 89 = z := ⟨_, rfl⟩
        have b4 : 0 ≤ v4 ∧ v4 ≤ 301 := by rw [← e4]; exact hI_M 598 89 (by decide)
        have e5 : M2 598 89 = v4 := ((w2_8 89 (by decide) (by decide) (by decide)).trans e4)
        refine jr_v rfl rfl (Or.inl rfl) rfl rfl (by decide) rfl ⟨rfl, Nat.le_of_ble_eq_true rfl, Nat.le_of_ble_eq_true rfl⟩ rfl (jc.deep (r_takeSign_z hI_M2 hH_M2 hS_M2   w2_0 (TKr.fr hK0 (w2_8 72 (by decide) (by decide) (by decide)) (fun i => w2_7 651 i (by decide) (by decide) (by decide)) (fun i => w2_7 649 i (by decide) (by decide) (by decide)) (fun i => w2_7 650 i (by decide) (by decide) (by decide)) (w2_8 73 (by decide) (by decide) (by decide)) (w2_8 74 (by decide) (by decide) (by decide)) (w2_8 75 (by decide) (by decide) (by decide)) (w2_8 76 (by decide) (by decide) (by decide)) (w2_8 77 (by decide) (by decide) (by decide)) (w2_8 78 (by decide) (by decide) (by decide)) (w2_8 79 (by decide) (by decide) (by decide))) (zr.eqx w2_4 rfl rfl rfl rfl rfl (Prod.ext rfl (w2_5 (by omega)))) hHD w2_6 w2_1 (fun r3 M3 hI_M3 hH_M3 hS_M3  z3 w3_0 w3_1 w3_2 w3_3 w3_4 w3_5 w3_6 w3_7 w3_8 w3_9 w3_10 w3_11 w3_12 w3_13 => ?_)) (by decide))
        refine jr.if_eq rfl rfl (by omega) (fun h56 => ?_) (fun h56 => ?_)
        · obtain ⟨v6, e6⟩ : ∃ z, M3 598 89 = z := ⟨_, rfl⟩
          have b6 : 0 ≤ v6 ∧ v6 ≤ 301 := by rw [← e6]; exact hI_M3 598 89 (by decide)
          refine jr.pick [0, 1, 2] rfl rfl ?_
          exact r_exp_L64_z (t := 0) q (nM - 1) (ih (nM - 1) (by omega)) M3 o m hI_M3 hH_M3 hS_M3  (fun a i f598 f659 f660 f664 f665 f666 f667 => ((w3_12 a i f598 f659 f660 f664 f665 f666 f667).trans ((w2_7 a i f598 f659 f660).trans (hF_M a i f598 f659 f660 f664 f665 f666 f667)))) (fun i g73 g74 g75 g76 g77 g78 g79 g80 g81 g89 g90 g100 g102 => ((w3_13 i g73 g74 g75 g76 g77 g78 g79 g80 g81 g89 g90 g100 g102).trans ((w2_8 i g90 g100 g102).trans (hG_M i g73 g74 g75 g76 g77 g78 g79 g80 g81 g89 g90 g100 g102)))) (by omega) (by omega) (by rcases w3_0 with z | z; (exact z.2); (exfalso; omega)) (by omega) (by omega) (by omega) (by omega) (CP.trans (CP.trans hCP w2_3) w3_4) (by rw [e6] <;> omega) ⟨_, (w3_9 (by omega)).1, (w3_9 (by omega)).2.1, (w3_9 (by omega)).2.2⟩ (w3_10 (by rcases w3_0 with z | z; (exact z.2.1); (exfalso; omega))) hHD ((w3_11 (by rcases w3_0 with z | z; (exact z.2.1); (exfalso; omega))).trans ((w2_8 81 (by decide) (by decide) (by decide)).trans h81))
        · refine jr.iconst rfl ?_
          refine jr.istore_n rfl (by decide) rfl ?_
          refine jr.goto rfl rfl ?_
          obtain ⟨v7, e7⟩ : ∃ z, M3 598 80 = z := ⟨_, rfl⟩
          have b7 : 0 ≤ v7 ∧ v7 ≤ 7 := by rw [← e7]; exact hI_M3 598 80 (by decide)
          have y8 : M3 598 80 = v7 := e7
          obtain ⟨v9, e9⟩ : ∃ z, M3 598 73 = z := ⟨_, rfl⟩
          have b9 : 0 ≤ v9 ∧ v9 ≤ 1600 := by rw [← e9]; exact hI_M3 598 73 (by decide)
          obtain ⟨v10, e10⟩ : ∃ z, M 598 72 = z := ⟨_, rfl⟩
          have b10 : 0 ≤ v10 ∧ v10 ≤ 1600 := by rw [← e10]; exact hI_M 598 72 (by decide)
          have e11 : M2 598 72 = v10 := ((w2_8 72 (by decide) (by decide) (by decide)).trans e10)
          have e12 : M3 598 72 = v10 := ((w3_13 72 (by decide) (by decide) (by decide) (by decide) (by decide) (by decide) (by decide) (by decide) (by decide) (by decide) (by decide) (by decide) (by decide)).trans e11)
          obtain ⟨v13, e13⟩ : ∃ z, M3 598 89 = z := ⟨_, rfl⟩
          have b13 : 0 ≤ v13 ∧ v13 ≤ 301 := by rw [← e13]; exact hI_M3 598 89 (by decide)
          refine jr.pick [0, 1, 2] rfl rfl ?_
          have y14 : M3 598 80 = v7 := e7
          exact ih (nM - 1) (by omega) M3 1 m hI_M3 hH_M3 hS_M3  (fun a i f598 f659 f660 f664 f665 f666 f667 => ((w3_12 a i f598 f659 f660 f664 f665 f666 f667).trans ((w2_7 a i f598 f659 f660).trans (hF_M a i f598 f659 f660 f664 f665 f666 f667)))) (fun i g73 g74 g75 g76 g77 g78 g79 g80 g81 g89 g90 g100 g102 => ((w3_13 i g73 g74 g75 g76 g77 g78 g79 g80 g81 g89 g90 g100 g102).trans ((w2_8 i g90 g100 g102).trans (hG_M i g73 g74 g75 g76 g77 g78 g79 g80 g81 g89 g90 g100 g102)))) (by omega) (by omega) (by rcases w3_0 with z | z; (exfalso; omega); exact z.2.imp id (fun y => GS.cast y.1 (by omega))) (by omega) (by omega) (by rw [e9, e12] <;> omega) (by omega) (CP.trans (CP.trans hCP w2_3) w3_4) (by rw [e13] <;> omega) w3_6 w3_7 (fun q => by obtain ⟨t1, a1, a2⟩ := w3_8 q (by omega); exact ⟨t1, a1, zr.eqx a2 (by omega) rfl rfl rfl rfl rfl⟩) w3_10 hHD (fun q => (w3_11 q).trans ((w2_8 81 (by decide) (by decide) (by decide)).trans h81)) (by omega)
      · refine jr.aload_n rfl rfl ?_
        refine jr_v rfl rfl (Or.inl rfl) rfl rfl (by decide) rfl ⟨rfl, Nat.le_of_ble_eq_true rfl, Nat.le_of_ble_eq_true rfl⟩ rfl (jc.deep (r_takeOperand_z hI_M hH_M hS_M   (GS.cast gs (by omega)) hK0 (zr.eqx hz (by omega) rfl rfl rfl rfl rfl) hNU (fun r15 M15 hI_M15 hH_M15 hS_M15  z15 w15_0 w15_1 w15_2 w15_3 w15_4 w15_5 w15_6 w15_7 w15_8 w15_9 w15_10 w15_11 w15_12 => ?_)) (by decide))
        refine jr.if_ne rfl rfl (by omega) (fun h34 => ?_) (fun h34 => ?_)
        · refine jr.iconst rfl ?_
          refine jr.istore_n rfl (by decide) rfl ?_
          refine jr.goto rfl rfl ?_
          obtain ⟨v16, e16⟩ : ∃ z, M15 598 80 = z := ⟨_, rfl⟩
          have b16 : 0 ≤ v16 ∧ v16 ≤ 7 := by rw [← e16]; exact hI_M15 598 80 (by decide)
          have y17 : M15 598 80 = v16 := e16
          obtain ⟨v18, e18⟩ : ∃ z, M15 598 73 = z := ⟨_, rfl⟩
          have b18 : 0 ≤ v18 ∧ v18 ≤ 1600 := by rw [← e18]; exact hI_M15 598 73 (by decide)
          obtain ⟨v19, e19⟩ : ∃ z, M 598 72 = z := ⟨_, rfl⟩
          have b19 : 0 ≤ v19 ∧ v19 ≤ 1600 := by rw [← e19]; exact hI_M 598 72 (by decide)
          have e20 : M15 598 72 = v19 := ((w15_12 72 (by decide) (by decide) (by decide) (by decide) (by decide) (by decide) (by decide) (by decide) (by decide) (by decide) (by decide) (by decide) (by decide)).trans e19)
          obtain ⟨v21, e21⟩ : ∃ z, M15 598 89 = z := ⟨_, rfl⟩
          have b21 : 0 ≤ v21 ∧ v21 ≤ 301 := by rw [← e21]; exact hI_M15 598 89 (by decide)
          refine jr.pick [0, 1, 2] rfl rfl ?_
          have y22 : M15 598 80 = v16 := e16
          exact ih (nM - 1) (by omega) M15 0 m hI_M15 hH_M15 hS_M15  (fun a i f598 f659 f660 f664 f665 f666 f667 => ((w15_11 a i f598 f659 f660 f664 f666 f667).trans (hF_M a i f598 f659 f660 f664 f665 f666 f667))) (fun i g73 g74 g75 g76 g77 g78 g79 g80 g81 g89 g90 g100 g102 => ((w15_12 i g73 g74 g75 g76 g77 g78 g79 g80 g81 g89 g90 g100 g102).trans (hG_M i g73 g74 g75 g76 g77 g78 g79 g80 g81 g89 g90 g100 g102))) (by omega) (by omega) (w15_0.imp id (fun z => GS.cast z.1 (by omega))) (by omega) (by omega) (by rw [e18, e20] <;> omega) (by omega) (CP.trans hCP w15_4) (by rw [e21] <;> omega) w15_6 w15_7 (fun q => by obtain ⟨t1, a1, a2⟩ := w15_8 q; exact ⟨t1, a1, zr.eqx a2 (by omega) rfl rfl rfl rfl rfl⟩) w15_9 hHD (fun q => (w15_10 q).trans h81) (by omega)
        · refine jr.iconst rfl ?_
          refine jr.goto rfl rfl ?_
          refine jr.istore_n rfl (by decide) rfl ?_
          refine jr.goto rfl rfl ?_
          obtain ⟨v23, e23⟩ : ∃ z, M15 598 80 = z := ⟨_, rfl⟩
          have b23 : 0 ≤ v23 ∧ v23 ≤ 7 := by rw [← e23]; exact hI_M15 598 80 (by decide)
          have y24 : M15 598 80 = v23 := e23
          obtain ⟨v25, e25⟩ : ∃ z, M15 598 73 = z := ⟨_, rfl⟩
          have b25 : 0 ≤ v25 ∧ v25 ≤ 1600 := by rw [← e25]; exact hI_M15 598 73 (by decide)
          obtain ⟨v26, e26⟩ : ∃ z, M 598 72 = z := ⟨_, rfl⟩
          have b26 : 0 ≤ v26 ∧ v26 ≤ 1600 := by rw [← e26]; exact hI_M 598 72 (by decide)
          have e27 : M15 598 72 = v26 := ((w15_12 72 (by decide) (by decide) (by decide) (by decide) (by decide) (by decide) (by decide) (by decide) (by decide) (by decide) (by decide) (by decide) (by decide)).trans e26)
          obtain ⟨v28, e28⟩ : ∃ z, M15 598 89 = z := ⟨_, rfl⟩
          have b28 : 0 ≤ v28 ∧ v28 ≤ 301 := by rw [← e28]; exact hI_M15 598 89 (by decide)
          refine jr.pick [0, 1, 2] rfl rfl ?_
          have y29 : M15 598 80 = v23 := e23
          exact ih (nM - 1) (by omega) M15 1 m hI_M15 hH_M15 hS_M15  (fun a i f598 f659 f660 f664 f665 f666 f667 => ((w15_11 a i f598 f659 f660 f664 f666 f667).trans (hF_M a i f598 f659 f660 f664 f665 f666 f667))) (fun i g73 g74 g75 g76 g77 g78 g79 g80 g81 g89 g90 g100 g102 => ((w15_12 i g73 g74 g75 g76 g77 g78 g79 g80 g81 g89 g90 g100 g102).trans (hG_M i g73 g74 g75 g76 g77 g78 g79 g80 g81 g89 g90 g100 g102))) (by omega) (by omega) (w15_0.imp id (fun z => GS.cast z.1 (by omega))) (by omega) (by omega) (by rw [e25, e27] <;> omega) (by omega) (CP.trans hCP w15_4) (by rw [e28] <;> omega) w15_6 w15_7 (fun q => by obtain ⟨t1, a1, a2⟩ := w15_8 q; exact ⟨t1, a1, zr.eqx a2 (by omega) rfl rfl rfl rfl rfl⟩) w15_9 hHD (fun q => (w15_10 q).trans h81) (by omega)
    · refine jr.if_eq rfl rfl (by omega) (fun _ => ?_) (fun h => absurd (by decide) h)
      exact jr.vreturn rfl rfl (q _ hI_M hH_M hS_M  (Or.inl (hy0.resolve_right (fun z => f12_0 z.1))) (by omega) (by omega) (by omega) hCP (by omega) hy7 hy8 (fun q => absurd q f12_0) hy12 (fun a i f598 f659 f660 f664 f665 f666 f667 => (hF_M a i f598 f659 f660 f664 f665 f666 f667)) (fun i g73 g74 g75 g76 g77 g78 g79 g80 g81 g89 g90 g100 g102 => (hG_M i g73 g74 g75 g76 g77 g78 g79 g80 g81 g89 g90 g100 g102)))
set_option maxHeartbeats 8000000 in
theorem r_exp_z {A : Nat → Option (Nat × (Nat → Int32))} {Q : Option Value → jm → Prop} {f : Int → Int} {N : Int} {b kk : Int} {xs : ZS} {t bh : Int} {s0 : List (Int × Int × Int × Int)} {nm ak : List Int} {M : jm} (hI_M : RI M) (hH_M : RH M) (hS_M : RF M) (p0 : SS M b kk) (p1 : 0 ≤ b ∧ b ≤ 4) (p2 : TKr f N t M) (p3 : zr f N xs (2, t, M 598 89, M 598 100, 0, bh, s0, nm, ak)) (p4 : HD s0) (q : ∀ (M' : jm), RI M' → RH M' → RF M' → (BS M' ∨ (SS M' (b + 1) kk ∧ TK M' < TK M)) → TK M' ≤ TK M → M' 598 73 ≤ M' 598 72 → (M' 598 80 ≠ 0 ∨ TK M' < TK M) → CP M M' → M 598 89 ≤ M' 598 89 → TXr f N M' → ZFQ f N xs M' → ZEQQ f N xs M' bh s0 nm ak → K8Q M M' → (∀ (a : Nat) (i : Int), a ≠ 598 → a ≠ 659 → a ≠ 660 → a ≠ 664 → a ≠ 665 → a ≠ 666 → a ≠ 667 → M' a i = M a i) → (∀ (i : Int), i ≠ 73 → i ≠ 74 → i ≠ 75 → i ≠ 76 → i ≠ 77 → i ≠ 78 → i ≠ 79 → i ≠ 80 → i ≠ 81 → i ≠ 89 → i ≠ 90 → i ≠ 100 → i ≠ 102 → M' 598 i = M 598 i) → Q none M') : jc A 7 364 [.ref (598)] M Q := by
  obtain ⟨ss1, ss2, ss3, ss4, ss5, ss6⟩ := id p0
  have b73 : (0 : Int) ≤ M 598 73 ∧ M 598 73 ≤ 1600 := hI_M 598 73 (by decide)
  have sl := XS.sgle ss2
  have kb := XS.kz ss2
  have b88 : (0 : Int) ≤ M 598 88 ∧ M 598 88 ≤ 16 := hI_M 598 88 (by decide)
  have hT := p2.1
  refine jc_of (m := xm_364) rfl (Nat.le_of_ble_eq_true rfl) rfl ?_
  refine jr.sipush rfl (by decide) ?_
  refine jr.istore_n rfl (by decide) rfl ?_
  refine jr.aload_n rfl rfl ?_
  refine jr.iconst rfl ?_
  refine jr.putf (i := 102) (x := 0) rfl rfl (by decide) rfl (by decide) rfl rfl rfl rfl rfl ?_
  refine jr.iconst rfl ?_
  refine jr.istore_n rfl (by decide) rfl ?_
  obtain ⟨v1, e1⟩ : ∃ z, M 598 72 = z := ⟨_, rfl⟩
  have b1 : 0 ≤ v1 ∧ v1 ≤ 1600 := by rw [← e1]; exact hI_M 598 72 (by decide)
  have y2 : (ju M 598 102 0) 598 72 = v1 := ((ju_i _ _ (by decide)).trans e1)
  obtain ⟨v3, e3⟩ : ∃ z, M 598 73 = z := ⟨_, rfl⟩
  have b3 : 0 ≤ v3 ∧ v3 ≤ 1600 := by rw [← e3]; exact hI_M 598 73 (by decide)
  have y4 : (ju M 598 102 0) 598 73 = v3 := ((ju_i _ _ (by decide)).trans e3)
  obtain ⟨v5, e5⟩ : ∃ z, M 598 74 = z := ⟨_, rfl⟩
  have b5 : 0 ≤ v5 ∧ v5 ≤ 4 := by rw [← e5]; exact hI_M 598 74 (by decide)
  have y6 : (ju M 598 102 0) 598 74 = v5 := ((ju_i _ _ (by decide)).trans e5)
  obtain ⟨v7, e7⟩ : ∃ z, M 598 79 = z := ⟨_, rfl⟩
  have b7 : 0 ≤ v7 ∧ v7 ≤ 255 := by rw [← e7]; exact hI_M 598 79 (by decide)
  have y8 : (ju M 598 102 0) 598 79 = v7 := ((ju_i _ _ (by decide)).trans e7)
  obtain ⟨v9, e9⟩ : ∃ z, M 598 80 = z := ⟨_, rfl⟩
  have b9 : 0 ≤ v9 ∧ v9 ≤ 7 := by rw [← e9]; exact hI_M 598 80 (by decide)
  have y10 : (ju M 598 102 0) 598 80 = v9 := ((ju_i _ _ (by decide)).trans e9)
  obtain ⟨v11, e11⟩ : ∃ z, M 598 89 = z := ⟨_, rfl⟩
  have b11 : 0 ≤ v11 ∧ v11 ≤ 301 := by rw [← e11]; exact hI_M 598 89 (by decide)
  have y12 : (ju M 598 102 0) 598 89 = v11 := ((ju_i _ _ (by decide)).trans e11)
  obtain ⟨v13, e13⟩ : ∃ z, M 598 90 = z := ⟨_, rfl⟩
  have b13 : 0 ≤ v13 ∧ v13 ≤ 2200 := by rw [← e13]; exact hI_M 598 90 (by decide)
  have y14 : (ju M 598 102 0) 598 90 = v13 := ((ju_i _ _ (by decide)).trans e13)
  obtain ⟨v15, e15⟩ : ∃ z, M 598 100 = z := ⟨_, rfl⟩
  have b15 : 0 ≤ v15 ∧ v15 ≤ 13 := by rw [← e15]; exact hI_M 598 100 (by decide)
  have y16 : (ju M 598 102 0) 598 100 = v15 := ((ju_i _ _ (by decide)).trans e15)
  obtain ⟨v17, e17⟩ : ∃ z, M 598 107 = z := ⟨_, rfl⟩
  have b17 : 0 ≤ v17 ∧ v17 ≤ 16 := by rw [← e17]; exact hI_M 598 107 (by decide)
  have y18 : (ju M 598 102 0) 598 107 = v17 := ((ju_i _ _ (by decide)).trans e17)
  have y19 : TK (ju M 598 102 0) = TK M := ((TK.o (Or.inr ⟨by decide, by decide⟩)).trans rfl)
  have y20 : (ju M 598 102 0) 598 80 = v9 := ((ju_i _ _ (by decide)).trans e9)
  have y21 : TK (ju M 598 102 0) = TK M := ((TK.o (Or.inr ⟨by decide, by decide⟩)).trans rfl)
  refine jr.pick [0, 1, 2] rfl rfl ?_
  exact r_exp_L11_z (t := 0) q 3203 (ju M 598 102 0) 1 390 (RI.u hI_M (a := 598) (i := 102) (show (0 : Int) ≤ _ ∧ _ ≤ (400 : Int) from by omega)) (RH.o hH_M (by decide) (by decide) (by decide)) (RF.o hS_M (by decide) (by decide))  (fun a i f598 f659 f660 f664 f665 f666 f667 => ((ju_c _ _ f598).trans rfl)) (fun i g73 g74 g75 g76 g77 g78 g79 g80 g81 g89 g90 g100 g102 => ((ju_i _ _ g102).trans rfl)) (by omega) (by omega) (Or.inr (GS.cast (o := 0) ⟨by omega, ss2, by omega, by omega, by omega, by omega⟩ (by omega))) (by omega) (by omega) (by rw [((ju_i _ _ (by decide)).trans e3), ((ju_i _ _ (by decide)).trans e1)] <;> omega) (by omega) (CP.o (CP.rfl _) (by decide) (Or.inr (by decide))) (by rw [((ju_i _ _ (by decide)).trans e11)] <;> omega) (TXr.o hT (by decide)) (fun q => by exfalso; rw [((ju_i _ _ (by decide)).trans e9)] at q; omega) (fun _ => ⟨t, TKr.oo p2 (by decide), zr.eqx p3 (by omega) rfl (ju_i _ _ (by decide)) (ju_i _ _ (by decide)) rfl (abr_0 M s0)⟩) (fun _ => NU.z (ju_same _ _ _ _)) p4 (fun _ => ju_i _ _ (by decide)) (by have t := TK.le (M := ju M 598 102 0) (by rw [ju_i _ _ (by decide)]; omega); omega)
