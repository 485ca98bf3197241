/-! ===== the names that were asked; the call rules ===== -/
noncomputable def EXI (M : jm) (i k : Int) : Prop := ∃ j : Int, 0 ≤ j ∧ j < i ∧ M 656 j = M 661 k
theorem drop_getD (l : List Int) (k : Nat) (h : k < l.length) : l.drop k = l.getD k 0 :: l.drop (k + 1) := by
  rw [List.drop_eq_getElem_cons h, List.getD_eq_getElem?_getD, List.getElem?_eq_getElem h]
  rfl
theorem zre_t {f : Int → Int} {N k : Int} {nm ak : List Int} (h0 : 0 ≤ k) (h : k < ak.length) (hh : zhn f N nm (ak.getD k.toNat 0) = true) : zre f N nm (ak.drop k.toNat) = zre f N nm (ak.drop (k + 1).toNat) := by
  rw [drop_getD ak k.toNat (by omega), show (k + 1).toNat = k.toNat + 1 by omega]
  show (if zhn f N nm (ak.getD k.toNat 0) = true then zre f N nm (ak.drop (k.toNat + 1)) else zft 7 (ak.getD k.toNat 0)) = _
  rw [if_pos hh]
theorem zre_f {f : Int → Int} {N k : Int} {nm ak : List Int} (h0 : 0 ≤ k) (h : k < ak.length) (hh : zhn f N nm (ak.getD k.toNat 0) = false) : zre f N nm (ak.drop k.toNat) = zft 7 (ak.getD k.toNat 0) := by
  rw [drop_getD ak k.toNat (by omega)]
  show (if zhn f N nm (ak.getD k.toNat 0) = true then zre f N nm (ak.drop (k.toNat + 1)) else zft 7 (ak.getD k.toNat 0)) = _
  rw [if_neg (by rw [hh]; decide)]
theorem zre_e {f : Int → Int} {N k : Int} {nm ak : List Int} (h : (ak.length : Int) ≤ k) : zre f N nm (ak.drop k.toNat) = zok nm.length := by
  rw [List.drop_of_length_le (by omega)]
  rfl
noncomputable def RGQ (f : Int → Int) (N : Int) (nm ak : List Int) (k : Int) (M : jm) : Prop := M 598 80 = 0 → zre f N nm ak = zre f N nm (ak.drop k.toNat)
noncomputable def RFQ (f : Int → Int) (N : Int) (nm ak : List Int) (M : jm) : Prop := M 598 80 ≠ 0 → zre f N nm ak = zft (M 598 80) (M 598 81)
noncomputable def ROQ (f : Int → Int) (N : Int) (nm ak : List Int) (M : jm) : Prop := M 598 80 = 0 → zre f N nm ak = zok (M 598 88)
noncomputable def RC0 (M : jm) (c i k : Int) : Prop := c = -1 → ∀ j : Int, 0 ≤ j → j < i → M 656 j ≠ M 661 k
noncomputable def RC1 (M : jm) (c i k : Int) : Prop := c ≠ -1 → EXI M i k
set_option maxHeartbeats 8000000 in
theorem r_resolve_L21_z {A : Nat → Option (Nat × (Nat → Int32))} {Q : Option Value → jm → Prop} {f : Int → Int} {N : Int} {nm ak : List Int} {M0 : jm} (q : ∀ (M' : jm), RI M' → RH M' → RF M' → XS M' 0 0 0 1 (-1) → ROQ f N nm ak M' → RFQ f N nm ak M' → K8Q M0 M' → (∀ (a : Nat) (i : Int), a ≠ 598 → a ≠ 660 → M' a i = M0 a i) → (∀ (i : Int), i ≠ 80 → i ≠ 81 → M' 598 i = M0 598 i) → Q none M') (nO : Nat) (ko : ∀ (M : jm) (k : Int), RI M → RH M → RF M → (∀ (a : Nat) (i : Int), a ≠ 598 → a ≠ 660 → M a i = M0 a i) → (∀ (i : Int), i ≠ 80 → i ≠ 81 → M 598 i = M0 598 i) → 0 ≤ k ∧ k ≤ 300 → XS M 0 0 0 1 (-1) → AK M → NMr f N M nm → AKr f N M ak → RGQ f N nm ak k M → RFQ f N nm ak M → K8Q M0 M → 300 - k ≤ nO → jr A 1 xm_370 2 [(1, .int (Int32.ofInt (k))), (0, .ref (598))] [] M Q) : ∀ (nM : Nat) (M : jm) (i : Int) (c : Int) (k : Int), RI M → RH M → RF M → (∀ (a : Nat) (i : Int), a ≠ 598 → a ≠ 660 → M a i = M0 a i) → (∀ (i : Int), i ≠ 80 → i ≠ 81 → M 598 i = M0 598 i) → 0 ≤ i ∧ i ≤ 16 → (-1) ≤ c ∧ c ≤ 15 → 0 ≤ k ∧ k ≤ 299 → 300 - (k + 1) ≤ nO → XS M 0 0 0 1 (-1) → AK M → k < M 598 96 → c < M 598 88 ∨ c = -1 → NMr f N M nm → AKr f N M ak → RGQ f N nm ak k M → M 598 80 = 0 → RC0 M c i k → RC1 M c i k → M 598 81 = M0 598 81 → i ≤ M 598 88 → 16 - i ≤ nM → jr A 1 xm_370 21 [(3, .int (Int32.ofInt (i))), (2, .int (Int32.ofInt (c))), (1, .int (Int32.ofInt (k))), (0, .ref (598))] [] M Q := by
  intro nM
  induction nM using Nat.strongRecOn with
  | ind nM ih =>
    intro M i c k hI_M hH_M hS_M hF_M hG_M h_i h_c h_k hy0 hy1 hy2 hy3 hy4 hy5 hy6 hy7 hy8 hy9 hy10 hy11 hy12 hm
    have hX := hy1
    have hA := hy2
    have ha := hA k (by omega) (by omega)
    have dpx := XS.dep hy1
    have b90 : (0 : Int) ≤ M 598 90 ∧ M 598 90 ≤ 2200 := hI_M 598 90 (by decide)
    have hNM := hy5
    have hAK := hy6
    have hG := hy7
    have q80 := hy8
    have hC0 := hy9
    have hC1 := hy10
    have hnl := hNM.1
    have hal := hAK.1
    refine jr.iload_n rfl rfl ?_
    refine jr.aload_n rfl rfl ?_
    obtain ⟨v1, e1⟩ : ∃ z, M 598 88 = z := ⟨_, rfl⟩
    have b1 : 0 ≤ v1 ∧ v1 ≤ 16 := by rw [← e1]; exact hI_M 598 88 (by decide)
    refine jr.getf (i := 88) (x := v1) (v := .int (Int32.ofInt (v1))) rfl rfl (by decide) rfl (by decide) rfl rfl e1 rfl ?_
    refine jr.icmp_ge rfl rfl (by omega) (by omega) (fun h26 => ?_) (fun h26 => ?_)
    · refine jr.iload_n rfl rfl ?_
      refine jr.iconst rfl ?_
      refine jr.icmp_ne rfl rfl (by omega) (by omega) (fun h59 => ?_) (fun h59 => ?_)
      · refine jr.aload_n rfl rfl ?_
        refine jr.getf (i := 95) (v := .ref 660) rfl rfl (by decide) rfl (by decide) rfl rfl rfl rfl ?_
        refine jr.aload_n rfl rfl ?_
        refine jr.getf (i := 99) (v := .ref 663) rfl rfl (by decide) rfl (by decide) rfl rfl rfl rfl ?_
        refine jr.iload_n rfl rfl ?_
        obtain ⟨v2, e2⟩ : ∃ z, M 663 k = z := ⟨_, rfl⟩
        have b2 : 0 ≤ v2 ∧ v2 ≤ 2200 := by rw [← e2]; exact (by have q := hI_M 663 k (by decide); rw [xri_row rfl rfl] at q; exact q)
        refine jr.iald (i := k) (x := v2) rfl (by decide) rfl (by decide) (by omega) (by omega) e2 ?_
        refine jr.iload_n rfl rfl ?_
        refine jr.i2l rfl (by omega) ?_
        refine jr.last (i := v2) (x := c) rfl (by decide) rfl (by decide) (by omega) (by omega) ?_
        refine jr.iinc rfl rfl (by decide) rfl ?_
        refine jr.goto rfl rfl ?_
        obtain ⟨v3, e3⟩ : ∃ z, M 598 80 = z := ⟨_, rfl⟩
        have b3 : 0 ≤ v3 ∧ v3 ≤ 7 := by rw [← e3]; exact hI_M 598 80 (by decide)
        have y4 : (ju M 660 v2 c) 598 80 = v3 := ((ju_c _ _ (by decide)).trans e3)
        obtain ⟨v5, e5⟩ : ∃ z, M 598 81 = z := ⟨_, rfl⟩
        have b5 : (-1) ≤ v5 ∧ v5 ≤ 1600 := by rw [← e5]; exact hI_M 598 81 (by decide)
        have y6 : (ju M 660 v2 c) 598 81 = v5 := ((ju_c _ _ (by decide)).trans e5)
        have y7 : (ju M 660 v2 c) 598 88 = v1 := ((ju_c _ _ (by decide)).trans e1)
        obtain ⟨v8, e8⟩ : ∃ z, M 598 96 = z := ⟨_, rfl⟩
        have b8 : 0 ≤ v8 ∧ v8 ≤ 300 := by rw [← e8]; exact hI_M 598 96 (by decide)
        have y9 : (ju M 660 v2 c) 598 96 = v8 := ((ju_c _ _ (by decide)).trans e8)
        have y10 : (ju M 660 v2 c) 598 80 = v3 := ((ju_c _ _ (by decide)).trans e3)
        have y11 : (ju M 660 v2 c) 598 81 = v5 := ((ju_c _ _ (by decide)).trans e5)
        have y12 : (ju M 660 v2 c) 598 88 = v1 := ((ju_c _ _ (by decide)).trans e1)
        have y13 : (ju M 660 v2 c) 598 96 = v8 := ((ju_c _ _ (by decide)).trans e8)
        have y14 : (ju M 660 v2 c) 598 80 = v3 := ((ju_c _ _ (by decide)).trans e3)
        have y15 : (ju M 660 v2 c) 598 81 = v5 := ((ju_c _ _ (by decide)).trans e5)
        have y16 : (ju M 660 v2 c) 598 88 = v1 := ((ju_c _ _ (by decide)).trans e1)
        have y17 : (ju M 660 v2 c) 598 96 = v8 := ((ju_c _ _ (by decide)).trans e8)
        have y18 : (ju M 660 v2 c) 598 80 = v3 := ((ju_c _ _ (by decide)).trans e3)
        have y19 : (ju M 660 v2 c) 598 81 = v5 := ((ju_c _ _ (by decide)).trans e5)
        have y20 : (ju M 660 v2 c) 598 88 = v1 := ((ju_c _ _ (by decide)).trans e1)
        have y21 : (ju M 660 v2 c) 598 96 = v8 := ((ju_c _ _ (by decide)).trans e8)
        have y22 : (ju M 660 v2 c) 598 80 = v3 := ((ju_c _ _ (by decide)).trans e3)
        have y23 : (ju M 660 v2 c) 598 81 = v5 := ((ju_c _ _ (by decide)).trans e5)
        have y24 : (ju M 660 v2 c) 598 88 = v1 := ((ju_c _ _ (by decide)).trans e1)
        have y25 : (ju M 660 v2 c) 598 96 = v8 := ((ju_c _ _ (by decide)).trans e8)
        refine jr.pick [0, 3] rfl rfl ?_
        exact ko (ju M 660 v2 c) (k + 1) (RI.u hI_M (a := 660) (i := v2) (by rw [xri_row rfl rfl]; show (-9223372036854775808 : Int) ≤ _ ∧ _ ≤ (9223372036854775807 : Int); omega)) (RH.o hH_M (by decide) (by decide) (by decide)) (RF.o hS_M (by decide) (by decide))  (fun a i f598 f660 => ((ju_c _ _ f660).trans (hF_M a i f598 f660))) (fun i g80 g81 => ((ju_c _ _ (by decide)).trans (hG_M i g80 g81))) (by omega) (XS.asks hX (by rw [← e2]; exact ha.2.2) (by omega)) (AK.cp (M' := (ju M 660 v2 c)) hA (CP.o (CP.rfl _) (by decide) (Or.inl (by decide))) (fun i => ju_c _ _ (by decide)) (ju_c _ _ (by decide))) (NMr.fr hNM (fun i => ju_c _ _ (by decide)) (ju_c _ _ (by decide))) (AKr.fr hAK (fun i => ju_c _ _ (by decide)) (fun i => ju_c _ _ (by decide)) (ju_c _ _ (by decide))) (fun _ => (hG q80).trans (zre_t (by omega) (by omega) (NMr.nt (v := M 661 k) hNM (hAK.2 k (by omega) (by omega)).1 (by obtain ⟨j, j0, j1, j2⟩ := hC1 (by omega); exact ⟨j, j0, by omega, j2⟩)))) (fun q => by exfalso; omega) (fun q => by omega) (by omega)
      · refine jr.aload_n rfl rfl ?_
        refine jr.bipush rfl (by decide) ?_
        refine jr.aload_n rfl rfl ?_
        refine jr.getf (i := 98) (v := .ref 662) rfl rfl (by decide) rfl (by decide) rfl rfl rfl rfl ?_
        refine jr.iload_n rfl rfl ?_
        obtain ⟨v26, e26⟩ : ∃ z, M 662 k = z := ⟨_, rfl⟩
        have b26 : 0 ≤ v26 ∧ v26 ≤ 1600 := by rw [← e26]; exact (by have q := hI_M 662 k (by decide); rw [xri_row rfl rfl] at q; exact q)
        refine jr.iald (i := k) (x := v26) rfl (by decide) rfl (by decide) (by omega) (by omega) e26 ?_
        obtain ⟨v27, e27⟩ : ∃ z, M 598 80 = z := ⟨_, rfl⟩
        have b27 : 0 ≤ v27 ∧ v27 ≤ 7 := by rw [← e27]; exact hI_M 598 80 (by decide)
        obtain ⟨v28, e28⟩ : ∃ z, M 598 89 = z := ⟨_, rfl⟩
        have b28 : 0 ≤ v28 ∧ v28 ≤ 301 := by rw [← e28]; exact hI_M 598 89 (by decide)
        obtain ⟨v29, e29⟩ : ∃ z, M 598 100 = z := ⟨_, rfl⟩
        have b29 : 0 ≤ v29 ∧ v29 ≤ 13 := by rw [← e29]; exact hI_M 598 100 (by decide)
        obtain ⟨v30, e30⟩ : ∃ z, M 598 81 = z := ⟨_, rfl⟩
        have b30 : (-1) ≤ v30 ∧ v30 ≤ 1600 := by rw [← e30]; exact hI_M 598 81 (by decide)
        obtain ⟨v32, e32⟩ : ∃ z, M 598 73 = z := ⟨_, rfl⟩
        have b32 : 0 ≤ v32 ∧ v32 ≤ 1600 := by rw [← e32]; exact hI_M 598 73 (by decide)
        obtain ⟨v34, e34⟩ : ∃ z, M 598 74 = z := ⟨_, rfl⟩
        have b34 : 0 ≤ v34 ∧ v34 ≤ 4 := by rw [← e34]; exact hI_M 598 74 (by decide)
        refine jr_v rfl rfl (Or.inl rfl) rfl rfl (by decide) rfl ⟨rfl, Nat.le_of_ble_eq_true rfl, Nat.le_of_ble_eq_true rfl⟩ rfl (jc.deep (c_fails_z (f := f) (N := N) hI_M hH_M hS_M (by omega) (by omega) (by rw [e27]; omega) (fun M31 hI_M31 hH_M31 hS_M31 qn31 q031 q131 w31_50 w31_51 => ?_)) (by decide))
        have tk31 : TK M31 = TK M := TK.fr (w31_51 73 (by decide) (by decide)) (w31_51 74 (by decide) (by decide))
        have x31_72 := w31_51 72 (by decide) (by decide)
        have x31_73 := w31_51 73 (by decide) (by decide)
        have x31_74 := w31_51 74 (by decide) (by decide)
        have x31_75 := w31_51 75 (by decide) (by decide)
        have x31_76 := w31_51 76 (by decide) (by decide)
        have x31_78 := w31_51 78 (by decide) (by decide)
        have x31_79 := w31_51 79 (by decide) (by decide)
        have x31_89 := w31_51 89 (by decide) (by decide)
        have x31_100 := w31_51 100 (by decide) (by decide)
        have y33 : M 598 73 = v32 := e32
        have y35 : M 598 74 = v34 := e34
        have y36 : M 598 89 = v28 := e28
        have y37 : M 598 100 = v29 := e29
        have x31_73 := w31_51 73 (by decide) (by decide)
        have x31_74 := w31_51 74 (by decide) (by decide)
        have x31_89 := w31_51 89 (by decide) (by decide)
        have x31_100 := w31_51 100 (by decide) (by decide)
        have hX := XS.fr2 hX w31_50 (w31_51 88 (by decide) (by decide)) (w31_51 90 (by decide) (by decide)) (w31_51 101 (by decide) (by decide)) (w31_51 107 (by decide) (by decide)) (k' := 0) (d' := 0) (z' := 1) (by omega) (by omega) (by omega) (by omega)
        have hA := AK.cp hA (CP.f (CP.rfl _) (fun i => w31_50 659 i (by decide)) (w31_51 90 (by decide) (by decide))) (fun i => w31_50 663 i (by decide)) (w31_51 96 (by decide) (by decide))
        have x31_101 := w31_51 101 (by decide) (by decide)
        have x31_107 := w31_51 107 (by decide) (by decide)
        have x31_88 := w31_51 88 (by decide) (by decide)
        have x31_96 := w31_51 96 (by decide) (by decide)
        refine jr.goto rfl rfl ?_
        refine jr.iinc rfl rfl (by decide) rfl ?_
        refine jr.goto rfl rfl ?_
        obtain ⟨v38, e38⟩ : ∃ z, M31 598 80 = z := ⟨_, rfl⟩
        have b38 : 0 ≤ v38 ∧ v38 ≤ 7 := by rw [← e38]; exact hI_M31 598 80 (by decide)
        have y39 : M31 598 80 = v38 := e38
        obtain ⟨v40, e40⟩ : ∃ z, M31 598 81 = z := ⟨_, rfl⟩
        have b40 : (-1) ≤ v40 ∧ v40 ≤ 1600 := by rw [← e40]; exact hI_M31 598 81 (by decide)
        have y41 : M31 598 81 = v40 := e40
        have e42 : M31 598 88 = v1 := ((w31_51 88 (by decide) (by decide)).trans e1)
        have y43 : M31 598 88 = v1 := e42
        obtain ⟨v44, e44⟩ : ∃ z, M 598 96 = z := ⟨_, rfl⟩
        have b44 : 0 ≤ v44 ∧ v44 ≤ 300 := by rw [← e44]; exact hI_M 598 96 (by decide)
        have e45 : M31 598 96 = v44 := ((w31_51 96 (by decide) (by decide)).trans e44)
        have y46 : M31 598 96 = v44 := e45
        have y47 : M31 598 80 = v38 := e38
        have y48 : M31 598 81 = v40 := e40
        have y49 : M31 598 88 = v1 := e42
        have y50 : M31 598 96 = v44 := e45
        have y51 : M31 598 80 = v38 := e38
        have y52 : M31 598 81 = v40 := e40
        have y53 : M31 598 88 = v1 := e42
        have y54 : M31 598 96 = v44 := e45
        have y55 : M31 598 80 = v38 := e38
        have y56 : M31 598 81 = v40 := e40
        have y57 : M31 598 88 = v1 := e42
        have y58 : M31 598 96 = v44 := e45
        have y59 : M31 598 80 = v38 := e38
        have y60 : M31 598 81 = v40 := e40
        have y61 : M31 598 88 = v1 := e42
        have y62 : M31 598 96 = v44 := e45
        refine jr.pick [0, 3] rfl rfl ?_
        exact ko M31 (k + 1) hI_M31 hH_M31 hS_M31  (fun a i f598 f660 => ((w31_50 a i f598).trans (hF_M a i f598 f660))) (fun i g80 g81 => ((w31_51 i g80 g81).trans (hG_M i g80 g81))) (by omega) hX hA (NMr.fr hNM (fun i => w31_50 656 i (by decide)) (w31_51 88 (by decide) (by decide))) (AKr.fr hAK (fun i => w31_50 661 i (by decide)) (fun i => w31_50 662 i (by decide)) (w31_51 96 (by decide) (by decide))) (fun q => by exfalso; omega) (fun _ => (hG q80).trans ((zre_f (by omega) (by omega) (NMr.nf (v := M 661 k) hNM (hAK.2 k (by omega) (by omega)).1 (fun j j0 j1 => hC0 (by omega) j j0 (by omega)))).trans (by rw [show M31 598 80 = 7 by omega, show M31 598 81 = ak.getD k.toNat 0 from by have q := (hAK.2 k (by omega) (by omega)).2; omega]))) (fun q => by omega) (by omega)
    · refine jr.aload_n rfl rfl ?_
      refine jr.getf (i := 91) (v := .ref 656) rfl rfl (by decide) rfl (by decide) rfl rfl rfl rfl ?_
      refine jr.iload_n rfl rfl ?_
      obtain ⟨v63, e63⟩ : ∃ z, M 656 i = z := ⟨_, rfl⟩
      have b63 : (-9223372036854775808) ≤ v63 ∧ v63 ≤ 9223372036854775807 := by rw [← e63]; exact (by have q := hI_M 656 i (by decide); rw [xri_row rfl rfl] at q; exact q)
      refine jr.lald (i := i) (x := v63) rfl (by decide) rfl (by decide) (by omega) (by omega) e63 ?_
      refine jr.aload_n rfl rfl ?_
      refine jr.getf (i := 97) (v := .ref 661) rfl rfl (by decide) rfl (by decide) rfl rfl rfl rfl ?_
      refine jr.iload_n rfl rfl ?_
      obtain ⟨v64, e64⟩ : ∃ z, M 661 k = z := ⟨_, rfl⟩
      have b64 : (-9223372036854775808) ≤ v64 ∧ v64 ≤ 9223372036854775807 := by rw [← e64]; exact (by have q := hI_M 661 k (by decide); rw [xri_row rfl rfl] at q; exact q)
      refine jr.lald (i := k) (x := v64) rfl (by decide) rfl (by decide) (by omega) (by omega) e64 ?_
      refine jr.lcmp_ne rfl rfl rfl (by omega) (by omega) (fun h41 => ?_) (fun h41 => ?_)
      · refine jr.iload_n rfl rfl ?_
        refine jr.istore_n rfl (by decide) rfl ?_
        refine jr.iinc rfl rfl (by decide) rfl ?_
        refine jr.goto rfl rfl ?_
        obtain ⟨v65, e65⟩ : ∃ z, M 598 96 = z := ⟨_, rfl⟩
        have b65 : 0 ≤ v65 ∧ v65 ≤ 300 := by rw [← e65]; exact hI_M 598 96 (by decide)
        obtain ⟨v66, e66⟩ : ∃ z, M 598 80 = z := ⟨_, rfl⟩
        have b66 : 0 ≤ v66 ∧ v66 ≤ 7 := by rw [← e66]; exact hI_M 598 80 (by decide)
        have y67 : M 598 80 = v66 := e66
        have y68 : M 598 88 = v1 := e1
        have y69 : M 598 96 = v65 := e65
        have y70 : M 598 80 = v66 := e66
        have y71 : M 598 88 = v1 := e1
        have y72 : M 598 96 = v65 := e65
        refine jr.pick [0, 1, 2, 3] rfl rfl ?_
        exact ih (nM - 1) (by omega) M (i + 1) c k hI_M hH_M hS_M  (fun a i f598 f660 => (hF_M a i f598 f660)) (fun i g80 g81 => (hG_M i g80 g81)) (by omega) (by omega) (by omega) (by omega) hX hA (by rw [e65] <;> omega) (by rw [e1] <;> omega) hNM hAK hG q80 (fun q j j0 j1 => by by_cases hj : j = i; (rw [hj, e63, e64]; omega); (exact hC0 q j j0 (by omega))) (fun q => by obtain ⟨j, j0, j1, j2⟩ := hC1 q; exact ⟨j, j0, by omega, j2⟩) hy11 (by rw [e1] <;> omega) (by omega)
      · refine jr.iload_n rfl rfl ?_
        refine jr.goto rfl rfl ?_
        refine jr.istore_n rfl (by decide) rfl ?_
        refine jr.iinc rfl rfl (by decide) rfl ?_
        refine jr.goto rfl rfl ?_
        obtain ⟨v73, e73⟩ : ∃ z, M 598 96 = z := ⟨_, rfl⟩
        have b73 : 0 ≤ v73 ∧ v73 ≤ 300 := by rw [← e73]; exact hI_M 598 96 (by decide)
        obtain ⟨v74, e74⟩ : ∃ z, M 598 80 = z := ⟨_, rfl⟩
        have b74 : 0 ≤ v74 ∧ v74 ≤ 7 := by rw [← e74]; exact hI_M 598 80 (by decide)
        have y75 : M 598 80 = v74 := e74
        have y76 : M 598 88 = v1 := e1
        have y77 : M 598 96 = v73 := e73
        have y78 : M 598 80 = v74 := e74
        have y79 : M 598 88 = v1 := e1
        have y80 : M 598 96 = v73 := e73
        refine jr.pick [0, 1, 2, 3] rfl rfl ?_
        exact ih (nM - 1) (by omega) M (i + 1) i k hI_M hH_M hS_M  (fun a i f598 f660 => (hF_M a i f598 f660)) (fun i g80 g81 => (hG_M i g80 g81)) (by omega) (by omega) (by omega) (by omega) hX hA (by rw [e73] <;> omega) (by rw [e1] <;> omega) hNM hAK hG q80 (fun q => by exfalso; omega) (fun _ => ⟨i, by omega, by omega, by rw [e63, e64]; omega⟩) hy11 (by rw [e1] <;> omega) (by omega)
set_option maxHeartbeats 8000000 in
theorem r_resolve_L2_z {A : Nat → Option (Nat × (Nat → Int32))} {Q : Option Value → jm → Prop} {f : Int → Int} {N : Int} {nm ak : List Int} {M0 : jm} (q : ∀ (M' : jm), RI M' → RH M' → RF M' → XS M' 0 0 0 1 (-1) → ROQ f N nm ak M' → RFQ f N nm ak M' → K8Q M0 M' → (∀ (a : Nat) (i : Int), a ≠ 598 → a ≠ 660 → M' a i = M0 a i) → (∀ (i : Int), i ≠ 80 → i ≠ 81 → M' 598 i = M0 598 i) → Q none M') : ∀ (nM : Nat) (M : jm) (k : Int), RI M → RH M → RF M → (∀ (a : Nat) (i : Int), a ≠ 598 → a ≠ 660 → M a i = M0 a i) → (∀ (i : Int), i ≠ 80 → i ≠ 81 → M 598 i = M0 598 i) → 0 ≤ k ∧ k ≤ 300 → XS M 0 0 0 1 (-1) → AK M → NMr f N M nm → AKr f N M ak → RGQ f N nm ak k M → RFQ f N nm ak M → K8Q M0 M → 300 - k ≤ nM → jr A 1 xm_370 2 [(1, .int (Int32.ofInt (k))), (0, .ref (598))] [] M Q := by
  intro nM
  induction nM using Nat.strongRecOn with
  | ind nM ih =>
    intro M k hI_M hH_M hS_M hF_M hG_M h_k hy0 hy1 hy2 hy3 hy4 hy5 hy6 hm
    have hX := hy0
    have hA := hy1
    have dpx := XS.dep hy0
    have b96 : (0 : Int) ≤ M 598 96 ∧ M 598 96 ≤ 300 := hI_M 598 96 (by decide)
    have hNM := hy2
    have hAK := hy3
    have hG := hy4
    have hFq := hy5
    have hnl := hNM.1
    have hal := hAK.1
    refine jr.iload_n rfl rfl ?_
    refine jr.aload_n rfl rfl ?_
    obtain ⟨v1, e1⟩ : ∃ z, M 598 96 = z := ⟨_, rfl⟩
    have b1 : 0 ≤ v1 ∧ v1 ≤ 300 := by rw [← e1]; exact hI_M 598 96 (by decide)
    refine jr.getf (i := 96) (x := v1) (v := .int (Int32.ofInt (v1))) rfl rfl (by decide) rfl (by decide) rfl rfl e1 rfl ?_
    refine jr.icmp_ge rfl rfl (by omega) (by omega) (fun h7 => ?_) (fun h7 => ?_)
    · obtain ⟨v2, e2⟩ : ∃ z, M 598 80 = z := ⟨_, rfl⟩
      have b2 : 0 ≤ v2 ∧ v2 ≤ 7 := by rw [← e2]; exact hI_M 598 80 (by decide)
      have y3 : M 598 80 = v2 := e2
      obtain ⟨v4, e4⟩ : ∃ z, M 598 81 = z := ⟨_, rfl⟩
      have b4 : (-1) ≤ v4 ∧ v4 ≤ 1600 := by rw [← e4]; exact hI_M 598 81 (by decide)
      have y5 : M 598 81 = v4 := e4
      obtain ⟨v6, e6⟩ : ∃ z, M 598 88 = z := ⟨_, rfl⟩
      have b6 : 0 ≤ v6 ∧ v6 ≤ 16 := by rw [← e6]; exact hI_M 598 88 (by decide)
      have y7 : M 598 88 = v6 := e6
      have y8 : M 598 96 = v1 := e1
      exact jr.vreturn rfl rfl (q _ hI_M hH_M hS_M  hX (fun q => by rw [(hG q).trans (zre_e (by omega)), hnl]) hFq hy6 (fun a i f598 f660 => (hF_M a i f598 f660)) (fun i g80 g81 => (hG_M i g80 g81)))
    · refine jr.aload_n rfl rfl ?_
      refine jr_v rfl rfl (Or.inl rfl) rfl rfl (by decide) rfl ⟨rfl, Nat.le_of_ble_eq_true rfl, Nat.le_of_ble_eq_true rfl⟩ rfl (jc.deep (c_good hI_M  (fun t11_0 => ?_) (fun f11_0 => ?_)) (by decide))
      · refine jr.if_eq rfl rfl (by omega) (fun h => absurd h (by decide)) (fun _ => ?_)
        refine jr.iconst rfl ?_
        refine jr.istore_n rfl (by decide) rfl ?_
        refine jr.iconst rfl ?_
        refine jr.istore_n rfl (by decide) rfl ?_
        obtain ⟨v9, e9⟩ : ∃ z, M 598 88 = z := ⟨_, rfl⟩
        have b9 : 0 ≤ v9 ∧ v9 ≤ 16 := by rw [← e9]; exact hI_M 598 88 (by decide)
        obtain ⟨v10, e10⟩ : ∃ z, M 598 80 = z := ⟨_, rfl⟩
        have b10 : 0 ≤ v10 ∧ v10 ≤ 7 := by rw [← e10]; exact hI_M 598 80 (by decide)
        have y11 : M 598 80 = v10 := e10
        have y12 : M 598 88 = v9 := e9
        have y13 : M 598 96 = v1 := e1
        have y14 : M 598 80 = v10 := e10
        have y15 : M 598 88 = v9 := e9
        have y16 : M 598 96 = v1 := e1
        refine jr.pick [0, 1, 2, 3] rfl rfl ?_
        exact r_resolve_L21_z q (nM - 1) (ih (nM - 1) (by omega)) 16 M 0 (-1) k hI_M hH_M hS_M  (fun a i f598 f660 => (hF_M a i f598 f660)) (fun i g80 g81 => (hG_M i g80 g81)) (by omega) (by omega) (by omega) (by omega) hX hA (by rw [e1] <;> omega) (by rw [e9] <;> omega) hNM hAK hG t11_0 (fun _ j j0 j1 => by exfalso; omega) (fun q => absurd rfl q) (hy6 t11_0) (by rw [e9] <;> omega) (by omega)
      · refine jr.if_eq rfl rfl (by omega) (fun _ => ?_) (fun h => absurd (by decide) h)
        obtain ⟨v17, e17⟩ : ∃ z, M 598 80 = z := ⟨_, rfl⟩
        have b17 : 0 ≤ v17 ∧ v17 ≤ 7 := by rw [← e17]; exact hI_M 598 80 (by decide)
        have y18 : M 598 80 = v17 := e17
        obtain ⟨v19, e19⟩ : ∃ z, M 598 81 = z := ⟨_, rfl⟩
        have b19 : (-1) ≤ v19 ∧ v19 ≤ 1600 := by rw [← e19]; exact hI_M 598 81 (by decide)
        have y20 : M 598 81 = v19 := e19
        obtain ⟨v21, e21⟩ : ∃ z, M 598 88 = z := ⟨_, rfl⟩
        have b21 : 0 ≤ v21 ∧ v21 ≤ 16 := by rw [← e21]; exact hI_M 598 88 (by decide)
        have y22 : M 598 88 = v21 := e21
        have y23 : M 598 96 = v1 := e1
        exact jr.vreturn rfl rfl (q _ hI_M hH_M hS_M  hX (fun q => by rw [(hG q).trans (zre_e (by omega)), hnl]) hFq hy6 (fun a i f598 f660 => (hF_M a i f598 f660)) (fun i g80 g81 => (hG_M i g80 g81)))
set_option maxHeartbeats 8000000 in
theorem r_resolve_z {A : Nat → Option (Nat × (Nat → Int32))} {Q : Option Value → jm → Prop} {f : Int → Int} {N : Int} {nm ak : List Int} {M : jm} (hI_M : RI M) (hH_M : RH M) (hS_M : RF M) (p0 : XS M 0 0 0 1 (-1)) (p1 : AK M) (p2 : M 598 80 = 0) (p3 : NMr f N M nm) (p4 : AKr f N M ak) (q : ∀ (M' : jm), RI M' → RH M' → RF M' → XS M' 0 0 0 1 (-1) → ROQ f N nm ak M' → RFQ f N nm ak M' → K8Q M M' → (∀ (a : Nat) (i : Int), a ≠ 598 → a ≠ 660 → M' a i = M a i) → (∀ (i : Int), i ≠ 80 → i ≠ 81 → M' 598 i = M 598 i) → Q none M') : jc A 2 370 [.ref (598)] M Q := by
  have hX := p0
  have hA := p1
  have b96 : (0 : Int) ≤ M 598 96 ∧ M 598 96 ≤ 300 := hI_M 598 96 (by decide)
  have dpx := XS.dep p0
  have hNM := p3
  have hAK := p4
  refine jc_of (m := xm_370) rfl (Nat.le_of_ble_eq_true rfl) rfl ?_
  refine jr.iconst rfl ?_
  refine jr.istore_n rfl (by decide) rfl ?_
  obtain ⟨v1, e1⟩ : ∃ z, M 598 80 = z := ⟨_, rfl⟩
  have b1 : 0 ≤ v1 ∧ v1 ≤ 7 := by rw [← e1]; exact hI_M 598 80 (by decide)
  have y2 : M 598 80 = v1 := e1
  obtain ⟨v3, e3⟩ : ∃ z, M 598 81 = z := ⟨_, rfl⟩
  have b3 : (-1) ≤ v3 ∧ v3 ≤ 1600 := by rw [← e3]; exact hI_M 598 81 (by decide)
  have y4 : M 598 81 = v3 := e3
  obtain ⟨v5, e5⟩ : ∃ z, M 598 88 = z := ⟨_, rfl⟩
  have b5 : 0 ≤ v5 ∧ v5 ≤ 16 := by rw [← e5]; exact hI_M 598 88 (by decide)
  have y6 : M 598 88 = v5 := e5
  obtain ⟨v7, e7⟩ : ∃ z, M 598 96 = z := ⟨_, rfl⟩
  have b7 : 0 ≤ v7 ∧ v7 ≤ 300 := by rw [← e7]; exact hI_M 598 96 (by decide)
  have y8 : M 598 96 = v7 := e7
  have y9 : M 598 80 = v1 := e1
  have y10 : M 598 81 = v3 := e3
  have y11 : M 598 88 = v5 := e5
  have y12 : M 598 96 = v7 := e7
  have y13 : M 598 80 = v1 := e1
  have y14 : M 598 81 = v3 := e3
  have y15 : M 598 88 = v5 := e5
  have y16 : M 598 96 = v7 := e7
  have y17 : M 598 80 = v1 := e1
  have y18 : M 598 81 = v3 := e3
  have y19 : M 598 88 = v5 := e5
  have y20 : M 598 96 = v7 := e7
  have y21 : M 598 80 = v1 := e1
  have y22 : M 598 81 = v3 := e3
  have y23 : M 598 88 = v5 := e5
  have y24 : M 598 96 = v7 := e7
  refine jr.pick [0, 1] rfl rfl ?_
  exact r_resolve_L2_z q 300 M 0 hI_M hH_M hS_M  (fun a i f598 f660 => rfl) (fun i g80 g81 => rfl) (by omega) hX hA p3 p4 (fun _ => rfl) (fun q => by exfalso; omega) (fun q => by omega) (by omega)
/-- the tables of words and fields -/
noncomputable def TWr (M : jm) : Prop := (∀ k : Int, 0 ≤ k → k < 69 → M 649 k = zxw.getD k.toNat 0) ∧ (∀ k : Int, 0 ≤ k → k < 154 → M 650 k = zfw.getD k.toNat 0)
/-- where the machine begins -/
noncomputable def zsI (f : Int → Int) (N : Int) : ZS := (0, zsp zbl f N 0, 0, 0, 0, 0, [], [], [])
theorem TWr.fr {M M' : jm} (h : TWr M) (e1 : ∀ i : Int, M' 649 i = M 649 i) (e2 : ∀ i : Int, M' 650 i = M 650 i) : TWr M' := ⟨fun k h0 h1 => (e1 k).trans (h.1 k h0 h1), fun k h0 h1 => (e2 k).trans (h.2 k h0 h1)⟩
theorem NMr.nil {f : Int → Int} {N : Int} {M : jm} (e : M 598 88 = 0) : NMr f N M [] := ⟨e.symm, fun k h0 h1 => by have h2 : k < 0 := h1; omega⟩
theorem AKr.nil {f : Int → Int} {N : Int} {M : jm} (e : M 598 96 = 0) : AKr f N M [] := ⟨e.symm, fun k h0 h1 => by have h2 : k < 0 := h1; omega⟩
/-- between the chains -/
noncomputable def ZLP (f : Int → Int) (N : Int) (M : jm) : Prop := ∃ (t zd zb : Int) (zs : List (Int × Int × Int × Int)) (nm ak : List Int), TKr f N t M ∧ NMr f N M nm ∧ AKr f N M ak ∧ zr f N (zsI f N) (0, t, M 598 89, zd, 0, zb, zs, nm, ak) ∧ (nm = [] ∨ zso f N t ≠ 0)
noncomputable def RUQ (f : Int → Int) (N : Int) (M' : jm) (r : Int) : Prop := (M' 598 80 = 0 ∧ M' 598 81 = -1 ∧ zr f N (zsI f N) (zok r)) ∨ (M' 598 80 ≠ 0 ∧ r = -10 - M' 598 80 ∧ zr f N (zsI f N) (zft (M' 598 80) (M' 598 81)))
set_option maxHeartbeats 8000000 in
theorem r_rules_L202_z {A : Nat → Option (Nat × (Nat → Int32))} {Q : Option Value → jm → Prop} {f : Int → Int} {N : Int} {M0 : jm} (q : ∀ (r : Int) (M' : jm), RI M' → RH M' → RF M' → (-17) ≤ r ∧ r ≤ 16 → MC M' → M' 598 1 = 0 → RUQ f N M' r → (∀ (a : Nat) (i : Int), a ≠ 598 → a ≠ 651 → a ≠ 652 → a ≠ 653 → a ≠ 654 → a ≠ 655 → a ≠ 656 → a ≠ 657 → a ≠ 658 → a ≠ 659 → a ≠ 660 → a ≠ 661 → a ≠ 662 → a ≠ 663 → a ≠ 664 → a ≠ 665 → a ≠ 666 → a ≠ 667 → a ≠ 668 → a ≠ 669 → M' a i = M0 a i) → (∀ (i : Int), i ≠ 1 → i ≠ 72 → i ≠ 73 → i ≠ 74 → i ≠ 75 → i ≠ 76 → i ≠ 77 → i ≠ 78 → i ≠ 79 → i ≠ 80 → i ≠ 81 → i ≠ 82 → i ≠ 83 → i ≠ 88 → i ≠ 89 → i ≠ 90 → i ≠ 96 → i ≠ 100 → i ≠ 101 → i ≠ 102 → i ≠ 107 → M' 598 i = M0 598 i) → Q (some (.int (Int32.ofInt r))) M') : ∀ (nM : Nat) (M : jm) (k : Int), RI M → RH M → RF M → (∀ (a : Nat) (i : Int), a ≠ 598 → a ≠ 651 → a ≠ 652 → a ≠ 653 → a ≠ 654 → a ≠ 655 → a ≠ 656 → a ≠ 657 → a ≠ 658 → a ≠ 659 → a ≠ 660 → a ≠ 661 → a ≠ 662 → a ≠ 663 → a ≠ 664 → a ≠ 665 → a ≠ 666 → a ≠ 667 → a ≠ 668 → a ≠ 669 → M a i = M0 a i) → (∀ (i : Int), i ≠ 1 → i ≠ 72 → i ≠ 73 → i ≠ 74 → i ≠ 75 → i ≠ 76 → i ≠ 77 → i ≠ 78 → i ≠ 79 → i ≠ 80 → i ≠ 81 → i ≠ 82 → i ≠ 83 → i ≠ 88 → i ≠ 89 → i ≠ 90 → i ≠ 96 → i ≠ 100 → i ≠ 101 → i ≠ 102 → i ≠ 107 → M 598 i = M0 598 i) → 0 ≤ k ∧ k ≤ 2200 → RD M → M 598 82 = M 598 88 → CQ M (M 598 82) → CD M k → zr f N (zsI f N) (zok (M 598 88)) → M 598 81 = -1 → M 598 80 = 0 → M 598 1 = 0 → 2200 - k ≤ nM → jr A 9 xm_371 202 [(1, .int (Int32.ofInt (k))), (0, .ref (598))] [] M Q := by
  intro nM
  induction nM using Nat.strongRecOn with
  | ind nM ih =>
    intro M k hI_M hH_M hS_M hF_M hG_M h_k hy0 hy1 hy2 hy3 hy4 hy5 hy6 hy7 hm
    have hR := hy0
    have hQ := hy2
    have hC := hy3
    obtain ⟨_, r1, r2, r3, r4⟩ := id hy0
    have hzk := hy4
    refine jr.iload_n rfl rfl ?_
    refine jr.aload_n rfl rfl ?_
    obtain ⟨v1, e1⟩ : ∃ z, M 598 90 = z := ⟨_, rfl⟩
    have b1 : 0 ≤ v1 ∧ v1 ≤ 2200 := by rw [← e1]; exact hI_M 598 90 (by decide)
    refine jr.getf (i := 90) (x := v1) (v := .int (Int32.ofInt (v1))) rfl rfl (by decide) rfl (by decide) rfl rfl e1 rfl ?_
    refine jr.icmp_ge rfl rfl (by omega) (by omega) (fun h207 => ?_) (fun h207 => ?_)
    · refine jr.aload_n rfl rfl ?_
      obtain ⟨v2, e2⟩ : ∃ z, M 598 82 = z := ⟨_, rfl⟩
      have b2 : 0 ≤ v2 ∧ v2 ≤ 16 := by rw [← e2]; exact hI_M 598 82 (by decide)
      refine jr.getf (i := 82) (x := v2) (v := .int (Int32.ofInt (v2))) rfl rfl (by decide) rfl (by decide) rfl rfl e2 rfl ?_
      obtain ⟨v3, e3⟩ : ∃ z, M 598 1 = z := ⟨_, rfl⟩
      have b3 : 0 ≤ v3 ∧ v3 ≤ 1600 := by rw [← e3]; exact hI_M 598 1 (by decide)
      obtain ⟨v4, e4⟩ : ∃ z, M 598 80 = z := ⟨_, rfl⟩
      have b4 : 0 ≤ v4 ∧ v4 ≤ 7 := by rw [← e4]; exact hI_M 598 80 (by decide)
      have y5 : M 598 80 = v4 := e4
      obtain ⟨v6, e6⟩ : ∃ z, M 598 81 = z := ⟨_, rfl⟩
      have b6 : (-1) ≤ v6 ∧ v6 ≤ 1600 := by rw [← e6]; exact hI_M 598 81 (by decide)
      have y7 : M 598 81 = v6 := e6
      have y8 : M 598 82 = v2 := e2
      obtain ⟨v9, e9⟩ : ∃ z, M 598 88 = z := ⟨_, rfl⟩
      have b9 : 0 ≤ v9 ∧ v9 ≤ 16 := by rw [← e9]; exact hI_M 598 88 (by decide)
      have y10 : M 598 88 = v9 := e9
      exact jr.ireturn rfl rfl rfl (q _ _ hI_M hH_M hS_M  (by omega) (MC.make hR hy1 hQ hC (by omega)) (by have hq : M 598 1 = v3 := e3; omega) (Or.inl ⟨by omega, by omega, by rw [show v2 = M 598 88 by omega]; exact hzk⟩) (fun a i f598 f651 f652 f653 f654 f655 f656 f657 f658 f659 f660 f661 f662 f663 f664 f665 f666 f667 f668 f669 => (hF_M a i f598 f651 f652 f653 f654 f655 f656 f657 f658 f659 f660 f661 f662 f663 f664 f665 f666 f667 f668 f669)) (fun i g1 g72 g73 g74 g75 g76 g77 g78 g79 g80 g81 g82 g83 g88 g89 g90 g96 g100 g101 g102 g107 => (hG_M i g1 g72 g73 g74 g75 g76 g77 g78 g79 g80 g81 g82 g83 g88 g89 g90 g96 g100 g101 g102 g107)))
    · refine jr.aload_n rfl rfl ?_
      refine jr.getf (i := 86) (v := .ref 654) rfl rfl (by decide) rfl (by decide) rfl rfl rfl rfl ?_
      refine jr.iload_n rfl rfl ?_
      refine jr.aload_n rfl rfl ?_
      refine jr.getf (i := 94) (v := .ref 659) rfl rfl (by decide) rfl (by decide) rfl rfl rfl rfl ?_
      refine jr.iload_n rfl rfl ?_
      obtain ⟨v11, e11⟩ : ∃ z, M 659 k = z := ⟨_, rfl⟩
      have b11 : 0 ≤ v11 ∧ v11 ≤ 1000 := by rw [← e11]; exact (by have q := hI_M 659 k (by decide); rw [xri_row rfl rfl] at q; exact q)
      refine jr.iald (i := k) (x := v11) rfl (by decide) rfl (by decide) (by omega) (by omega) e11 ?_
      refine jr.iast (i := k) (x := v11) rfl (by decide) rfl (by decide) (by omega) (by omega) ?_
      refine jr.aload_n rfl rfl ?_
      refine jr.getf (i := 87) (v := .ref 655) rfl rfl (by decide) rfl (by decide) rfl rfl rfl rfl ?_
      refine jr.iload_n rfl rfl ?_
      refine jr.aload_n rfl rfl ?_
      refine jr.getf (i := 95) (v := .ref 660) rfl rfl (by decide) rfl (by decide) rfl rfl rfl rfl ?_
      refine jr.iload_n rfl rfl ?_
      obtain ⟨v12, e12⟩ : ∃ z, M 660 k = z := ⟨_, rfl⟩
      have b12 : (-9223372036854775808) ≤ v12 ∧ v12 ≤ 9223372036854775807 := by rw [← e12]; exact (by have q := hI_M 660 k (by decide); rw [xri_row rfl rfl] at q; exact q)
      refine jr.lald (i := k) (x := v12) rfl (by decide) rfl (by decide) (by omega) (by omega) ((ju_c _ _ (by decide)).trans e12) ?_
      refine jr.last (i := k) (x := v12) rfl (by decide) rfl (by decide) (by omega) (by omega) ?_
      refine jr.iinc rfl rfl (by decide) rfl ?_
      refine jr.goto rfl rfl ?_
      obtain ⟨v13, e13⟩ : ∃ z, M 598 82 = z := ⟨_, rfl⟩
      have b13 : 0 ≤ v13 ∧ v13 ≤ 16 := by rw [← e13]; exact hI_M 598 82 (by decide)
      obtain ⟨v14, e14⟩ : ∃ z, M 598 88 = z := ⟨_, rfl⟩
      have b14 : 0 ≤ v14 ∧ v14 ≤ 16 := by rw [← e14]; exact hI_M 598 88 (by decide)
      obtain ⟨v15, e15⟩ : ∃ z, M 598 81 = z := ⟨_, rfl⟩
      have b15 : (-1) ≤ v15 ∧ v15 ≤ 1600 := by rw [← e15]; exact hI_M 598 81 (by decide)
      obtain ⟨v16, e16⟩ : ∃ z, M 598 80 = z := ⟨_, rfl⟩
      have b16 : 0 ≤ v16 ∧ v16 ≤ 7 := by rw [← e16]; exact hI_M 598 80 (by decide)
      obtain ⟨v17, e17⟩ : ∃ z, M 598 1 = z := ⟨_, rfl⟩
      have b17 : 0 ≤ v17 ∧ v17 ≤ 1600 := by rw [← e17]; exact hI_M 598 1 (by decide)
      refine jr.pick [0, 1] rfl rfl ?_
      exact ih (nM - 1) (by omega) (ju (ju M 654 k v11) 655 k v12) (k + 1) (RI.u (RI.u hI_M (a := 654) (i := k) (by rw [xri_row rfl rfl]; show (0 : Int) ≤ _ ∧ _ ≤ (1000 : Int); omega)) (a := 655) (i := k) (by rw [xri_row rfl rfl]; show (-9223372036854775808 : Int) ≤ _ ∧ _ ≤ (9223372036854775807 : Int); omega)) (RH.o (RH.o hH_M (by decide) (by decide) (by decide)) (by decide) (by decide) (by decide)) (RF.o (RF.o hS_M (by decide) (by decide)) (by decide) (by decide))  (fun a i f598 f651 f652 f653 f654 f655 f656 f657 f658 f659 f660 f661 f662 f663 f664 f665 f666 f667 f668 f669 => ((ju_c _ _ f655).trans ((ju_c _ _ f654).trans (hF_M a i f598 f651 f652 f653 f654 f655 f656 f657 f658 f659 f660 f661 f662 f663 f664 f665 f666 f667 f668 f669)))) (fun i g1 g72 g73 g74 g75 g76 g77 g78 g79 g80 g81 g82 g83 g88 g89 g90 g96 g100 g101 g102 g107 => ((ju_c _ _ (by decide)).trans ((ju_c _ _ (by decide)).trans (hG_M i g1 g72 g73 g74 g75 g76 g77 g78 g79 g80 g81 g82 g83 g88 g89 g90 g96 g100 g101 g102 g107)))) (by omega) (RD.o (RD.o hR (Or.inl (by decide))) (Or.inl (by decide))) (by rw [((ju_c _ _ (by decide)).trans ((ju_c _ _ (by decide)).trans e13)), ((ju_c _ _ (by decide)).trans ((ju_c _ _ (by decide)).trans e14))] <;> omega) (by rw [ju_c _ _ (by decide), ju_c _ _ (by decide)]; exact CQ.o hQ) (CD.add hC e11 e12) (by rw [((ju_c _ _ (by decide)).trans ((ju_c _ _ (by decide)).trans e14)), ← e14]; exact hzk) (by rw [((ju_c _ _ (by decide)).trans ((ju_c _ _ (by decide)).trans e15))] <;> omega) (by rw [((ju_c _ _ (by decide)).trans ((ju_c _ _ (by decide)).trans e16))] <;> omega) (by rw [((ju_c _ _ (by decide)).trans ((ju_c _ _ (by decide)).trans e17))] <;> omega) (by omega)
set_option maxHeartbeats 8000000 in
theorem r_rules_L162_z {A : Nat → Option (Nat × (Nat → Int32))} {Q : Option Value → jm → Prop} {f : Int → Int} {N : Int} {M0 : jm} (q : ∀ (r : Int) (M' : jm), RI M' → RH M' → RF M' → (-17) ≤ r ∧ r ≤ 16 → MC M' → M' 598 1 = 0 → RUQ f N M' r → (∀ (a : Nat) (i : Int), a ≠ 598 → a ≠ 651 → a ≠ 652 → a ≠ 653 → a ≠ 654 → a ≠ 655 → a ≠ 656 → a ≠ 657 → a ≠ 658 → a ≠ 659 → a ≠ 660 → a ≠ 661 → a ≠ 662 → a ≠ 663 → a ≠ 664 → a ≠ 665 → a ≠ 666 → a ≠ 667 → a ≠ 668 → a ≠ 669 → M' a i = M0 a i) → (∀ (i : Int), i ≠ 1 → i ≠ 72 → i ≠ 73 → i ≠ 74 → i ≠ 75 → i ≠ 76 → i ≠ 77 → i ≠ 78 → i ≠ 79 → i ≠ 80 → i ≠ 81 → i ≠ 82 → i ≠ 83 → i ≠ 88 → i ≠ 89 → i ≠ 90 → i ≠ 96 → i ≠ 100 → i ≠ 101 → i ≠ 102 → i ≠ 107 → M' 598 i = M0 598 i) → Q (some (.int (Int32.ofInt r))) M') : ∀ (nM : Nat) (M : jm) (k : Int), RI M → RH M → RF M → (∀ (a : Nat) (i : Int), a ≠ 598 → a ≠ 651 → a ≠ 652 → a ≠ 653 → a ≠ 654 → a ≠ 655 → a ≠ 656 → a ≠ 657 → a ≠ 658 → a ≠ 659 → a ≠ 660 → a ≠ 661 → a ≠ 662 → a ≠ 663 → a ≠ 664 → a ≠ 665 → a ≠ 666 → a ≠ 667 → a ≠ 668 → a ≠ 669 → M a i = M0 a i) → (∀ (i : Int), i ≠ 1 → i ≠ 72 → i ≠ 73 → i ≠ 74 → i ≠ 75 → i ≠ 76 → i ≠ 77 → i ≠ 78 → i ≠ 79 → i ≠ 80 → i ≠ 81 → i ≠ 82 → i ≠ 83 → i ≠ 88 → i ≠ 89 → i ≠ 90 → i ≠ 96 → i ≠ 100 → i ≠ 101 → i ≠ 102 → i ≠ 107 → M 598 i = M0 598 i) → 0 ≤ k ∧ k ≤ 16 → RD M → M 598 82 = M 598 88 ∧ 1 ≤ M 598 88 ∧ M 598 88 ≤ 16 → CQ M k → zr f N (zsI f N) (zok (M 598 88)) → M 598 81 = -1 → M 598 80 = 0 → M 598 1 = 0 → 16 - k ≤ nM → jr A 9 xm_371 162 [(1, .int (Int32.ofInt (k))), (0, .ref (598))] [] M Q := by
  intro nM
  induction nM using Nat.strongRecOn with
  | ind nM ih =>
    intro M k hI_M hH_M hS_M hF_M hG_M h_k hy0 hy1 hy2 hy3 hy4 hy5 hy6 hm
    have hR := hy0
    have hQ := hy2
    obtain ⟨_, r1, r2, r3, r4⟩ := id hy0
    have hzk := hy3
    refine jr.iload_n rfl rfl ?_
    refine jr.aload_n rfl rfl ?_
    obtain ⟨v1, e1⟩ : ∃ z, M 598 82 = z := ⟨_, rfl⟩
    have b1 : 0 ≤ v1 ∧ v1 ≤ 16 := by rw [← e1]; exact hI_M 598 82 (by decide)
    refine jr.getf (i := 82) (x := v1) (v := .int (Int32.ofInt (v1))) rfl rfl (by decide) rfl (by decide) rfl rfl e1 rfl ?_
    refine jr.icmp_ge rfl rfl (by omega) (by omega) (fun h167 => ?_) (fun h167 => ?_)
    · refine jr.iconst rfl ?_
      refine jr.istore_n rfl (by decide) rfl ?_
      obtain ⟨v2, e2⟩ : ∃ z, M 598 88 = z := ⟨_, rfl⟩
      have b2 : 0 ≤ v2 ∧ v2 ≤ 16 := by rw [← e2]; exact hI_M 598 88 (by decide)
      obtain ⟨v3, e3⟩ : ∃ z, M 598 81 = z := ⟨_, rfl⟩
      have b3 : (-1) ≤ v3 ∧ v3 ≤ 1600 := by rw [← e3]; exact hI_M 598 81 (by decide)
      obtain ⟨v4, e4⟩ : ∃ z, M 598 80 = z := ⟨_, rfl⟩
      have b4 : 0 ≤ v4 ∧ v4 ≤ 7 := by rw [← e4]; exact hI_M 598 80 (by decide)
      obtain ⟨v5, e5⟩ : ∃ z, M 598 1 = z := ⟨_, rfl⟩
      have b5 : 0 ≤ v5 ∧ v5 ≤ 1600 := by rw [← e5]; exact hI_M 598 1 (by decide)
      refine jr.pick [0, 1] rfl rfl ?_
      exact r_rules_L202_z q 2200 M 0 hI_M hH_M hS_M  (fun a i f598 f651 f652 f653 f654 f655 f656 f657 f658 f659 f660 f661 f662 f663 f664 f665 f666 f667 f668 f669 => (hF_M a i f598 f651 f652 f653 f654 f655 f656 f657 f658 f659 f660 f661 f662 f663 f664 f665 f666 f667 f668 f669)) (fun i g1 g72 g73 g74 g75 g76 g77 g78 g79 g80 g81 g82 g83 g88 g89 g90 g96 g100 g101 g102 g107 => (hG_M i g1 g72 g73 g74 g75 g76 g77 g78 g79 g80 g81 g82 g83 g88 g89 g90 g96 g100 g101 g102 g107)) (by omega) hR (by rw [e1, e2] <;> omega) (fun c c0 c1 => hQ c c0 (by omega)) (fun c c0 c1 => by omega) (by rw [e2, ← e2]; exact hzk) (by rw [e3] <;> omega) (by rw [e4] <;> omega) (by rw [e5] <;> omega) (by omega)
    · refine jr.aload_n rfl rfl ?_
      refine jr.getf (i := 84) (v := .ref 652) rfl rfl (by decide) rfl (by decide) rfl rfl rfl rfl ?_
      refine jr.iload_n rfl rfl ?_
      refine jr.aload_n rfl rfl ?_
      refine jr.getf (i := 92) (v := .ref 657) rfl rfl (by decide) rfl (by decide) rfl rfl rfl rfl ?_
      refine jr.iload_n rfl rfl ?_
      obtain ⟨v6, e6⟩ : ∃ z, M 657 k = z := ⟨_, rfl⟩
      have b6 : 0 ≤ v6 ∧ v6 ≤ 2200 := by rw [← e6]; exact (by have q := hI_M 657 k (by decide); rw [xri_row rfl rfl] at q; exact q)
      refine jr.iald (i := k) (x := v6) rfl (by decide) rfl (by decide) (by omega) (by omega) e6 ?_
      refine jr.iast (i := k) (x := v6) rfl (by decide) rfl (by decide) (by omega) (by omega) ?_
      refine jr.aload_n rfl rfl ?_
      refine jr.getf (i := 85) (v := .ref 653) rfl rfl (by decide) rfl (by decide) rfl rfl rfl rfl ?_
      refine jr.iload_n rfl rfl ?_
      refine jr.aload_n rfl rfl ?_
      refine jr.getf (i := 93) (v := .ref 658) rfl rfl (by decide) rfl (by decide) rfl rfl rfl rfl ?_
      refine jr.iload_n rfl rfl ?_
      obtain ⟨v7, e7⟩ : ∃ z, M 658 k = z := ⟨_, rfl⟩
      have b7 : (-1) ≤ v7 ∧ v7 ≤ 2200 := by rw [← e7]; exact (by have q := hI_M 658 k (by decide); rw [xri_row rfl rfl] at q; exact q)
      refine jr.iald (i := k) (x := v7) rfl (by decide) rfl (by decide) (by omega) (by omega) ((ju_c _ _ (by decide)).trans e7) ?_
      refine jr.iast (i := k) (x := v7) rfl (by decide) rfl (by decide) (by omega) (by omega) ?_
      refine jr.iinc rfl rfl (by decide) rfl ?_
      refine jr.goto rfl rfl ?_
      obtain ⟨v8, e8⟩ : ∃ z, M 598 88 = z := ⟨_, rfl⟩
      have b8 : 0 ≤ v8 ∧ v8 ≤ 16 := by rw [← e8]; exact hI_M 598 88 (by decide)
      obtain ⟨v9, e9⟩ : ∃ z, M 598 81 = z := ⟨_, rfl⟩
      have b9 : (-1) ≤ v9 ∧ v9 ≤ 1600 := by rw [← e9]; exact hI_M 598 81 (by decide)
      obtain ⟨v10, e10⟩ : ∃ z, M 598 80 = z := ⟨_, rfl⟩
      have b10 : 0 ≤ v10 ∧ v10 ≤ 7 := by rw [← e10]; exact hI_M 598 80 (by decide)
      obtain ⟨v11, e11⟩ : ∃ z, M 598 1 = z := ⟨_, rfl⟩
      have b11 : 0 ≤ v11 ∧ v11 ≤ 1600 := by rw [← e11]; exact hI_M 598 1 (by decide)
      refine jr.pick [0, 1] rfl rfl ?_
      exact ih (nM - 1) (by omega) (ju (ju M 652 k v6) 653 k v7) (k + 1) (RI.u (RI.u hI_M (a := 652) (i := k) (by rw [xri_row rfl rfl]; show (0 : Int) ≤ _ ∧ _ ≤ (2200 : Int); omega)) (a := 653) (i := k) (by rw [xri_row rfl rfl]; show (-1 : Int) ≤ _ ∧ _ ≤ (2200 : Int); omega)) (RH.o (RH.o hH_M (by decide) (by decide) (by decide)) (by decide) (by decide) (by decide)) (RF.o (RF.o hS_M (by decide) (by decide)) (by decide) (by decide))  (fun a i f598 f651 f652 f653 f654 f655 f656 f657 f658 f659 f660 f661 f662 f663 f664 f665 f666 f667 f668 f669 => ((ju_c _ _ f653).trans ((ju_c _ _ f652).trans (hF_M a i f598 f651 f652 f653 f654 f655 f656 f657 f658 f659 f660 f661 f662 f663 f664 f665 f666 f667 f668 f669)))) (fun i g1 g72 g73 g74 g75 g76 g77 g78 g79 g80 g81 g82 g83 g88 g89 g90 g96 g100 g101 g102 g107 => ((ju_c _ _ (by decide)).trans ((ju_c _ _ (by decide)).trans (hG_M i g1 g72 g73 g74 g75 g76 g77 g78 g79 g80 g81 g82 g83 g88 g89 g90 g96 g100 g101 g102 g107)))) (by omega) (RD.o (RD.o hR (Or.inl (by decide))) (Or.inl (by decide))) (by rw [((ju_c _ _ (by decide)).trans ((ju_c _ _ (by decide)).trans e1)), ((ju_c _ _ (by decide)).trans ((ju_c _ _ (by decide)).trans e8))] <;> omega) (CQ.add hQ e6 e7) (by rw [((ju_c _ _ (by decide)).trans ((ju_c _ _ (by decide)).trans e8)), ← e8]; exact hzk) (by rw [((ju_c _ _ (by decide)).trans ((ju_c _ _ (by decide)).trans e9))] <;> omega) (by rw [((ju_c _ _ (by decide)).trans ((ju_c _ _ (by decide)).trans e10))] <;> omega) (by rw [((ju_c _ _ (by decide)).trans ((ju_c _ _ (by decide)).trans e11))] <;> omega) (by omega)
set_option maxHeartbeats 8000000 in
theorem r_rules_L144_z {A : Nat → Option (Nat × (Nat → Int32))} {Q : Option Value → jm → Prop} {f : Int → Int} {N : Int} {M0 : jm} (q : ∀ (r : Int) (M' : jm), RI M' → RH M' → RF M' → (-17) ≤ r ∧ r ≤ 16 → MC M' → M' 598 1 = 0 → RUQ f N M' r → (∀ (a : Nat) (i : Int), a ≠ 598 → a ≠ 651 → a ≠ 652 → a ≠ 653 → a ≠ 654 → a ≠ 655 → a ≠ 656 → a ≠ 657 → a ≠ 658 → a ≠ 659 → a ≠ 660 → a ≠ 661 → a ≠ 662 → a ≠ 663 → a ≠ 664 → a ≠ 665 → a ≠ 666 → a ≠ 667 → a ≠ 668 → a ≠ 669 → M' a i = M0 a i) → (∀ (i : Int), i ≠ 1 → i ≠ 72 → i ≠ 73 → i ≠ 74 → i ≠ 75 → i ≠ 76 → i ≠ 77 → i ≠ 78 → i ≠ 79 → i ≠ 80 → i ≠ 81 → i ≠ 82 → i ≠ 83 → i ≠ 88 → i ≠ 89 → i ≠ 90 → i ≠ 96 → i ≠ 100 → i ≠ 101 → i ≠ 102 → i ≠ 107 → M' 598 i = M0 598 i) → Q (some (.int (Int32.ofInt r))) M') : ∀ (M : jm) , RI M → RH M → RF M → (∀ (a : Nat) (i : Int), a ≠ 598 → a ≠ 651 → a ≠ 652 → a ≠ 653 → a ≠ 654 → a ≠ 655 → a ≠ 656 → a ≠ 657 → a ≠ 658 → a ≠ 659 → a ≠ 660 → a ≠ 661 → a ≠ 662 → a ≠ 663 → a ≠ 664 → a ≠ 665 → a ≠ 666 → a ≠ 667 → a ≠ 668 → a ≠ 669 → M a i = M0 a i) → (∀ (i : Int), i ≠ 1 → i ≠ 72 → i ≠ 73 → i ≠ 74 → i ≠ 75 → i ≠ 76 → i ≠ 77 → i ≠ 78 → i ≠ 79 → i ≠ 80 → i ≠ 81 → i ≠ 82 → i ≠ 83 → i ≠ 88 → i ≠ 89 → i ≠ 90 → i ≠ 96 → i ≠ 100 → i ≠ 101 → i ≠ 102 → i ≠ 107 → M 598 i = M0 598 i) → RD M → 1 ≤ M 598 88 ∧ M 598 88 ≤ 16 → zr f N (zsI f N) (zok (M 598 88)) → M 598 81 = -1 → M 598 80 = 0 → M 598 1 = 0 → jr A 9 xm_371 144 [(0, .ref (598))] [] M Q := by
    intro M  hI_M hH_M hS_M hF_M hG_M  hy0 hy1 hy2 hy3 hy4 hy5
    have hR := hy0
    obtain ⟨_, r1, r2, r3, r4⟩ := id hy0
    have hzk := hy2
    refine jr.aload_n rfl rfl ?_
    refine jr.aload_n rfl rfl ?_
    obtain ⟨v1, e1⟩ : ∃ z, M 598 88 = z := ⟨_, rfl⟩
    have b1 : 0 ≤ v1 ∧ v1 ≤ 16 := by rw [← e1]; exact hI_M 598 88 (by decide)
    refine jr.getf (i := 88) (x := v1) (v := .int (Int32.ofInt (v1))) rfl rfl (by decide) rfl (by decide) rfl rfl e1 rfl ?_
    refine jr.putf (i := 82) (x := v1) rfl rfl (by decide) rfl (by decide) rfl rfl rfl rfl rfl ?_
    refine jr.aload_n rfl rfl ?_
    refine jr.aload_n rfl rfl ?_
    obtain ⟨v2, e2⟩ : ∃ z, M 598 89 = z := ⟨_, rfl⟩
    have b2 : 0 ≤ v2 ∧ v2 ≤ 301 := by rw [← e2]; exact hI_M 598 89 (by decide)
    refine jr.getf (i := 89) (x := v2) (v := .int (Int32.ofInt (v2))) rfl rfl (by decide) rfl (by decide) rfl rfl ((ju_i _ _ (by decide)).trans e2) rfl ?_
    refine jr.putf (i := 83) (x := v2) rfl rfl (by decide) rfl (by decide) rfl rfl rfl rfl rfl ?_
    refine jr.iconst rfl ?_
    refine jr.istore_n rfl (by decide) rfl ?_
    obtain ⟨v3, e3⟩ : ∃ z, M 598 81 = z := ⟨_, rfl⟩
    have b3 : (-1) ≤ v3 ∧ v3 ≤ 1600 := by rw [← e3]; exact hI_M 598 81 (by decide)
    obtain ⟨v4, e4⟩ : ∃ z, M 598 80 = z := ⟨_, rfl⟩
    have b4 : 0 ≤ v4 ∧ v4 ≤ 7 := by rw [← e4]; exact hI_M 598 80 (by decide)
    obtain ⟨v5, e5⟩ : ∃ z, M 598 1 = z := ⟨_, rfl⟩
    have b5 : 0 ≤ v5 ∧ v5 ≤ 1600 := by rw [← e5]; exact hI_M 598 1 (by decide)
    refine jr.pick [0, 1] rfl rfl ?_
    exact r_rules_L162_z q 16 (ju (ju M 598 82 v1) 598 83 v2) 0 (RI.u (RI.u hI_M (a := 598) (i := 82) (show (0 : Int) ≤ _ ∧ _ ≤ (16 : Int) from by omega)) (a := 598) (i := 83) (show (0 : Int) ≤ _ ∧ _ ≤ (301 : Int) from by omega)) (RH.o (RH.o hH_M (by decide) (by decide) (by decide)) (by decide) (by decide) (by decide)) (RF.o (RF.o hS_M (by decide) (by decide)) (by decide) (by decide))  (fun a i f598 f651 f652 f653 f654 f655 f656 f657 f658 f659 f660 f661 f662 f663 f664 f665 f666 f667 f668 f669 => ((ju_c _ _ f598).trans ((ju_c _ _ f598).trans (hF_M a i f598 f651 f652 f653 f654 f655 f656 f657 f658 f659 f660 f661 f662 f663 f664 f665 f666 f667 f668 f669)))) (fun i g1 g72 g73 g74 g75 g76 g77 g78 g79 g80 g81 g82 g83 g88 g89 g90 g96 g100 g101 g102 g107 => ((ju_i _ _ g83).trans ((ju_i _ _ g82).trans (hG_M i g1 g72 g73 g74 g75 g76 g77 g78 g79 g80 g81 g82 g83 g88 g89 g90 g96 g100 g101 g102 g107)))) (by omega) (RD.o (RD.o hR (Or.inr (by decide))) (Or.inr (by decide))) (by rw [((ju_i _ _ (by decide)).trans (ju_same _ _ _ _)), ((ju_i _ _ (by decide)).trans ((ju_i _ _ (by decide)).trans e1))] <;> omega) (fun c c0 c1 => by omega) (by rw [((ju_i _ _ (by decide)).trans ((ju_i _ _ (by decide)).trans e1)), ← e1]; exact hzk) (by rw [((ju_i _ _ (by decide)).trans ((ju_i _ _ (by decide)).trans e3))] <;> omega) (by rw [((ju_i _ _ (by decide)).trans ((ju_i _ _ (by decide)).trans e4))] <;> omega) (by rw [((ju_i _ _ (by decide)).trans ((ju_i _ _ (by decide)).trans e5))] <;> omega) (by omega)
set_option maxHeartbeats 8000000 in
theorem r_rules_L85_z {A : Nat → Option (Nat × (Nat → Int32))} {Q : Option Value → jm → Prop} {f : Int → Int} {N : Int} {M0 : jm} (q : ∀ (r : Int) (M' : jm), RI M' → RH M' → RF M' → (-17) ≤ r ∧ r ≤ 16 → MC M' → M' 598 1 = 0 → RUQ f N M' r → (∀ (a : Nat) (i : Int), a ≠ 598 → a ≠ 651 → a ≠ 652 → a ≠ 653 → a ≠ 654 → a ≠ 655 → a ≠ 656 → a ≠ 657 → a ≠ 658 → a ≠ 659 → a ≠ 660 → a ≠ 661 → a ≠ 662 → a ≠ 663 → a ≠ 664 → a ≠ 665 → a ≠ 666 → a ≠ 667 → a ≠ 668 → a ≠ 669 → M' a i = M0 a i) → (∀ (i : Int), i ≠ 1 → i ≠ 72 → i ≠ 73 → i ≠ 74 → i ≠ 75 → i ≠ 76 → i ≠ 77 → i ≠ 78 → i ≠ 79 → i ≠ 80 → i ≠ 81 → i ≠ 82 → i ≠ 83 → i ≠ 88 → i ≠ 89 → i ≠ 90 → i ≠ 96 → i ≠ 100 → i ≠ 101 → i ≠ 102 → i ≠ 107 → M' 598 i = M0 598 i) → Q (some (.int (Int32.ofInt r))) M') : ∀ (nM : Nat) (M : jm) , RI M → RH M → RF M → (∀ (a : Nat) (i : Int), a ≠ 598 → a ≠ 651 → a ≠ 652 → a ≠ 653 → a ≠ 654 → a ≠ 655 → a ≠ 656 → a ≠ 657 → a ≠ 658 → a ≠ 659 → a ≠ 660 → a ≠ 661 → a ≠ 662 → a ≠ 663 → a ≠ 664 → a ≠ 665 → a ≠ 666 → a ≠ 667 → a ≠ 668 → a ≠ 669 → M a i = M0 a i) → (∀ (i : Int), i ≠ 1 → i ≠ 72 → i ≠ 73 → i ≠ 74 → i ≠ 75 → i ≠ 76 → i ≠ 77 → i ≠ 78 → i ≠ 79 → i ≠ 80 → i ≠ 81 → i ≠ 82 → i ≠ 83 → i ≠ 88 → i ≠ 89 → i ≠ 90 → i ≠ 96 → i ≠ 100 → i ≠ 101 → i ≠ 102 → i ≠ 107 → M 598 i = M0 598 i) → XS M 0 0 (M 598 100) 1 (-1) → AK M → LB M → M 598 80 = 0 → M 598 96 ≤ M 598 89 ∧ M 598 89 ≤ 300 ∧ M 598 107 = 0 → M 598 73 ≤ M 598 72 → (M 598 74 = 3 → M 598 79 ≠ 10 ∧ M 598 79 ≠ 11) → MC M → ZLP f N M → M 598 81 = -1 → M 598 1 = 0 → TK M ≤ nM → jr A 9 xm_371 85 [(0, .ref (598))] [] M Q := by
  intro nM
  induction nM using Nat.strongRecOn with
  | ind nM ih =>
    intro M  hI_M hH_M hS_M hF_M hG_M  hy0 hy1 hy2 hy3 hy4 hy5 hy6 hy7 hy8 hy9 hy10 hm
    have hX := hy0
    have hA := hy1
    have hB := hy2
    have hM := hy7
    have b74 : (0 : Int) ≤ M 598 74 ∧ M 598 74 ≤ 4 := hI_M 598 74 (by decide)
    have b73 : (0 : Int) ≤ M 598 73 ∧ M 598 73 ≤ 1600 := hI_M 598 73 (by decide)
    have tg := TK.ge (M := M) (by omega) (by omega)
    obtain ⟨t, zd, zb, zs, nm, ak, hKt, hNM, hAK, hz, hor⟩ := hy8
    have kkt := hKt.kz
    have hT := hKt.1
    refine jr.aload_n rfl rfl ?_
    refine jr.iconst rfl ?_
    refine jr_v rfl rfl (Or.inl rfl) rfl rfl (by decide) rfl ⟨rfl, Nat.le_of_ble_eq_true rfl, Nat.le_of_ble_eq_true rfl⟩ rfl (jc.deep (c_isWord hI_M (by omega) (fun t87_0 t87_1 => ?_) (fun f87_0 => ?_)) (by decide))
    · refine jr.if_eq rfl rfl (by omega) (fun h => absurd h (by decide)) (fun _ => ?_)
      refine jr.aload_n rfl rfl ?_
      obtain ⟨v2, e2⟩ : ∃ z, M 598 80 = z := ⟨_, rfl⟩
      have b2 : 0 ≤ v2 ∧ v2 ≤ 7 := by rw [← e2]; exact hI_M 598 80 (by decide)
      obtain ⟨v3, e3⟩ : ∃ z, M 598 96 = z := ⟨_, rfl⟩
      have b3 : 0 ≤ v3 ∧ v3 ≤ 300 := by rw [← e3]; exact hI_M 598 96 (by decide)
      obtain ⟨v4, e4⟩ : ∃ z, M 598 89 = z := ⟨_, rfl⟩
      have b4 : 0 ≤ v4 ∧ v4 ≤ 301 := by rw [← e4]; exact hI_M 598 89 (by decide)
      obtain ⟨v5, e5⟩ : ∃ z, M 598 107 = z := ⟨_, rfl⟩
      have b5 : 0 ≤ v5 ∧ v5 ≤ 16 := by rw [← e5]; exact hI_M 598 107 (by decide)
      obtain ⟨v6, e6⟩ : ∃ z, M 598 73 = z := ⟨_, rfl⟩
      have b6 : 0 ≤ v6 ∧ v6 ≤ 1600 := by rw [← e6]; exact hI_M 598 73 (by decide)
      obtain ⟨v7, e7⟩ : ∃ z, M 598 72 = z := ⟨_, rfl⟩
      have b7 : 0 ≤ v7 ∧ v7 ≤ 1600 := by rw [← e7]; exact hI_M 598 72 (by decide)
      obtain ⟨v8, e8⟩ : ∃ z, M 598 74 = z := ⟨_, rfl⟩
      have b8 : 0 ≤ v8 ∧ v8 ≤ 4 := by rw [← e8]; exact hI_M 598 74 (by decide)
      obtain ⟨v9, e9⟩ : ∃ z, M 598 79 = z := ⟨_, rfl⟩
      have b9 : 0 ≤ v9 ∧ v9 ≤ 255 := by rw [← e9]; exact hI_M 598 79 (by decide)
      obtain ⟨v10, e10⟩ : ∃ z, M 598 76 = z := ⟨_, rfl⟩
      have b10 : (-1) ≤ v10 ∧ v10 ≤ 68 := by rw [← e10]; exact hI_M 598 76 (by decide)
      refine jr_v rfl rfl (Or.inl rfl) rfl rfl (by decide) rfl ⟨rfl, Nat.le_of_ble_eq_true rfl, Nat.le_of_ble_eq_true rfl⟩ rfl (jc.deep (r_chain_z hI_M hH_M hS_M   hX hA hB (by rw [e2, e3, e4, e5]; omega) (by rw [e6, e7]; omega) (by rw [e8, e9]; intro q; omega) (by rw [e8]; omega) hKt hz hNM hAK (by rw [e10]; omega) (fun M1 hI_M1 hH_M1 hS_M1  w1_0 w1_1 w1_2 w1_3 w1_4 w1_5 w1_6 w1_7 w1_8 w1_9 => ?_)) (by decide))
      have x1_72 := w1_9 72 (by decide) (by decide) (by decide) (by decide) (by decide) (by decide) (by decide) (by decide) (by decide) (by decide) (by decide) (by decide) (by decide) (by decide) (by decide) (by decide) (by decide)
      refine jr.goto rfl rfl ?_
      refine jr.aload_n rfl rfl ?_
      refine jr_v rfl rfl (Or.inl rfl) rfl rfl (by decide) rfl ⟨rfl, Nat.le_of_ble_eq_true rfl, Nat.le_of_ble_eq_true rfl⟩ rfl (jc.deep (c_good hI_M1  (fun t105_0 => ?_) (fun f105_0 => ?_)) (by decide))
      · obtain ⟨⟨ds1, ds2, ds3, ds4, ds5, ds6, ds7, ds8, ds9⟩, zb, ztk, zn, zc, zl⟩ := w1_0.resolve_left (fun z => z.1 t105_0)
        have dpx := XS.dep ds2
        have sl := XS.sgle ds2
        have hX : XS M1 0 0 (M1 598 100) 1 (-1) := by rw [show M1 598 100 = 0 by omega]; exact ds2
        have hA := ds8
        have hB := ds7
        have bM1_107 : (0 : Int) ≤ M1 598 107 ∧ M1 598 107 ≤ 16 := hI_M1 598 107 (by decide)
        have bM1_73 : (0 : Int) ≤ M1 598 73 ∧ M1 598 73 ≤ 1600 := hI_M1 598 73 (by decide)
        have bM1_88 : (0 : Int) ≤ M1 598 88 ∧ M1 598 88 ≤ 16 := hI_M1 598 88 (by decide)
        have bM1_100 : (0 : Int) ≤ M1 598 100 ∧ M1 598 100 ≤ 13 := hI_M1 598 100 (by decide)
        have bq74 : (0 : Int) ≤ M1 598 74 ∧ M1 598 74 ≤ 4 := hI_M1 598 74 (by decide)
        have tg1 := TK.ge (M := M1) (by omega) (by omega)
        obtain ⟨t2, zd2, zb2, zs2, nm2, ak2, hK2, hNM2, hAK2, hne2, hz2⟩ := w1_6 t105_0
        have kk2 := hK2.kz
        have h81c := w1_7 t105_0
        refine jr.if_eq rfl rfl (by omega) (fun h => absurd h (by decide)) (fun _ => ?_)
        refine jr.aload_n rfl rfl ?_
        obtain ⟨v11, e11⟩ : ∃ z, M1 598 74 = z := ⟨_, rfl⟩
        have b11 : 0 ≤ v11 ∧ v11 ≤ 4 := by rw [← e11]; exact hI_M1 598 74 (by decide)
        refine jr.getf (i := 74) (x := v11) (v := .int (Int32.ofInt (v11))) rfl rfl (by decide) rfl (by decide) rfl rfl e11 rfl ?_
        refine jr.if_ne rfl rfl (by omega) (fun h115 => ?_) (fun h115 => ?_)
        · obtain ⟨v12, e12⟩ : ∃ z, M1 598 80 = z := ⟨_, rfl⟩
          have b12 : 0 ≤ v12 ∧ v12 ≤ 7 := by rw [← e12]; exact hI_M1 598 80 (by decide)
          obtain ⟨v13, e13⟩ : ∃ z, M1 598 96 = z := ⟨_, rfl⟩
          have b13 : 0 ≤ v13 ∧ v13 ≤ 300 := by rw [← e13]; exact hI_M1 598 96 (by decide)
          obtain ⟨v14, e14⟩ : ∃ z, M1 598 89 = z := ⟨_, rfl⟩
          have b14 : 0 ≤ v14 ∧ v14 ≤ 301 := by rw [← e14]; exact hI_M1 598 89 (by decide)
          obtain ⟨v15, e15⟩ : ∃ z, M1 598 107 = z := ⟨_, rfl⟩
          have b15 : 0 ≤ v15 ∧ v15 ≤ 16 := by rw [← e15]; exact hI_M1 598 107 (by decide)
          obtain ⟨v16, e16⟩ : ∃ z, M1 598 73 = z := ⟨_, rfl⟩
          have b16 : 0 ≤ v16 ∧ v16 ≤ 1600 := by rw [← e16]; exact hI_M1 598 73 (by decide)
          have e17 : M1 598 72 = v7 := ((w1_9 72 (by decide) (by decide) (by decide) (by decide) (by decide) (by decide) (by decide) (by decide) (by decide) (by decide) (by decide) (by decide) (by decide) (by decide) (by decide) (by decide) (by decide)).trans e7)
          obtain ⟨v18, e18⟩ : ∃ z, M1 598 79 = z := ⟨_, rfl⟩
          have b18 : 0 ≤ v18 ∧ v18 ≤ 255 := by rw [← e18]; exact hI_M1 598 79 (by decide)
          have y19 : M1 598 80 = v12 := e12
          obtain ⟨v20, e20⟩ : ∃ z, M1 598 81 = z := ⟨_, rfl⟩
          have b20 : (-1) ≤ v20 ∧ v20 ≤ 1600 := by rw [← e20]; exact hI_M1 598 81 (by decide)
          have y21 : M1 598 81 = v20 := e20
          obtain ⟨v22, e22⟩ : ∃ z, M1 598 88 = z := ⟨_, rfl⟩
          have b22 : 0 ≤ v22 ∧ v22 ≤ 16 := by rw [← e22]; exact hI_M1 598 88 (by decide)
          have y23 : M1 598 88 = v22 := e22
          have y24 : M1 598 89 = v14 := e14
          have y25 : M1 598 96 = v13 := e13
          obtain ⟨v26, e26⟩ : ∃ z, M 598 1 = z := ⟨_, rfl⟩
          have b26 : 0 ≤ v26 ∧ v26 ≤ 1600 := by rw [← e26]; exact hI_M 598 1 (by decide)
          have e27 : M1 598 1 = v26 := ((w1_9 1 (by decide) (by decide) (by decide) (by decide) (by decide) (by decide) (by decide) (by decide) (by decide) (by decide) (by decide) (by decide) (by decide) (by decide) (by decide) (by decide) (by decide)).trans e26)
          refine jr.pick [0] rfl rfl ?_
          exact ih (nM - 1) (by omega) M1  hI_M1 hH_M1 hS_M1  (fun a i f598 f651 f652 f653 f654 f655 f656 f657 f658 f659 f660 f661 f662 f663 f664 f665 f666 f667 f668 f669 => ((w1_8 a i f598 f659 f660 f661 f662 f663 f664 f665 f666 f667 f668 f669 f656 f657 f658).trans (hF_M a i f598 f651 f652 f653 f654 f655 f656 f657 f658 f659 f660 f661 f662 f663 f664 f665 f666 f667 f668 f669))) (fun i g1 g72 g73 g74 g75 g76 g77 g78 g79 g80 g81 g82 g83 g88 g89 g90 g96 g100 g101 g102 g107 => ((w1_9 i g73 g74 g75 g76 g77 g78 g79 g80 g81 g89 g90 g96 g100 g102 g107 g88 g101).trans (hG_M i g1 g72 g73 g74 g75 g76 g77 g78 g79 g80 g81 g82 g83 g88 g89 g90 g96 g100 g101 g102 g107)))  hX hA hB (by rw [e12] <;> omega) (by rw [e13, e14, e15] <;> omega) (by rw [e16, e17] <;> omega) (by rw [e11, e18] <;> omega) (MC.fr hM (fun i => w1_8 652 i (by decide) (by decide) (by decide) (by decide) (by decide) (by decide) (by decide) (by decide) (by decide) (by decide) (by decide) (by decide) (by decide) (by decide) (by decide)) (fun i => w1_8 653 i (by decide) (by decide) (by decide) (by decide) (by decide) (by decide) (by decide) (by decide) (by decide) (by decide) (by decide) (by decide) (by decide) (by decide) (by decide)) (fun i => w1_8 654 i (by decide) (by decide) (by decide) (by decide) (by decide) (by decide) (by decide) (by decide) (by decide) (by decide) (by decide) (by decide) (by decide) (by decide) (by decide)) (fun i => w1_8 655 i (by decide) (by decide) (by decide) (by decide) (by decide) (by decide) (by decide) (by decide) (by decide) (by decide) (by decide) (by decide) (by decide) (by decide) (by decide)) (w1_9 82 (by decide) (by decide) (by decide) (by decide) (by decide) (by decide) (by decide) (by decide) (by decide) (by decide) (by decide) (by decide) (by decide) (by decide) (by decide) (by decide) (by decide))) ⟨t2, zd2, zb2, zs2, nm2, ak2, hK2, hNM2, hAK2, hz2, Or.inr (by omega)⟩ (by rw [e20] <;> omega) (by rw [e27] <;> omega) (by omega)
        · refine jr.aload_n rfl rfl ?_
          obtain ⟨v28, e28⟩ : ∃ z, M1 598 80 = z := ⟨_, rfl⟩
          have b28 : 0 ≤ v28 ∧ v28 ≤ 7 := by rw [← e28]; exact hI_M1 598 80 (by decide)
          refine jr_v rfl rfl (Or.inl rfl) rfl rfl (by decide) rfl ⟨rfl, Nat.le_of_ble_eq_true rfl, Nat.le_of_ble_eq_true rfl⟩ rfl (jc.deep (c_good hI_M1  (fun t119_0 => ?_) (fun f119_0 => ?_)) (by decide))
          · refine jr.if_eq rfl rfl (by omega) (fun h => absurd h (by decide)) (fun _ => ?_)
            refine jr.aload_n rfl rfl ?_
            refine jr_v rfl rfl (Or.inl rfl) rfl rfl (by decide) rfl ⟨rfl, Nat.le_of_ble_eq_true rfl, Nat.le_of_ble_eq_true rfl⟩ rfl (jc.deep (r_resolve_z hI_M1 hH_M1 hS_M1   ds2 hA (by rw [e28]; omega) hNM2 hAK2 (fun M29 hI_M29 hH_M29 hS_M29  w29_0 w29_1 w29_2 w29_3 w29_4 w29_5 => ?_)) (by decide))
            have tk29 : TK M29 = TK M1 := TK.fr (w29_5 73 (by decide) (by decide)) (w29_5 74 (by decide) (by decide))
            have x29_72 := w29_5 72 (by decide) (by decide)
            have x29_73 := w29_5 73 (by decide) (by decide)
            have x29_74 := w29_5 74 (by decide) (by decide)
            have x29_75 := w29_5 75 (by decide) (by decide)
            have x29_76 := w29_5 76 (by decide) (by decide)
            have x29_78 := w29_5 78 (by decide) (by decide)
            have x29_79 := w29_5 79 (by decide) (by decide)
            have x29_89 := w29_5 89 (by decide) (by decide)
            have x29_100 := w29_5 100 (by decide) (by decide)
            have x29_101 := w29_5 101 (by decide) (by decide)
            have x29_107 := w29_5 107 (by decide) (by decide)
            have x29_88 := w29_5 88 (by decide) (by decide)
            have x29_96 := w29_5 96 (by decide) (by decide)
            refine jr.aload_n rfl rfl ?_
            refine jr_v rfl rfl (Or.inl rfl) rfl rfl (by decide) rfl ⟨rfl, Nat.le_of_ble_eq_true rfl, Nat.le_of_ble_eq_true rfl⟩ rfl (jc.deep (c_good hI_M29  (fun t130_0 => ?_) (fun f130_0 => ?_)) (by decide))
            · have h81r := w29_3 t130_0
              refine jr.if_ne rfl rfl (by omega) (fun _ => ?_) (fun h => absurd (by decide) h)
              obtain ⟨v30, e30⟩ : ∃ z, M1 598 107 = z := ⟨_, rfl⟩
              have b30 : 0 ≤ v30 ∧ v30 ≤ 16 := by rw [← e30]; exact hI_M1 598 107 (by decide)
              have e31 : M29 598 107 = v30 := ((w29_5 107 (by decide) (by decide)).trans e30)
              have y32 : M29 598 107 = v30 := e31
              obtain ⟨v33, e33⟩ : ∃ z, M1 598 90 = z := ⟨_, rfl⟩
              have b33 : 0 ≤ v33 ∧ v33 ≤ 2200 := by rw [← e33]; exact hI_M1 598 90 (by decide)
              have e34 : M29 598 90 = v33 := ((w29_5 90 (by decide) (by decide)).trans e33)
              have y35 : M29 598 90 = v33 := e34
              obtain ⟨v36, e36⟩ : ∃ z, M1 598 88 = z := ⟨_, rfl⟩
              have b36 : 0 ≤ v36 ∧ v36 ≤ 16 := by rw [← e36]; exact hI_M1 598 88 (by decide)
              have e37 : M29 598 88 = v36 := ((w29_5 88 (by decide) (by decide)).trans e36)
              obtain ⟨v38, e38⟩ : ∃ z, M29 598 80 = z := ⟨_, rfl⟩
              have b38 : 0 ≤ v38 ∧ v38 ≤ 7 := by rw [← e38]; exact hI_M29 598 80 (by decide)
              have y39 : M29 598 80 = v38 := e38
              obtain ⟨v40, e40⟩ : ∃ z, M29 598 81 = z := ⟨_, rfl⟩
              have b40 : (-1) ≤ v40 ∧ v40 ≤ 1600 := by rw [← e40]; exact hI_M29 598 81 (by decide)
              have y41 : M29 598 81 = v40 := e40
              have y42 : M29 598 88 = v36 := e37
              have y43 : M29 598 80 = v38 := e38
              have y44 : M29 598 81 = v40 := e40
              have y45 : M29 598 88 = v36 := e37
              have y46 : M29 598 80 = v38 := e38
              have y47 : M29 598 81 = v40 := e40
              have y48 : M29 598 88 = v36 := e37
              obtain ⟨v49, e49⟩ : ∃ z, M 598 1 = z := ⟨_, rfl⟩
              have b49 : 0 ≤ v49 ∧ v49 ≤ 1600 := by rw [← e49]; exact hI_M 598 1 (by decide)
              have e50 : M1 598 1 = v49 := ((w1_9 1 (by decide) (by decide) (by decide) (by decide) (by decide) (by decide) (by decide) (by decide) (by decide) (by decide) (by decide) (by decide) (by decide) (by decide) (by decide) (by decide) (by decide)).trans e49)
              have e51 : M29 598 1 = v49 := ((w29_5 1 (by decide) (by decide)).trans e50)
              refine jr.pick [0] rfl rfl ?_
              exact r_rules_L144_z q M29  hI_M29 hH_M29 hS_M29  (fun a i f598 f651 f652 f653 f654 f655 f656 f657 f658 f659 f660 f661 f662 f663 f664 f665 f666 f667 f668 f669 => ((w29_4 a i f598 f660).trans ((w1_8 a i f598 f659 f660 f661 f662 f663 f664 f665 f666 f667 f668 f669 f656 f657 f658).trans (hF_M a i f598 f651 f652 f653 f654 f655 f656 f657 f658 f659 f660 f661 f662 f663 f664 f665 f666 f667 f668 f669)))) (fun i g1 g72 g73 g74 g75 g76 g77 g78 g79 g80 g81 g82 g83 g88 g89 g90 g96 g100 g101 g102 g107 => ((w29_5 i g80 g81).trans ((w1_9 i g73 g74 g75 g76 g77 g78 g79 g80 g81 g89 g90 g96 g100 g102 g107 g88 g101).trans (hG_M i g1 g72 g73 g74 g75 g76 g77 g78 g79 g80 g81 g82 g83 g88 g89 g90 g96 g100 g101 g102 g107))))  ⟨w29_0, by omega, by omega, by omega, by rw [w29_5 90 (by decide) (by decide), w29_4 659 _ (by decide) (by decide)]; exact zl⟩ (by rw [e37] <;> omega) (by have z := zr.fin hz2 hne2 (by omega); rw [w29_1 (by omega)] at z; exact z) (by omega) (by omega) (by rw [e51] <;> omega)
            · refine jr.if_ne rfl rfl (by omega) (fun h => absurd h (by decide)) (fun _ => ?_)
              refine jr.bipush rfl (by decide) ?_
              refine jr.aload_n rfl rfl ?_
              obtain ⟨v52, e52⟩ : ∃ z, M29 598 80 = z := ⟨_, rfl⟩
              have b52 : 0 ≤ v52 ∧ v52 ≤ 7 := by rw [← e52]; exact hI_M29 598 80 (by decide)
              refine jr.getf (i := 80) (x := v52) (v := .int (Int32.ofInt (v52))) rfl rfl (by decide) rfl (by decide) rfl rfl e52 rfl ?_
              refine jr.isub rfl ?_
              obtain ⟨v53, e53⟩ : ∃ z, M 598 1 = z := ⟨_, rfl⟩
              have b53 : 0 ≤ v53 ∧ v53 ≤ 1600 := by rw [← e53]; exact hI_M 598 1 (by decide)
              have e54 : M1 598 1 = v53 := ((w1_9 1 (by decide) (by decide) (by decide) (by decide) (by decide) (by decide) (by decide) (by decide) (by decide) (by decide) (by decide) (by decide) (by decide) (by decide) (by decide) (by decide) (by decide)).trans e53)
              have e55 : M29 598 1 = v53 := ((w29_5 1 (by decide) (by decide)).trans e54)
              have y56 : M29 598 80 = v52 := e52
              obtain ⟨v57, e57⟩ : ∃ z, M29 598 81 = z := ⟨_, rfl⟩
              have b57 : (-1) ≤ v57 ∧ v57 ≤ 1600 := by rw [← e57]; exact hI_M29 598 81 (by decide)
              have y58 : M29 598 81 = v57 := e57
              obtain ⟨v59, e59⟩ : ∃ z, M 598 82 = z := ⟨_, rfl⟩
              have b59 : 0 ≤ v59 ∧ v59 ≤ 16 := by rw [← e59]; exact hI_M 598 82 (by decide)
              have e60 : M1 598 82 = v59 := ((w1_9 82 (by decide) (by decide) (by decide) (by decide) (by decide) (by decide) (by decide) (by decide) (by decide) (by decide) (by decide) (by decide) (by decide) (by decide) (by decide) (by decide) (by decide)).trans e59)
              have e61 : M29 598 82 = v59 := ((w29_5 82 (by decide) (by decide)).trans e60)
              have y62 : M29 598 82 = v59 := e61
              obtain ⟨v63, e63⟩ : ∃ z, M1 598 88 = z := ⟨_, rfl⟩
              have b63 : 0 ≤ v63 ∧ v63 ≤ 16 := by rw [← e63]; exact hI_M1 598 88 (by decide)
              have e64 : M29 598 88 = v63 := ((w29_5 88 (by decide) (by decide)).trans e63)
              have y65 : M29 598 88 = v63 := e64
              exact jr.ireturn rfl rfl rfl (q _ _ hI_M29 hH_M29 hS_M29  (by omega) (MC.fr (MC.fr hM (fun i => w1_8 652 i (by decide) (by decide) (by decide) (by decide) (by decide) (by decide) (by decide) (by decide) (by decide) (by decide) (by decide) (by decide) (by decide) (by decide) (by decide)) (fun i => w1_8 653 i (by decide) (by decide) (by decide) (by decide) (by decide) (by decide) (by decide) (by decide) (by decide) (by decide) (by decide) (by decide) (by decide) (by decide) (by decide)) (fun i => w1_8 654 i (by decide) (by decide) (by decide) (by decide) (by decide) (by decide) (by decide) (by decide) (by decide) (by decide) (by decide) (by decide) (by decide) (by decide) (by decide)) (fun i => w1_8 655 i (by decide) (by decide) (by decide) (by decide) (by decide) (by decide) (by decide) (by decide) (by decide) (by decide) (by decide) (by decide) (by decide) (by decide) (by decide)) (w1_9 82 (by decide) (by decide) (by decide) (by decide) (by decide) (by decide) (by decide) (by decide) (by decide) (by decide) (by decide) (by decide) (by decide) (by decide) (by decide) (by decide) (by decide))) (fun i => w29_4 652 i (by decide) (by decide)) (fun i => w29_4 653 i (by decide) (by decide)) (fun i => w29_4 654 i (by decide) (by decide)) (fun i => w29_4 655 i (by decide) (by decide)) (w29_5 82 (by decide) (by decide))) (by have hq : M29 598 1 = v53 := e55; omega) (Or.inr ⟨by omega, by omega, (by have z := zr.fin hz2 hne2 (by omega); rw [w29_2 (by omega)] at z; exact z)⟩) (fun a i f598 f651 f652 f653 f654 f655 f656 f657 f658 f659 f660 f661 f662 f663 f664 f665 f666 f667 f668 f669 => ((w29_4 a i f598 f660).trans ((w1_8 a i f598 f659 f660 f661 f662 f663 f664 f665 f666 f667 f668 f669 f656 f657 f658).trans (hF_M a i f598 f651 f652 f653 f654 f655 f656 f657 f658 f659 f660 f661 f662 f663 f664 f665 f666 f667 f668 f669)))) (fun i g1 g72 g73 g74 g75 g76 g77 g78 g79 g80 g81 g82 g83 g88 g89 g90 g96 g100 g101 g102 g107 => ((w29_5 i g80 g81).trans ((w1_9 i g73 g74 g75 g76 g77 g78 g79 g80 g81 g89 g90 g96 g100 g102 g107 g88 g101).trans (hG_M i g1 g72 g73 g74 g75 g76 g77 g78 g79 g80 g81 g82 g83 g88 g89 g90 g96 g100 g101 g102 g107)))))
          · exfalso
            omega
      · refine jr.if_eq rfl rfl (by omega) (fun _ => ?_) (fun h => absurd (by decide) h)
        refine jr.aload_n rfl rfl ?_
        obtain ⟨v66, e66⟩ : ∃ z, M1 598 80 = z := ⟨_, rfl⟩
        have b66 : 0 ≤ v66 ∧ v66 ≤ 7 := by rw [← e66]; exact hI_M1 598 80 (by decide)
        refine jr_v rfl rfl (Or.inl rfl) rfl rfl (by decide) rfl ⟨rfl, Nat.le_of_ble_eq_true rfl, Nat.le_of_ble_eq_true rfl⟩ rfl (jc.deep (c_good hI_M1  (fun t119_0 => ?_) (fun f119_0 => ?_)) (by decide))
        · exfalso
          omega
        · refine jr.if_eq rfl rfl (by omega) (fun _ => ?_) (fun h => absurd (by decide) h)
          refine jr.aload_n rfl rfl ?_
          refine jr_v rfl rfl (Or.inl rfl) rfl rfl (by decide) rfl ⟨rfl, Nat.le_of_ble_eq_true rfl, Nat.le_of_ble_eq_true rfl⟩ rfl (jc.deep (c_good hI_M1  (fun t130_0 => ?_) (fun f130_0 => ?_)) (by decide))
          · exfalso
            omega
          · refine jr.if_ne rfl rfl (by omega) (fun h => absurd h (by decide)) (fun _ => ?_)
            refine jr.bipush rfl (by decide) ?_
            refine jr.aload_n rfl rfl ?_
            refine jr.getf (i := 80) (x := v66) (v := .int (Int32.ofInt (v66))) rfl rfl (by decide) rfl (by decide) rfl rfl e66 rfl ?_
            refine jr.isub rfl ?_
            obtain ⟨v67, e67⟩ : ∃ z, M 598 1 = z := ⟨_, rfl⟩
            have b67 : 0 ≤ v67 ∧ v67 ≤ 1600 := by rw [← e67]; exact hI_M 598 1 (by decide)
            have e68 : M1 598 1 = v67 := ((w1_9 1 (by decide) (by decide) (by decide) (by decide) (by decide) (by decide) (by decide) (by decide) (by decide) (by decide) (by decide) (by decide) (by decide) (by decide) (by decide) (by decide) (by decide)).trans e67)
            have y69 : M1 598 80 = v66 := e66
            obtain ⟨v70, e70⟩ : ∃ z, M1 598 81 = z := ⟨_, rfl⟩
            have b70 : (-1) ≤ v70 ∧ v70 ≤ 1600 := by rw [← e70]; exact hI_M1 598 81 (by decide)
            have y71 : M1 598 81 = v70 := e70
            obtain ⟨v72, e72⟩ : ∃ z, M 598 82 = z := ⟨_, rfl⟩
            have b72 : 0 ≤ v72 ∧ v72 ≤ 16 := by rw [← e72]; exact hI_M 598 82 (by decide)
            have e73 : M1 598 82 = v72 := ((w1_9 82 (by decide) (by decide) (by decide) (by decide) (by decide) (by decide) (by decide) (by decide) (by decide) (by decide) (by decide) (by decide) (by decide) (by decide) (by decide) (by decide) (by decide)).trans e72)
            have y74 : M1 598 82 = v72 := e73
            obtain ⟨v75, e75⟩ : ∃ z, M1 598 88 = z := ⟨_, rfl⟩
            have b75 : 0 ≤ v75 ∧ v75 ≤ 16 := by rw [← e75]; exact hI_M1 598 88 (by decide)
            have y76 : M1 598 88 = v75 := e75
            exact jr.ireturn rfl rfl rfl (q _ _ hI_M1 hH_M1 hS_M1  (by omega) (MC.fr hM (fun i => w1_8 652 i (by decide) (by decide) (by decide) (by decide) (by decide) (by decide) (by decide) (by decide) (by decide) (by decide) (by decide) (by decide) (by decide) (by decide) (by decide)) (fun i => w1_8 653 i (by decide) (by decide) (by decide) (by decide) (by decide) (by decide) (by decide) (by decide) (by decide) (by decide) (by decide) (by decide) (by decide) (by decide) (by decide)) (fun i => w1_8 654 i (by decide) (by decide) (by decide) (by decide) (by decide) (by decide) (by decide) (by decide) (by decide) (by decide) (by decide) (by decide) (by decide) (by decide) (by decide)) (fun i => w1_8 655 i (by decide) (by decide) (by decide) (by decide) (by decide) (by decide) (by decide) (by decide) (by decide) (by decide) (by decide) (by decide) (by decide) (by decide) (by decide)) (w1_9 82 (by decide) (by decide) (by decide) (by decide) (by decide) (by decide) (by decide) (by decide) (by decide) (by decide) (by decide) (by decide) (by decide) (by decide) (by decide) (by decide) (by decide))) (by have hq : M1 598 1 = v67 := e68; omega) (Or.inr ⟨by omega, by omega, (w1_5 (by omega))⟩) (fun a i f598 f651 f652 f653 f654 f655 f656 f657 f658 f659 f660 f661 f662 f663 f664 f665 f666 f667 f668 f669 => ((w1_8 a i f598 f659 f660 f661 f662 f663 f664 f665 f666 f667 f668 f669 f656 f657 f658).trans (hF_M a i f598 f651 f652 f653 f654 f655 f656 f657 f658 f659 f660 f661 f662 f663 f664 f665 f666 f667 f668 f669))) (fun i g1 g72 g73 g74 g75 g76 g77 g78 g79 g80 g81 g82 g83 g88 g89 g90 g96 g100 g101 g102 g107 => ((w1_9 i g73 g74 g75 g76 g77 g78 g79 g80 g81 g89 g90 g96 g100 g102 g107 g88 g101).trans (hG_M i g1 g72 g73 g74 g75 g76 g77 g78 g79 g80 g81 g82 g83 g88 g89 g90 g96 g100 g101 g102 g107))))
    · refine jr.if_eq rfl rfl (by omega) (fun _ => ?_) (fun h => absurd (by decide) h)
      refine jr.aload_n rfl rfl ?_
      obtain ⟨v77, e77⟩ : ∃ z, M 598 80 = z := ⟨_, rfl⟩
      have b77 : 0 ≤ v77 ∧ v77 ≤ 7 := by rw [← e77]; exact hI_M 598 80 (by decide)
      obtain ⟨v78, e78⟩ : ∃ z, M 598 89 = z := ⟨_, rfl⟩
      have b78 : 0 ≤ v78 ∧ v78 ≤ 301 := by rw [← e78]; exact hI_M 598 89 (by decide)
      obtain ⟨v79, e79⟩ : ∃ z, M 598 100 = z := ⟨_, rfl⟩
      have b79 : 0 ≤ v79 ∧ v79 ≤ 13 := by rw [← e79]; exact hI_M 598 100 (by decide)
      obtain ⟨v80, e80⟩ : ∃ z, M 598 81 = z := ⟨_, rfl⟩
      have b80 : (-1) ≤ v80 ∧ v80 ≤ 1600 := by rw [← e80]; exact hI_M 598 81 (by decide)
      refine jr_v rfl rfl (Or.inl rfl) rfl rfl (by decide) rfl ⟨rfl, Nat.le_of_ble_eq_true rfl, Nat.le_of_ble_eq_true rfl⟩ rfl (jc.deep (c_wrongToken_z (f := f) (N := N) hI_M hH_M hS_M hKt (by rw [e77]; omega) (fun M81 hI_M81 hH_M81 hS_M81 qn81 q081 q181 w81_50 w81_51 => ?_)) (by decide))
      have tk81 : TK M81 = TK M := TK.fr (w81_51 73 (by decide) (by decide)) (w81_51 74 (by decide) (by decide))
      have x81_72 := w81_51 72 (by decide) (by decide)
      have x81_73 := w81_51 73 (by decide) (by decide)
      have x81_74 := w81_51 74 (by decide) (by decide)
      have x81_75 := w81_51 75 (by decide) (by decide)
      have x81_76 := w81_51 76 (by decide) (by decide)
      have x81_78 := w81_51 78 (by decide) (by decide)
      have x81_79 := w81_51 79 (by decide) (by decide)
      have x81_89 := w81_51 89 (by decide) (by decide)
      have x81_100 := w81_51 100 (by decide) (by decide)
      have zfz : zr f N (zsI f N) (zft (M81 598 80) (M81 598 81)) := zr.rfz (zr.cno hz (by rcases hor with u | u; (exact fun q => q.1 u); (exact fun q => u q.2)) (fun z => by have q := hKt.wz (by omega); omega)) q081 q181
      refine jr.aload_n rfl rfl ?_
      obtain ⟨v82, e82⟩ : ∃ z, M81 598 80 = z := ⟨_, rfl⟩
      have b82 : 0 ≤ v82 ∧ v82 ≤ 7 := by rw [← e82]; exact hI_M81 598 80 (by decide)
      refine jr_v rfl rfl (Or.inl rfl) rfl rfl (by decide) rfl ⟨rfl, Nat.le_of_ble_eq_true rfl, Nat.le_of_ble_eq_true rfl⟩ rfl (jc.deep (c_good hI_M81  (fun t105_0 => ?_) (fun f105_0 => ?_)) (by decide))
      · exfalso
        omega
      · refine jr.if_eq rfl rfl (by omega) (fun _ => ?_) (fun h => absurd (by decide) h)
        refine jr.aload_n rfl rfl ?_
        refine jr_v rfl rfl (Or.inl rfl) rfl rfl (by decide) rfl ⟨rfl, Nat.le_of_ble_eq_true rfl, Nat.le_of_ble_eq_true rfl⟩ rfl (jc.deep (c_good hI_M81  (fun t119_0 => ?_) (fun f119_0 => ?_)) (by decide))
        · exfalso
          omega
        · refine jr.if_eq rfl rfl (by omega) (fun _ => ?_) (fun h => absurd (by decide) h)
          refine jr.aload_n rfl rfl ?_
          refine jr_v rfl rfl (Or.inl rfl) rfl rfl (by decide) rfl ⟨rfl, Nat.le_of_ble_eq_true rfl, Nat.le_of_ble_eq_true rfl⟩ rfl (jc.deep (c_good hI_M81  (fun t130_0 => ?_) (fun f130_0 => ?_)) (by decide))
          · exfalso
            omega
          · refine jr.if_ne rfl rfl (by omega) (fun h => absurd h (by decide)) (fun _ => ?_)
            refine jr.bipush rfl (by decide) ?_
            refine jr.aload_n rfl rfl ?_
            refine jr.getf (i := 80) (x := v82) (v := .int (Int32.ofInt (v82))) rfl rfl (by decide) rfl (by decide) rfl rfl e82 rfl ?_
            refine jr.isub rfl ?_
            obtain ⟨v83, e83⟩ : ∃ z, M 598 1 = z := ⟨_, rfl⟩
            have b83 : 0 ≤ v83 ∧ v83 ≤ 1600 := by rw [← e83]; exact hI_M 598 1 (by decide)
            have e84 : M81 598 1 = v83 := ((w81_51 1 (by decide) (by decide)).trans e83)
            have y85 : M81 598 80 = v82 := e82
            obtain ⟨v86, e86⟩ : ∃ z, M81 598 81 = z := ⟨_, rfl⟩
            have b86 : (-1) ≤ v86 ∧ v86 ≤ 1600 := by rw [← e86]; exact hI_M81 598 81 (by decide)
            have y87 : M81 598 81 = v86 := e86
            obtain ⟨v88, e88⟩ : ∃ z, M 598 82 = z := ⟨_, rfl⟩
            have b88 : 0 ≤ v88 ∧ v88 ≤ 16 := by rw [← e88]; exact hI_M 598 82 (by decide)
            have e89 : M81 598 82 = v88 := ((w81_51 82 (by decide) (by decide)).trans e88)
            have y90 : M81 598 82 = v88 := e89
            obtain ⟨v91, e91⟩ : ∃ z, M 598 88 = z := ⟨_, rfl⟩
            have b91 : 0 ≤ v91 ∧ v91 ≤ 16 := by rw [← e91]; exact hI_M 598 88 (by decide)
            have e92 : M81 598 88 = v91 := ((w81_51 88 (by decide) (by decide)).trans e91)
            have y93 : M81 598 88 = v91 := e92
            exact jr.ireturn rfl rfl rfl (q _ _ hI_M81 hH_M81 hS_M81  (by omega) (MC.fr hM (fun i => w81_50 652 i (by decide)) (fun i => w81_50 653 i (by decide)) (fun i => w81_50 654 i (by decide)) (fun i => w81_50 655 i (by decide)) (w81_51 82 (by decide) (by decide))) (by have hq : M81 598 1 = v83 := e84; omega) (Or.inr ⟨by omega, by omega, zfz⟩) (fun a i f598 f651 f652 f653 f654 f655 f656 f657 f658 f659 f660 f661 f662 f663 f664 f665 f666 f667 f668 f669 => ((w81_50 a i f598).trans (hF_M a i f598 f651 f652 f653 f654 f655 f656 f657 f658 f659 f660 f661 f662 f663 f664 f665 f666 f667 f668 f669))) (fun i g1 g72 g73 g74 g75 g76 g77 g78 g79 g80 g81 g82 g83 g88 g89 g90 g96 g100 g101 g102 g107 => ((w81_51 i g80 g81).trans (hG_M i g1 g72 g73 g74 g75 g76 g77 g78 g79 g80 g81 g82 g83 g88 g89 g90 g96 g100 g101 g102 g107))))
set_option maxHeartbeats 8000000 in
theorem r_rules_L10_z {A : Nat → Option (Nat × (Nat → Int32))} {Q : Option Value → jm → Prop} {f : Int → Int} {N : Int} {M0 : jm} (q : ∀ (r : Int) (M' : jm), RI M' → RH M' → RF M' → (-17) ≤ r ∧ r ≤ 16 → MC M' → M' 598 1 = 0 → RUQ f N M' r → (∀ (a : Nat) (i : Int), a ≠ 598 → a ≠ 651 → a ≠ 652 → a ≠ 653 → a ≠ 654 → a ≠ 655 → a ≠ 656 → a ≠ 657 → a ≠ 658 → a ≠ 659 → a ≠ 660 → a ≠ 661 → a ≠ 662 → a ≠ 663 → a ≠ 664 → a ≠ 665 → a ≠ 666 → a ≠ 667 → a ≠ 668 → a ≠ 669 → M' a i = M0 a i) → (∀ (i : Int), i ≠ 1 → i ≠ 72 → i ≠ 73 → i ≠ 74 → i ≠ 75 → i ≠ 76 → i ≠ 77 → i ≠ 78 → i ≠ 79 → i ≠ 80 → i ≠ 81 → i ≠ 82 → i ≠ 83 → i ≠ 88 → i ≠ 89 → i ≠ 90 → i ≠ 96 → i ≠ 100 → i ≠ 101 → i ≠ 102 → i ≠ 107 → M' 598 i = M0 598 i) → Q (some (.int (Int32.ofInt r))) M') : ∀ (nM : Nat) (M : jm) (k : Int), RI M → RH M → RF M → (∀ (a : Nat) (i : Int), a ≠ 598 → a ≠ 651 → a ≠ 652 → a ≠ 653 → a ≠ 654 → a ≠ 655 → a ≠ 656 → a ≠ 657 → a ≠ 658 → a ≠ 659 → a ≠ 660 → a ≠ 661 → a ≠ 662 → a ≠ 663 → a ≠ 664 → a ≠ 665 → a ≠ 666 → a ≠ 667 → a ≠ 668 → a ≠ 669 → M a i = M0 a i) → (∀ (i : Int), i ≠ 1 → i ≠ 72 → i ≠ 73 → i ≠ 74 → i ≠ 75 → i ≠ 76 → i ≠ 77 → i ≠ 78 → i ≠ 79 → i ≠ 80 → i ≠ 81 → i ≠ 82 → i ≠ 83 → i ≠ 88 → i ≠ 89 → i ≠ 90 → i ≠ 96 → i ≠ 100 → i ≠ 101 → i ≠ 102 → i ≠ 107 → M 598 i = M0 598 i) → 0 ≤ k ∧ k ≤ 1600 → M 598 72 = M 598 1 → MC M → FWq (M 650) → TWr M → M 598 1 = N → (∀ i : Int, 0 ≤ i → i < N → M 599 i = f i) → (∀ i : Int, 0 ≤ i → i < k → M 651 i = f i) → 1600 - k ≤ nM → jr A 9 xm_371 10 [(1, .int (Int32.ofInt (k))), (0, .ref (598))] [] M Q := by
  intro nM
  induction nM using Nat.strongRecOn with
  | ind nM ih =>
    intro M k hI_M hH_M hS_M hF_M hG_M h_k hy0 hy1 hy2 hy3 hy4 hy5 hy6 hm
    have hM := hy1
    have hF := hy2
    have hTW := hy3
    have hN1 := hy4
    have hTp := hy5
    have hTx := hy6
    refine jr.iload_n rfl rfl ?_
    refine jr.aload_n rfl rfl ?_
    obtain ⟨v1, e1⟩ : ∃ z, M 598 1 = z := ⟨_, rfl⟩
    have b1 : 0 ≤ v1 ∧ v1 ≤ 1600 := by rw [← e1]; exact hI_M 598 1 (by decide)
    refine jr.getf (i := 1) (x := v1) (v := .int (Int32.ofInt (v1))) rfl rfl (by decide) rfl (by decide) rfl rfl e1 rfl ?_
    refine jr.icmp_ge rfl rfl (by omega) (by omega) (fun h15 => ?_) (fun h15 => ?_)
    · refine jr.aload_n rfl rfl ?_
      refine jr.iconst rfl ?_
      refine jr.putf (i := 1) (x := 0) rfl rfl (by decide) rfl (by decide) rfl rfl rfl rfl rfl ?_
      refine jr.aload_n rfl rfl ?_
      refine jr.iconst rfl ?_
      refine jr.putf (i := 73) (x := 0) rfl rfl (by decide) rfl (by decide) rfl rfl rfl rfl rfl ?_
      refine jr.aload_n rfl rfl ?_
      refine jr.iconst rfl ?_
      refine jr.putf (i := 80) (x := 0) rfl rfl (by decide) rfl (by decide) rfl rfl rfl rfl rfl ?_
      refine jr.aload_n rfl rfl ?_
      refine jr.iconst rfl ?_
      refine jr.putf (i := 81) (x := (-1)) rfl rfl (by decide) rfl (by decide) rfl rfl rfl rfl rfl ?_
      refine jr.aload_n rfl rfl ?_
      refine jr.iconst rfl ?_
      refine jr.putf (i := 88) (x := 0) rfl rfl (by decide) rfl (by decide) rfl rfl rfl rfl rfl ?_
      refine jr.aload_n rfl rfl ?_
      refine jr.iconst rfl ?_
      refine jr.putf (i := 89) (x := 0) rfl rfl (by decide) rfl (by decide) rfl rfl rfl rfl rfl ?_
      refine jr.aload_n rfl rfl ?_
      refine jr.iconst rfl ?_
      refine jr.putf (i := 90) (x := 0) rfl rfl (by decide) rfl (by decide) rfl rfl rfl rfl rfl ?_
      refine jr.aload_n rfl rfl ?_
      refine jr.iconst rfl ?_
      refine jr.putf (i := 96) (x := 0) rfl rfl (by decide) rfl (by decide) rfl rfl rfl rfl rfl ?_
      refine jr.aload_n rfl rfl ?_
      refine jr.iconst rfl ?_
      refine jr.putf (i := 107) (x := 0) rfl rfl (by decide) rfl (by decide) rfl rfl rfl rfl rfl ?_
      refine jr.aload_n rfl rfl ?_
      obtain ⟨v3, e3⟩ : ∃ z, M 598 72 = z := ⟨_, rfl⟩
      have b3 : 0 ≤ v3 ∧ v3 ≤ 1600 := by rw [← e3]; exact hI_M 598 72 (by decide)
      obtain ⟨v5, e5⟩ : ∃ z, M 598 74 = z := ⟨_, rfl⟩
      have b5 : 0 ≤ v5 ∧ v5 ≤ 4 := by rw [← e5]; exact hI_M 598 74 (by decide)
      obtain ⟨v8, e8⟩ : ∃ z, M 598 100 = z := ⟨_, rfl⟩
      have b8 : 0 ≤ v8 ∧ v8 ≤ 13 := by rw [← e8]; exact hI_M 598 100 (by decide)
      refine jr_v rfl rfl (Or.inl rfl) rfl rfl (by decide) rfl ⟨rfl, Nat.le_of_ble_eq_true rfl, Nat.le_of_ble_eq_true rfl⟩ rfl (jc.deep (r_next_z (RI.u (RI.u (RI.u (RI.u (RI.u (RI.u (RI.u (RI.u (RI.u hI_M (a := 598) (i := 1) (show (0 : Int) ≤ _ ∧ _ ≤ (1600 : Int) from by omega)) (a := 598) (i := 73) (show (0 : Int) ≤ _ ∧ _ ≤ (1600 : Int) from by omega)) (a := 598) (i := 80) (show (0 : Int) ≤ _ ∧ _ ≤ (7 : Int) from by omega)) (a := 598) (i := 81) (show (-1 : Int) ≤ _ ∧ _ ≤ (1600 : Int) from by omega)) (a := 598) (i := 88) (show (0 : Int) ≤ _ ∧ _ ≤ (16 : Int) from by omega)) (a := 598) (i := 89) (show (0 : Int) ≤ _ ∧ _ ≤ (301 : Int) from by omega)) (a := 598) (i := 90) (show (0 : Int) ≤ _ ∧ _ ≤ (2200 : Int) from by omega)) (a := 598) (i := 96) (show (0 : Int) ≤ _ ∧ _ ≤ (300 : Int) from by omega)) (a := 598) (i := 107) (show (0 : Int) ≤ _ ∧ _ ≤ (16 : Int) from by omega)) (RH.o (RH.o (RH.o (RH.o (RH.o (RH.o (RH.o (RH.o (RH.o hH_M (by decide) (by decide) (by decide)) (by decide) (by decide) (by decide)) (by decide) (by decide) (by decide)) (by decide) (by decide) (by decide)) (by decide) (by decide) (by decide)) (by decide) (by decide) (by decide)) (by decide) (by decide) (by decide)) (by decide) (by decide) (by decide)) (by decide) (by decide) (by decide)) (RF.o (RF.o (RF.o (RF.o (RF.o (RF.o (RF.o (RF.o (RF.o hS_M (by decide) (by decide)) (by decide) (by decide)) (by decide) (by decide)) (by decide) (by decide)) (by decide) (by decide)) (by decide) (by decide)) (by decide) (by decide)) (by decide) (by decide)) (by decide) (by decide))   (by rw [((ju_i _ _ (by decide)).trans ((ju_i _ _ (by decide)).trans ((ju_i _ _ (by decide)).trans ((ju_i _ _ (by decide)).trans ((ju_i _ _ (by decide)).trans ((ju_i _ _ (by decide)).trans ((ju_i _ _ (by decide)).trans (ju_same _ _ _ _)))))))), ((ju_i _ _ (by decide)).trans ((ju_i _ _ (by decide)).trans ((ju_i _ _ (by decide)).trans ((ju_i _ _ (by decide)).trans ((ju_i _ _ (by decide)).trans ((ju_i _ _ (by decide)).trans ((ju_i _ _ (by decide)).trans ((ju_i _ _ (by decide)).trans ((ju_i _ _ (by decide)).trans e3)))))))))]; omega) (TXr.o (TXr.o (TXr.o (TXr.o (TXr.o (TXr.o (TXr.o (TXr.o (TXr.o (show TXr f N M from ⟨by omega, fun i h0 h1 => hTx i h0 (by omega), hTW.1, hTW.2⟩) (by decide)) (by decide)) (by decide)) (by decide)) (by decide)) (by decide)) (by decide)) (by decide)) (by decide)) (fun M2 hI_M2 hH_M2 hS_M2  w2_0 w2_1 w2_2 w2_3 w2_4 w2_5 w2_6 w2_7 => ?_)) (by decide))
      have y17 : (ju (ju (ju (ju (ju (ju (ju (ju (ju M 598 1 0) 598 73 0) 598 80 0) 598 81 (-1)) 598 88 0) 598 89 0) 598 90 0) 598 96 0) 598 107 0) 598 73 = 0 := ((ju_i _ _ (by decide)).trans ((ju_i _ _ (by decide)).trans ((ju_i _ _ (by decide)).trans ((ju_i _ _ (by decide)).trans ((ju_i _ _ (by decide)).trans ((ju_i _ _ (by decide)).trans ((ju_i _ _ (by decide)).trans (ju_same _ _ _ _))))))))
      have y18 : (ju (ju (ju (ju (ju (ju (ju (ju (ju M 598 1 0) 598 73 0) 598 80 0) 598 81 (-1)) 598 88 0) 598 89 0) 598 90 0) 598 96 0) 598 107 0) 598 74 = v5 := ((ju_i _ _ (by decide)).trans ((ju_i _ _ (by decide)).trans ((ju_i _ _ (by decide)).trans ((ju_i _ _ (by decide)).trans ((ju_i _ _ (by decide)).trans ((ju_i _ _ (by decide)).trans ((ju_i _ _ (by decide)).trans ((ju_i _ _ (by decide)).trans ((ju_i _ _ (by decide)).trans e5)))))))))
      have hX := XS.init (M := (ju (ju (ju (ju (ju (ju (ju (ju (ju M 598 1 0) 598 73 0) 598 80 0) 598 81 (-1)) 598 88 0) 598 89 0) 598 90 0) 598 96 0) 598 107 0)) (by rw [jw_o (by decide), jw_o (by decide), jw_o (by decide), jw_o (by decide), jw_o (by decide), jw_o (by decide), jw_o (by decide), jw_o (by decide), jw_o (by decide)]; exact hF) (((ju_i _ _ (by decide)).trans ((ju_i _ _ (by decide)).trans ((ju_i _ _ (by decide)).trans ((ju_i _ _ (by decide)).trans (ju_same _ _ _ _)))))) (((ju_i _ _ (by decide)).trans ((ju_i _ _ (by decide)).trans (ju_same _ _ _ _)))) ((ju_same _ _ _ _)) (Int.le_of_eq (((ju_i _ _ (by decide)).trans ((ju_i _ _ (by decide)).trans ((ju_i _ _ (by decide)).trans (ju_same _ _ _ _))))).symm) (Int.le_of_eq (((ju_i _ _ (by decide)).trans ((ju_i _ _ (by decide)).trans ((ju_i _ _ (by decide)).trans ((ju_i _ _ (by decide)).trans ((ju_i _ _ (by decide)).trans ((ju_i _ _ (by decide)).trans ((ju_i _ _ (by decide)).trans (ju_same _ _ _ _))))))))).symm)
      have hA := AK.zero (M := (ju (ju (ju (ju (ju (ju (ju (ju (ju M 598 1 0) 598 73 0) 598 80 0) 598 81 (-1)) 598 88 0) 598 89 0) 598 90 0) 598 96 0) 598 107 0)) (((ju_i _ _ (by decide)).trans (ju_same _ _ _ _)))
      have hB : LB (ju (ju (ju (ju (ju (ju (ju (ju (ju M 598 1 0) 598 73 0) 598 80 0) 598 81 (-1)) 598 88 0) 598 89 0) 598 90 0) 598 96 0) 598 107 0) := Or.inl (((ju_i _ _ (by decide)).trans ((ju_i _ _ (by decide)).trans (ju_same _ _ _ _))))
      have y4 : (ju (ju (ju (ju (ju (ju (ju (ju (ju M 598 1 0) 598 73 0) 598 80 0) 598 81 (-1)) 598 88 0) 598 89 0) 598 90 0) 598 96 0) 598 107 0) 598 73 = 0 := ((ju_i _ _ (by decide)).trans ((ju_i _ _ (by decide)).trans ((ju_i _ _ (by decide)).trans ((ju_i _ _ (by decide)).trans ((ju_i _ _ (by decide)).trans ((ju_i _ _ (by decide)).trans ((ju_i _ _ (by decide)).trans (ju_same _ _ _ _))))))))
      have y6 : (ju (ju (ju (ju (ju (ju (ju (ju (ju M 598 1 0) 598 73 0) 598 80 0) 598 81 (-1)) 598 88 0) 598 89 0) 598 90 0) 598 96 0) 598 107 0) 598 74 = v5 := ((ju_i _ _ (by decide)).trans ((ju_i _ _ (by decide)).trans ((ju_i _ _ (by decide)).trans ((ju_i _ _ (by decide)).trans ((ju_i _ _ (by decide)).trans ((ju_i _ _ (by decide)).trans ((ju_i _ _ (by decide)).trans ((ju_i _ _ (by decide)).trans ((ju_i _ _ (by decide)).trans e5)))))))))
      have y7 : (ju (ju (ju (ju (ju (ju (ju (ju (ju M 598 1 0) 598 73 0) 598 80 0) 598 81 (-1)) 598 88 0) 598 89 0) 598 90 0) 598 96 0) 598 107 0) 598 89 = 0 := ((ju_i _ _ (by decide)).trans ((ju_i _ _ (by decide)).trans ((ju_i _ _ (by decide)).trans (ju_same _ _ _ _))))
      have y9 : (ju (ju (ju (ju (ju (ju (ju (ju (ju M 598 1 0) 598 73 0) 598 80 0) 598 81 (-1)) 598 88 0) 598 89 0) 598 90 0) 598 96 0) 598 107 0) 598 100 = v8 := ((ju_i _ _ (by decide)).trans ((ju_i _ _ (by decide)).trans ((ju_i _ _ (by decide)).trans ((ju_i _ _ (by decide)).trans ((ju_i _ _ (by decide)).trans ((ju_i _ _ (by decide)).trans ((ju_i _ _ (by decide)).trans ((ju_i _ _ (by decide)).trans ((ju_i _ _ (by decide)).trans e8)))))))))
      have y10 : (ju (ju (ju (ju (ju (ju (ju (ju (ju M 598 1 0) 598 73 0) 598 80 0) 598 81 (-1)) 598 88 0) 598 89 0) 598 90 0) 598 96 0) 598 107 0) 598 96 = 0 := ((ju_i _ _ (by decide)).trans (ju_same _ _ _ _))
      have y11 : (ju (ju (ju (ju (ju (ju (ju (ju (ju M 598 1 0) 598 73 0) 598 80 0) 598 81 (-1)) 598 88 0) 598 89 0) 598 90 0) 598 96 0) 598 107 0) 598 90 = 0 := ((ju_i _ _ (by decide)).trans ((ju_i _ _ (by decide)).trans (ju_same _ _ _ _)))
      have y12 : (ju (ju (ju (ju (ju (ju (ju (ju (ju M 598 1 0) 598 73 0) 598 80 0) 598 81 (-1)) 598 88 0) 598 89 0) 598 90 0) 598 96 0) 598 107 0) 598 107 = 0 := (ju_same _ _ _ _)
      have y13 : (ju (ju (ju (ju (ju (ju (ju (ju (ju M 598 1 0) 598 73 0) 598 80 0) 598 81 (-1)) 598 88 0) 598 89 0) 598 90 0) 598 96 0) 598 107 0) 598 73 = 0 := ((ju_i _ _ (by decide)).trans ((ju_i _ _ (by decide)).trans ((ju_i _ _ (by decide)).trans ((ju_i _ _ (by decide)).trans ((ju_i _ _ (by decide)).trans ((ju_i _ _ (by decide)).trans ((ju_i _ _ (by decide)).trans (ju_same _ _ _ _))))))))
      have y14 : (ju (ju (ju (ju (ju (ju (ju (ju (ju M 598 1 0) 598 73 0) 598 80 0) 598 81 (-1)) 598 88 0) 598 89 0) 598 90 0) 598 96 0) 598 107 0) 598 74 = v5 := ((ju_i _ _ (by decide)).trans ((ju_i _ _ (by decide)).trans ((ju_i _ _ (by decide)).trans ((ju_i _ _ (by decide)).trans ((ju_i _ _ (by decide)).trans ((ju_i _ _ (by decide)).trans ((ju_i _ _ (by decide)).trans ((ju_i _ _ (by decide)).trans ((ju_i _ _ (by decide)).trans e5)))))))))
      have y15 : (ju (ju (ju (ju (ju (ju (ju (ju (ju M 598 1 0) 598 73 0) 598 80 0) 598 81 (-1)) 598 88 0) 598 89 0) 598 90 0) 598 96 0) 598 107 0) 598 89 = 0 := ((ju_i _ _ (by decide)).trans ((ju_i _ _ (by decide)).trans ((ju_i _ _ (by decide)).trans (ju_same _ _ _ _))))
      have y16 : (ju (ju (ju (ju (ju (ju (ju (ju (ju M 598 1 0) 598 73 0) 598 80 0) 598 81 (-1)) 598 88 0) 598 89 0) 598 90 0) 598 96 0) 598 107 0) 598 100 = v8 := ((ju_i _ _ (by decide)).trans ((ju_i _ _ (by decide)).trans ((ju_i _ _ (by decide)).trans ((ju_i _ _ (by decide)).trans ((ju_i _ _ (by decide)).trans ((ju_i _ _ (by decide)).trans ((ju_i _ _ (by decide)).trans ((ju_i _ _ (by decide)).trans ((ju_i _ _ (by decide)).trans e8)))))))))
      have x2_89 := w2_7 89 (by decide) (by decide) (by decide) (by decide) (by decide) (by decide) (by decide)
      have x2_100 := w2_7 100 (by decide) (by decide) (by decide) (by decide) (by decide) (by decide) (by decide)
      have hX := XS.fr2 hX w2_6 (w2_7 88 (by decide) (by decide) (by decide) (by decide) (by decide) (by decide) (by decide)) (w2_7 90 (by decide) (by decide) (by decide) (by decide) (by decide) (by decide) (by decide)) (w2_7 101 (by decide) (by decide) (by decide) (by decide) (by decide) (by decide) (by decide)) (w2_7 107 (by decide) (by decide) (by decide) (by decide) (by decide) (by decide) (by decide)) (k' := 0) (d' := (M2 598 100)) (z' := 1) (by omega) (by omega) (by omega) (by omega)
      have hA := AK.cp hA (CP.f (CP.rfl _) (fun i => w2_6 659 i (by decide)) (w2_7 90 (by decide) (by decide) (by decide) (by decide) (by decide) (by decide) (by decide))) (fun i => w2_6 663 i (by decide)) (w2_7 96 (by decide) (by decide) (by decide) (by decide) (by decide) (by decide) (by decide))
      have hB := LB.fr hB (fun i => w2_6 659 i (by decide)) (w2_7 90 (by decide) (by decide) (by decide) (by decide) (by decide) (by decide) (by decide))
      have x2_72 := w2_7 72 (by decide) (by decide) (by decide) (by decide) (by decide) (by decide) (by decide)
      have x2_80 := w2_7 80 (by decide) (by decide) (by decide) (by decide) (by decide) (by decide) (by decide)
      have x2_81 := w2_7 81 (by decide) (by decide) (by decide) (by decide) (by decide) (by decide) (by decide)
      have x2_89 := w2_7 89 (by decide) (by decide) (by decide) (by decide) (by decide) (by decide) (by decide)
      have x2_100 := w2_7 100 (by decide) (by decide) (by decide) (by decide) (by decide) (by decide) (by decide)
      have x2_101 := w2_7 101 (by decide) (by decide) (by decide) (by decide) (by decide) (by decide) (by decide)
      have x2_107 := w2_7 107 (by decide) (by decide) (by decide) (by decide) (by decide) (by decide) (by decide)
      have x2_88 := w2_7 88 (by decide) (by decide) (by decide) (by decide) (by decide) (by decide) (by decide)
      have x2_96 := w2_7 96 (by decide) (by decide) (by decide) (by decide) (by decide) (by decide) (by decide)
      have hK1 := TKr.cast w2_5 (congrArg (zsp zbl f N) ((ju_i _ _ (by decide)).trans ((ju_i _ _ (by decide)).trans ((ju_i _ _ (by decide)).trans ((ju_i _ _ (by decide)).trans ((ju_i _ _ (by decide)).trans ((ju_i _ _ (by decide)).trans ((ju_i _ _ (by decide)).trans (ju_same _ _ _ _)))))))))
      have kk1 := hK1.kz
      have hT1 := hK1.1
      have e19 : M2 598 80 = 0 := ((w2_7 80 (by decide) (by decide) (by decide) (by decide) (by decide) (by decide) (by decide)).trans ((ju_i _ _ (by decide)).trans ((ju_i _ _ (by decide)).trans ((ju_i _ _ (by decide)).trans ((ju_i _ _ (by decide)).trans ((ju_i _ _ (by decide)).trans ((ju_i _ _ (by decide)).trans (ju_same _ _ _ _))))))))
      have e20 : M2 598 96 = 0 := ((w2_7 96 (by decide) (by decide) (by decide) (by decide) (by decide) (by decide) (by decide)).trans ((ju_i _ _ (by decide)).trans (ju_same _ _ _ _)))
      have e21 : M2 598 89 = 0 := ((w2_7 89 (by decide) (by decide) (by decide) (by decide) (by decide) (by decide) (by decide)).trans ((ju_i _ _ (by decide)).trans ((ju_i _ _ (by decide)).trans ((ju_i _ _ (by decide)).trans (ju_same _ _ _ _)))))
      have e22 : M2 598 107 = 0 := ((w2_7 107 (by decide) (by decide) (by decide) (by decide) (by decide) (by decide) (by decide)).trans (ju_same _ _ _ _))
      obtain ⟨v23, e23⟩ : ∃ z, M2 598 73 = z := ⟨_, rfl⟩
      have b23 : 0 ≤ v23 ∧ v23 ≤ 1600 := by rw [← e23]; exact hI_M2 598 73 (by decide)
      have e24 : M2 598 72 = v3 := ((w2_7 72 (by decide) (by decide) (by decide) (by decide) (by decide) (by decide) (by decide)).trans ((ju_i _ _ (by decide)).trans ((ju_i _ _ (by decide)).trans ((ju_i _ _ (by decide)).trans ((ju_i _ _ (by decide)).trans ((ju_i _ _ (by decide)).trans ((ju_i _ _ (by decide)).trans ((ju_i _ _ (by decide)).trans ((ju_i _ _ (by decide)).trans ((ju_i _ _ (by decide)).trans e3))))))))))
      obtain ⟨v25, e25⟩ : ∃ z, M2 598 74 = z := ⟨_, rfl⟩
      have b25 : 0 ≤ v25 ∧ v25 ≤ 4 := by rw [← e25]; exact hI_M2 598 74 (by decide)
      obtain ⟨v26, e26⟩ : ∃ z, M2 598 79 = z := ⟨_, rfl⟩
      have b26 : 0 ≤ v26 ∧ v26 ≤ 255 := by rw [← e26]; exact hI_M2 598 79 (by decide)
      have y27 : M2 598 80 = 0 := e19
      have e28 : M2 598 81 = -1 := ((w2_7 81 (by decide) (by decide) (by decide) (by decide) (by decide) (by decide) (by decide)).trans ((ju_i _ _ (by decide)).trans ((ju_i _ _ (by decide)).trans ((ju_i _ _ (by decide)).trans ((ju_i _ _ (by decide)).trans ((ju_i _ _ (by decide)).trans (ju_same _ _ _ _)))))))
      have y29 : M2 598 81 = -1 := e28
      have e30 : M2 598 88 = 0 := ((w2_7 88 (by decide) (by decide) (by decide) (by decide) (by decide) (by decide) (by decide)).trans ((ju_i _ _ (by decide)).trans ((ju_i _ _ (by decide)).trans ((ju_i _ _ (by decide)).trans ((ju_i _ _ (by decide)).trans (ju_same _ _ _ _))))))
      have y31 : M2 598 88 = 0 := e30
      have y32 : M2 598 89 = 0 := e21
      have y33 : M2 598 96 = 0 := e20
      have e34 : M2 598 1 = 0 := ((w2_7 1 (by decide) (by decide) (by decide) (by decide) (by decide) (by decide) (by decide)).trans ((ju_i _ _ (by decide)).trans ((ju_i _ _ (by decide)).trans ((ju_i _ _ (by decide)).trans ((ju_i _ _ (by decide)).trans ((ju_i _ _ (by decide)).trans ((ju_i _ _ (by decide)).trans ((ju_i _ _ (by decide)).trans ((ju_i _ _ (by decide)).trans (ju_same _ _ _ _))))))))))
      refine jr.pick [1] rfl rfl ?_
      exact r_rules_L85_z q 3201 M2  hI_M2 hH_M2 hS_M2  (fun a i f598 f651 f652 f653 f654 f655 f656 f657 f658 f659 f660 f661 f662 f663 f664 f665 f666 f667 f668 f669 => ((w2_6 a i f598).trans ((ju_c _ _ f598).trans ((ju_c _ _ f598).trans ((ju_c _ _ f598).trans ((ju_c _ _ f598).trans ((ju_c _ _ f598).trans ((ju_c _ _ f598).trans ((ju_c _ _ f598).trans ((ju_c _ _ f598).trans ((ju_c _ _ f598).trans (hF_M a i f598 f651 f652 f653 f654 f655 f656 f657 f658 f659 f660 f661 f662 f663 f664 f665 f666 f667 f668 f669)))))))))))) (fun i g1 g72 g73 g74 g75 g76 g77 g78 g79 g80 g81 g82 g83 g88 g89 g90 g96 g100 g101 g102 g107 => ((w2_7 i g73 g74 g75 g76 g77 g78 g79).trans ((ju_i _ _ g107).trans ((ju_i _ _ g96).trans ((ju_i _ _ g90).trans ((ju_i _ _ g89).trans ((ju_i _ _ g88).trans ((ju_i _ _ g81).trans ((ju_i _ _ g80).trans ((ju_i _ _ g73).trans ((ju_i _ _ g1).trans (hG_M i g1 g72 g73 g74 g75 g76 g77 g78 g79 g80 g81 g82 g83 g88 g89 g90 g96 g100 g101 g102 g107))))))))))))  hX hA hB (by rw [e19] <;> omega) (by rw [e20, e21, e22] <;> omega) (by rw [e23, e24] <;> omega) (by rw [e25, e26] <;> omega) (MC.fr (MC.o (MC.o (MC.o (MC.o (MC.o (MC.o (MC.o (MC.o (MC.o hM (by decide) (Or.inr (by decide))) (by decide) (Or.inr (by decide))) (by decide) (Or.inr (by decide))) (by decide) (Or.inr (by decide))) (by decide) (Or.inr (by decide))) (by decide) (Or.inr (by decide))) (by decide) (Or.inr (by decide))) (by decide) (Or.inr (by decide))) (by decide) (Or.inr (by decide))) (fun i => w2_6 652 i (by decide)) (fun i => w2_6 653 i (by decide)) (fun i => w2_6 654 i (by decide)) (fun i => w2_6 655 i (by decide)) (w2_7 82 (by decide) (by decide) (by decide) (by decide) (by decide) (by decide) (by decide))) ⟨_, _, _, _, [], [], hK1, NMr.nil (by omega), AKr.nil (by omega), zr.eqx (zr.r0 f N (zsI f N)) rfl rfl (by omega) rfl rfl rfl, Or.inl rfl⟩ (by rw [e28] <;> omega) (by rw [e34] <;> omega) (by have t := TK.le (M := M2) (by omega); omega)
    · refine jr.aload_n rfl rfl ?_
      refine jr.getf (i := 71) (v := .ref 651) rfl rfl (by decide) rfl (by decide) rfl rfl rfl rfl ?_
      refine jr.iload_n rfl rfl ?_
      refine jr.aload_n rfl rfl ?_
      refine jr.getf (i := 0) (v := .ref 599) rfl rfl (by decide) rfl (by decide) rfl rfl rfl rfl ?_
      refine jr.iload_n rfl rfl ?_
      obtain ⟨v35, e35⟩ : ∃ z, M 599 k = z := ⟨_, rfl⟩
      have b35 : 0 ≤ v35 ∧ v35 ≤ 255 := by rw [← e35]; exact (by have q := hI_M 599 k (by decide); rw [xri_row rfl rfl] at q; exact q)
      refine jr.iald (i := k) (x := v35) rfl (by decide) rfl (by decide) (by omega) (by omega) e35 ?_
      refine jr.iast (i := k) (x := v35) rfl (by decide) rfl (by decide) (by omega) (by omega) ?_
      refine jr.iinc rfl rfl (by decide) rfl ?_
      refine jr.goto rfl rfl ?_
      obtain ⟨v36, e36⟩ : ∃ z, M 598 72 = z := ⟨_, rfl⟩
      have b36 : 0 ≤ v36 ∧ v36 ≤ 1600 := by rw [← e36]; exact hI_M 598 72 (by decide)
      refine jr.pick [0, 1] rfl rfl ?_
      exact ih (nM - 1) (by omega) (ju M 651 k v35) (k + 1) (RI.u hI_M (a := 651) (i := k) (by rw [xri_row rfl rfl]; show (0 : Int) ≤ _ ∧ _ ≤ (255 : Int); omega)) (RH.o hH_M (by decide) (by decide) (by decide)) (RF.o hS_M (by decide) (by decide))  (fun a i f598 f651 f652 f653 f654 f655 f656 f657 f658 f659 f660 f661 f662 f663 f664 f665 f666 f667 f668 f669 => ((ju_c _ _ f651).trans (hF_M a i f598 f651 f652 f653 f654 f655 f656 f657 f658 f659 f660 f661 f662 f663 f664 f665 f666 f667 f668 f669))) (fun i g1 g72 g73 g74 g75 g76 g77 g78 g79 g80 g81 g82 g83 g88 g89 g90 g96 g100 g101 g102 g107 => ((ju_c _ _ (by decide)).trans (hG_M i g1 g72 g73 g74 g75 g76 g77 g78 g79 g80 g81 g82 g83 g88 g89 g90 g96 g100 g101 g102 g107))) (by omega) (by rw [((ju_c _ _ (by decide)).trans e36), ((ju_c _ _ (by decide)).trans e1)] <;> omega) (MC.o hM (by decide) (Or.inl (by decide))) (by rw [jw_o (by decide)]; exact hF) (TWr.fr hTW (fun i => ju_c _ _ (by decide)) (fun i => ju_c _ _ (by decide))) (by rw [((ju_c _ _ (by decide)).trans e1)]; omega) (fun i h0 h1 => (ju_c _ _ (by decide)).trans (hTp i h0 h1)) (fun i h0 h1 => by by_cases hi : i = k; (rw [hi, ju_same, ← e35]; exact hTp k (by omega) (by omega)); (rw [ju_i _ _ hi]; exact hTx i h0 (by omega))) (by omega)
set_option maxHeartbeats 8000000 in
theorem r_rules_z {A : Nat → Option (Nat × (Nat → Int32))} {Q : Option Value → jm → Prop} {f : Int → Int} {N : Int} {M : jm} (hI_M : RI M) (hH_M : RH M) (hS_M : RF M) (p0 : MC M) (p1 : FWq (M 650)) (p2 : TWr M) (p3 : M 598 1 = N) (p4 : (∀ i : Int, 0 ≤ i → i < N → M 599 i = f i)) (q : ∀ (r : Int) (M' : jm), RI M' → RH M' → RF M' → (-17) ≤ r ∧ r ≤ 16 → MC M' → M' 598 1 = 0 → RUQ f N M' r → (∀ (a : Nat) (i : Int), a ≠ 598 → a ≠ 651 → a ≠ 652 → a ≠ 653 → a ≠ 654 → a ≠ 655 → a ≠ 656 → a ≠ 657 → a ≠ 658 → a ≠ 659 → a ≠ 660 → a ≠ 661 → a ≠ 662 → a ≠ 663 → a ≠ 664 → a ≠ 665 → a ≠ 666 → a ≠ 667 → a ≠ 668 → a ≠ 669 → M' a i = M a i) → (∀ (i : Int), i ≠ 1 → i ≠ 72 → i ≠ 73 → i ≠ 74 → i ≠ 75 → i ≠ 76 → i ≠ 77 → i ≠ 78 → i ≠ 79 → i ≠ 80 → i ≠ 81 → i ≠ 82 → i ≠ 83 → i ≠ 88 → i ≠ 89 → i ≠ 90 → i ≠ 96 → i ≠ 100 → i ≠ 101 → i ≠ 102 → i ≠ 107 → M' 598 i = M 598 i) → Q (some (.int (Int32.ofInt r))) M') : jc A 10 371 [.ref (598)] M Q := by
  have hM := p0
  have hF := p1
  refine jc_of (m := xm_371) rfl (Nat.le_of_ble_eq_true rfl) rfl ?_
  refine jr.aload_n rfl rfl ?_
  refine jr.aload_n rfl rfl ?_
  obtain ⟨v1, e1⟩ : ∃ z, M 598 1 = z := ⟨_, rfl⟩
  have b1 : 0 ≤ v1 ∧ v1 ≤ 1600 := by rw [← e1]; exact hI_M 598 1 (by decide)
  refine jr.getf (i := 1) (x := v1) (v := .int (Int32.ofInt (v1))) rfl rfl (by decide) rfl (by decide) rfl rfl e1 rfl ?_
  refine jr.putf (i := 72) (x := v1) rfl rfl (by decide) rfl (by decide) rfl rfl rfl rfl rfl ?_
  refine jr.iconst rfl ?_
  refine jr.istore_n rfl (by decide) rfl ?_
  refine jr.pick [0, 1] rfl rfl ?_
  exact r_rules_L10_z q 1600 (ju M 598 72 v1) 0 (RI.u hI_M (a := 598) (i := 72) (show (0 : Int) ≤ _ ∧ _ ≤ (1600 : Int) from by omega)) (RH.o hH_M (by decide) (by decide) (by decide)) (RF.o hS_M (by decide) (by decide))  (fun a i f598 f651 f652 f653 f654 f655 f656 f657 f658 f659 f660 f661 f662 f663 f664 f665 f666 f667 f668 f669 => ((ju_c _ _ f598).trans rfl)) (fun i g1 g72 g73 g74 g75 g76 g77 g78 g79 g80 g81 g82 g83 g88 g89 g90 g96 g100 g101 g102 g107 => ((ju_i _ _ g72).trans rfl)) (by omega) (by rw [(ju_same _ _ _ _), ((ju_i _ _ (by decide)).trans e1)] <;> omega) (MC.o hM (by decide) (Or.inr (by decide))) (by rw [jw_o (by decide)]; exact hF) (TWr.fr p2 (fun i => ju_c _ _ (by decide)) (fun i => ju_c _ _ (by decide))) (by rw [((ju_i _ _ (by decide)).trans e1)]; omega) (fun i h0 h1 => (ju_c _ _ (by decide)).trans (p4 i h0 h1)) (fun i h0 h1 => by exfalso; omega) (by omega)
set_option maxHeartbeats 8000000 in
theorem r_wrong_z {A : Nat → Option (Nat × (Nat → Int32))} {Q : Option Value → jm → Prop} {M : jm} (hI_M : RI M) (hH_M : RH M) (hS_M : RF M) (q : ∀ (r : Int) (M' : jm), RI M' → RH M' → RF M' → (-1) ≤ r ∧ r ≤ 1600 → r = M 598 81 → (∀ (a : Nat) (i : Int), a ≠ 603 → M' a i = M a i) → Q (some (.int (Int32.ofInt r))) M') : jc A 1 372 [.ref (598)] M Q := by
  refine jc_of (m := xm_372) rfl (Nat.le_of_ble_eq_true rfl) rfl ?_
  refine jr.aload_n rfl rfl ?_
  obtain ⟨v1, e1⟩ : ∃ z, M 598 81 = z := ⟨_, rfl⟩
  have b1 : (-1) ≤ v1 ∧ v1 ≤ 1600 := by rw [← e1]; exact hI_M 598 81 (by decide)
  refine jr.getf (i := 81) (x := v1) (v := .int (Int32.ofInt (v1))) rfl rfl (by decide) rfl (by decide) rfl rfl e1 rfl ?_
  exact jr.ireturn rfl rfl rfl (q _ _ hI_M hH_M hS_M  (by omega) (by omega) (fun a i f603 => rfl))
