section
theorem MC.fr {M M' : jm} (h : MC M) (e2 : ∀ i : Int, M' 652 i = M 652 i) (e3 : ∀ i : Int, M' 653 i = M 653 i) (e4 : ∀ i : Int, M' 654 i = M 654 i) (e5 : ∀ i : Int, M' 655 i = M 655 i) (g : M' 598 82 = M 598 82) : MC M' := by
  unfold MC at h ⊢
  rw [show M' 652 = M 652 from funext e2, show M' 653 = M 653 from funext e3, show M' 654 = M 654 from funext e4, show M' 655 = M 655 from funext e5, g]
  exact h
theorem MC.o {M : jm} (h : MC M) {a : Nat} {i v : Int} (h1 : a < 652 ∨ 655 < a) (h2 : a ≠ 598 ∨ i ≠ 82) : MC (ju M a i v) := by
  refine h.fr (fun j => ju_c M v (by omega)) (fun j => ju_c M v (by omega)) (fun j => ju_c M v (by omega)) (fun j => ju_c M v (by omega)) ?_
  rcases h2 with h2 | h2
  · exact ju_c M v (fun e => h2 e.symm)
  · exact ju_i M v (fun e => h2 e.symm)
/-- the parser's end: all that was laid -/
noncomputable def RD (M : jm) : Prop := XS M 0 0 0 1 (-1) ∧ M 598 107 = 0 ∧ 1 ≤ M 598 90 ∧ M 598 90 ≤ 2000 ∧ M 659 (M 598 90 - 1) = 3
theorem RD.o {M : jm} (h : RD M) {a : Nat} {i v : Int} (h1 : (652 ≤ a ∧ a ≤ 655) ∨ (a = 598 ∧ (i = 82 ∨ i = 83))) : RD (ju M a i v) := by
  obtain ⟨h0, h2, h3, h4, h5⟩ := h
  have r : ∀ c : Nat, c ≠ a → ju M a i v c = M c := fun c hc => jw_o hc
  have f : ∀ j : Int, j ≠ 82 → j ≠ 83 → ju M a i v 598 j = M 598 j := fun j j1 j2 => ju_ne M v (fun q => by omega)
  unfold RD
  rw [f 107 (by decide) (by decide), f 90 (by decide) (by decide), r 659 (by omega)]
  refine ⟨?_, h2, h3, h4, h5⟩
  rw [XS.rows] at h0 ⊢
  rw [r 650 (by omega), r 657 (by omega), r 658 (by omega), r 659 (by omega), r 660 (by omega), r 664 (by omega), r 665 (by omega), r 666 (by omega), r 667 (by omega), r 668 (by omega), r 669 (by omega), f 88 (by decide) (by decide), f 89 (by decide) (by decide), f 90 (by decide) (by decide), f 100 (by decide) (by decide), f 101 (by decide) (by decide), f 107 (by decide) (by decide), f 73 (by decide) (by decide)]
  exact h0
noncomputable def CQ (M : jm) (k : Int) : Prop := ∀ c : Int, 0 ≤ c → c < k → M 652 c = M 657 c ∧ M 653 c = M 658 c
theorem CQ.add {M : jm} {k v w : Int} (h : CQ M k) (e1 : M 657 k = v) (e2 : M 658 k = w) : CQ (ju (ju M 652 k v) 653 k w) (k + 1) := by
  intro c c0 c1
  rw [ju_c _ _ (by decide : (652 : Nat) ≠ 653), ju_c _ _ (by decide : (657 : Nat) ≠ 653), ju_c _ _ (by decide : (657 : Nat) ≠ 652), ju_c _ _ (by decide : (658 : Nat) ≠ 653), ju_c _ _ (by decide : (658 : Nat) ≠ 652)]
  by_cases q : c = k
  · subst q
    rw [ju_same, ju_same]
    exact ⟨e1.symm, e2.symm⟩
  · rw [ju_i _ _ q, ju_i _ _ q, ju_c _ _ (by decide : (653 : Nat) ≠ 652)]
    exact h c c0 (by omega)
noncomputable def CD (M : jm) (k : Int) : Prop := ∀ c : Int, 0 ≤ c → c < k → M 654 c = M 659 c ∧ M 655 c = M 660 c
theorem CD.add {M : jm} {k v w : Int} (h : CD M k) (e1 : M 659 k = v) (e2 : M 660 k = w) : CD (ju (ju M 654 k v) 655 k w) (k + 1) := by
  intro c c0 c1
  rw [ju_c _ _ (by decide : (654 : Nat) ≠ 655), ju_c _ _ (by decide : (659 : Nat) ≠ 655), ju_c _ _ (by decide : (659 : Nat) ≠ 654), ju_c _ _ (by decide : (660 : Nat) ≠ 655), ju_c _ _ (by decide : (660 : Nat) ≠ 654)]
  by_cases q : c = k
  · subst q
    rw [ju_same, ju_same]
    exact ⟨e1.symm, e2.symm⟩
  · rw [ju_i _ _ q, ju_i _ _ q, ju_c _ _ (by decide : (655 : Nat) ≠ 654)]
    exact h c c0 (by omega)
theorem CQ.o {M : jm} {k : Int} (h : CQ M k) {i v w : Int} : CQ (ju (ju M 654 i v) 655 i w) k := by
  intro c c0 c1
  rw [ju_c _ _ (by decide), ju_c _ _ (by decide), ju_c _ _ (by decide), ju_c _ _ (by decide), ju_c _ _ (by decide), ju_c _ _ (by decide), ju_c _ _ (by decide), ju_c _ _ (by decide)]
  exact h c c0 c1
theorem OPk.mono0 {co ar co' ar' ht : Int → Int} {nc nc' n cd i : Int} {pe pe' : Prop} (h : OPk co ar nc ht n pe i) (h0 : 0 ≤ i) (hi : i < cd) (hc : ∀ j, 0 ≤ j → j < cd → co' j = co j) (ha : ar' i = ar i) (hn : n ≤ cd) (hnc : nc ≤ nc') (hp : pe → pe') : OPk co' ar' nc' ht n pe' i := by
  obtain ⟨⟨a1, a2, a3, a4, a5, a6⟩, b, c, d⟩ := h
  unfold OPk
  rw [hc i h0 hi, ha]
  refine ⟨⟨a1, a2, a3, a4, a5, a6⟩, fun q => ?_, c, fun q => ?_⟩
  · rcases b q with w | ⟨w1, w2, w3, w4⟩
    · exact Or.inl (hp w)
    · refine Or.inr ⟨w1, w2, w3, ?_⟩
      rw [hc _ (by omega) (by omega)]
      exact w4
  · obtain ⟨w1, w2, w3, w4⟩ := d q
    refine ⟨w1, ?_, w3, by omega⟩
    rw [hc _ (by omega) (by omega)]
    exact w2
theorem ENk.mono0 {co co' ht : Int → Int} {n cd e : Int} (h : ENk co ht n e) (hc : ∀ j, 0 ≤ j → j < cd → co' j = co j) (hn : n ≤ cd) : ENk co' ht n e := by
  obtain ⟨a1, a2, a3, a4⟩ := h
  refine ⟨a1, a2, a3, ?_⟩
  rcases a4 with w | w
  · exact Or.inl w
  · by_cases z : e = 0
    · exact Or.inl z
    · refine Or.inr ?_
      rw [hc _ (by omega) (by omega)]
      exact w
theorem MC.make {M : jm} (h : RD M) (e : M 598 82 = M 598 88) (q : CQ M (M 598 82)) {k : Int} (c : CD M k) (hk : M 598 90 ≤ k) : MC M := by
  obtain ⟨h0, h2, h3, h4, h5⟩ := h
  rw [XS.rows] at h0
  obtain ⟨ht, P, D, E, g, i1, i2, i3, i4, i5, i6, i7, i8⟩ := h0
  have hc : ∀ j, 0 ≤ j → j < M 598 90 → M 654 j = M 659 j := fun j j0 j1 => (c j j0 (by omega)).1
  refine Or.inr ⟨ht, M 598 90, h3, h4, ?_, ?_, ?_⟩
  · intro i hi0 hi1
    refine (i1 i hi0 hi1).mono0 hi0 hi1 hc (c i hi0 (by omega)).2 (by omega) (by omega) (fun w => ?_)
    rcases w with w | w | w
    · obtain ⟨j, j0, j1, _⟩ := w
      omega
    · obtain ⟨j, j0, j1, _⟩ := w
      omega
    · omega
  · intro d d0 d1
    obtain ⟨u1, u2⟩ := q d d0 d1
    rw [u1, u2]
    obtain ⟨w1, w2⟩ := i5 d d0 (by omega)
    exact ⟨w1.mono0 hc (by omega), w2.imp (fun z => z) (fun z => z.mono0 hc (by omega))⟩
  · rw [hc _ (by omega) (by omega)]
    exact h5
theorem r_resolve_L21 {A : Nat → Option (Nat × (Nat → Int32))} {Q : Option Value → jm → Prop} {M0 : jm} (q : ∀ (M' : jm), RI M' → RH M' → RF M' → XS M' 0 0 0 1 (-1) → (∀ (a : Nat) (i : Int), a ≠ 598 → a ≠ 660 → M' a i = M0 a i) → (∀ (i : Int), i ≠ 80 → i ≠ 81 → M' 598 i = M0 598 i) → Q none M') (nO : Nat) (ko : ∀ (M : jm) (k : Int), RI M → RH M → RF M → (∀ (a : Nat) (i : Int), a ≠ 598 → a ≠ 660 → M a i = M0 a i) → (∀ (i : Int), i ≠ 80 → i ≠ 81 → M 598 i = M0 598 i) → 0 ≤ k ∧ k ≤ 300 → XS M 0 0 0 1 (-1) → AK M → 300 - k ≤ nO → jr A 1 xm_370 2 [(1, .int (Int32.ofInt (k))), (0, .ref (598))] [] M Q) : ∀ (nM : Nat) (M : jm) (i : Int) (c : Int) (k : Int), RI M → RH M → RF M → (∀ (a : Nat) (i : Int), a ≠ 598 → a ≠ 660 → M a i = M0 a i) → (∀ (i : Int), i ≠ 80 → i ≠ 81 → M 598 i = M0 598 i) → 0 ≤ i ∧ i ≤ 16 → (-1) ≤ c ∧ c ≤ 15 → 0 ≤ k ∧ k ≤ 299 → 300 - (k + 1) ≤ nO → XS M 0 0 0 1 (-1) → AK M → k < M 598 96 → c < M 598 88 ∨ c = -1 → 16 - i ≤ nM → jr A 1 xm_370 21 [(3, .int (Int32.ofInt (i))), (2, .int (Int32.ofInt (c))), (1, .int (Int32.ofInt (k))), (0, .ref (598))] [] M Q := by
  intro nM
  induction nM using Nat.strongRecOn with
  | ind nM ih =>
    intro M i c k hI_M hH_M hS_M hF_M hG_M h_i h_c h_k hy0 hy1 hy2 hy3 hy4 hm
    have hX := hy1
    have hA := hy2
    have ha := hA k (by omega) (by omega)
    have dpx := XS.dep hy1
    have b90 : (0 : Int) ≤ M 598 90 ∧ M 598 90 ≤ 2200 := hI_M 598 90 (by decide)
    refine jr.iload_n rfl rfl ?_
    refine jr.aload_n rfl rfl ?_
    obtain ⟨v1, e1⟩ : ∃ z, M 598 88 = z := ⟨_, rfl⟩
    have b1 : 0 ≤ v1 ∧ v1 ≤ 16 := by rw [← e1]; exact hI_M 598 88 (by decide)
    refine jr.getf (i := 88) (x := v1) (v := .int (Int32.ofInt (v1))) rfl rfl (by decide) rfl (by decide) rfl rfl e1 rfl ?_
    refine jr.icmp_ge rfl rfl (by omega) (by omega) (fun h26 => ?_) (fun h26 => ?_)
    · refine jr.iload_n rfl rfl ?_
      refine jr.iconst rfl ?_
      refine jr.icmp_ne rfl rfl (by omega) (by omega) (fun h59 => ?_) (fun h59 => ?_)
      · refine jr.aload_n rfl rfl ?_
        refine jr.getf (i := 95) (v := .ref 660) rfl rfl (by decide) rfl (by decide) rfl rfl rfl rfl ?_
        refine jr.aload_n rfl rfl ?_
        refine jr.getf (i := 99) (v := .ref 663) rfl rfl (by decide) rfl (by decide) rfl rfl rfl rfl ?_
        refine jr.iload_n rfl rfl ?_
        obtain ⟨v2, e2⟩ : ∃ z, M 663 k = z := ⟨_, rfl⟩
        have b2 : 0 ≤ v2 ∧ v2 ≤ 2200 := by rw [← e2]; exact (by have q := hI_M 663 k (by decide); rw [xri_row rfl rfl] at q; exact q)
        refine jr.iald (i := k) (x := v2) rfl (by decide) rfl (by decide) (by omega) (by omega) e2 ?_
        refine jr.iload_n rfl rfl ?_
        refine jr.i2l rfl (by omega) ?_
        refine jr.last (i := v2) (x := c) rfl (by decide) rfl (by decide) (by omega) (by omega) ?_
        refine jr.iinc rfl rfl (by decide) rfl ?_
        refine jr.goto rfl rfl ?_
        refine jr.pick [0, 3] rfl rfl ?_
        exact ko (ju M 660 v2 c) (k + 1) (RI.u hI_M (a := 660) (i := v2) (by rw [xri_row rfl rfl]; show (-9223372036854775808 : Int) ≤ _ ∧ _ ≤ (9223372036854775807 : Int); omega)) (RH.o hH_M (by decide) (by decide) (by decide)) (RF.o hS_M (by decide) (by decide))  (fun a i f598 f660 => ((ju_c _ _ f660).trans (hF_M a i f598 f660))) (fun i g80 g81 => ((ju_c _ _ (by decide)).trans (hG_M i g80 g81))) (by omega) (XS.asks hX (by rw [← e2]; exact ha.2.2) (by omega)) (AK.cp (M' := (ju M 660 v2 c)) hA (CP.o (CP.rfl _) (by decide) (Or.inl (by decide))) (fun i => ju_c _ _ (by decide)) (ju_c _ _ (by decide))) (by omega)
      · refine jr.aload_n rfl rfl ?_
        refine jr.bipush rfl (by decide) ?_
        refine jr.aload_n rfl rfl ?_
        refine jr.getf (i := 98) (v := .ref 662) rfl rfl (by decide) rfl (by decide) rfl rfl rfl rfl ?_
        refine jr.iload_n rfl rfl ?_
        obtain ⟨v3, e3⟩ : ∃ z, M 662 k = z := ⟨_, rfl⟩
        have b3 : 0 ≤ v3 ∧ v3 ≤ 1600 := by rw [← e3]; exact (by have q := hI_M 662 k (by decide); rw [xri_row rfl rfl] at q; exact q)
        refine jr.iald (i := k) (x := v3) rfl (by decide) rfl (by decide) (by omega) (by omega) e3 ?_
        obtain ⟨v5, e5⟩ : ∃ z, M 598 73 = z := ⟨_, rfl⟩
        have b5 : 0 ≤ v5 ∧ v5 ≤ 1600 := by rw [← e5]; exact hI_M 598 73 (by decide)
        obtain ⟨v7, e7⟩ : ∃ z, M 598 74 = z := ⟨_, rfl⟩
        have b7 : 0 ≤ v7 ∧ v7 ≤ 4 := by rw [← e7]; exact hI_M 598 74 (by decide)
        obtain ⟨v9, e9⟩ : ∃ z, M 598 89 = z := ⟨_, rfl⟩
        have b9 : 0 ≤ v9 ∧ v9 ≤ 301 := by rw [← e9]; exact hI_M 598 89 (by decide)
        obtain ⟨v11, e11⟩ : ∃ z, M 598 100 = z := ⟨_, rfl⟩
        have b11 : 0 ≤ v11 ∧ v11 ≤ 13 := by rw [← e11]; exact hI_M 598 100 (by decide)
        refine jr_v rfl rfl (Or.inl rfl) rfl rfl (by decide) rfl ⟨rfl, Nat.le_of_ble_eq_true rfl, Nat.le_of_ble_eq_true rfl⟩ rfl (jc.deep (r_fails hI_M hH_M hS_M  (by omega) (by omega)  (fun M4 hI_M4 hH_M4 hS_M4  w4_0 w4_1 w4_2 => ?_)) (by decide))
        have tk4 : TK M4 = TK M := TK.fr (w4_2 73 (by decide) (by decide)) (w4_2 74 (by decide) (by decide))
        have y6 : M 598 73 = v5 := e5
        have y8 : M 598 74 = v7 := e7
        have y10 : M 598 89 = v9 := e9
        have y12 : M 598 100 = v11 := e11
        have x4_73 := w4_2 73 (by decide) (by decide)
        have x4_74 := w4_2 74 (by decide) (by decide)
        have x4_89 := w4_2 89 (by decide) (by decide)
        have x4_100 := w4_2 100 (by decide) (by decide)
        have hX := XS.fr2 hX w4_1 (w4_2 88 (by decide) (by decide)) (w4_2 90 (by decide) (by decide)) (w4_2 101 (by decide) (by decide)) (w4_2 107 (by decide) (by decide)) (k' := 0) (d' := 0) (z' := 1) (by omega) (by omega) (by omega) (by omega)
        have hA := AK.cp hA (CP.f (CP.rfl _) (fun i => w4_1 659 i (by decide)) (w4_2 90 (by decide) (by decide))) (fun i => w4_1 663 i (by decide)) (w4_2 96 (by decide) (by decide))
        refine jr.goto rfl rfl ?_
        refine jr.iinc rfl rfl (by decide) rfl ?_
        refine jr.goto rfl rfl ?_
        refine jr.pick [0, 3] rfl rfl ?_
        exact ko M4 (k + 1) hI_M4 hH_M4 hS_M4  (fun a i f598 f660 => ((w4_1 a i f598).trans (hF_M a i f598 f660))) (fun i g80 g81 => ((w4_2 i g80 g81).trans (hG_M i g80 g81))) (by omega) hX hA (by omega)
    · refine jr.aload_n rfl rfl ?_
      refine jr.getf (i := 91) (v := .ref 656) rfl rfl (by decide) rfl (by decide) rfl rfl rfl rfl ?_
      refine jr.iload_n rfl rfl ?_
      obtain ⟨v13, e13⟩ : ∃ z, M 656 i = z := ⟨_, rfl⟩
      have b13 : (-9223372036854775808) ≤ v13 ∧ v13 ≤ 9223372036854775807 := by rw [← e13]; exact (by have q := hI_M 656 i (by decide); rw [xri_row rfl rfl] at q; exact q)
      refine jr.lald (i := i) (x := v13) rfl (by decide) rfl (by decide) (by omega) (by omega) e13 ?_
      refine jr.aload_n rfl rfl ?_
      refine jr.getf (i := 97) (v := .ref 661) rfl rfl (by decide) rfl (by decide) rfl rfl rfl rfl ?_
      refine jr.iload_n rfl rfl ?_
      obtain ⟨v14, e14⟩ : ∃ z, M 661 k = z := ⟨_, rfl⟩
      have b14 : (-9223372036854775808) ≤ v14 ∧ v14 ≤ 9223372036854775807 := by rw [← e14]; exact (by have q := hI_M 661 k (by decide); rw [xri_row rfl rfl] at q; exact q)
      refine jr.lald (i := k) (x := v14) rfl (by decide) rfl (by decide) (by omega) (by omega) e14 ?_
      refine jr.lcmp_ne rfl rfl rfl (by omega) (by omega) (fun h41 => ?_) (fun h41 => ?_)
      · refine jr.iload_n rfl rfl ?_
        refine jr.istore_n rfl (by decide) rfl ?_
        refine jr.iinc rfl rfl (by decide) rfl ?_
        refine jr.goto rfl rfl ?_
        obtain ⟨v15, e15⟩ : ∃ z, M 598 96 = z := ⟨_, rfl⟩
        have b15 : 0 ≤ v15 ∧ v15 ≤ 300 := by rw [← e15]; exact hI_M 598 96 (by decide)
        refine jr.pick [0, 1, 2, 3] rfl rfl ?_
        exact ih (nM - 1) (by omega) M (i + 1) c k hI_M hH_M hS_M  (fun a i f598 f660 => (hF_M a i f598 f660)) (fun i g80 g81 => (hG_M i g80 g81)) (by omega) (by omega) (by omega) (by omega) hX hA (by rw [e15] <;> omega) (by rw [e1] <;> omega) (by omega)
      · refine jr.iload_n rfl rfl ?_
        refine jr.goto rfl rfl ?_
        refine jr.istore_n rfl (by decide) rfl ?_
        refine jr.iinc rfl rfl (by decide) rfl ?_
        refine jr.goto rfl rfl ?_
        obtain ⟨v16, e16⟩ : ∃ z, M 598 96 = z := ⟨_, rfl⟩
        have b16 : 0 ≤ v16 ∧ v16 ≤ 300 := by rw [← e16]; exact hI_M 598 96 (by decide)
        refine jr.pick [0, 1, 2, 3] rfl rfl ?_
        exact ih (nM - 1) (by omega) M (i + 1) i k hI_M hH_M hS_M  (fun a i f598 f660 => (hF_M a i f598 f660)) (fun i g80 g81 => (hG_M i g80 g81)) (by omega) (by omega) (by omega) (by omega) hX hA (by rw [e16] <;> omega) (by rw [e1] <;> omega) (by omega)
theorem r_resolve_L2 {A : Nat → Option (Nat × (Nat → Int32))} {Q : Option Value → jm → Prop} {M0 : jm} (q : ∀ (M' : jm), RI M' → RH M' → RF M' → XS M' 0 0 0 1 (-1) → (∀ (a : Nat) (i : Int), a ≠ 598 → a ≠ 660 → M' a i = M0 a i) → (∀ (i : Int), i ≠ 80 → i ≠ 81 → M' 598 i = M0 598 i) → Q none M') : ∀ (nM : Nat) (M : jm) (k : Int), RI M → RH M → RF M → (∀ (a : Nat) (i : Int), a ≠ 598 → a ≠ 660 → M a i = M0 a i) → (∀ (i : Int), i ≠ 80 → i ≠ 81 → M 598 i = M0 598 i) → 0 ≤ k ∧ k ≤ 300 → XS M 0 0 0 1 (-1) → AK M → 300 - k ≤ nM → jr A 1 xm_370 2 [(1, .int (Int32.ofInt (k))), (0, .ref (598))] [] M Q := by
  intro nM
  induction nM using Nat.strongRecOn with
  | ind nM ih =>
    intro M k hI_M hH_M hS_M hF_M hG_M h_k hy0 hy1 hm
    have hX := hy0
    have hA := hy1
    have dpx := XS.dep hy0
    have b96 : (0 : Int) ≤ M 598 96 ∧ M 598 96 ≤ 300 := hI_M 598 96 (by decide)
    refine jr.iload_n rfl rfl ?_
    refine jr.aload_n rfl rfl ?_
    obtain ⟨v1, e1⟩ : ∃ z, M 598 96 = z := ⟨_, rfl⟩
    have b1 : 0 ≤ v1 ∧ v1 ≤ 300 := by rw [← e1]; exact hI_M 598 96 (by decide)
    refine jr.getf (i := 96) (x := v1) (v := .int (Int32.ofInt (v1))) rfl rfl (by decide) rfl (by decide) rfl rfl e1 rfl ?_
    refine jr.icmp_ge rfl rfl (by omega) (by omega) (fun h7 => ?_) (fun h7 => ?_)
    · exact jr.vreturn rfl rfl (q _ hI_M hH_M hS_M  hX (fun a i f598 f660 => (hF_M a i f598 f660)) (fun i g80 g81 => (hG_M i g80 g81)))
    · refine jr.aload_n rfl rfl ?_
      refine jr_v rfl rfl (Or.inl rfl) rfl rfl (by decide) rfl ⟨rfl, Nat.le_of_ble_eq_true rfl, Nat.le_of_ble_eq_true rfl⟩ rfl (jc.deep (c_good hI_M  (fun t11_0 => ?_) (fun f11_0 => ?_)) (by decide))
      · refine jr.if_eq rfl rfl (by omega) (fun h => absurd h (by decide)) (fun _ => ?_)
        refine jr.iconst rfl ?_
        refine jr.istore_n rfl (by decide) rfl ?_
        refine jr.iconst rfl ?_
        refine jr.istore_n rfl (by decide) rfl ?_
        obtain ⟨v2, e2⟩ : ∃ z, M 598 88 = z := ⟨_, rfl⟩
        have b2 : 0 ≤ v2 ∧ v2 ≤ 16 := by rw [← e2]; exact hI_M 598 88 (by decide)
        refine jr.pick [0, 1, 2, 3] rfl rfl ?_
        exact r_resolve_L21 q (nM - 1) (ih (nM - 1) (by omega)) 16 M 0 (-1) k hI_M hH_M hS_M  (fun a i f598 f660 => (hF_M a i f598 f660)) (fun i g80 g81 => (hG_M i g80 g81)) (by omega) (by omega) (by omega) (by omega) hX hA (by rw [e1] <;> omega) (by rw [e2] <;> omega) (by omega)
      · refine jr.if_eq rfl rfl (by omega) (fun _ => ?_) (fun h => absurd (by decide) h)
        exact jr.vreturn rfl rfl (q _ hI_M hH_M hS_M  hX (fun a i f598 f660 => (hF_M a i f598 f660)) (fun i g80 g81 => (hG_M i g80 g81)))
theorem r_resolve {A : Nat → Option (Nat × (Nat → Int32))} {Q : Option Value → jm → Prop} {M : jm} (hI_M : RI M) (hH_M : RH M) (hS_M : RF M) (p0 : XS M 0 0 0 1 (-1)) (p1 : AK M) (q : ∀ (M' : jm), RI M' → RH M' → RF M' → XS M' 0 0 0 1 (-1) → (∀ (a : Nat) (i : Int), a ≠ 598 → a ≠ 660 → M' a i = M a i) → (∀ (i : Int), i ≠ 80 → i ≠ 81 → M' 598 i = M 598 i) → Q none M') : jc A 2 370 [.ref (598)] M Q := by
  have hX := p0
  have hA := p1
  have b96 : (0 : Int) ≤ M 598 96 ∧ M 598 96 ≤ 300 := hI_M 598 96 (by decide)
  have dpx := XS.dep p0
  refine jc_of (m := xm_370) rfl (Nat.le_of_ble_eq_true rfl) rfl ?_
  refine jr.iconst rfl ?_
  refine jr.istore_n rfl (by decide) rfl ?_
  refine jr.pick [0, 1] rfl rfl ?_
  exact r_resolve_L2 q 300 M 0 hI_M hH_M hS_M  (fun a i f598 f660 => rfl) (fun i g80 g81 => rfl) (by omega) hX hA (by omega)
end

