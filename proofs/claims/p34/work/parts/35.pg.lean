/-! ===== the reference: contracts, 35.pg ===== -/
theorem XS.init {M : jm} (hf : FWq (M 650)) (h1 : M 598 88 = 0) (h2 : M 598 90 = 0) (h3 : M 598 107 = 0) (h4 : 0 ≤ M 598 89) (h5 : 0 ≤ M 598 73) : XS M 0 0 (M 598 100) 1 (-1) := by
  rw [XS.rows, h1, h2, h3]
  refine ⟨fun _ => 0, fun _ => 0, fun _ => 0, fun _ => 0, ⟨hf, rfl, rfl, rfl, by omega, by omega, by omega, by omega, by omega, by omega, by omega⟩, fun i i0 i1 => by omega, fun j j0 j1 => by omega, fun j j0 j1 => ⟨Int.le_refl _, by show (0 : Int) ≤ 0 + 2 * j; omega, Int.le_refl _, Int.le_refl _, Or.inl (by omega)⟩, fun j j0 j1 => by omega, fun c c0 c1 => by omega, by decide, by show M 598 100 = 0 + 0 + M 598 100; omega, ?_⟩
  have e : RVq 0 (M 598 101) = 0 := (RVq_1 (ib := M 598 101)).2.2
  rw [e]
  show 2 * (0 + 0) + 0 + 0 ≤ 6 * M 598 89 + 4 * 0 + M 598 73
  omega
theorem AK.zero {M : jm} (h : M 598 96 = 0) : AK M := fun k k0 k1 => by omega
/-- the machine's code -/
def MC (M : jm) : Prop := M 598 82 = 0 ∨ ∃ (ht : Int → Int) (n : Int), 1 ≤ n ∧ n ≤ 2000 ∧ (∀ i : Int, 0 ≤ i → i < n → OPk (M 654) (M 655) (M 598 82) ht (n - 1) False i) ∧ (∀ c : Int, 0 ≤ c → c < M 598 82 → ENk (M 654) ht (n - 1) (M 652 c) ∧ (M 653 c = -1 ∨ ENk (M 654) ht (n - 1) (M 653 c))) ∧ M 654 (n - 1) = 3
theorem MC.fr {M M' : jm} (h : MC M) (e2 : ∀ i : Int, M' 652 i = M 652 i) (e3 : ∀ i : Int, M' 653 i = M 653 i) (e4 : ∀ i : Int, M' 654 i = M 654 i) (e5 : ∀ i : Int, M' 655 i = M 655 i) (g : M' 598 82 = M 598 82) : MC M' := by
  unfold MC at h ⊢
  rw [show M' 652 = M 652 from funext e2, show M' 653 = M 653 from funext e3, show M' 654 = M 654 from funext e4, show M' 655 = M 655 from funext e5, g]
  exact h
theorem MC.o {M : jm} (h : MC M) {a : Nat} {i v : Int} (h1 : a < 652 ∨ 655 < a) (h2 : a ≠ 598 ∨ i ≠ 82) : MC (ju M a i v) := by
  refine h.fr (fun j => ju_c M v (by omega)) (fun j => ju_c M v (by omega)) (fun j => ju_c M v (by omega)) (fun j => ju_c M v (by omega)) ?_
  rcases h2 with h2 | h2
  · exact ju_c M v (fun e => h2 e.symm)
  · exact ju_i M v (fun e => h2 e.symm)
/-- the parser's end: all that was laid -/
def RD (M : jm) : Prop := XS M 0 0 0 1 (-1) ∧ M 598 107 = 0 ∧ 1 ≤ M 598 90 ∧ M 598 90 ≤ 2000 ∧ M 659 (M 598 90 - 1) = 3
theorem RD.o {M : jm} (h : RD M) {a : Nat} {i v : Int} (h1 : (652 ≤ a ∧ a ≤ 655) ∨ (a = 598 ∧ (i = 82 ∨ i = 83))) : RD (ju M a i v) := by
  obtain ⟨h0, h2, h3, h4, h5⟩ := h
  have r : ∀ c : Nat, c ≠ a → ju M a i v c = M c := fun c hc => jw_o hc
  have f : ∀ j : Int, j ≠ 82 → j ≠ 83 → ju M a i v 598 j = M 598 j := fun j j1 j2 => ju_ne M v (fun q => by omega)
  unfold RD
  rw [f 107 (by decide) (by decide), f 90 (by decide) (by decide), r 659 (by omega)]
  refine ⟨?_, h2, h3, h4, h5⟩
  rw [XS.rows] at h0 ⊢
  rw [r 650 (by omega), r 657 (by omega), r 658 (by omega), r 659 (by omega), r 660 (by omega), r 664 (by omega), r 665 (by omega), r 666 (by omega), r 667 (by omega), r 668 (by omega), r 669 (by omega), f 88 (by decide) (by decide), f 89 (by decide) (by decide), f 90 (by decide) (by decide), f 100 (by decide) (by decide), f 101 (by decide) (by decide), f 107 (by decide) (by decide), f 73 (by decide) (by decide)]
  exact h0
def CQ (M : jm) (k : Int) : Prop := ∀ c : Int, 0 ≤ c → c < k → M 652 c = M 657 c ∧ M 653 c = M 658 c
theorem CQ.add {M : jm} {k v w : Int} (h : CQ M k) (e1 : M 657 k = v) (e2 : M 658 k = w) : CQ (ju (ju M 652 k v) 653 k w) (k + 1) := by
  intro c c0 c1
  rw [ju_c _ _ (by decide : (652 : Nat) ≠ 653), ju_c _ _ (by decide : (657 : Nat) ≠ 653), ju_c _ _ (by decide : (657 : Nat) ≠ 652), ju_c _ _ (by decide : (658 : Nat) ≠ 653), ju_c _ _ (by decide : (658 : Nat) ≠ 652)]
  by_cases q : c = k
  · subst q
    rw [ju_same, ju_same]
    exact ⟨e1.symm, e2.symm⟩
  · rw [ju_i _ _ q, ju_i _ _ q, ju_c _ _ (by decide : (653 : Nat) ≠ 652)]
    exact h c c0 (by omega)
def CD (M : jm) (k : Int) : Prop := ∀ c : Int, 0 ≤ c → c < k → M 654 c = M 659 c ∧ M 655 c = M 660 c
theorem CD.add {M : jm} {k v w : Int} (h : CD M k) (e1 : M 659 k = v) (e2 : M 660 k = w) : CD (ju (ju M 654 k v) 655 k w) (k + 1) := by
  intro c c0 c1
  rw [ju_c _ _ (by decide : (654 : Nat) ≠ 655), ju_c _ _ (by decide : (659 : Nat) ≠ 655), ju_c _ _ (by decide : (659 : Nat) ≠ 654), ju_c _ _ (by decide : (660 : Nat) ≠ 655), ju_c _ _ (by decide : (660 : Nat) ≠ 654)]
  by_cases q : c = k
  · subst q
    rw [ju_same, ju_same]
    exact ⟨e1.symm, e2.symm⟩
  · rw [ju_i _ _ q, ju_i _ _ q, ju_c _ _ (by decide : (655 : Nat) ≠ 654)]
    exact h c c0 (by omega)
theorem CQ.o {M : jm} {k : Int} (h : CQ M k) {i v w : Int} : CQ (ju (ju M 654 i v) 655 i w) k := by
  intro c c0 c1
  rw [ju_c _ _ (by decide), ju_c _ _ (by decide), ju_c _ _ (by decide), ju_c _ _ (by decide), ju_c _ _ (by decide), ju_c _ _ (by decide), ju_c _ _ (by decide), ju_c _ _ (by decide)]
  exact h c c0 c1
theorem OPk.mono0 {co ar co' ar' ht : Int → Int} {nc nc' n cd i : Int} {pe pe' : Prop} (h : OPk co ar nc ht n pe i) (h0 : 0 ≤ i) (hi : i < cd) (hc : ∀ j, 0 ≤ j → j < cd → co' j = co j) (ha : ar' i = ar i) (hn : n ≤ cd) (hnc : nc ≤ nc') (hp : pe → pe') : OPk co' ar' nc' ht n pe' i := by
  obtain ⟨⟨a1, a2, a3, a4, a5, a6⟩, b, c, d⟩ := h
  unfold OPk
  rw [hc i h0 hi, ha]
  refine ⟨⟨a1, a2, a3, a4, a5, a6⟩, fun q => ?_, c, fun q => ?_⟩
  · rcases b q with w | ⟨w1, w2, w3, w4⟩
    · exact Or.inl (hp w)
    · refine Or.inr ⟨w1, w2, w3, ?_⟩
      rw [hc _ (by omega) (by omega)]
      exact w4
  · obtain ⟨w1, w2, w3, w4⟩ := d q
    refine ⟨w1, ?_, w3, by omega⟩
    rw [hc _ (by omega) (by omega)]
    exact w2
theorem ENk.mono0 {co co' ht : Int → Int} {n cd e : Int} (h : ENk co ht n e) (hc : ∀ j, 0 ≤ j → j < cd → co' j = co j) (hn : n ≤ cd) : ENk co' ht n e := by
  obtain ⟨a1, a2, a3, a4⟩ := h
  refine ⟨a1, a2, a3, ?_⟩
  rcases a4 with w | w
  · exact Or.inl w
  · by_cases z : e = 0
    · exact Or.inl z
    · refine Or.inr ?_
      rw [hc _ (by omega) (by omega)]
      exact w
theorem MC.make {M : jm} (h : RD M) (e : M 598 82 = M 598 88) (q : CQ M (M 598 82)) {k : Int} (c : CD M k) (hk : M 598 90 ≤ k) : MC M := by
  obtain ⟨h0, h2, h3, h4, h5⟩ := h
  rw [XS.rows] at h0
  obtain ⟨ht, P, D, E, g, i1, i2, i3, i4, i5, i6, i7, i8⟩ := h0
  have hc : ∀ j, 0 ≤ j → j < M 598 90 → M 654 j = M 659 j := fun j j0 j1 => (c j j0 (by omega)).1
  refine Or.inr ⟨ht, M 598 90, h3, h4, ?_, ?_, ?_⟩
  · intro i hi0 hi1
    refine (i1 i hi0 hi1).mono0 hi0 hi1 hc (c i hi0 (by omega)).2 (by omega) (by omega) (fun w => ?_)
    rcases w with w | w | w
    · obtain ⟨j, j0, j1, _⟩ := w
      omega
    · obtain ⟨j, j0, j1, _⟩ := w
      omega
    · omega
  · intro d d0 d1
    obtain ⟨u1, u2⟩ := q d d0 d1
    rw [u1, u2]
    obtain ⟨w1, w2⟩ := i5 d d0 (by omega)
    exact ⟨w1.mono0 hc (by omega), w2.imp (fun z => z) (fun z => z.mono0 hc (by omega))⟩
  · rw [hc _ (by omega) (by omega)]
    exact h5
theorem r_resolve_L21 {A : Nat → Option (Nat × (Nat → Int32))} {Q : Option Value → jm → Prop} {M0 : jm} (q : ∀ (M' : jm), RI M' → RH M' → RF M' → XS M' 0 0 0 1 (-1) → (∀ (a : Nat) (i : Int), a ≠ 598 → a ≠ 660 → M' a i = M0 a i) → (∀ (i : Int), i ≠ 80 → i ≠ 81 → M' 598 i = M0 598 i) → Q none M') (nO : Nat) (ko : ∀ (M : jm) (k : Int), RI M → RH M → RF M → (∀ (a : Nat) (i : Int), a ≠ 598 → a ≠ 660 → M a i = M0 a i) → (∀ (i : Int), i ≠ 80 → i ≠ 81 → M 598 i = M0 598 i) → 0 ≤ k ∧ k ≤ 300 → XS M 0 0 0 1 (-1) → AK M → 300 - k ≤ nO → jr A 1 xm_370 2 [(1, .int (Int32.ofInt (k))), (0, .ref (598))] [] M Q) : ∀ (nM : Nat) (M : jm) (i : Int) (c : Int) (k : Int), RI M → RH M → RF M → (∀ (a : Nat) (i : Int), a ≠ 598 → a ≠ 660 → M a i = M0 a i) → (∀ (i : Int), i ≠ 80 → i ≠ 81 → M 598 i = M0 598 i) → 0 ≤ i ∧ i ≤ 16 → (-1) ≤ c ∧ c ≤ 15 → 0 ≤ k ∧ k ≤ 299 → 300 - (k + 1) ≤ nO → XS M 0 0 0 1 (-1) → AK M → k < M 598 96 → c < M 598 88 ∨ c = -1 → 16 - i ≤ nM → jr A 1 xm_370 21 [(3, .int (Int32.ofInt (i))), (2, .int (Int32.ofInt (c))), (1, .int (Int32.ofInt (k))), (0, .ref (598))] [] M Q := by
  intro nM
  induction nM using Nat.strongRecOn with
  | ind nM ih =>
    intro M i c k hI_M hH_M hS_M hF_M hG_M h_i h_c h_k hy0 hy1 hy2 hy3 hy4 hm
    have hX := hy1
    have hA := hy2
    have ha := hA k (by omega) (by omega)
    have dpx := XS.dep hy1
    have b90 : (0 : Int) ≤ M 598 90 ∧ M 598 90 ≤ 2200 := hI_M 598 90 (by decide)
    refine jr.iload_n rfl rfl ?_
    refine jr.aload_n rfl rfl ?_
    obtain ⟨v1, e1⟩ : ∃ z, M 598 88 = z := ⟨_, rfl⟩
    have b1 : 0 ≤ v1 ∧ v1 ≤ 16 := by rw [← e1]; exact hI_M 598 88 (by decide)
    refine jr.getf (i := 88) (x := v1) (v := .int (Int32.ofInt (v1))) rfl rfl (by decide) rfl (by decide) rfl rfl e1 rfl ?_
    refine jr.icmp_ge rfl rfl (by omega) (by omega) (fun h26 => ?_) (fun h26 => ?_)
    · refine jr.iload_n rfl rfl ?_
      refine jr.iconst rfl ?_
      refine jr.icmp_ne rfl rfl (by omega) (by omega) (fun h59 => ?_) (fun h59 => ?_)
      · refine jr.aload_n rfl rfl ?_
        refine jr.getf (i := 95) (v := .ref 660) rfl rfl (by decide) rfl (by decide) rfl rfl rfl rfl ?_
        refine jr.aload_n rfl rfl ?_
        refine jr.getf (i := 99) (v := .ref 663) rfl rfl (by decide) rfl (by decide) rfl rfl rfl rfl ?_
        refine jr.iload_n rfl rfl ?_
        obtain ⟨v2, e2⟩ : ∃ z, M 663 k = z := ⟨_, rfl⟩
        have b2 : 0 ≤ v2 ∧ v2 ≤ 2200 := by rw [← e2]; exact (by have q := hI_M 663 k (by decide); rw [xri_row rfl rfl] at q; exact q)
        refine jr.iald (i := k) (x := v2) rfl (by decide) rfl (by decide) (by omega) (by omega) e2 ?_
        refine jr.iload_n rfl rfl ?_
        refine jr.i2l rfl (by omega) ?_
        refine jr.last (i := v2) (x := c) rfl (by decide) rfl (by decide) (by omega) (by omega) ?_
        refine jr.iinc rfl rfl (by decide) rfl ?_
        refine jr.goto rfl rfl ?_
        refine jr.pick [0, 3] rfl rfl ?_
        exact ko (ju M 660 v2 c) (k + 1) (RI.u hI_M (a := 660) (i := v2) (by rw [xri_row rfl rfl]; show (-9223372036854775808 : Int) ≤ _ ∧ _ ≤ (9223372036854775807 : Int); omega)) (RH.o hH_M (by decide) (by decide) (by decide)) (RF.o hS_M (by decide) (by decide))  (fun a i f598 f660 => ((ju_c _ _ f660).trans (hF_M a i f598 f660))) (fun i g80 g81 => ((ju_c _ _ (by decide)).trans (hG_M i g80 g81))) (by omega) (XS.asks hX (by rw [← e2]; exact ha.2.2) (by omega)) (AK.cp (M' := (ju M 660 v2 c)) hA (CP.o (CP.rfl _) (by decide) (Or.inl (by decide))) (fun i => ju_c _ _ (by decide)) (ju_c _ _ (by decide))) (by omega)
      · refine jr.aload_n rfl rfl ?_
        refine jr.bipush rfl (by decide) ?_
        refine jr.aload_n rfl rfl ?_
        refine jr.getf (i := 98) (v := .ref 662) rfl rfl (by decide) rfl (by decide) rfl rfl rfl rfl ?_
        refine jr.iload_n rfl rfl ?_
        obtain ⟨v3, e3⟩ : ∃ z, M 662 k = z := ⟨_, rfl⟩
        have b3 : 0 ≤ v3 ∧ v3 ≤ 1600 := by rw [← e3]; exact (by have q := hI_M 662 k (by decide); rw [xri_row rfl rfl] at q; exact q)
        refine jr.iald (i := k) (x := v3) rfl (by decide) rfl (by decide) (by omega) (by omega) e3 ?_
        obtain ⟨v5, e5⟩ : ∃ z, M 598 73 = z := ⟨_, rfl⟩
        have b5 : 0 ≤ v5 ∧ v5 ≤ 1600 := by rw [← e5]; exact hI_M 598 73 (by decide)
        obtain ⟨v7, e7⟩ : ∃ z, M 598 74 = z := ⟨_, rfl⟩
        have b7 : 0 ≤ v7 ∧ v7 ≤ 4 := by rw [← e7]; exact hI_M 598 74 (by decide)
        obtain ⟨v9, e9⟩ : ∃ z, M 598 89 = z := ⟨_, rfl⟩
        have b9 : 0 ≤ v9 ∧ v9 ≤ 301 := by rw [← e9]; exact hI_M 598 89 (by decide)
        obtain ⟨v11, e11⟩ : ∃ z, M 598 100 = z := ⟨_, rfl⟩
        have b11 : 0 ≤ v11 ∧ v11 ≤ 13 := by rw [← e11]; exact hI_M 598 100 (by decide)
        refine jr_v rfl rfl (Or.inl rfl) rfl rfl (by decide) rfl ⟨rfl, Nat.le_of_ble_eq_true rfl, Nat.le_of_ble_eq_true rfl⟩ rfl (jc.deep (r_fails hI_M hH_M hS_M  (by omega) (by omega)  (fun M4 hI_M4 hH_M4 hS_M4  w4_0 w4_1 w4_2 => ?_)) (by decide))
        have tk4 : TK M4 = TK M := TK.fr (w4_2 73 (by decide) (by decide)) (w4_2 74 (by decide) (by decide))
        have y6 : M 598 73 = v5 := e5
        have y8 : M 598 74 = v7 := e7
        have y10 : M 598 89 = v9 := e9
        have y12 : M 598 100 = v11 := e11
        have x4_73 := w4_2 73 (by decide) (by decide)
        have x4_74 := w4_2 74 (by decide) (by decide)
        have x4_89 := w4_2 89 (by decide) (by decide)
        have x4_100 := w4_2 100 (by decide) (by decide)
        have hX := XS.fr2 hX w4_1 (w4_2 88 (by decide) (by decide)) (w4_2 90 (by decide) (by decide)) (w4_2 101 (by decide) (by decide)) (w4_2 107 (by decide) (by decide)) (k' := 0) (d' := 0) (z' := 1) (by omega) (by omega) (by omega) (by omega)
        have hA := AK.cp hA (CP.f (CP.rfl _) (fun i => w4_1 659 i (by decide)) (w4_2 90 (by decide) (by decide))) (fun i => w4_1 663 i (by decide)) (w4_2 96 (by decide) (by decide))
        refine jr.goto rfl rfl ?_
        refine jr.iinc rfl rfl (by decide) rfl ?_
        refine jr.goto rfl rfl ?_
        refine jr.pick [0, 3] rfl rfl ?_
        exact ko M4 (k + 1) hI_M4 hH_M4 hS_M4  (fun a i f598 f660 => ((w4_1 a i f598).trans (hF_M a i f598 f660))) (fun i g80 g81 => ((w4_2 i g80 g81).trans (hG_M i g80 g81))) (by omega) hX hA (by omega)
    · refine jr.aload_n rfl rfl ?_
      refine jr.getf (i := 91) (v := .ref 656) rfl rfl (by decide) rfl (by decide) rfl rfl rfl rfl ?_
      refine jr.iload_n rfl rfl ?_
      obtain ⟨v13, e13⟩ : ∃ z, M 656 i = z := ⟨_, rfl⟩
      have b13 : (-9223372036854775808) ≤ v13 ∧ v13 ≤ 9223372036854775807 := by rw [← e13]; exact (by have q := hI_M 656 i (by decide); rw [xri_row rfl rfl] at q; exact q)
      refine jr.lald (i := i) (x := v13) rfl (by decide) rfl (by decide) (by omega) (by omega) e13 ?_
      refine jr.aload_n rfl rfl ?_
      refine jr.getf (i := 97) (v := .ref 661) rfl rfl (by decide) rfl (by decide) rfl rfl rfl rfl ?_
      refine jr.iload_n rfl rfl ?_
      obtain ⟨v14, e14⟩ : ∃ z, M 661 k = z := ⟨_, rfl⟩
      have b14 : (-9223372036854775808) ≤ v14 ∧ v14 ≤ 9223372036854775807 := by rw [← e14]; exact (by have q := hI_M 661 k (by decide); rw [xri_row rfl rfl] at q; exact q)
      refine jr.lald (i := k) (x := v14) rfl (by decide) rfl (by decide) (by omega) (by omega) e14 ?_
      refine jr.lcmp_ne rfl rfl rfl (by omega) (by omega) (fun h41 => ?_) (fun h41 => ?_)
      · refine jr.iload_n rfl rfl ?_
        refine jr.istore_n rfl (by decide) rfl ?_
        refine jr.iinc rfl rfl (by decide) rfl ?_
        refine jr.goto rfl rfl ?_
        obtain ⟨v15, e15⟩ : ∃ z, M 598 96 = z := ⟨_, rfl⟩
        have b15 : 0 ≤ v15 ∧ v15 ≤ 300 := by rw [← e15]; exact hI_M 598 96 (by decide)
        refine jr.pick [0, 1, 2, 3] rfl rfl ?_
        exact ih (nM - 1) (by omega) M (i + 1) c k hI_M hH_M hS_M  (fun a i f598 f660 => (hF_M a i f598 f660)) (fun i g80 g81 => (hG_M i g80 g81)) (by omega) (by omega) (by omega) (by omega) hX hA (by rw [e15] <;> omega) (by rw [e1] <;> omega) (by omega)
      · refine jr.iload_n rfl rfl ?_
        refine jr.goto rfl rfl ?_
        refine jr.istore_n rfl (by decide) rfl ?_
        refine jr.iinc rfl rfl (by decide) rfl ?_
        refine jr.goto rfl rfl ?_
        obtain ⟨v16, e16⟩ : ∃ z, M 598 96 = z := ⟨_, rfl⟩
        have b16 : 0 ≤ v16 ∧ v16 ≤ 300 := by rw [← e16]; exact hI_M 598 96 (by decide)
        refine jr.pick [0, 1, 2, 3] rfl rfl ?_
        exact ih (nM - 1) (by omega) M (i + 1) i k hI_M hH_M hS_M  (fun a i f598 f660 => (hF_M a i f598 f660)) (fun i g80 g81 => (hG_M i g80 g81)) (by omega) (by omega) (by omega) (by omega) hX hA (by rw [e16] <;> omega) (by rw [e1] <;> omega) (by omega)
theorem r_resolve_L2 {A : Nat → Option (Nat × (Nat → Int32))} {Q : Option Value → jm → Prop} {M0 : jm} (q : ∀ (M' : jm), RI M' → RH M' → RF M' → XS M' 0 0 0 1 (-1) → (∀ (a : Nat) (i : Int), a ≠ 598 → a ≠ 660 → M' a i = M0 a i) → (∀ (i : Int), i ≠ 80 → i ≠ 81 → M' 598 i = M0 598 i) → Q none M') : ∀ (nM : Nat) (M : jm) (k : Int), RI M → RH M → RF M → (∀ (a : Nat) (i : Int), a ≠ 598 → a ≠ 660 → M a i = M0 a i) → (∀ (i : Int), i ≠ 80 → i ≠ 81 → M 598 i = M0 598 i) → 0 ≤ k ∧ k ≤ 300 → XS M 0 0 0 1 (-1) → AK M → 300 - k ≤ nM → jr A 1 xm_370 2 [(1, .int (Int32.ofInt (k))), (0, .ref (598))] [] M Q := by
  intro nM
  induction nM using Nat.strongRecOn with
  | ind nM ih =>
    intro M k hI_M hH_M hS_M hF_M hG_M h_k hy0 hy1 hm
    have hX := hy0
    have hA := hy1
    have dpx := XS.dep hy0
    have b96 : (0 : Int) ≤ M 598 96 ∧ M 598 96 ≤ 300 := hI_M 598 96 (by decide)
    refine jr.iload_n rfl rfl ?_
    refine jr.aload_n rfl rfl ?_
    obtain ⟨v1, e1⟩ : ∃ z, M 598 96 = z := ⟨_, rfl⟩
    have b1 : 0 ≤ v1 ∧ v1 ≤ 300 := by rw [← e1]; exact hI_M 598 96 (by decide)
    refine jr.getf (i := 96) (x := v1) (v := .int (Int32.ofInt (v1))) rfl rfl (by decide) rfl (by decide) rfl rfl e1 rfl ?_
    refine jr.icmp_ge rfl rfl (by omega) (by omega) (fun h7 => ?_) (fun h7 => ?_)
    · exact jr.vreturn rfl rfl (q _ hI_M hH_M hS_M  hX (fun a i f598 f660 => (hF_M a i f598 f660)) (fun i g80 g81 => (hG_M i g80 g81)))
    · refine jr.aload_n rfl rfl ?_
      refine jr_v rfl rfl (Or.inl rfl) rfl rfl (by decide) rfl ⟨rfl, Nat.le_of_ble_eq_true rfl, Nat.le_of_ble_eq_true rfl⟩ rfl (jc.deep (c_good hI_M  (fun t11_0 => ?_) (fun f11_0 => ?_)) (by decide))
      · refine jr.if_eq rfl rfl (by omega) (fun h => absurd h (by decide)) (fun _ => ?_)
        refine jr.iconst rfl ?_
        refine jr.istore_n rfl (by decide) rfl ?_
        refine jr.iconst rfl ?_
        refine jr.istore_n rfl (by decide) rfl ?_
        obtain ⟨v2, e2⟩ : ∃ z, M 598 88 = z := ⟨_, rfl⟩
        have b2 : 0 ≤ v2 ∧ v2 ≤ 16 := by rw [← e2]; exact hI_M 598 88 (by decide)
        refine jr.pick [0, 1, 2, 3] rfl rfl ?_
        exact r_resolve_L21 q (nM - 1) (ih (nM - 1) (by omega)) 16 M 0 (-1) k hI_M hH_M hS_M  (fun a i f598 f660 => (hF_M a i f598 f660)) (fun i g80 g81 => (hG_M i g80 g81)) (by omega) (by omega) (by omega) (by omega) hX hA (by rw [e1] <;> omega) (by rw [e2] <;> omega) (by omega)
      · refine jr.if_eq rfl rfl (by omega) (fun _ => ?_) (fun h => absurd (by decide) h)
        exact jr.vreturn rfl rfl (q _ hI_M hH_M hS_M  hX (fun a i f598 f660 => (hF_M a i f598 f660)) (fun i g80 g81 => (hG_M i g80 g81)))
theorem r_resolve {A : Nat → Option (Nat × (Nat → Int32))} {Q : Option Value → jm → Prop} {M : jm} (hI_M : RI M) (hH_M : RH M) (hS_M : RF M) (p0 : XS M 0 0 0 1 (-1)) (p1 : AK M) (q : ∀ (M' : jm), RI M' → RH M' → RF M' → XS M' 0 0 0 1 (-1) → (∀ (a : Nat) (i : Int), a ≠ 598 → a ≠ 660 → M' a i = M a i) → (∀ (i : Int), i ≠ 80 → i ≠ 81 → M' 598 i = M 598 i) → Q none M') : jc A 2 370 [.ref (598)] M Q := by
  have hX := p0
  have hA := p1
  have b96 : (0 : Int) ≤ M 598 96 ∧ M 598 96 ≤ 300 := hI_M 598 96 (by decide)
  have dpx := XS.dep p0
  refine jc_of (m := xm_370) rfl (Nat.le_of_ble_eq_true rfl) rfl ?_
  refine jr.iconst rfl ?_
  refine jr.istore_n rfl (by decide) rfl ?_
  refine jr.pick [0, 1] rfl rfl ?_
  exact r_resolve_L2 q 300 M 0 hI_M hH_M hS_M  (fun a i f598 f660 => rfl) (fun i g80 g81 => rfl) (by omega) hX hA (by omega)
theorem r_rules_L202 {A : Nat → Option (Nat × (Nat → Int32))} {Q : Option Value → jm → Prop} {M0 : jm} (q : ∀ (r : Int) (M' : jm), RI M' → RH M' → RF M' → (-17) ≤ r ∧ r ≤ 16 → MC M' → (∀ (a : Nat) (i : Int), a ≠ 598 → a ≠ 651 → a ≠ 652 → a ≠ 653 → a ≠ 654 → a ≠ 655 → a ≠ 656 → a ≠ 657 → a ≠ 658 → a ≠ 659 → a ≠ 660 → a ≠ 661 → a ≠ 662 → a ≠ 663 → a ≠ 664 → a ≠ 665 → a ≠ 666 → a ≠ 667 → a ≠ 668 → a ≠ 669 → M' a i = M0 a i) → (∀ (i : Int), i ≠ 1 → i ≠ 72 → i ≠ 73 → i ≠ 74 → i ≠ 75 → i ≠ 76 → i ≠ 77 → i ≠ 78 → i ≠ 79 → i ≠ 80 → i ≠ 81 → i ≠ 82 → i ≠ 83 → i ≠ 88 → i ≠ 89 → i ≠ 90 → i ≠ 96 → i ≠ 100 → i ≠ 101 → i ≠ 102 → i ≠ 107 → M' 598 i = M0 598 i) → Q (some (.int (Int32.ofInt r))) M') : ∀ (nM : Nat) (M : jm) (k : Int), RI M → RH M → RF M → (∀ (a : Nat) (i : Int), a ≠ 598 → a ≠ 651 → a ≠ 652 → a ≠ 653 → a ≠ 654 → a ≠ 655 → a ≠ 656 → a ≠ 657 → a ≠ 658 → a ≠ 659 → a ≠ 660 → a ≠ 661 → a ≠ 662 → a ≠ 663 → a ≠ 664 → a ≠ 665 → a ≠ 666 → a ≠ 667 → a ≠ 668 → a ≠ 669 → M a i = M0 a i) → (∀ (i : Int), i ≠ 1 → i ≠ 72 → i ≠ 73 → i ≠ 74 → i ≠ 75 → i ≠ 76 → i ≠ 77 → i ≠ 78 → i ≠ 79 → i ≠ 80 → i ≠ 81 → i ≠ 82 → i ≠ 83 → i ≠ 88 → i ≠ 89 → i ≠ 90 → i ≠ 96 → i ≠ 100 → i ≠ 101 → i ≠ 102 → i ≠ 107 → M 598 i = M0 598 i) → 0 ≤ k ∧ k ≤ 2200 → RD M → M 598 82 = M 598 88 → CQ M (M 598 82) → CD M k → 2200 - k ≤ nM → jr A 9 xm_371 202 [(1, .int (Int32.ofInt (k))), (0, .ref (598))] [] M Q := by
  intro nM
  induction nM using Nat.strongRecOn with
  | ind nM ih =>
    intro M k hI_M hH_M hS_M hF_M hG_M h_k hy0 hy1 hy2 hy3 hm
    have hR := hy0
    have hQ := hy2
    have hC := hy3
    obtain ⟨_, r1, r2, r3, r4⟩ := id hy0
    refine jr.iload_n rfl rfl ?_
    refine jr.aload_n rfl rfl ?_
    obtain ⟨v1, e1⟩ : ∃ z, M 598 90 = z := ⟨_, rfl⟩
    have b1 : 0 ≤ v1 ∧ v1 ≤ 2200 := by rw [← e1]; exact hI_M 598 90 (by decide)
    refine jr.getf (i := 90) (x := v1) (v := .int (Int32.ofInt (v1))) rfl rfl (by decide) rfl (by decide) rfl rfl e1 rfl ?_
    refine jr.icmp_ge rfl rfl (by omega) (by omega) (fun h207 => ?_) (fun h207 => ?_)
    · refine jr.aload_n rfl rfl ?_
      obtain ⟨v2, e2⟩ : ∃ z, M 598 82 = z := ⟨_, rfl⟩
      have b2 : 0 ≤ v2 ∧ v2 ≤ 16 := by rw [← e2]; exact hI_M 598 82 (by decide)
      refine jr.getf (i := 82) (x := v2) (v := .int (Int32.ofInt (v2))) rfl rfl (by decide) rfl (by decide) rfl rfl e2 rfl ?_
      exact jr.ireturn rfl rfl rfl (q _ _ hI_M hH_M hS_M  (by omega) (MC.make hR hy1 hQ hC (by omega)) (fun a i f598 f651 f652 f653 f654 f655 f656 f657 f658 f659 f660 f661 f662 f663 f664 f665 f666 f667 f668 f669 => (hF_M a i f598 f651 f652 f653 f654 f655 f656 f657 f658 f659 f660 f661 f662 f663 f664 f665 f666 f667 f668 f669)) (fun i g1 g72 g73 g74 g75 g76 g77 g78 g79 g80 g81 g82 g83 g88 g89 g90 g96 g100 g101 g102 g107 => (hG_M i g1 g72 g73 g74 g75 g76 g77 g78 g79 g80 g81 g82 g83 g88 g89 g90 g96 g100 g101 g102 g107)))
    · refine jr.aload_n rfl rfl ?_
      refine jr.getf (i := 86) (v := .ref 654) rfl rfl (by decide) rfl (by decide) rfl rfl rfl rfl ?_
      refine jr.iload_n rfl rfl ?_
      refine jr.aload_n rfl rfl ?_
      refine jr.getf (i := 94) (v := .ref 659) rfl rfl (by decide) rfl (by decide) rfl rfl rfl rfl ?_
      refine jr.iload_n rfl rfl ?_
      obtain ⟨v3, e3⟩ : ∃ z, M 659 k = z := ⟨_, rfl⟩
      have b3 : 0 ≤ v3 ∧ v3 ≤ 1000 := by rw [← e3]; exact (by have q := hI_M 659 k (by decide); rw [xri_row rfl rfl] at q; exact q)
      refine jr.iald (i := k) (x := v3) rfl (by decide) rfl (by decide) (by omega) (by omega) e3 ?_
      refine jr.iast (i := k) (x := v3) rfl (by decide) rfl (by decide) (by omega) (by omega) ?_
      refine jr.aload_n rfl rfl ?_
      refine jr.getf (i := 87) (v := .ref 655) rfl rfl (by decide) rfl (by decide) rfl rfl rfl rfl ?_
      refine jr.iload_n rfl rfl ?_
      refine jr.aload_n rfl rfl ?_
      refine jr.getf (i := 95) (v := .ref 660) rfl rfl (by decide) rfl (by decide) rfl rfl rfl rfl ?_
      refine jr.iload_n rfl rfl ?_
      obtain ⟨v4, e4⟩ : ∃ z, M 660 k = z := ⟨_, rfl⟩
      have b4 : (-9223372036854775808) ≤ v4 ∧ v4 ≤ 9223372036854775807 := by rw [← e4]; exact (by have q := hI_M 660 k (by decide); rw [xri_row rfl rfl] at q; exact q)
      refine jr.lald (i := k) (x := v4) rfl (by decide) rfl (by decide) (by omega) (by omega) ((ju_c _ _ (by decide)).trans e4) ?_
      refine jr.last (i := k) (x := v4) rfl (by decide) rfl (by decide) (by omega) (by omega) ?_
      refine jr.iinc rfl rfl (by decide) rfl ?_
      refine jr.goto rfl rfl ?_
      obtain ⟨v5, e5⟩ : ∃ z, M 598 82 = z := ⟨_, rfl⟩
      have b5 : 0 ≤ v5 ∧ v5 ≤ 16 := by rw [← e5]; exact hI_M 598 82 (by decide)
      obtain ⟨v6, e6⟩ : ∃ z, M 598 88 = z := ⟨_, rfl⟩
      have b6 : 0 ≤ v6 ∧ v6 ≤ 16 := by rw [← e6]; exact hI_M 598 88 (by decide)
      refine jr.pick [0, 1] rfl rfl ?_
      exact ih (nM - 1) (by omega) (ju (ju M 654 k v3) 655 k v4) (k + 1) (RI.u (RI.u hI_M (a := 654) (i := k) (by rw [xri_row rfl rfl]; show (0 : Int) ≤ _ ∧ _ ≤ (1000 : Int); omega)) (a := 655) (i := k) (by rw [xri_row rfl rfl]; show (-9223372036854775808 : Int) ≤ _ ∧ _ ≤ (9223372036854775807 : Int); omega)) (RH.o (RH.o hH_M (by decide) (by decide) (by decide)) (by decide) (by decide) (by decide)) (RF.o (RF.o hS_M (by decide) (by decide)) (by decide) (by decide))  (fun a i f598 f651 f652 f653 f654 f655 f656 f657 f658 f659 f660 f661 f662 f663 f664 f665 f666 f667 f668 f669 => ((ju_c _ _ f655).trans ((ju_c _ _ f654).trans (hF_M a i f598 f651 f652 f653 f654 f655 f656 f657 f658 f659 f660 f661 f662 f663 f664 f665 f666 f667 f668 f669)))) (fun i g1 g72 g73 g74 g75 g76 g77 g78 g79 g80 g81 g82 g83 g88 g89 g90 g96 g100 g101 g102 g107 => ((ju_c _ _ (by decide)).trans ((ju_c _ _ (by decide)).trans (hG_M i g1 g72 g73 g74 g75 g76 g77 g78 g79 g80 g81 g82 g83 g88 g89 g90 g96 g100 g101 g102 g107)))) (by omega) (RD.o (RD.o hR (Or.inl (by decide))) (Or.inl (by decide))) (by rw [((ju_c _ _ (by decide)).trans ((ju_c _ _ (by decide)).trans e5)), ((ju_c _ _ (by decide)).trans ((ju_c _ _ (by decide)).trans e6))] <;> omega) (by rw [ju_c _ _ (by decide), ju_c _ _ (by decide)]; exact CQ.o hQ) (CD.add hC e3 e4) (by omega)
theorem r_rules_L162 {A : Nat → Option (Nat × (Nat → Int32))} {Q : Option Value → jm → Prop} {M0 : jm} (q : ∀ (r : Int) (M' : jm), RI M' → RH M' → RF M' → (-17) ≤ r ∧ r ≤ 16 → MC M' → (∀ (a : Nat) (i : Int), a ≠ 598 → a ≠ 651 → a ≠ 652 → a ≠ 653 → a ≠ 654 → a ≠ 655 → a ≠ 656 → a ≠ 657 → a ≠ 658 → a ≠ 659 → a ≠ 660 → a ≠ 661 → a ≠ 662 → a ≠ 663 → a ≠ 664 → a ≠ 665 → a ≠ 666 → a ≠ 667 → a ≠ 668 → a ≠ 669 → M' a i = M0 a i) → (∀ (i : Int), i ≠ 1 → i ≠ 72 → i ≠ 73 → i ≠ 74 → i ≠ 75 → i ≠ 76 → i ≠ 77 → i ≠ 78 → i ≠ 79 → i ≠ 80 → i ≠ 81 → i ≠ 82 → i ≠ 83 → i ≠ 88 → i ≠ 89 → i ≠ 90 → i ≠ 96 → i ≠ 100 → i ≠ 101 → i ≠ 102 → i ≠ 107 → M' 598 i = M0 598 i) → Q (some (.int (Int32.ofInt r))) M') : ∀ (nM : Nat) (M : jm) (k : Int), RI M → RH M → RF M → (∀ (a : Nat) (i : Int), a ≠ 598 → a ≠ 651 → a ≠ 652 → a ≠ 653 → a ≠ 654 → a ≠ 655 → a ≠ 656 → a ≠ 657 → a ≠ 658 → a ≠ 659 → a ≠ 660 → a ≠ 661 → a ≠ 662 → a ≠ 663 → a ≠ 664 → a ≠ 665 → a ≠ 666 → a ≠ 667 → a ≠ 668 → a ≠ 669 → M a i = M0 a i) → (∀ (i : Int), i ≠ 1 → i ≠ 72 → i ≠ 73 → i ≠ 74 → i ≠ 75 → i ≠ 76 → i ≠ 77 → i ≠ 78 → i ≠ 79 → i ≠ 80 → i ≠ 81 → i ≠ 82 → i ≠ 83 → i ≠ 88 → i ≠ 89 → i ≠ 90 → i ≠ 96 → i ≠ 100 → i ≠ 101 → i ≠ 102 → i ≠ 107 → M 598 i = M0 598 i) → 0 ≤ k ∧ k ≤ 16 → RD M → M 598 82 = M 598 88 ∧ 1 ≤ M 598 88 ∧ M 598 88 ≤ 16 → CQ M k → 16 - k ≤ nM → jr A 9 xm_371 162 [(1, .int (Int32.ofInt (k))), (0, .ref (598))] [] M Q := by
  intro nM
  induction nM using Nat.strongRecOn with
  | ind nM ih =>
    intro M k hI_M hH_M hS_M hF_M hG_M h_k hy0 hy1 hy2 hm
    have hR := hy0
    have hQ := hy2
    obtain ⟨_, r1, r2, r3, r4⟩ := id hy0
    refine jr.iload_n rfl rfl ?_
    refine jr.aload_n rfl rfl ?_
    obtain ⟨v1, e1⟩ : ∃ z, M 598 82 = z := ⟨_, rfl⟩
    have b1 : 0 ≤ v1 ∧ v1 ≤ 16 := by rw [← e1]; exact hI_M 598 82 (by decide)
    refine jr.getf (i := 82) (x := v1) (v := .int (Int32.ofInt (v1))) rfl rfl (by decide) rfl (by decide) rfl rfl e1 rfl ?_
    refine jr.icmp_ge rfl rfl (by omega) (by omega) (fun h167 => ?_) (fun h167 => ?_)
    · refine jr.iconst rfl ?_
      refine jr.istore_n rfl (by decide) rfl ?_
      obtain ⟨v2, e2⟩ : ∃ z, M 598 88 = z := ⟨_, rfl⟩
      have b2 : 0 ≤ v2 ∧ v2 ≤ 16 := by rw [← e2]; exact hI_M 598 88 (by decide)
      refine jr.pick [0, 1] rfl rfl ?_
      exact r_rules_L202 q 2200 M 0 hI_M hH_M hS_M  (fun a i f598 f651 f652 f653 f654 f655 f656 f657 f658 f659 f660 f661 f662 f663 f664 f665 f666 f667 f668 f669 => (hF_M a i f598 f651 f652 f653 f654 f655 f656 f657 f658 f659 f660 f661 f662 f663 f664 f665 f666 f667 f668 f669)) (fun i g1 g72 g73 g74 g75 g76 g77 g78 g79 g80 g81 g82 g83 g88 g89 g90 g96 g100 g101 g102 g107 => (hG_M i g1 g72 g73 g74 g75 g76 g77 g78 g79 g80 g81 g82 g83 g88 g89 g90 g96 g100 g101 g102 g107)) (by omega) hR (by rw [e1, e2] <;> omega) (fun c c0 c1 => hQ c c0 (by omega)) (fun c c0 c1 => by omega) (by omega)
    · refine jr.aload_n rfl rfl ?_
      refine jr.getf (i := 84) (v := .ref 652) rfl rfl (by decide) rfl (by decide) rfl rfl rfl rfl ?_
      refine jr.iload_n rfl rfl ?_
      refine jr.aload_n rfl rfl ?_
      refine jr.getf (i := 92) (v := .ref 657) rfl rfl (by decide) rfl (by decide) rfl rfl rfl rfl ?_
      refine jr.iload_n rfl rfl ?_
      obtain ⟨v3, e3⟩ : ∃ z, M 657 k = z := ⟨_, rfl⟩
      have b3 : 0 ≤ v3 ∧ v3 ≤ 2200 := by rw [← e3]; exact (by have q := hI_M 657 k (by decide); rw [xri_row rfl rfl] at q; exact q)
      refine jr.iald (i := k) (x := v3) rfl (by decide) rfl (by decide) (by omega) (by omega) e3 ?_
      refine jr.iast (i := k) (x := v3) rfl (by decide) rfl (by decide) (by omega) (by omega) ?_
      refine jr.aload_n rfl rfl ?_
      refine jr.getf (i := 85) (v := .ref 653) rfl rfl (by decide) rfl (by decide) rfl rfl rfl rfl ?_
      refine jr.iload_n rfl rfl ?_
      refine jr.aload_n rfl rfl ?_
      refine jr.getf (i := 93) (v := .ref 658) rfl rfl (by decide) rfl (by decide) rfl rfl rfl rfl ?_
      refine jr.iload_n rfl rfl ?_
      obtain ⟨v4, e4⟩ : ∃ z, M 658 k = z := ⟨_, rfl⟩
      have b4 : (-1) ≤ v4 ∧ v4 ≤ 2200 := by rw [← e4]; exact (by have q := hI_M 658 k (by decide); rw [xri_row rfl rfl] at q; exact q)
      refine jr.iald (i := k) (x := v4) rfl (by decide) rfl (by decide) (by omega) (by omega) ((ju_c _ _ (by decide)).trans e4) ?_
      refine jr.iast (i := k) (x := v4) rfl (by decide) rfl (by decide) (by omega) (by omega) ?_
      refine jr.iinc rfl rfl (by decide) rfl ?_
      refine jr.goto rfl rfl ?_
      obtain ⟨v5, e5⟩ : ∃ z, M 598 88 = z := ⟨_, rfl⟩
      have b5 : 0 ≤ v5 ∧ v5 ≤ 16 := by rw [← e5]; exact hI_M 598 88 (by decide)
      refine jr.pick [0, 1] rfl rfl ?_
      exact ih (nM - 1) (by omega) (ju (ju M 652 k v3) 653 k v4) (k + 1) (RI.u (RI.u hI_M (a := 652) (i := k) (by rw [xri_row rfl rfl]; show (0 : Int) ≤ _ ∧ _ ≤ (2200 : Int); omega)) (a := 653) (i := k) (by rw [xri_row rfl rfl]; show (-1 : Int) ≤ _ ∧ _ ≤ (2200 : Int); omega)) (RH.o (RH.o hH_M (by decide) (by decide) (by decide)) (by decide) (by decide) (by decide)) (RF.o (RF.o hS_M (by decide) (by decide)) (by decide) (by decide))  (fun a i f598 f651 f652 f653 f654 f655 f656 f657 f658 f659 f660 f661 f662 f663 f664 f665 f666 f667 f668 f669 => ((ju_c _ _ f653).trans ((ju_c _ _ f652).trans (hF_M a i f598 f651 f652 f653 f654 f655 f656 f657 f658 f659 f660 f661 f662 f663 f664 f665 f666 f667 f668 f669)))) (fun i g1 g72 g73 g74 g75 g76 g77 g78 g79 g80 g81 g82 g83 g88 g89 g90 g96 g100 g101 g102 g107 => ((ju_c _ _ (by decide)).trans ((ju_c _ _ (by decide)).trans (hG_M i g1 g72 g73 g74 g75 g76 g77 g78 g79 g80 g81 g82 g83 g88 g89 g90 g96 g100 g101 g102 g107)))) (by omega) (RD.o (RD.o hR (Or.inl (by decide))) (Or.inl (by decide))) (by rw [((ju_c _ _ (by decide)).trans ((ju_c _ _ (by decide)).trans e1)), ((ju_c _ _ (by decide)).trans ((ju_c _ _ (by decide)).trans e5))] <;> omega) (CQ.add hQ e3 e4) (by omega)
theorem r_rules_L144 {A : Nat → Option (Nat × (Nat → Int32))} {Q : Option Value → jm → Prop} {M0 : jm} (q : ∀ (r : Int) (M' : jm), RI M' → RH M' → RF M' → (-17) ≤ r ∧ r ≤ 16 → MC M' → (∀ (a : Nat) (i : Int), a ≠ 598 → a ≠ 651 → a ≠ 652 → a ≠ 653 → a ≠ 654 → a ≠ 655 → a ≠ 656 → a ≠ 657 → a ≠ 658 → a ≠ 659 → a ≠ 660 → a ≠ 661 → a ≠ 662 → a ≠ 663 → a ≠ 664 → a ≠ 665 → a ≠ 666 → a ≠ 667 → a ≠ 668 → a ≠ 669 → M' a i = M0 a i) → (∀ (i : Int), i ≠ 1 → i ≠ 72 → i ≠ 73 → i ≠ 74 → i ≠ 75 → i ≠ 76 → i ≠ 77 → i ≠ 78 → i ≠ 79 → i ≠ 80 → i ≠ 81 → i ≠ 82 → i ≠ 83 → i ≠ 88 → i ≠ 89 → i ≠ 90 → i ≠ 96 → i ≠ 100 → i ≠ 101 → i ≠ 102 → i ≠ 107 → M' 598 i = M0 598 i) → Q (some (.int (Int32.ofInt r))) M') : ∀ (M : jm) , RI M → RH M → RF M → (∀ (a : Nat) (i : Int), a ≠ 598 → a ≠ 651 → a ≠ 652 → a ≠ 653 → a ≠ 654 → a ≠ 655 → a ≠ 656 → a ≠ 657 → a ≠ 658 → a ≠ 659 → a ≠ 660 → a ≠ 661 → a ≠ 662 → a ≠ 663 → a ≠ 664 → a ≠ 665 → a ≠ 666 → a ≠ 667 → a ≠ 668 → a ≠ 669 → M a i = M0 a i) → (∀ (i : Int), i ≠ 1 → i ≠ 72 → i ≠ 73 → i ≠ 74 → i ≠ 75 → i ≠ 76 → i ≠ 77 → i ≠ 78 → i ≠ 79 → i ≠ 80 → i ≠ 81 → i ≠ 82 → i ≠ 83 → i ≠ 88 → i ≠ 89 → i ≠ 90 → i ≠ 96 → i ≠ 100 → i ≠ 101 → i ≠ 102 → i ≠ 107 → M 598 i = M0 598 i) → RD M → 1 ≤ M 598 88 ∧ M 598 88 ≤ 16 → jr A 9 xm_371 144 [(0, .ref (598))] [] M Q := by
    intro M  hI_M hH_M hS_M hF_M hG_M  hy0 hy1
    have hR := hy0
    obtain ⟨_, r1, r2, r3, r4⟩ := id hy0
    refine jr.aload_n rfl rfl ?_
    refine jr.aload_n rfl rfl ?_
    obtain ⟨v1, e1⟩ : ∃ z, M 598 88 = z := ⟨_, rfl⟩
    have b1 : 0 ≤ v1 ∧ v1 ≤ 16 := by rw [← e1]; exact hI_M 598 88 (by decide)
    refine jr.getf (i := 88) (x := v1) (v := .int (Int32.ofInt (v1))) rfl rfl (by decide) rfl (by decide) rfl rfl e1 rfl ?_
    refine jr.putf (i := 82) (x := v1) rfl rfl (by decide) rfl (by decide) rfl rfl rfl rfl rfl ?_
    refine jr.aload_n rfl rfl ?_
    refine jr.aload_n rfl rfl ?_
    obtain ⟨v2, e2⟩ : ∃ z, M 598 89 = z := ⟨_, rfl⟩
    have b2 : 0 ≤ v2 ∧ v2 ≤ 301 := by rw [← e2]; exact hI_M 598 89 (by decide)
    refine jr.getf (i := 89) (x := v2) (v := .int (Int32.ofInt (v2))) rfl rfl (by decide) rfl (by decide) rfl rfl ((ju_i _ _ (by decide)).trans e2) rfl ?_
    refine jr.putf (i := 83) (x := v2) rfl rfl (by decide) rfl (by decide) rfl rfl rfl rfl rfl ?_
    refine jr.iconst rfl ?_
    refine jr.istore_n rfl (by decide) rfl ?_
    refine jr.pick [0, 1] rfl rfl ?_
    exact r_rules_L162 q 16 (ju (ju M 598 82 v1) 598 83 v2) 0 (RI.u (RI.u hI_M (a := 598) (i := 82) (show (0 : Int) ≤ _ ∧ _ ≤ (16 : Int) from by omega)) (a := 598) (i := 83) (show (0 : Int) ≤ _ ∧ _ ≤ (301 : Int) from by omega)) (RH.o (RH.o hH_M (by decide) (by decide) (by decide)) (by decide) (by decide) (by decide)) (RF.o (RF.o hS_M (by decide) (by decide)) (by decide) (by decide))  (fun a i f598 f651 f652 f653 f654 f655 f656 f657 f658 f659 f660 f661 f662 f663 f664 f665 f666 f667 f668 f669 => ((ju_c _ _ f598).trans ((ju_c _ _ f598).trans (hF_M a i f598 f651 f652 f653 f654 f655 f656 f657 f658 f659 f660 f661 f662 f663 f664 f665 f666 f667 f668 f669)))) (fun i g1 g72 g73 g74 g75 g76 g77 g78 g79 g80 g81 g82 g83 g88 g89 g90 g96 g100 g101 g102 g107 => ((ju_i _ _ g83).trans ((ju_i _ _ g82).trans (hG_M i g1 g72 g73 g74 g75 g76 g77 g78 g79 g80 g81 g82 g83 g88 g89 g90 g96 g100 g101 g102 g107)))) (by omega) (RD.o (RD.o hR (Or.inr (by decide))) (Or.inr (by decide))) (by rw [((ju_i _ _ (by decide)).trans (ju_same _ _ _ _)), ((ju_i _ _ (by decide)).trans ((ju_i _ _ (by decide)).trans e1))] <;> omega) (fun c c0 c1 => by omega) (by omega)
theorem r_rules_L85 {A : Nat → Option (Nat × (Nat → Int32))} {Q : Option Value → jm → Prop} {M0 : jm} (q : ∀ (r : Int) (M' : jm), RI M' → RH M' → RF M' → (-17) ≤ r ∧ r ≤ 16 → MC M' → (∀ (a : Nat) (i : Int), a ≠ 598 → a ≠ 651 → a ≠ 652 → a ≠ 653 → a ≠ 654 → a ≠ 655 → a ≠ 656 → a ≠ 657 → a ≠ 658 → a ≠ 659 → a ≠ 660 → a ≠ 661 → a ≠ 662 → a ≠ 663 → a ≠ 664 → a ≠ 665 → a ≠ 666 → a ≠ 667 → a ≠ 668 → a ≠ 669 → M' a i = M0 a i) → (∀ (i : Int), i ≠ 1 → i ≠ 72 → i ≠ 73 → i ≠ 74 → i ≠ 75 → i ≠ 76 → i ≠ 77 → i ≠ 78 → i ≠ 79 → i ≠ 80 → i ≠ 81 → i ≠ 82 → i ≠ 83 → i ≠ 88 → i ≠ 89 → i ≠ 90 → i ≠ 96 → i ≠ 100 → i ≠ 101 → i ≠ 102 → i ≠ 107 → M' 598 i = M0 598 i) → Q (some (.int (Int32.ofInt r))) M') : ∀ (nM : Nat) (M : jm) , RI M → RH M → RF M → (∀ (a : Nat) (i : Int), a ≠ 598 → a ≠ 651 → a ≠ 652 → a ≠ 653 → a ≠ 654 → a ≠ 655 → a ≠ 656 → a ≠ 657 → a ≠ 658 → a ≠ 659 → a ≠ 660 → a ≠ 661 → a ≠ 662 → a ≠ 663 → a ≠ 664 → a ≠ 665 → a ≠ 666 → a ≠ 667 → a ≠ 668 → a ≠ 669 → M a i = M0 a i) → (∀ (i : Int), i ≠ 1 → i ≠ 72 → i ≠ 73 → i ≠ 74 → i ≠ 75 → i ≠ 76 → i ≠ 77 → i ≠ 78 → i ≠ 79 → i ≠ 80 → i ≠ 81 → i ≠ 82 → i ≠ 83 → i ≠ 88 → i ≠ 89 → i ≠ 90 → i ≠ 96 → i ≠ 100 → i ≠ 101 → i ≠ 102 → i ≠ 107 → M 598 i = M0 598 i) → XS M 0 0 (M 598 100) 1 (-1) → AK M → LB M → M 598 80 = 0 → M 598 96 ≤ M 598 89 ∧ M 598 89 ≤ 300 ∧ M 598 107 = 0 → M 598 73 ≤ M 598 72 → (M 598 74 = 3 → M 598 79 ≠ 10 ∧ M 598 79 ≠ 11) → MC M → TK M ≤ nM → jr A 9 xm_371 85 [(0, .ref (598))] [] M Q := by
  intro nM
  induction nM using Nat.strongRecOn with
  | ind nM ih =>
    intro M  hI_M hH_M hS_M hF_M hG_M  hy0 hy1 hy2 hy3 hy4 hy5 hy6 hy7 hm
    have hX := hy0
    have hA := hy1
    have hB := hy2
    have hM := hy7
    have b74 : (0 : Int) ≤ M 598 74 ∧ M 598 74 ≤ 4 := hI_M 598 74 (by decide)
    have b73 : (0 : Int) ≤ M 598 73 ∧ M 598 73 ≤ 1600 := hI_M 598 73 (by decide)
    have tg := TK.ge (M := M) (by omega) (by omega)
    refine jr.aload_n rfl rfl ?_
    refine jr.iconst rfl ?_
    refine jr_v rfl rfl (Or.inl rfl) rfl rfl (by decide) rfl ⟨rfl, Nat.le_of_ble_eq_true rfl, Nat.le_of_ble_eq_true rfl⟩ rfl (jc.deep (c_isWord hI_M (by omega) (fun t87_0 t87_1 => ?_) (fun f87_0 => ?_)) (by decide))
    · refine jr.if_eq rfl rfl (by omega) (fun h => absurd h (by decide)) (fun _ => ?_)
      refine jr.aload_n rfl rfl ?_
      obtain ⟨v2, e2⟩ : ∃ z, M 598 80 = z := ⟨_, rfl⟩
      have b2 : 0 ≤ v2 ∧ v2 ≤ 7 := by rw [← e2]; exact hI_M 598 80 (by decide)
      obtain ⟨v3, e3⟩ : ∃ z, M 598 96 = z := ⟨_, rfl⟩
      have b3 : 0 ≤ v3 ∧ v3 ≤ 300 := by rw [← e3]; exact hI_M 598 96 (by decide)
      obtain ⟨v4, e4⟩ : ∃ z, M 598 89 = z := ⟨_, rfl⟩
      have b4 : 0 ≤ v4 ∧ v4 ≤ 301 := by rw [← e4]; exact hI_M 598 89 (by decide)
      obtain ⟨v5, e5⟩ : ∃ z, M 598 107 = z := ⟨_, rfl⟩
      have b5 : 0 ≤ v5 ∧ v5 ≤ 16 := by rw [← e5]; exact hI_M 598 107 (by decide)
      obtain ⟨v6, e6⟩ : ∃ z, M 598 73 = z := ⟨_, rfl⟩
      have b6 : 0 ≤ v6 ∧ v6 ≤ 1600 := by rw [← e6]; exact hI_M 598 73 (by decide)
      obtain ⟨v7, e7⟩ : ∃ z, M 598 72 = z := ⟨_, rfl⟩
      have b7 : 0 ≤ v7 ∧ v7 ≤ 1600 := by rw [← e7]; exact hI_M 598 72 (by decide)
      obtain ⟨v8, e8⟩ : ∃ z, M 598 74 = z := ⟨_, rfl⟩
      have b8 : 0 ≤ v8 ∧ v8 ≤ 4 := by rw [← e8]; exact hI_M 598 74 (by decide)
      obtain ⟨v9, e9⟩ : ∃ z, M 598 79 = z := ⟨_, rfl⟩
      have b9 : 0 ≤ v9 ∧ v9 ≤ 255 := by rw [← e9]; exact hI_M 598 79 (by decide)
      refine jr_v rfl rfl (Or.inl rfl) rfl rfl (by decide) rfl ⟨rfl, Nat.le_of_ble_eq_true rfl, Nat.le_of_ble_eq_true rfl⟩ rfl (jc.deep (r_chain hI_M hH_M hS_M   hX hA hB (by rw [e2, e3, e4, e5]; omega) (by rw [e6, e7]; omega) (by rw [e8, e9]; intro q; omega) (by rw [e8]; omega) (fun M1 hI_M1 hH_M1 hS_M1  w1_0 w1_1 w1_2 w1_3 w1_4 w1_5 => ?_)) (by decide))
      refine jr.goto rfl rfl ?_
      refine jr.aload_n rfl rfl ?_
      refine jr_v rfl rfl (Or.inl rfl) rfl rfl (by decide) rfl ⟨rfl, Nat.le_of_ble_eq_true rfl, Nat.le_of_ble_eq_true rfl⟩ rfl (jc.deep (c_good hI_M1  (fun t105_0 => ?_) (fun f105_0 => ?_)) (by decide))
      · obtain ⟨⟨ds1, ds2, ds3, ds4, ds5, ds6, ds7, ds8, ds9⟩, zb, ztk, zn, zc, zl⟩ := w1_0.resolve_left (fun z => z.1 t105_0)
        have dpx := XS.dep ds2
        have sl := XS.sgle ds2
        have hX : XS M1 0 0 (M1 598 100) 1 (-1) := by rw [show M1 598 100 = 0 by omega]; exact ds2
        have hA := ds8
        have hB := ds7
        have bM1_107 : (0 : Int) ≤ M1 598 107 ∧ M1 598 107 ≤ 16 := hI_M1 598 107 (by decide)
        have bM1_73 : (0 : Int) ≤ M1 598 73 ∧ M1 598 73 ≤ 1600 := hI_M1 598 73 (by decide)
        have bM1_88 : (0 : Int) ≤ M1 598 88 ∧ M1 598 88 ≤ 16 := hI_M1 598 88 (by decide)
        have bM1_100 : (0 : Int) ≤ M1 598 100 ∧ M1 598 100 ≤ 13 := hI_M1 598 100 (by decide)
        have bq74 : (0 : Int) ≤ M1 598 74 ∧ M1 598 74 ≤ 4 := hI_M1 598 74 (by decide)
        have tg1 := TK.ge (M := M1) (by omega) (by omega)
        refine jr.if_eq rfl rfl (by omega) (fun h => absurd h (by decide)) (fun _ => ?_)
        refine jr.aload_n rfl rfl ?_
        obtain ⟨v10, e10⟩ : ∃ z, M1 598 74 = z := ⟨_, rfl⟩
        have b10 : 0 ≤ v10 ∧ v10 ≤ 4 := by rw [← e10]; exact hI_M1 598 74 (by decide)
        refine jr.getf (i := 74) (x := v10) (v := .int (Int32.ofInt (v10))) rfl rfl (by decide) rfl (by decide) rfl rfl e10 rfl ?_
        refine jr.if_ne rfl rfl (by omega) (fun h115 => ?_) (fun h115 => ?_)
        · obtain ⟨v11, e11⟩ : ∃ z, M1 598 80 = z := ⟨_, rfl⟩
          have b11 : 0 ≤ v11 ∧ v11 ≤ 7 := by rw [← e11]; exact hI_M1 598 80 (by decide)
          obtain ⟨v12, e12⟩ : ∃ z, M1 598 96 = z := ⟨_, rfl⟩
          have b12 : 0 ≤ v12 ∧ v12 ≤ 300 := by rw [← e12]; exact hI_M1 598 96 (by decide)
          obtain ⟨v13, e13⟩ : ∃ z, M1 598 89 = z := ⟨_, rfl⟩
          have b13 : 0 ≤ v13 ∧ v13 ≤ 301 := by rw [← e13]; exact hI_M1 598 89 (by decide)
          obtain ⟨v14, e14⟩ : ∃ z, M1 598 107 = z := ⟨_, rfl⟩
          have b14 : 0 ≤ v14 ∧ v14 ≤ 16 := by rw [← e14]; exact hI_M1 598 107 (by decide)
          obtain ⟨v15, e15⟩ : ∃ z, M1 598 73 = z := ⟨_, rfl⟩
          have b15 : 0 ≤ v15 ∧ v15 ≤ 1600 := by rw [← e15]; exact hI_M1 598 73 (by decide)
          have e16 : M1 598 72 = v7 := ((w1_5 72 (by decide) (by decide) (by decide) (by decide) (by decide) (by decide) (by decide) (by decide) (by decide) (by decide) (by decide) (by decide) (by decide) (by decide) (by decide) (by decide) (by decide)).trans e7)
          obtain ⟨v17, e17⟩ : ∃ z, M1 598 79 = z := ⟨_, rfl⟩
          have b17 : 0 ≤ v17 ∧ v17 ≤ 255 := by rw [← e17]; exact hI_M1 598 79 (by decide)
          refine jr.pick [0] rfl rfl ?_
          exact ih (nM - 1) (by omega) M1  hI_M1 hH_M1 hS_M1  (fun a i f598 f651 f652 f653 f654 f655 f656 f657 f658 f659 f660 f661 f662 f663 f664 f665 f666 f667 f668 f669 => ((w1_4 a i f598 f659 f660 f661 f662 f663 f664 f665 f666 f667 f668 f669 f656 f657 f658).trans (hF_M a i f598 f651 f652 f653 f654 f655 f656 f657 f658 f659 f660 f661 f662 f663 f664 f665 f666 f667 f668 f669))) (fun i g1 g72 g73 g74 g75 g76 g77 g78 g79 g80 g81 g82 g83 g88 g89 g90 g96 g100 g101 g102 g107 => ((w1_5 i g73 g74 g75 g76 g77 g78 g79 g80 g81 g89 g90 g96 g100 g102 g107 g88 g101).trans (hG_M i g1 g72 g73 g74 g75 g76 g77 g78 g79 g80 g81 g82 g83 g88 g89 g90 g96 g100 g101 g102 g107)))  hX hA hB (by rw [e11] <;> omega) (by rw [e12, e13, e14] <;> omega) (by rw [e15, e16] <;> omega) (by rw [e10, e17] <;> omega) (MC.fr hM (fun i => w1_4 652 i (by decide) (by decide) (by decide) (by decide) (by decide) (by decide) (by decide) (by decide) (by decide) (by decide) (by decide) (by decide) (by decide) (by decide) (by decide)) (fun i => w1_4 653 i (by decide) (by decide) (by decide) (by decide) (by decide) (by decide) (by decide) (by decide) (by decide) (by decide) (by decide) (by decide) (by decide) (by decide) (by decide)) (fun i => w1_4 654 i (by decide) (by decide) (by decide) (by decide) (by decide) (by decide) (by decide) (by decide) (by decide) (by decide) (by decide) (by decide) (by decide) (by decide) (by decide)) (fun i => w1_4 655 i (by decide) (by decide) (by decide) (by decide) (by decide) (by decide) (by decide) (by decide) (by decide) (by decide) (by decide) (by decide) (by decide) (by decide) (by decide)) (w1_5 82 (by decide) (by decide) (by decide) (by decide) (by decide) (by decide) (by decide) (by decide) (by decide) (by decide) (by decide) (by decide) (by decide) (by decide) (by decide) (by decide) (by decide))) (by omega)
        · refine jr.aload_n rfl rfl ?_
          obtain ⟨v18, e18⟩ : ∃ z, M1 598 80 = z := ⟨_, rfl⟩
          have b18 : 0 ≤ v18 ∧ v18 ≤ 7 := by rw [← e18]; exact hI_M1 598 80 (by decide)
          refine jr_v rfl rfl (Or.inl rfl) rfl rfl (by decide) rfl ⟨rfl, Nat.le_of_ble_eq_true rfl, Nat.le_of_ble_eq_true rfl⟩ rfl (jc.deep (c_good hI_M1  (fun t119_0 => ?_) (fun f119_0 => ?_)) (by decide))
          · refine jr.if_eq rfl rfl (by omega) (fun h => absurd h (by decide)) (fun _ => ?_)
            refine jr.aload_n rfl rfl ?_
            refine jr_v rfl rfl (Or.inl rfl) rfl rfl (by decide) rfl ⟨rfl, Nat.le_of_ble_eq_true rfl, Nat.le_of_ble_eq_true rfl⟩ rfl (jc.deep (r_resolve hI_M1 hH_M1 hS_M1   ds2 hA (fun M19 hI_M19 hH_M19 hS_M19  w19_0 w19_1 w19_2 => ?_)) (by decide))
            have tk19 : TK M19 = TK M1 := TK.fr (w19_2 73 (by decide) (by decide)) (w19_2 74 (by decide) (by decide))
            refine jr.aload_n rfl rfl ?_
            refine jr_v rfl rfl (Or.inl rfl) rfl rfl (by decide) rfl ⟨rfl, Nat.le_of_ble_eq_true rfl, Nat.le_of_ble_eq_true rfl⟩ rfl (jc.deep (c_good hI_M19  (fun t130_0 => ?_) (fun f130_0 => ?_)) (by decide))
            · refine jr.if_ne rfl rfl (by omega) (fun _ => ?_) (fun h => absurd (by decide) h)
              obtain ⟨v20, e20⟩ : ∃ z, M1 598 107 = z := ⟨_, rfl⟩
              have b20 : 0 ≤ v20 ∧ v20 ≤ 16 := by rw [← e20]; exact hI_M1 598 107 (by decide)
              have e21 : M19 598 107 = v20 := ((w19_2 107 (by decide) (by decide)).trans e20)
              have y22 : M19 598 107 = v20 := e21
              obtain ⟨v23, e23⟩ : ∃ z, M1 598 90 = z := ⟨_, rfl⟩
              have b23 : 0 ≤ v23 ∧ v23 ≤ 2200 := by rw [← e23]; exact hI_M1 598 90 (by decide)
              have e24 : M19 598 90 = v23 := ((w19_2 90 (by decide) (by decide)).trans e23)
              have y25 : M19 598 90 = v23 := e24
              obtain ⟨v26, e26⟩ : ∃ z, M1 598 88 = z := ⟨_, rfl⟩
              have b26 : 0 ≤ v26 ∧ v26 ≤ 16 := by rw [← e26]; exact hI_M1 598 88 (by decide)
              have e27 : M19 598 88 = v26 := ((w19_2 88 (by decide) (by decide)).trans e26)
              refine jr.pick [0] rfl rfl ?_
              exact r_rules_L144 q M19  hI_M19 hH_M19 hS_M19  (fun a i f598 f651 f652 f653 f654 f655 f656 f657 f658 f659 f660 f661 f662 f663 f664 f665 f666 f667 f668 f669 => ((w19_1 a i f598 f660).trans ((w1_4 a i f598 f659 f660 f661 f662 f663 f664 f665 f666 f667 f668 f669 f656 f657 f658).trans (hF_M a i f598 f651 f652 f653 f654 f655 f656 f657 f658 f659 f660 f661 f662 f663 f664 f665 f666 f667 f668 f669)))) (fun i g1 g72 g73 g74 g75 g76 g77 g78 g79 g80 g81 g82 g83 g88 g89 g90 g96 g100 g101 g102 g107 => ((w19_2 i g80 g81).trans ((w1_5 i g73 g74 g75 g76 g77 g78 g79 g80 g81 g89 g90 g96 g100 g102 g107 g88 g101).trans (hG_M i g1 g72 g73 g74 g75 g76 g77 g78 g79 g80 g81 g82 g83 g88 g89 g90 g96 g100 g101 g102 g107))))  ⟨w19_0, by omega, by omega, by omega, by rw [w19_2 90 (by decide) (by decide), w19_1 659 _ (by decide) (by decide)]; exact zl⟩ (by rw [e27] <;> omega)
            · refine jr.if_ne rfl rfl (by omega) (fun h => absurd h (by decide)) (fun _ => ?_)
              refine jr.bipush rfl (by decide) ?_
              refine jr.aload_n rfl rfl ?_
              obtain ⟨v28, e28⟩ : ∃ z, M19 598 80 = z := ⟨_, rfl⟩
              have b28 : 0 ≤ v28 ∧ v28 ≤ 7 := by rw [← e28]; exact hI_M19 598 80 (by decide)
              refine jr.getf (i := 80) (x := v28) (v := .int (Int32.ofInt (v28))) rfl rfl (by decide) rfl (by decide) rfl rfl e28 rfl ?_
              refine jr.isub rfl ?_
              exact jr.ireturn rfl rfl rfl (q _ _ hI_M19 hH_M19 hS_M19  (by omega) (MC.fr (MC.fr hM (fun i => w1_4 652 i (by decide) (by decide) (by decide) (by decide) (by decide) (by decide) (by decide) (by decide) (by decide) (by decide) (by decide) (by decide) (by decide) (by decide) (by decide)) (fun i => w1_4 653 i (by decide) (by decide) (by decide) (by decide) (by decide) (by decide) (by decide) (by decide) (by decide) (by decide) (by decide) (by decide) (by decide) (by decide) (by decide)) (fun i => w1_4 654 i (by decide) (by decide) (by decide) (by decide) (by decide) (by decide) (by decide) (by decide) (by decide) (by decide) (by decide) (by decide) (by decide) (by decide) (by decide)) (fun i => w1_4 655 i (by decide) (by decide) (by decide) (by decide) (by decide) (by decide) (by decide) (by decide) (by decide) (by decide) (by decide) (by decide) (by decide) (by decide) (by decide)) (w1_5 82 (by decide) (by decide) (by decide) (by decide) (by decide) (by decide) (by decide) (by decide) (by decide) (by decide) (by decide) (by decide) (by decide) (by decide) (by decide) (by decide) (by decide))) (fun i => w19_1 652 i (by decide) (by decide)) (fun i => w19_1 653 i (by decide) (by decide)) (fun i => w19_1 654 i (by decide) (by decide)) (fun i => w19_1 655 i (by decide) (by decide)) (w19_2 82 (by decide) (by decide))) (fun a i f598 f651 f652 f653 f654 f655 f656 f657 f658 f659 f660 f661 f662 f663 f664 f665 f666 f667 f668 f669 => ((w19_1 a i f598 f660).trans ((w1_4 a i f598 f659 f660 f661 f662 f663 f664 f665 f666 f667 f668 f669 f656 f657 f658).trans (hF_M a i f598 f651 f652 f653 f654 f655 f656 f657 f658 f659 f660 f661 f662 f663 f664 f665 f666 f667 f668 f669)))) (fun i g1 g72 g73 g74 g75 g76 g77 g78 g79 g80 g81 g82 g83 g88 g89 g90 g96 g100 g101 g102 g107 => ((w19_2 i g80 g81).trans ((w1_5 i g73 g74 g75 g76 g77 g78 g79 g80 g81 g89 g90 g96 g100 g102 g107 g88 g101).trans (hG_M i g1 g72 g73 g74 g75 g76 g77 g78 g79 g80 g81 g82 g83 g88 g89 g90 g96 g100 g101 g102 g107)))))
          · exfalso
            omega
      · refine jr.if_eq rfl rfl (by omega) (fun _ => ?_) (fun h => absurd (by decide) h)
        refine jr.aload_n rfl rfl ?_
        obtain ⟨v29, e29⟩ : ∃ z, M1 598 80 = z := ⟨_, rfl⟩
        have b29 : 0 ≤ v29 ∧ v29 ≤ 7 := by rw [← e29]; exact hI_M1 598 80 (by decide)
        refine jr_v rfl rfl (Or.inl rfl) rfl rfl (by decide) rfl ⟨rfl, Nat.le_of_ble_eq_true rfl, Nat.le_of_ble_eq_true rfl⟩ rfl (jc.deep (c_good hI_M1  (fun t119_0 => ?_) (fun f119_0 => ?_)) (by decide))
        · exfalso
          omega
        · refine jr.if_eq rfl rfl (by omega) (fun _ => ?_) (fun h => absurd (by decide) h)
          refine jr.aload_n rfl rfl ?_
          refine jr_v rfl rfl (Or.inl rfl) rfl rfl (by decide) rfl ⟨rfl, Nat.le_of_ble_eq_true rfl, Nat.le_of_ble_eq_true rfl⟩ rfl (jc.deep (c_good hI_M1  (fun t130_0 => ?_) (fun f130_0 => ?_)) (by decide))
          · exfalso
            omega
          · refine jr.if_ne rfl rfl (by omega) (fun h => absurd h (by decide)) (fun _ => ?_)
            refine jr.bipush rfl (by decide) ?_
            refine jr.aload_n rfl rfl ?_
            refine jr.getf (i := 80) (x := v29) (v := .int (Int32.ofInt (v29))) rfl rfl (by decide) rfl (by decide) rfl rfl e29 rfl ?_
            refine jr.isub rfl ?_
            exact jr.ireturn rfl rfl rfl (q _ _ hI_M1 hH_M1 hS_M1  (by omega) (MC.fr hM (fun i => w1_4 652 i (by decide) (by decide) (by decide) (by decide) (by decide) (by decide) (by decide) (by decide) (by decide) (by decide) (by decide) (by decide) (by decide) (by decide) (by decide)) (fun i => w1_4 653 i (by decide) (by decide) (by decide) (by decide) (by decide) (by decide) (by decide) (by decide) (by decide) (by decide) (by decide) (by decide) (by decide) (by decide) (by decide)) (fun i => w1_4 654 i (by decide) (by decide) (by decide) (by decide) (by decide) (by decide) (by decide) (by decide) (by decide) (by decide) (by decide) (by decide) (by decide) (by decide) (by decide)) (fun i => w1_4 655 i (by decide) (by decide) (by decide) (by decide) (by decide) (by decide) (by decide) (by decide) (by decide) (by decide) (by decide) (by decide) (by decide) (by decide) (by decide)) (w1_5 82 (by decide) (by decide) (by decide) (by decide) (by decide) (by decide) (by decide) (by decide) (by decide) (by decide) (by decide) (by decide) (by decide) (by decide) (by decide) (by decide) (by decide))) (fun a i f598 f651 f652 f653 f654 f655 f656 f657 f658 f659 f660 f661 f662 f663 f664 f665 f666 f667 f668 f669 => ((w1_4 a i f598 f659 f660 f661 f662 f663 f664 f665 f666 f667 f668 f669 f656 f657 f658).trans (hF_M a i f598 f651 f652 f653 f654 f655 f656 f657 f658 f659 f660 f661 f662 f663 f664 f665 f666 f667 f668 f669))) (fun i g1 g72 g73 g74 g75 g76 g77 g78 g79 g80 g81 g82 g83 g88 g89 g90 g96 g100 g101 g102 g107 => ((w1_5 i g73 g74 g75 g76 g77 g78 g79 g80 g81 g89 g90 g96 g100 g102 g107 g88 g101).trans (hG_M i g1 g72 g73 g74 g75 g76 g77 g78 g79 g80 g81 g82 g83 g88 g89 g90 g96 g100 g101 g102 g107))))
    · refine jr.if_eq rfl rfl (by omega) (fun _ => ?_) (fun h => absurd (by decide) h)
      refine jr.aload_n rfl rfl ?_
      refine jr_v rfl rfl (Or.inl rfl) rfl rfl (by decide) rfl ⟨rfl, Nat.le_of_ble_eq_true rfl, Nat.le_of_ble_eq_true rfl⟩ rfl (jc.deep (r_wrongToken hI_M hH_M hS_M    (fun M30 hI_M30 hH_M30 hS_M30  w30_0 w30_1 w30_2 => ?_)) (by decide))
      have tk30 : TK M30 = TK M := TK.fr (w30_2 73 (by decide) (by decide)) (w30_2 74 (by decide) (by decide))
      refine jr.aload_n rfl rfl ?_
      obtain ⟨v31, e31⟩ : ∃ z, M30 598 80 = z := ⟨_, rfl⟩
      have b31 : 0 ≤ v31 ∧ v31 ≤ 7 := by rw [← e31]; exact hI_M30 598 80 (by decide)
      refine jr_v rfl rfl (Or.inl rfl) rfl rfl (by decide) rfl ⟨rfl, Nat.le_of_ble_eq_true rfl, Nat.le_of_ble_eq_true rfl⟩ rfl (jc.deep (c_good hI_M30  (fun t105_0 => ?_) (fun f105_0 => ?_)) (by decide))
      · exfalso
        omega
      · refine jr.if_eq rfl rfl (by omega) (fun _ => ?_) (fun h => absurd (by decide) h)
        refine jr.aload_n rfl rfl ?_
        refine jr_v rfl rfl (Or.inl rfl) rfl rfl (by decide) rfl ⟨rfl, Nat.le_of_ble_eq_true rfl, Nat.le_of_ble_eq_true rfl⟩ rfl (jc.deep (c_good hI_M30  (fun t119_0 => ?_) (fun f119_0 => ?_)) (by decide))
        · exfalso
          omega
        · refine jr.if_eq rfl rfl (by omega) (fun _ => ?_) (fun h => absurd (by decide) h)
          refine jr.aload_n rfl rfl ?_
          refine jr_v rfl rfl (Or.inl rfl) rfl rfl (by decide) rfl ⟨rfl, Nat.le_of_ble_eq_true rfl, Nat.le_of_ble_eq_true rfl⟩ rfl (jc.deep (c_good hI_M30  (fun t130_0 => ?_) (fun f130_0 => ?_)) (by decide))
          · exfalso
            omega
          · refine jr.if_ne rfl rfl (by omega) (fun h => absurd h (by decide)) (fun _ => ?_)
            refine jr.bipush rfl (by decide) ?_
            refine jr.aload_n rfl rfl ?_
            refine jr.getf (i := 80) (x := v31) (v := .int (Int32.ofInt (v31))) rfl rfl (by decide) rfl (by decide) rfl rfl e31 rfl ?_
            refine jr.isub rfl ?_
            exact jr.ireturn rfl rfl rfl (q _ _ hI_M30 hH_M30 hS_M30  (by omega) (MC.fr hM (fun i => w30_1 652 i (by decide)) (fun i => w30_1 653 i (by decide)) (fun i => w30_1 654 i (by decide)) (fun i => w30_1 655 i (by decide)) (w30_2 82 (by decide) (by decide))) (fun a i f598 f651 f652 f653 f654 f655 f656 f657 f658 f659 f660 f661 f662 f663 f664 f665 f666 f667 f668 f669 => ((w30_1 a i f598).trans (hF_M a i f598 f651 f652 f653 f654 f655 f656 f657 f658 f659 f660 f661 f662 f663 f664 f665 f666 f667 f668 f669))) (fun i g1 g72 g73 g74 g75 g76 g77 g78 g79 g80 g81 g82 g83 g88 g89 g90 g96 g100 g101 g102 g107 => ((w30_2 i g80 g81).trans (hG_M i g1 g72 g73 g74 g75 g76 g77 g78 g79 g80 g81 g82 g83 g88 g89 g90 g96 g100 g101 g102 g107))))
theorem r_rules_L10 {A : Nat → Option (Nat × (Nat → Int32))} {Q : Option Value → jm → Prop} {M0 : jm} (q : ∀ (r : Int) (M' : jm), RI M' → RH M' → RF M' → (-17) ≤ r ∧ r ≤ 16 → MC M' → (∀ (a : Nat) (i : Int), a ≠ 598 → a ≠ 651 → a ≠ 652 → a ≠ 653 → a ≠ 654 → a ≠ 655 → a ≠ 656 → a ≠ 657 → a ≠ 658 → a ≠ 659 → a ≠ 660 → a ≠ 661 → a ≠ 662 → a ≠ 663 → a ≠ 664 → a ≠ 665 → a ≠ 666 → a ≠ 667 → a ≠ 668 → a ≠ 669 → M' a i = M0 a i) → (∀ (i : Int), i ≠ 1 → i ≠ 72 → i ≠ 73 → i ≠ 74 → i ≠ 75 → i ≠ 76 → i ≠ 77 → i ≠ 78 → i ≠ 79 → i ≠ 80 → i ≠ 81 → i ≠ 82 → i ≠ 83 → i ≠ 88 → i ≠ 89 → i ≠ 90 → i ≠ 96 → i ≠ 100 → i ≠ 101 → i ≠ 102 → i ≠ 107 → M' 598 i = M0 598 i) → Q (some (.int (Int32.ofInt r))) M') : ∀ (nM : Nat) (M : jm) (k : Int), RI M → RH M → RF M → (∀ (a : Nat) (i : Int), a ≠ 598 → a ≠ 651 → a ≠ 652 → a ≠ 653 → a ≠ 654 → a ≠ 655 → a ≠ 656 → a ≠ 657 → a ≠ 658 → a ≠ 659 → a ≠ 660 → a ≠ 661 → a ≠ 662 → a ≠ 663 → a ≠ 664 → a ≠ 665 → a ≠ 666 → a ≠ 667 → a ≠ 668 → a ≠ 669 → M a i = M0 a i) → (∀ (i : Int), i ≠ 1 → i ≠ 72 → i ≠ 73 → i ≠ 74 → i ≠ 75 → i ≠ 76 → i ≠ 77 → i ≠ 78 → i ≠ 79 → i ≠ 80 → i ≠ 81 → i ≠ 82 → i ≠ 83 → i ≠ 88 → i ≠ 89 → i ≠ 90 → i ≠ 96 → i ≠ 100 → i ≠ 101 → i ≠ 102 → i ≠ 107 → M 598 i = M0 598 i) → 0 ≤ k ∧ k ≤ 1600 → M 598 72 = M 598 1 → MC M → FWq (M 650) → 1600 - k ≤ nM → jr A 9 xm_371 10 [(1, .int (Int32.ofInt (k))), (0, .ref (598))] [] M Q := by
  intro nM
  induction nM using Nat.strongRecOn with
  | ind nM ih =>
    intro M k hI_M hH_M hS_M hF_M hG_M h_k hy0 hy1 hy2 hm
    have hM := hy1
    have hF := hy2
    refine jr.iload_n rfl rfl ?_
    refine jr.aload_n rfl rfl ?_
    obtain ⟨v1, e1⟩ : ∃ z, M 598 1 = z := ⟨_, rfl⟩
    have b1 : 0 ≤ v1 ∧ v1 ≤ 1600 := by rw [← e1]; exact hI_M 598 1 (by decide)
    refine jr.getf (i := 1) (x := v1) (v := .int (Int32.ofInt (v1))) rfl rfl (by decide) rfl (by decide) rfl rfl e1 rfl ?_
    refine jr.icmp_ge rfl rfl (by omega) (by omega) (fun h15 => ?_) (fun h15 => ?_)
    · refine jr.aload_n rfl rfl ?_
      refine jr.iconst rfl ?_
      refine jr.putf (i := 1) (x := 0) rfl rfl (by decide) rfl (by decide) rfl rfl rfl rfl rfl ?_
      refine jr.aload_n rfl rfl ?_
      refine jr.iconst rfl ?_
      refine jr.putf (i := 73) (x := 0) rfl rfl (by decide) rfl (by decide) rfl rfl rfl rfl rfl ?_
      refine jr.aload_n rfl rfl ?_
      refine jr.iconst rfl ?_
      refine jr.putf (i := 80) (x := 0) rfl rfl (by decide) rfl (by decide) rfl rfl rfl rfl rfl ?_
      refine jr.aload_n rfl rfl ?_
      refine jr.iconst rfl ?_
      refine jr.putf (i := 81) (x := (-1)) rfl rfl (by decide) rfl (by decide) rfl rfl rfl rfl rfl ?_
      refine jr.aload_n rfl rfl ?_
      refine jr.iconst rfl ?_
      refine jr.putf (i := 88) (x := 0) rfl rfl (by decide) rfl (by decide) rfl rfl rfl rfl rfl ?_
      refine jr.aload_n rfl rfl ?_
      refine jr.iconst rfl ?_
      refine jr.putf (i := 89) (x := 0) rfl rfl (by decide) rfl (by decide) rfl rfl rfl rfl rfl ?_
      refine jr.aload_n rfl rfl ?_
      refine jr.iconst rfl ?_
      refine jr.putf (i := 90) (x := 0) rfl rfl (by decide) rfl (by decide) rfl rfl rfl rfl rfl ?_
      refine jr.aload_n rfl rfl ?_
      refine jr.iconst rfl ?_
      refine jr.putf (i := 96) (x := 0) rfl rfl (by decide) rfl (by decide) rfl rfl rfl rfl rfl ?_
      refine jr.aload_n rfl rfl ?_
      refine jr.iconst rfl ?_
      refine jr.putf (i := 107) (x := 0) rfl rfl (by decide) rfl (by decide) rfl rfl rfl rfl rfl ?_
      refine jr.aload_n rfl rfl ?_
      obtain ⟨v3, e3⟩ : ∃ z, M 598 72 = z := ⟨_, rfl⟩
      have b3 : 0 ≤ v3 ∧ v3 ≤ 1600 := by rw [← e3]; exact hI_M 598 72 (by decide)
      obtain ⟨v5, e5⟩ : ∃ z, M 598 74 = z := ⟨_, rfl⟩
      have b5 : 0 ≤ v5 ∧ v5 ≤ 4 := by rw [← e5]; exact hI_M 598 74 (by decide)
      obtain ⟨v8, e8⟩ : ∃ z, M 598 100 = z := ⟨_, rfl⟩
      have b8 : 0 ≤ v8 ∧ v8 ≤ 13 := by rw [← e8]; exact hI_M 598 100 (by decide)
      refine jr_v rfl rfl (Or.inl rfl) rfl rfl (by decide) rfl ⟨rfl, Nat.le_of_ble_eq_true rfl, Nat.le_of_ble_eq_true rfl⟩ rfl (jc.deep (r_next (RI.u (RI.u (RI.u (RI.u (RI.u (RI.u (RI.u (RI.u (RI.u hI_M (a := 598) (i := 1) (show (0 : Int) ≤ _ ∧ _ ≤ (1600 : Int) from by omega)) (a := 598) (i := 73) (show (0 : Int) ≤ _ ∧ _ ≤ (1600 : Int) from by omega)) (a := 598) (i := 80) (show (0 : Int) ≤ _ ∧ _ ≤ (7 : Int) from by omega)) (a := 598) (i := 81) (show (-1 : Int) ≤ _ ∧ _ ≤ (1600 : Int) from by omega)) (a := 598) (i := 88) (show (0 : Int) ≤ _ ∧ _ ≤ (16 : Int) from by omega)) (a := 598) (i := 89) (show (0 : Int) ≤ _ ∧ _ ≤ (301 : Int) from by omega)) (a := 598) (i := 90) (show (0 : Int) ≤ _ ∧ _ ≤ (2200 : Int) from by omega)) (a := 598) (i := 96) (show (0 : Int) ≤ _ ∧ _ ≤ (300 : Int) from by omega)) (a := 598) (i := 107) (show (0 : Int) ≤ _ ∧ _ ≤ (16 : Int) from by omega)) (RH.o (RH.o (RH.o (RH.o (RH.o (RH.o (RH.o (RH.o (RH.o hH_M (by decide) (by decide) (by decide)) (by decide) (by decide) (by decide)) (by decide) (by decide) (by decide)) (by decide) (by decide) (by decide)) (by decide) (by decide) (by decide)) (by decide) (by decide) (by decide)) (by decide) (by decide) (by decide)) (by decide) (by decide) (by decide)) (by decide) (by decide) (by decide)) (RF.o (RF.o (RF.o (RF.o (RF.o (RF.o (RF.o (RF.o (RF.o hS_M (by decide) (by decide)) (by decide) (by decide)) (by decide) (by decide)) (by decide) (by decide)) (by decide) (by decide)) (by decide) (by decide)) (by decide) (by decide)) (by decide) (by decide)) (by decide) (by decide))   (by rw [((ju_i _ _ (by decide)).trans ((ju_i _ _ (by decide)).trans ((ju_i _ _ (by decide)).trans ((ju_i _ _ (by decide)).trans ((ju_i _ _ (by decide)).trans ((ju_i _ _ (by decide)).trans ((ju_i _ _ (by decide)).trans (ju_same _ _ _ _)))))))), ((ju_i _ _ (by decide)).trans ((ju_i _ _ (by decide)).trans ((ju_i _ _ (by decide)).trans ((ju_i _ _ (by decide)).trans ((ju_i _ _ (by decide)).trans ((ju_i _ _ (by decide)).trans ((ju_i _ _ (by decide)).trans ((ju_i _ _ (by decide)).trans ((ju_i _ _ (by decide)).trans e3)))))))))]; omega) (fun M2 hI_M2 hH_M2 hS_M2  w2_0 w2_1 w2_2 w2_3 w2_4 w2_5 w2_6 => ?_)) (by decide))
      have y17 : (ju (ju (ju (ju (ju (ju (ju (ju (ju M 598 1 0) 598 73 0) 598 80 0) 598 81 (-1)) 598 88 0) 598 89 0) 598 90 0) 598 96 0) 598 107 0) 598 73 = 0 := ((ju_i _ _ (by decide)).trans ((ju_i _ _ (by decide)).trans ((ju_i _ _ (by decide)).trans ((ju_i _ _ (by decide)).trans ((ju_i _ _ (by decide)).trans ((ju_i _ _ (by decide)).trans ((ju_i _ _ (by decide)).trans (ju_same _ _ _ _))))))))
      have y18 : (ju (ju (ju (ju (ju (ju (ju (ju (ju M 598 1 0) 598 73 0) 598 80 0) 598 81 (-1)) 598 88 0) 598 89 0) 598 90 0) 598 96 0) 598 107 0) 598 74 = v5 := ((ju_i _ _ (by decide)).trans ((ju_i _ _ (by decide)).trans ((ju_i _ _ (by decide)).trans ((ju_i _ _ (by decide)).trans ((ju_i _ _ (by decide)).trans ((ju_i _ _ (by decide)).trans ((ju_i _ _ (by decide)).trans ((ju_i _ _ (by decide)).trans ((ju_i _ _ (by decide)).trans e5)))))))))
      have hX := XS.init (M := (ju (ju (ju (ju (ju (ju (ju (ju (ju M 598 1 0) 598 73 0) 598 80 0) 598 81 (-1)) 598 88 0) 598 89 0) 598 90 0) 598 96 0) 598 107 0)) (by rw [jw_o (by decide), jw_o (by decide), jw_o (by decide), jw_o (by decide), jw_o (by decide), jw_o (by decide), jw_o (by decide), jw_o (by decide), jw_o (by decide)]; exact hF) (((ju_i _ _ (by decide)).trans ((ju_i _ _ (by decide)).trans ((ju_i _ _ (by decide)).trans ((ju_i _ _ (by decide)).trans (ju_same _ _ _ _)))))) (((ju_i _ _ (by decide)).trans ((ju_i _ _ (by decide)).trans (ju_same _ _ _ _)))) ((ju_same _ _ _ _)) (Int.le_of_eq (((ju_i _ _ (by decide)).trans ((ju_i _ _ (by decide)).trans ((ju_i _ _ (by decide)).trans (ju_same _ _ _ _))))).symm) (Int.le_of_eq (((ju_i _ _ (by decide)).trans ((ju_i _ _ (by decide)).trans ((ju_i _ _ (by decide)).trans ((ju_i _ _ (by decide)).trans ((ju_i _ _ (by decide)).trans ((ju_i _ _ (by decide)).trans ((ju_i _ _ (by decide)).trans (ju_same _ _ _ _))))))))).symm)
      have hA := AK.zero (M := (ju (ju (ju (ju (ju (ju (ju (ju (ju M 598 1 0) 598 73 0) 598 80 0) 598 81 (-1)) 598 88 0) 598 89 0) 598 90 0) 598 96 0) 598 107 0)) (((ju_i _ _ (by decide)).trans (ju_same _ _ _ _)))
      have hB : LB (ju (ju (ju (ju (ju (ju (ju (ju (ju M 598 1 0) 598 73 0) 598 80 0) 598 81 (-1)) 598 88 0) 598 89 0) 598 90 0) 598 96 0) 598 107 0) := Or.inl (((ju_i _ _ (by decide)).trans ((ju_i _ _ (by decide)).trans (ju_same _ _ _ _))))
      have y4 : (ju (ju (ju (ju (ju (ju (ju (ju (ju M 598 1 0) 598 73 0) 598 80 0) 598 81 (-1)) 598 88 0) 598 89 0) 598 90 0) 598 96 0) 598 107 0) 598 73 = 0 := ((ju_i _ _ (by decide)).trans ((ju_i _ _ (by decide)).trans ((ju_i _ _ (by decide)).trans ((ju_i _ _ (by decide)).trans ((ju_i _ _ (by decide)).trans ((ju_i _ _ (by decide)).trans ((ju_i _ _ (by decide)).trans (ju_same _ _ _ _))))))))
      have y6 : (ju (ju (ju (ju (ju (ju (ju (ju (ju M 598 1 0) 598 73 0) 598 80 0) 598 81 (-1)) 598 88 0) 598 89 0) 598 90 0) 598 96 0) 598 107 0) 598 74 = v5 := ((ju_i _ _ (by decide)).trans ((ju_i _ _ (by decide)).trans ((ju_i _ _ (by decide)).trans ((ju_i _ _ (by decide)).trans ((ju_i _ _ (by decide)).trans ((ju_i _ _ (by decide)).trans ((ju_i _ _ (by decide)).trans ((ju_i _ _ (by decide)).trans ((ju_i _ _ (by decide)).trans e5)))))))))
      have y7 : (ju (ju (ju (ju (ju (ju (ju (ju (ju M 598 1 0) 598 73 0) 598 80 0) 598 81 (-1)) 598 88 0) 598 89 0) 598 90 0) 598 96 0) 598 107 0) 598 89 = 0 := ((ju_i _ _ (by decide)).trans ((ju_i _ _ (by decide)).trans ((ju_i _ _ (by decide)).trans (ju_same _ _ _ _))))
      have y9 : (ju (ju (ju (ju (ju (ju (ju (ju (ju M 598 1 0) 598 73 0) 598 80 0) 598 81 (-1)) 598 88 0) 598 89 0) 598 90 0) 598 96 0) 598 107 0) 598 100 = v8 := ((ju_i _ _ (by decide)).trans ((ju_i _ _ (by decide)).trans ((ju_i _ _ (by decide)).trans ((ju_i _ _ (by decide)).trans ((ju_i _ _ (by decide)).trans ((ju_i _ _ (by decide)).trans ((ju_i _ _ (by decide)).trans ((ju_i _ _ (by decide)).trans ((ju_i _ _ (by decide)).trans e8)))))))))
      have y10 : (ju (ju (ju (ju (ju (ju (ju (ju (ju M 598 1 0) 598 73 0) 598 80 0) 598 81 (-1)) 598 88 0) 598 89 0) 598 90 0) 598 96 0) 598 107 0) 598 96 = 0 := ((ju_i _ _ (by decide)).trans (ju_same _ _ _ _))
      have y11 : (ju (ju (ju (ju (ju (ju (ju (ju (ju M 598 1 0) 598 73 0) 598 80 0) 598 81 (-1)) 598 88 0) 598 89 0) 598 90 0) 598 96 0) 598 107 0) 598 90 = 0 := ((ju_i _ _ (by decide)).trans ((ju_i _ _ (by decide)).trans (ju_same _ _ _ _)))
      have y12 : (ju (ju (ju (ju (ju (ju (ju (ju (ju M 598 1 0) 598 73 0) 598 80 0) 598 81 (-1)) 598 88 0) 598 89 0) 598 90 0) 598 96 0) 598 107 0) 598 107 = 0 := (ju_same _ _ _ _)
      have y13 : (ju (ju (ju (ju (ju (ju (ju (ju (ju M 598 1 0) 598 73 0) 598 80 0) 598 81 (-1)) 598 88 0) 598 89 0) 598 90 0) 598 96 0) 598 107 0) 598 73 = 0 := ((ju_i _ _ (by decide)).trans ((ju_i _ _ (by decide)).trans ((ju_i _ _ (by decide)).trans ((ju_i _ _ (by decide)).trans ((ju_i _ _ (by decide)).trans ((ju_i _ _ (by decide)).trans ((ju_i _ _ (by decide)).trans (ju_same _ _ _ _))))))))
      have y14 : (ju (ju (ju (ju (ju (ju (ju (ju (ju M 598 1 0) 598 73 0) 598 80 0) 598 81 (-1)) 598 88 0) 598 89 0) 598 90 0) 598 96 0) 598 107 0) 598 74 = v5 := ((ju_i _ _ (by decide)).trans ((ju_i _ _ (by decide)).trans ((ju_i _ _ (by decide)).trans ((ju_i _ _ (by decide)).trans ((ju_i _ _ (by decide)).trans ((ju_i _ _ (by decide)).trans ((ju_i _ _ (by decide)).trans ((ju_i _ _ (by decide)).trans ((ju_i _ _ (by decide)).trans e5)))))))))
      have y15 : (ju (ju (ju (ju (ju (ju (ju (ju (ju M 598 1 0) 598 73 0) 598 80 0) 598 81 (-1)) 598 88 0) 598 89 0) 598 90 0) 598 96 0) 598 107 0) 598 89 = 0 := ((ju_i _ _ (by decide)).trans ((ju_i _ _ (by decide)).trans ((ju_i _ _ (by decide)).trans (ju_same _ _ _ _))))
      have y16 : (ju (ju (ju (ju (ju (ju (ju (ju (ju M 598 1 0) 598 73 0) 598 80 0) 598 81 (-1)) 598 88 0) 598 89 0) 598 90 0) 598 96 0) 598 107 0) 598 100 = v8 := ((ju_i _ _ (by decide)).trans ((ju_i _ _ (by decide)).trans ((ju_i _ _ (by decide)).trans ((ju_i _ _ (by decide)).trans ((ju_i _ _ (by decide)).trans ((ju_i _ _ (by decide)).trans ((ju_i _ _ (by decide)).trans ((ju_i _ _ (by decide)).trans ((ju_i _ _ (by decide)).trans e8)))))))))
      have x2_89 := w2_6 89 (by decide) (by decide) (by decide) (by decide) (by decide) (by decide) (by decide)
      have x2_100 := w2_6 100 (by decide) (by decide) (by decide) (by decide) (by decide) (by decide) (by decide)
      have hX := XS.fr2 hX w2_5 (w2_6 88 (by decide) (by decide) (by decide) (by decide) (by decide) (by decide) (by decide)) (w2_6 90 (by decide) (by decide) (by decide) (by decide) (by decide) (by decide) (by decide)) (w2_6 101 (by decide) (by decide) (by decide) (by decide) (by decide) (by decide) (by decide)) (w2_6 107 (by decide) (by decide) (by decide) (by decide) (by decide) (by decide) (by decide)) (k' := 0) (d' := (M2 598 100)) (z' := 1) (by omega) (by omega) (by omega) (by omega)
      have hA := AK.cp hA (CP.f (CP.rfl _) (fun i => w2_5 659 i (by decide)) (w2_6 90 (by decide) (by decide) (by decide) (by decide) (by decide) (by decide) (by decide))) (fun i => w2_5 663 i (by decide)) (w2_6 96 (by decide) (by decide) (by decide) (by decide) (by decide) (by decide) (by decide))
      have hB := LB.fr hB (fun i => w2_5 659 i (by decide)) (w2_6 90 (by decide) (by decide) (by decide) (by decide) (by decide) (by decide) (by decide))
      have e19 : M2 598 80 = 0 := ((w2_6 80 (by decide) (by decide) (by decide) (by decide) (by decide) (by decide) (by decide)).trans ((ju_i _ _ (by decide)).trans ((ju_i _ _ (by decide)).trans ((ju_i _ _ (by decide)).trans ((ju_i _ _ (by decide)).trans ((ju_i _ _ (by decide)).trans ((ju_i _ _ (by decide)).trans (ju_same _ _ _ _))))))))
      have e20 : M2 598 96 = 0 := ((w2_6 96 (by decide) (by decide) (by decide) (by decide) (by decide) (by decide) (by decide)).trans ((ju_i _ _ (by decide)).trans (ju_same _ _ _ _)))
      have e21 : M2 598 89 = 0 := ((w2_6 89 (by decide) (by decide) (by decide) (by decide) (by decide) (by decide) (by decide)).trans ((ju_i _ _ (by decide)).trans ((ju_i _ _ (by decide)).trans ((ju_i _ _ (by decide)).trans (ju_same _ _ _ _)))))
      have e22 : M2 598 107 = 0 := ((w2_6 107 (by decide) (by decide) (by decide) (by decide) (by decide) (by decide) (by decide)).trans (ju_same _ _ _ _))
      obtain ⟨v23, e23⟩ : ∃ z, M2 598 73 = z := ⟨_, rfl⟩
      have b23 : 0 ≤ v23 ∧ v23 ≤ 1600 := by rw [← e23]; exact hI_M2 598 73 (by decide)
      have e24 : M2 598 72 = v3 := ((w2_6 72 (by decide) (by decide) (by decide) (by decide) (by decide) (by decide) (by decide)).trans ((ju_i _ _ (by decide)).trans ((ju_i _ _ (by decide)).trans ((ju_i _ _ (by decide)).trans ((ju_i _ _ (by decide)).trans ((ju_i _ _ (by decide)).trans ((ju_i _ _ (by decide)).trans ((ju_i _ _ (by decide)).trans ((ju_i _ _ (by decide)).trans ((ju_i _ _ (by decide)).trans e3))))))))))
      obtain ⟨v25, e25⟩ : ∃ z, M2 598 74 = z := ⟨_, rfl⟩
      have b25 : 0 ≤ v25 ∧ v25 ≤ 4 := by rw [← e25]; exact hI_M2 598 74 (by decide)
      obtain ⟨v26, e26⟩ : ∃ z, M2 598 79 = z := ⟨_, rfl⟩
      have b26 : 0 ≤ v26 ∧ v26 ≤ 255 := by rw [← e26]; exact hI_M2 598 79 (by decide)
      refine jr.pick [1] rfl rfl ?_
      exact r_rules_L85 q 3201 M2  hI_M2 hH_M2 hS_M2  (fun a i f598 f651 f652 f653 f654 f655 f656 f657 f658 f659 f660 f661 f662 f663 f664 f665 f666 f667 f668 f669 => ((w2_5 a i f598).trans ((ju_c _ _ f598).trans ((ju_c _ _ f598).trans ((ju_c _ _ f598).trans ((ju_c _ _ f598).trans ((ju_c _ _ f598).trans ((ju_c _ _ f598).trans ((ju_c _ _ f598).trans ((ju_c _ _ f598).trans ((ju_c _ _ f598).trans (hF_M a i f598 f651 f652 f653 f654 f655 f656 f657 f658 f659 f660 f661 f662 f663 f664 f665 f666 f667 f668 f669)))))))))))) (fun i g1 g72 g73 g74 g75 g76 g77 g78 g79 g80 g81 g82 g83 g88 g89 g90 g96 g100 g101 g102 g107 => ((w2_6 i g73 g74 g75 g76 g77 g78 g79).trans ((ju_i _ _ g107).trans ((ju_i _ _ g96).trans ((ju_i _ _ g90).trans ((ju_i _ _ g89).trans ((ju_i _ _ g88).trans ((ju_i _ _ g81).trans ((ju_i _ _ g80).trans ((ju_i _ _ g73).trans ((ju_i _ _ g1).trans (hG_M i g1 g72 g73 g74 g75 g76 g77 g78 g79 g80 g81 g82 g83 g88 g89 g90 g96 g100 g101 g102 g107))))))))))))  hX hA hB (by rw [e19] <;> omega) (by rw [e20, e21, e22] <;> omega) (by rw [e23, e24] <;> omega) (by rw [e25, e26] <;> omega) (MC.fr (MC.o (MC.o (MC.o (MC.o (MC.o (MC.o (MC.o (MC.o (MC.o hM (by decide) (Or.inr (by decide))) (by decide) (Or.inr (by decide))) (by decide) (Or.inr (by decide))) (by decide) (Or.inr (by decide))) (by decide) (Or.inr (by decide))) (by decide) (Or.inr (by decide))) (by decide) (Or.inr (by decide))) (by decide) (Or.inr (by decide))) (by decide) (Or.inr (by decide))) (fun i => w2_5 652 i (by decide)) (fun i => w2_5 653 i (by decide)) (fun i => w2_5 654 i (by decide)) (fun i => w2_5 655 i (by decide)) (w2_6 82 (by decide) (by decide) (by decide) (by decide) (by decide) (by decide) (by decide))) (by have t := TK.le (M := M2) (by omega); omega)
    · refine jr.aload_n rfl rfl ?_
      refine jr.getf (i := 71) (v := .ref 651) rfl rfl (by decide) rfl (by decide) rfl rfl rfl rfl ?_
      refine jr.iload_n rfl rfl ?_
      refine jr.aload_n rfl rfl ?_
      refine jr.getf (i := 0) (v := .ref 599) rfl rfl (by decide) rfl (by decide) rfl rfl rfl rfl ?_
      refine jr.iload_n rfl rfl ?_
      obtain ⟨v27, e27⟩ : ∃ z, M 599 k = z := ⟨_, rfl⟩
      have b27 : 0 ≤ v27 ∧ v27 ≤ 255 := by rw [← e27]; exact (by have q := hI_M 599 k (by decide); rw [xri_row rfl rfl] at q; exact q)
      refine jr.iald (i := k) (x := v27) rfl (by decide) rfl (by decide) (by omega) (by omega) e27 ?_
      refine jr.iast (i := k) (x := v27) rfl (by decide) rfl (by decide) (by omega) (by omega) ?_
      refine jr.iinc rfl rfl (by decide) rfl ?_
      refine jr.goto rfl rfl ?_
      obtain ⟨v28, e28⟩ : ∃ z, M 598 72 = z := ⟨_, rfl⟩
      have b28 : 0 ≤ v28 ∧ v28 ≤ 1600 := by rw [← e28]; exact hI_M 598 72 (by decide)
      refine jr.pick [0, 1] rfl rfl ?_
      exact ih (nM - 1) (by omega) (ju M 651 k v27) (k + 1) (RI.u hI_M (a := 651) (i := k) (by rw [xri_row rfl rfl]; show (0 : Int) ≤ _ ∧ _ ≤ (255 : Int); omega)) (RH.o hH_M (by decide) (by decide) (by decide)) (RF.o hS_M (by decide) (by decide))  (fun a i f598 f651 f652 f653 f654 f655 f656 f657 f658 f659 f660 f661 f662 f663 f664 f665 f666 f667 f668 f669 => ((ju_c _ _ f651).trans (hF_M a i f598 f651 f652 f653 f654 f655 f656 f657 f658 f659 f660 f661 f662 f663 f664 f665 f666 f667 f668 f669))) (fun i g1 g72 g73 g74 g75 g76 g77 g78 g79 g80 g81 g82 g83 g88 g89 g90 g96 g100 g101 g102 g107 => ((ju_c _ _ (by decide)).trans (hG_M i g1 g72 g73 g74 g75 g76 g77 g78 g79 g80 g81 g82 g83 g88 g89 g90 g96 g100 g101 g102 g107))) (by omega) (by rw [((ju_c _ _ (by decide)).trans e28), ((ju_c _ _ (by decide)).trans e1)] <;> omega) (MC.o hM (by decide) (Or.inl (by decide))) (by rw [jw_o (by decide)]; exact hF) (by omega)
theorem r_rules {A : Nat → Option (Nat × (Nat → Int32))} {Q : Option Value → jm → Prop} {M : jm} (hI_M : RI M) (hH_M : RH M) (hS_M : RF M) (p0 : MC M) (p1 : FWq (M 650)) (q : ∀ (r : Int) (M' : jm), RI M' → RH M' → RF M' → (-17) ≤ r ∧ r ≤ 16 → MC M' → (∀ (a : Nat) (i : Int), a ≠ 598 → a ≠ 651 → a ≠ 652 → a ≠ 653 → a ≠ 654 → a ≠ 655 → a ≠ 656 → a ≠ 657 → a ≠ 658 → a ≠ 659 → a ≠ 660 → a ≠ 661 → a ≠ 662 → a ≠ 663 → a ≠ 664 → a ≠ 665 → a ≠ 666 → a ≠ 667 → a ≠ 668 → a ≠ 669 → M' a i = M a i) → (∀ (i : Int), i ≠ 1 → i ≠ 72 → i ≠ 73 → i ≠ 74 → i ≠ 75 → i ≠ 76 → i ≠ 77 → i ≠ 78 → i ≠ 79 → i ≠ 80 → i ≠ 81 → i ≠ 82 → i ≠ 83 → i ≠ 88 → i ≠ 89 → i ≠ 90 → i ≠ 96 → i ≠ 100 → i ≠ 101 → i ≠ 102 → i ≠ 107 → M' 598 i = M 598 i) → Q (some (.int (Int32.ofInt r))) M') : jc A 10 371 [.ref (598)] M Q := by
  have hM := p0
  have hF := p1
  refine jc_of (m := xm_371) rfl (Nat.le_of_ble_eq_true rfl) rfl ?_
  refine jr.aload_n rfl rfl ?_
  refine jr.aload_n rfl rfl ?_
  obtain ⟨v1, e1⟩ : ∃ z, M 598 1 = z := ⟨_, rfl⟩
  have b1 : 0 ≤ v1 ∧ v1 ≤ 1600 := by rw [← e1]; exact hI_M 598 1 (by decide)
  refine jr.getf (i := 1) (x := v1) (v := .int (Int32.ofInt (v1))) rfl rfl (by decide) rfl (by decide) rfl rfl e1 rfl ?_
  refine jr.putf (i := 72) (x := v1) rfl rfl (by decide) rfl (by decide) rfl rfl rfl rfl rfl ?_
  refine jr.iconst rfl ?_
  refine jr.istore_n rfl (by decide) rfl ?_
  refine jr.pick [0, 1] rfl rfl ?_
  exact r_rules_L10 q 1600 (ju M 598 72 v1) 0 (RI.u hI_M (a := 598) (i := 72) (show (0 : Int) ≤ _ ∧ _ ≤ (1600 : Int) from by omega)) (RH.o hH_M (by decide) (by decide) (by decide)) (RF.o hS_M (by decide) (by decide))  (fun a i f598 f651 f652 f653 f654 f655 f656 f657 f658 f659 f660 f661 f662 f663 f664 f665 f666 f667 f668 f669 => ((ju_c _ _ f598).trans rfl)) (fun i g1 g72 g73 g74 g75 g76 g77 g78 g79 g80 g81 g82 g83 g88 g89 g90 g96 g100 g101 g102 g107 => ((ju_i _ _ g72).trans rfl)) (by omega) (by rw [(ju_same _ _ _ _), ((ju_i _ _ (by decide)).trans e1)] <;> omega) (MC.o hM (by decide) (Or.inr (by decide))) (by rw [jw_o (by decide)]; exact hF) (by omega)
