/-! ===== the reference's pile as the machine's ===== -/
noncomputable def zab (wt ow oa : Int → Int) (s0 : List (Int × Int × Int × Int)) : Nat → List (Int × Int × Int × Int) × Int
  | 0 => (s0, 0)
  | n + 1 =>
    if wt (n : Int) = 40 then ((21, ow (n : Int), oa (n : Int), (zab wt ow oa s0 n).2) :: (zab wt ow oa s0 n).1, 0)
    else if wt (n : Int) = 10 ∨ wt (n : Int) = 11 then ((20, 0, 0, 0) :: (zab wt ow oa s0 n).1, (zab wt ow oa s0 n).2)
    else if strn (wt (n : Int)) = 3 then ((zab wt ow oa s0 n).1, 1)
    else if strn (wt (n : Int)) ≤ 2 then ((zab wt ow oa s0 n).1, 0)
    else zab wt ow oa s0 n
noncomputable def abr (M : jm) (s0 : List (Int × Int × Int × Int)) : List (Int × Int × Int × Int) × Int := zab (M 664) (M 666) (M 667) s0 (M 598 102).toNat
theorem zab_c {wt ow oa wt' ow' oa' : Int → Int} (s0 : List (Int × Int × Int × Int)) (n : Nat) (h : ∀ i : Int, 0 ≤ i → i < n → wt' i = wt i ∧ ow' i = ow i ∧ oa' i = oa i) : zab wt' ow' oa' s0 n = zab wt ow oa s0 n := by
  induction n with
  | zero => rfl
  | succ n ih =>
    have q := h (n : Int) (by omega) (by omega)
    have e := ih (fun i h0 h1 => h i h0 (by omega))
    unfold zab
    rw [q.1, q.2.1, q.2.2, e]
theorem abr_fr {M M' : jm} (s0 : List (Int × Int × Int × Int)) (e1 : ∀ i : Int, M' 664 i = M 664 i) (e2 : ∀ i : Int, M' 666 i = M 666 i) (e3 : ∀ i : Int, M' 667 i = M 667 i) (e4 : M' 598 102 = M 598 102) : abr M' s0 = abr M s0 := by
  unfold abr
  rw [show M' 664 = M 664 from funext e1, show M' 666 = M 666 from funext e2, show M' 667 = M 667 from funext e3, e4]
/-- a sign is laid on the pile -/
theorem abr_push {M : jm} {c s w : Int} (s0 : List (Int × Int × Int × Int)) (e : M 598 102 = c) (h0 : 0 ≤ c) : abr (ju (ju (ju (ju M 664 c s) 666 c w) 667 c 1) 598 102 (c + 1)) s0 = (if s = 40 then ((21, w, 1, (abr M s0).2) :: (abr M s0).1, 0) else if s = 10 ∨ s = 11 then ((20, 0, 0, 0) :: (abr M s0).1, (abr M s0).2) else if strn s = 3 then ((abr M s0).1, 1) else if strn s ≤ 2 then ((abr M s0).1, 0) else abr M s0) := by
  obtain ⟨m, rfl⟩ := Int.eq_ofNat_of_zero_le h0
  have hz : zab ((ju (ju (ju (ju M 664 m s) 666 m w) 667 m 1) 598 102 (m + 1)) 664) ((ju (ju (ju (ju M 664 m s) 666 m w) 667 m 1) 598 102 (m + 1)) 666) ((ju (ju (ju (ju M 664 m s) 666 m w) 667 m 1) 598 102 (m + 1)) 667) s0 m = abr M s0 := by
    unfold abr
    rw [e, show ((m : Int)).toNat = m by omega]
    refine zab_c s0 m (fun i h1 h2 => ⟨?_, ?_, ?_⟩)
    · rw [ju_c _ _ (by decide), ju_c _ _ (by decide), ju_c _ _ (by decide), ju_i _ _ (by omega)]
    · rw [ju_c _ _ (by decide), ju_c _ _ (by decide), ju_i _ _ (by omega), ju_c _ _ (by decide)]
    · rw [ju_c _ _ (by decide), ju_i _ _ (by omega), ju_c _ _ (by decide), ju_c _ _ (by decide)]
  have e1 : (ju (ju (ju (ju M 664 m s) 666 m w) 667 m 1) 598 102 (m + 1)) 664 m = s := by rw [ju_c _ _ (by decide), ju_c _ _ (by decide), ju_c _ _ (by decide), ju_same]
  have e2 : (ju (ju (ju (ju M 664 m s) 666 m w) 667 m 1) 598 102 (m + 1)) 666 m = w := by rw [ju_c _ _ (by decide), ju_c _ _ (by decide), ju_same]
  have e3 : (ju (ju (ju (ju M 664 m s) 666 m w) 667 m 1) 598 102 (m + 1)) 667 m = 1 := by rw [ju_c _ _ (by decide), ju_same]
  have e4 : (ju (ju (ju (ju M 664 m s) 666 m w) 667 m 1) 598 102 (m + 1)) 598 102 = (m : Int) + 1 := ju_same _ _ _ _
  show zab _ _ _ s0 ((ju (ju (ju (ju M 664 m s) 666 m w) 667 m 1) 598 102 (m + 1)) 598 102).toNat = _
  rw [e4, show ((m : Int) + 1).toNat = m + 1 by omega]
  rw [zab, hz, e1, e2, e3]
/-- no sign of two stands on a sign of one -/
noncomputable def NU (M : jm) : Prop := ∀ i : Int, 0 ≤ i → i + 1 < M 598 102 → (M 664 i = 10 ∨ M 664 i = 11) → (M 664 (i + 1) = 10 ∨ M 664 (i + 1) = 11 ∨ M 664 (i + 1) = 40)
section ZV
variable {M M' : jm} {c : Int}
theorem NU.fr (h : NU M) (e1 : ∀ i : Int, M' 664 i = M 664 i) (e2 : M' 598 102 = M 598 102) : NU M' := by
  intro i h0 h1 h2
  rw [e2] at h1
  rw [e1] at h2
  rw [e1]
  exact h i h0 h1 h2
theorem NU.z (h : M 598 102 = 0) : NU M := fun i h0 h1 _ => by omega
theorem NU.pop (h : NU M) (e : M 598 102 = c) : NU (ju M 598 102 (c - 1)) := by
  intro i h0 h1 h2
  rw [ju_same] at h1
  rw [ju_c _ _ (by decide)] at h2 ⊢
  exact h i h0 (by omega) h2
theorem NU.push {s w : Int} (h : NU M) (e : M 598 102 = c) (hs : s = 10 ∨ s = 11 ∨ s = 40 ∨ c = 0 ∨ ¬ (M 664 (c - 1) = 10 ∨ M 664 (c - 1) = 11)) : NU (ju (ju (ju (ju M 664 c s) 666 c w) 667 c 1) 598 102 (c + 1)) := by
  intro i h0 h1 h2
  rw [ju_same] at h1
  rw [ju_c _ _ (by decide), ju_c _ _ (by decide), ju_c _ _ (by decide), ju_i _ _ (by omega)] at h2
  rw [ju_c _ _ (by decide), ju_c _ _ (by decide), ju_c _ _ (by decide)]
  by_cases q : i + 1 = c
  · rw [q, ju_same]
    rcases hs with z | z | z | z | z
    · exact Or.inl z
    · exact Or.inr (Or.inl z)
    · exact Or.inr (Or.inr z)
    · omega
    · rw [show c - 1 = i by omega] at z
      exact absurd h2 z
  · rw [ju_i _ _ q]
    exact h i h0 (by omega) h2
theorem NU.inc {i w : Int} (h : NU M) : NU (ju M 667 i w) := h.fr (fun j => ju_c _ _ (by decide)) (ju_c _ _ (by decide))
end ZV
noncomputable def NUQ (M : jm) : Prop := M 598 80 = 0 → NU M
theorem zr.eqx {f : Int → Int} {N : Int} {x : ZS} {m t k d c b m' t' k' d' c' b' : Int} {s s' : List (Int × Int × Int × Int)} {nm ak : List Int} (h : zr f N x (m, t, k, d, c, b, s, nm, ak)) (e1 : m' = m) (e2 : t' = t) (e3 : k' = k) (e4 : d' = d) (e6 : b' = b) (es : (s', c') = (s, c)) : zr f N x (m', t', k', d', c', b', s', nm, ak) := by
  have q1 : s' = s := congrArg Prod.fst es
  have q2 : c' = c := congrArg Prod.snd es
  rw [e1, e2, e3, e4, e6, q1, q2]
  exact h
theorem r_takeOperand_L195_z {A : Nat → Option (Nat × (Nat → Int32))} {Q : Option Value → jm → Prop} {f : Int → Int} {N : Int} {b kk : Int} {xs : ZS} {t bh : Int} {s0 : List (Int × Int × Int × Int)} {nm ak : List Int} {M0 : jm} (q : ∀ (r : Int) (M' : jm), RI M' → RH M' → RF M' → 0 ≤ r ∧ r ≤ 1 → (BS M' ∨ (GS M' b r kk ∧ TK M' < TK M0)) → TK M' ≤ TK M0 → M' 598 73 ≤ M' 598 72 → (M' 598 80 ≠ 0 ∨ TK M' < TK M0) → CP M0 M' → M0 598 89 ≤ M' 598 89 → TXr f N M' → ZFQ f N xs M' → ZOQ f N xs (2 + r) M' (abr M' s0).2 bh (abr M' s0).1 nm ak → NUQ M' → K8Q M0 M' → (∀ (a : Nat) (i : Int), a ≠ 598 → a ≠ 659 → a ≠ 660 → a ≠ 664 → a ≠ 666 → a ≠ 667 → M' a i = M0 a i) → (∀ (i : Int), i ≠ 73 → i ≠ 74 → i ≠ 75 → i ≠ 76 → i ≠ 77 → i ≠ 78 → i ≠ 79 → i ≠ 80 → i ≠ 81 → i ≠ 89 → i ≠ 90 → i ≠ 100 → i ≠ 102 → M' 598 i = M0 598 i) → Q (some (.int (Int32.ofInt r))) M') : ∀ (M : jm) , RI M → RH M → RF M → (∀ (a : Nat) (i : Int), a ≠ 598 → a ≠ 659 → a ≠ 660 → a ≠ 664 → a ≠ 666 → a ≠ 667 → M a i = M0 a i) → (∀ (i : Int), i ≠ 73 → i ≠ 74 → i ≠ 75 → i ≠ 76 → i ≠ 77 → i ≠ 78 → i ≠ 79 → i ≠ 80 → i ≠ 81 → i ≠ 89 → i ≠ 90 → i ≠ 100 → i ≠ 102 → M 598 i = M0 598 i) → GS M b 0 kk → TK M = TK M0 → CP M0 M → M 598 89 = M0 598 89 → TKr f N t M → zr f N xs (2, t, M 598 89, M 598 100, (abr M s0).2, bh, (abr M s0).1, nm, ak) → NU M → M 598 81 = M0 598 81 → M 598 74 = 1 → 25 ≤ M 598 76 ∧ M 598 76 ≤ 30 → jr A 5 xm_360 195 [(0, .ref (598))] [] M Q := by
    intro M  hI_M hH_M hS_M hF_M hG_M  hy0 hy1 hy2 hy3 hy4 hy5 hy6 hy7 hy8 hy9
    have p0 := hy0
    have hCP := hy2
    obtain ⟨gs1, gs2, gs3, gs4, gs5, gs6⟩ := id hy0
    have hE := gs2
    have sl := ES.sgle gs2
    have bb := ES.bb gs2
    have kb := ES.kz gs2
    have b107 : (0 : Int) ≤ M 598 107 ∧ M 598 107 ≤ 16 := hI_M 598 107 (by decide)
    have b73 : (0 : Int) ≤ M 598 73 ∧ M 598 73 ≤ 1600 := hI_M 598 73 (by decide)
    have b88 : (0 : Int) ≤ M 598 88 ∧ M 598 88 ≤ 16 := hI_M 598 88 (by decide)
    have b100 : (0 : Int) ≤ M 598 100 ∧ M 598 100 ≤ 13 := hI_M 598 100 (by decide)
    have hK := hy4
    have kk0 := hK.kz
    have hT := hK.1
    have hz := hy5
    have hNU := hy6
    have s0t := hK.wz hy8
    refine jr.aload_n rfl rfl ?_
    obtain ⟨v1, e1⟩ : ∃ z, M 598 76 = z := ⟨_, rfl⟩
    have b1 : (-1) ≤ v1 ∧ v1 ≤ 68 := by rw [← e1]; exact hI_M 598 76 (by decide)
    refine jr.getf (i := 76) (x := v1) (v := .int (Int32.ofInt (v1))) rfl rfl (by decide) rfl (by decide) rfl rfl e1 rfl ?_
    refine jr.istore_n rfl (by decide) rfl ?_
    refine jr.aload_n rfl rfl ?_
    obtain ⟨v2, e2⟩ : ∃ z, M 598 80 = z := ⟨_, rfl⟩
    have b2 : 0 ≤ v2 ∧ v2 ≤ 7 := by rw [← e2]; exact hI_M 598 80 (by decide)
    obtain ⟨v3, e3⟩ : ∃ z, M 598 89 = z := ⟨_, rfl⟩
    have b3 : 0 ≤ v3 ∧ v3 ≤ 301 := by rw [← e3]; exact hI_M 598 89 (by decide)
    obtain ⟨v4, e4⟩ : ∃ z, M 598 100 = z := ⟨_, rfl⟩
    have b4 : 0 ≤ v4 ∧ v4 ≤ 13 := by rw [← e4]; exact hI_M 598 100 (by decide)
    obtain ⟨v5, e5⟩ : ∃ z, M 598 81 = z := ⟨_, rfl⟩
    have b5 : (-1) ≤ v5 ∧ v5 ≤ 1600 := by rw [← e5]; exact hI_M 598 81 (by decide)
    obtain ⟨v7, e7⟩ : ∃ z, M 598 73 = z := ⟨_, rfl⟩
    have b7 : 0 ≤ v7 ∧ v7 ≤ 1600 := by rw [← e7]; exact hI_M 598 73 (by decide)
    refine jr_v rfl rfl (Or.inl rfl) rfl rfl (by decide) rfl ⟨rfl, Nat.le_of_ble_eq_true rfl, Nat.le_of_ble_eq_true rfl⟩ rfl (jc.deep (c_node_z (f := f) (N := N) hI_M hH_M hS_M (by rw [e3]; omega) (by rw [e2]; omega) (fun M6 hI_M6 hH_M6 hS_M6 q96 ql6 q06 q16 w6_50 w6_51 => ?_) (fun M6 hI_M6 hH_M6 hS_M6 q96 ql6 q06 q16 w6_50 w6_51 => ?_)) (by decide))
    · have tk6 : TK M6 = TK M := TK.fr (w6_51 73 (by decide) (by decide) (by decide)) (w6_51 74 (by decide) (by decide) (by decide))
      have x6_72 := w6_51 72 (by decide) (by decide) (by decide)
      have x6_73 := w6_51 73 (by decide) (by decide) (by decide)
      have x6_74 := w6_51 74 (by decide) (by decide) (by decide)
      have x6_75 := w6_51 75 (by decide) (by decide) (by decide)
      have x6_76 := w6_51 76 (by decide) (by decide) (by decide)
      have x6_78 := w6_51 78 (by decide) (by decide) (by decide)
      have x6_79 := w6_51 79 (by decide) (by decide) (by decide)
      have x6_100 := w6_51 100 (by decide) (by decide) (by decide)
      have y8 : M 598 73 = v7 := e7
      have y9 : M 598 89 = v3 := e3
      have y10 : M 598 100 = v4 := e4
      have x6_73 := w6_51 73 (by decide) (by decide) (by decide)
      have x6_100 := w6_51 100 (by decide) (by decide) (by decide)
      have hE := ES.fr2 hE w6_50 (w6_51 88 (by decide) (by decide) (by decide)) (w6_51 90 (by decide) (by decide) (by decide)) (w6_51 101 (by decide) (by decide) (by decide)) (w6_51 102 (by decide) (by decide) (by decide)) (w6_51 107 (by decide) (by decide) (by decide)) (k' := kk + 4) (d' := 0) (z' := 0) (by omega) (by omega) (by omega) (by omega)
      refine jr.aload_n rfl rfl ?_
      obtain ⟨v11, e11⟩ : ∃ z, M6 598 80 = z := ⟨_, rfl⟩
      have b11 : 0 ≤ v11 ∧ v11 ≤ 7 := by rw [← e11]; exact hI_M6 598 80 (by decide)
      refine jr_v rfl rfl (Or.inl rfl) rfl rfl (by decide) rfl ⟨rfl, Nat.le_of_ble_eq_true rfl, Nat.le_of_ble_eq_true rfl⟩ rfl (jc.deep (c_good hI_M6  (fun t205_0 => ?_) (fun f205_0 => ?_)) (by decide))
      · refine jr.if_eq rfl rfl (by omega) (fun h => absurd h (by decide)) (fun _ => ?_)
        refine jr.aload_n rfl rfl ?_
        have e12 : M6 598 73 = v7 := ((w6_51 73 (by decide) (by decide) (by decide)).trans e7)
        obtain ⟨v13, e13⟩ : ∃ z, M 598 72 = z := ⟨_, rfl⟩
        have b13 : 0 ≤ v13 ∧ v13 ≤ 1600 := by rw [← e13]; exact hI_M 598 72 (by decide)
        have e14 : M6 598 72 = v13 := ((w6_51 72 (by decide) (by decide) (by decide)).trans e13)
        obtain ⟨v15, e15⟩ : ∃ z, M 598 74 = z := ⟨_, rfl⟩
        have b15 : 0 ≤ v15 ∧ v15 ≤ 4 := by rw [← e15]; exact hI_M 598 74 (by decide)
        have e16 : M6 598 74 = v15 := ((w6_51 74 (by decide) (by decide) (by decide)).trans e15)
        obtain ⟨v17, e17⟩ : ∃ z, M6 598 89 = z := ⟨_, rfl⟩
        have b17 : 0 ≤ v17 ∧ v17 ≤ 301 := by rw [← e17]; exact hI_M6 598 89 (by decide)
        have e18 : M6 598 100 = v4 := ((w6_51 100 (by decide) (by decide) (by decide)).trans e4)
        obtain ⟨v19, e19⟩ : ∃ z, M6 598 81 = z := ⟨_, rfl⟩
        have b19 : (-1) ≤ v19 ∧ v19 ≤ 1600 := by rw [← e19]; exact hI_M6 598 81 (by decide)
        refine jr_v rfl rfl (Or.inl rfl) rfl rfl (by decide) rfl ⟨rfl, Nat.le_of_ble_eq_true rfl, Nat.le_of_ble_eq_true rfl⟩ rfl (jc.deep (c_next_z (f := f) (N := N) hI_M6 hH_M6 hS_M6 (by rw [e12, e14]; omega) (TKr.fr hK (w6_51 72 (by decide) (by decide) (by decide)) (fun i => w6_50 651 i (by decide)) (fun i => w6_50 649 i (by decide)) (fun i => w6_50 650 i (by decide)) (w6_51 73 (by decide) (by decide) (by decide)) (w6_51 74 (by decide) (by decide) (by decide)) (w6_51 75 (by decide) (by decide) (by decide)) (w6_51 76 (by decide) (by decide) (by decide)) (w6_51 77 (by decide) (by decide) (by decide)) (w6_51 78 (by decide) (by decide) (by decide)) (w6_51 79 (by decide) (by decide) (by decide))) (by rw [e11]; omega) (by rw [e16]; omega) (fun M20 hI_M20 hH_M20 hS_M20 qa20 qb20 qt20 sn20 hK20 w20_50 w20_51 => ?_)) (by decide))
        have x20_72 := w20_51 72 (by decide) (by decide) (by decide) (by decide) (by decide) (by decide) (by decide)
        have x20_80 := w20_51 80 (by decide) (by decide) (by decide) (by decide) (by decide) (by decide) (by decide)
        have x20_81 := w20_51 81 (by decide) (by decide) (by decide) (by decide) (by decide) (by decide) (by decide)
        have x20_89 := w20_51 89 (by decide) (by decide) (by decide) (by decide) (by decide) (by decide) (by decide)
        have x20_100 := w20_51 100 (by decide) (by decide) (by decide) (by decide) (by decide) (by decide) (by decide)
        have hT20 := hK20.1
        have kk20 := hK20.kz
        have y21 : M6 598 73 = v7 := e12
        have y22 : M6 598 89 = v17 := e17
        have y23 : M6 598 100 = v4 := e18
        have x20_89 := w20_51 89 (by decide) (by decide) (by decide) (by decide) (by decide) (by decide) (by decide)
        have x20_100 := w20_51 100 (by decide) (by decide) (by decide) (by decide) (by decide) (by decide) (by decide)
        have hE := ES.fr2 hE w20_50 (w20_51 88 (by decide) (by decide) (by decide) (by decide) (by decide) (by decide) (by decide)) (w20_51 90 (by decide) (by decide) (by decide) (by decide) (by decide) (by decide) (by decide)) (w20_51 101 (by decide) (by decide) (by decide) (by decide) (by decide) (by decide) (by decide)) (w20_51 102 (by decide) (by decide) (by decide) (by decide) (by decide) (by decide) (by decide)) (w20_51 107 (by decide) (by decide) (by decide) (by decide) (by decide) (by decide) (by decide)) (k' := kk + 4) (d' := 0) (z' := 0) (by omega) (by omega) (by omega) (by omega)
        refine jr.aload_n rfl rfl ?_
        refine jr.bipush rfl (by decide) ?_
        refine jr.iload_n rfl rfl ?_
        obtain ⟨v24, e24⟩ : ∃ z, M 598 102 = z := ⟨_, rfl⟩
        have b24 : 0 ≤ v24 ∧ v24 ≤ 400 := by rw [← e24]; exact hI_M 598 102 (by decide)
        have e25 : M6 598 102 = v24 := ((w6_51 102 (by decide) (by decide) (by decide)).trans e24)
        have e26 : M20 598 102 = v24 := ((w20_51 102 (by decide) (by decide) (by decide) (by decide) (by decide) (by decide) (by decide)).trans e25)
        refine jr_v rfl rfl (Or.inl rfl) rfl rfl (by decide) rfl ⟨rfl, Nat.le_of_ble_eq_true rfl, Nat.le_of_ble_eq_true rfl⟩ rfl (jc.deep (r_push e26 (by omega) (by omega) (by omega) ?_) (by decide))
        have hE := ES.deep hE e26 40 v1 1 (kk + 2) (by omega) (by omega) (by omega)
        refine jr.aload_n rfl rfl ?_
        refine jr.bipush rfl (by decide) ?_
        obtain ⟨v27, e27⟩ : ∃ z, M20 598 73 = z := ⟨_, rfl⟩
        have b27 : 0 ≤ v27 ∧ v27 ≤ 1600 := by rw [← e27]; exact hI_M20 598 73 (by decide)
        have e28 : M20 598 72 = v13 := ((w20_51 72 (by decide) (by decide) (by decide) (by decide) (by decide) (by decide) (by decide)).trans e14)
        have e29 : M20 598 80 = v11 := ((w20_51 80 (by decide) (by decide) (by decide) (by decide) (by decide) (by decide) (by decide)).trans e11)
        have e30 : M20 598 100 = v4 := ((w20_51 100 (by decide) (by decide) (by decide) (by decide) (by decide) (by decide) (by decide)).trans e18)
        obtain ⟨v31, e31⟩ : ∃ z, M20 598 74 = z := ⟨_, rfl⟩
        have b31 : 0 ≤ v31 ∧ v31 ≤ 4 := by rw [← e31]; exact hI_M20 598 74 (by decide)
        obtain ⟨v32, e32⟩ : ∃ z, M20 598 79 = z := ⟨_, rfl⟩
        have b32 : 0 ≤ v32 ∧ v32 ≤ 255 := by rw [← e32]; exact hI_M20 598 79 (by decide)
        obtain ⟨v35, e35⟩ : ∃ z, M20 598 75 = z := ⟨_, rfl⟩
        have b35 : 0 ≤ v35 ∧ v35 ≤ 1600 := by rw [← e35]; exact hI_M20 598 75 (by decide)
        have e39 : M20 598 81 = v19 := ((w20_51 81 (by decide) (by decide) (by decide) (by decide) (by decide) (by decide) (by decide)).trans e19)
        have e41 : M20 598 89 = v17 := ((w20_51 89 (by decide) (by decide) (by decide) (by decide) (by decide) (by decide) (by decide)).trans e17)
        refine jr_v rfl rfl (Or.inl rfl) rfl rfl (by decide) rfl ⟨rfl, Nat.le_of_ble_eq_true rfl, Nat.le_of_ble_eq_true rfl⟩ rfl (jc.deep (c_wantDeeper_z (f := f) (N := N) (RI.u (RI.u (RI.u (RI.u hI_M20 (a := 664) (i := v24) (by rw [xri_row rfl rfl]; show (0 : Int) ≤ _ ∧ _ ≤ (255 : Int); omega)) (a := 666) (i := v24) (by rw [xri_row rfl rfl]; show (-1 : Int) ≤ _ ∧ _ ≤ (68 : Int); omega)) (a := 667) (i := v24) (by rw [xri_row rfl rfl]; show (0 : Int) ≤ _ ∧ _ ≤ (4 : Int); omega)) (a := 598) (i := 102) (show (0 : Int) ≤ _ ∧ _ ≤ (400 : Int) from by omega)) (RH.o (RH.o (RH.o (RH.o hH_M20 (by decide) (by decide) (by decide)) (by decide) (by decide) (by decide)) (by decide) (by decide) (by decide)) (by decide) (by decide) (by decide)) (RF.o (RF.o (RF.o (RF.o hS_M20 (by decide) (by decide)) (by decide) (by decide)) (by decide) (by decide)) (by decide) (by decide)) (by omega) (by rw [((ju_i _ _ (by decide)).trans ((ju_c _ _ (by decide)).trans ((ju_c _ _ (by decide)).trans ((ju_c _ _ (by decide)).trans e27)))), ((ju_i _ _ (by decide)).trans ((ju_c _ _ (by decide)).trans ((ju_c _ _ (by decide)).trans ((ju_c _ _ (by decide)).trans e28))))]; omega) (TKr.oo (TKr.cc (TKr.cc (TKr.cc hK20 (by decide) (by decide) (by decide) (by decide)) (by decide) (by decide) (by decide) (by decide)) (by decide) (by decide) (by decide) (by decide)) (by decide)) (by rw [((ju_i _ _ (by decide)).trans ((ju_c _ _ (by decide)).trans ((ju_c _ _ (by decide)).trans ((ju_c _ _ (by decide)).trans e29))))]; omega) (by rw [((ju_i _ _ (by decide)).trans ((ju_c _ _ (by decide)).trans ((ju_c _ _ (by decide)).trans ((ju_c _ _ (by decide)).trans e30))))]; omega) (by rw [((ju_i _ _ (by decide)).trans ((ju_c _ _ (by decide)).trans ((ju_c _ _ (by decide)).trans ((ju_c _ _ (by decide)).trans e31)))), ((ju_i _ _ (by decide)).trans ((ju_c _ _ (by decide)).trans ((ju_c _ _ (by decide)).trans ((ju_c _ _ (by decide)).trans e32))))]; intro q; omega) (fun M44 hI_M44 hH_M44 hS_M44 qa44 qb44 qt44 qd44 ql44 sn44 q044 q144 qs44 hK44 w44_50 w44_51 => ?_) (fun M44 hI_M44 hH_M44 hS_M44 qa44 qb44 qt44 ql44 q044 q144 qs44 hT44 w44_50 w44_51 => ?_) (fun M44 hI_M44 hH_M44 hS_M44 qa44 qb44 qt44 qn44 q044 q144 qs44 hT44 w44_50 w44_51 => ?_)) (by decide))
        · have y33 : (ju (ju (ju (ju M20 664 v24 40) 666 v24 v1) 667 v24 1) 598 102 (v24 + 1)) 598 73 = v27 := ((ju_i _ _ (by decide)).trans ((ju_c _ _ (by decide)).trans ((ju_c _ _ (by decide)).trans ((ju_c _ _ (by decide)).trans e27))))
          have y34 : (ju (ju (ju (ju M20 664 v24 40) 666 v24 v1) 667 v24 1) 598 102 (v24 + 1)) 598 74 = v31 := ((ju_i _ _ (by decide)).trans ((ju_c _ _ (by decide)).trans ((ju_c _ _ (by decide)).trans ((ju_c _ _ (by decide)).trans e31))))
          have y36 : (ju (ju (ju (ju M20 664 v24 40) 666 v24 v1) 667 v24 1) 598 102 (v24 + 1)) 598 75 = v35 := ((ju_i _ _ (by decide)).trans ((ju_c _ _ (by decide)).trans ((ju_c _ _ (by decide)).trans ((ju_c _ _ (by decide)).trans e35))))
          have y37 : (ju (ju (ju (ju M20 664 v24 40) 666 v24 v1) 667 v24 1) 598 102 (v24 + 1)) 598 79 = v32 := ((ju_i _ _ (by decide)).trans ((ju_c _ _ (by decide)).trans ((ju_c _ _ (by decide)).trans ((ju_c _ _ (by decide)).trans e32))))
          have y38 : (ju (ju (ju (ju M20 664 v24 40) 666 v24 v1) 667 v24 1) 598 102 (v24 + 1)) 598 80 = v11 := ((ju_i _ _ (by decide)).trans ((ju_c _ _ (by decide)).trans ((ju_c _ _ (by decide)).trans ((ju_c _ _ (by decide)).trans e29))))
          have y40 : (ju (ju (ju (ju M20 664 v24 40) 666 v24 v1) 667 v24 1) 598 102 (v24 + 1)) 598 81 = v19 := ((ju_i _ _ (by decide)).trans ((ju_c _ _ (by decide)).trans ((ju_c _ _ (by decide)).trans ((ju_c _ _ (by decide)).trans e39))))
          have y42 : (ju (ju (ju (ju M20 664 v24 40) 666 v24 v1) 667 v24 1) 598 102 (v24 + 1)) 598 89 = v17 := ((ju_i _ _ (by decide)).trans ((ju_c _ _ (by decide)).trans ((ju_c _ _ (by decide)).trans ((ju_c _ _ (by decide)).trans e41))))
          have y43 : (ju (ju (ju (ju M20 664 v24 40) 666 v24 v1) 667 v24 1) 598 102 (v24 + 1)) 598 100 = v4 := ((ju_i _ _ (by decide)).trans ((ju_c _ _ (by decide)).trans ((ju_c _ _ (by decide)).trans ((ju_c _ _ (by decide)).trans e30))))
          have tb44 : TK (ju (ju (ju (ju M20 664 v24 40) 666 v24 v1) 667 v24 1) 598 102 (v24 + 1)) = TK M20 := ((TK.o (Or.inr ⟨by decide, by decide⟩)).trans ((TK.o (Or.inl (by decide))).trans ((TK.o (Or.inl (by decide))).trans ((TK.o (Or.inl (by decide))).trans rfl))))
          have x44_72 := w44_51 72 (by decide) (by decide) (by decide) (by decide) (by decide) (by decide) (by decide) (by decide) (by decide) (by decide)
          have x44_89 := w44_51 89 (by decide) (by decide) (by decide) (by decide) (by decide) (by decide) (by decide) (by decide) (by decide) (by decide)
          have hT44 := hK44.1
          have kk44 := hK44.kz
          have y45 : (ju (ju (ju (ju M20 664 v24 40) 666 v24 v1) 667 v24 1) 598 102 (v24 + 1)) 598 73 = v27 := ((ju_i _ _ (by decide)).trans ((ju_c _ _ (by decide)).trans ((ju_c _ _ (by decide)).trans ((ju_c _ _ (by decide)).trans e27))))
          have y46 : (ju (ju (ju (ju M20 664 v24 40) 666 v24 v1) 667 v24 1) 598 102 (v24 + 1)) 598 89 = v17 := ((ju_i _ _ (by decide)).trans ((ju_c _ _ (by decide)).trans ((ju_c _ _ (by decide)).trans ((ju_c _ _ (by decide)).trans e41))))
          have y47 : (ju (ju (ju (ju M20 664 v24 40) 666 v24 v1) 667 v24 1) 598 102 (v24 + 1)) 598 100 = v4 := ((ju_i _ _ (by decide)).trans ((ju_c _ _ (by decide)).trans ((ju_c _ _ (by decide)).trans ((ju_c _ _ (by decide)).trans e30))))
          have x44_89 := w44_51 89 (by decide) (by decide) (by decide) (by decide) (by decide) (by decide) (by decide) (by decide) (by decide) (by decide)
          have hE := ES.fr2 hE w44_50 (w44_51 88 (by decide) (by decide) (by decide) (by decide) (by decide) (by decide) (by decide) (by decide) (by decide) (by decide)) (w44_51 90 (by decide) (by decide) (by decide) (by decide) (by decide) (by decide) (by decide) (by decide) (by decide) (by decide)) (w44_51 101 (by decide) (by decide) (by decide) (by decide) (by decide) (by decide) (by decide) (by decide) (by decide) (by decide)) (w44_51 102 (by decide) (by decide) (by decide) (by decide) (by decide) (by decide) (by decide) (by decide) (by decide) (by decide)) (w44_51 107 (by decide) (by decide) (by decide) (by decide) (by decide) (by decide) (by decide) (by decide) (by decide) (by decide)) (k' := kk + 2) (d' := 0) (z' := 0) (by omega) (by omega) (by omega) (by omega)
          refine jr.iconst rfl ?_
          have e48 : M44 598 72 = v13 := ((w44_51 72 (by decide) (by decide) (by decide) (by decide) (by decide) (by decide) (by decide) (by decide) (by decide) (by decide)).trans ((ju_i _ _ (by decide)).trans ((ju_c _ _ (by decide)).trans ((ju_c _ _ (by decide)).trans ((ju_c _ _ (by decide)).trans e28)))))
          have y49 : M44 598 72 = v13 := e48
          obtain ⟨v50, e50⟩ : ∃ z, M44 598 73 = z := ⟨_, rfl⟩
          have b50 : 0 ≤ v50 ∧ v50 ≤ 1600 := by rw [← e50]; exact hI_M44 598 73 (by decide)
          have y51 : M44 598 73 = v50 := e50
          obtain ⟨v52, e52⟩ : ∃ z, M44 598 74 = z := ⟨_, rfl⟩
          have b52 : 0 ≤ v52 ∧ v52 ≤ 4 := by rw [← e52]; exact hI_M44 598 74 (by decide)
          have y53 : M44 598 74 = v52 := e52
          obtain ⟨v54, e54⟩ : ∃ z, M44 598 79 = z := ⟨_, rfl⟩
          have b54 : 0 ≤ v54 ∧ v54 ≤ 255 := by rw [← e54]; exact hI_M44 598 79 (by decide)
          have y55 : M44 598 79 = v54 := e54
          obtain ⟨v56, e56⟩ : ∃ z, M44 598 80 = z := ⟨_, rfl⟩
          have b56 : 0 ≤ v56 ∧ v56 ≤ 7 := by rw [← e56]; exact hI_M44 598 80 (by decide)
          have y57 : M44 598 80 = v56 := e56
          have e58 : M44 598 89 = v17 := ((w44_51 89 (by decide) (by decide) (by decide) (by decide) (by decide) (by decide) (by decide) (by decide) (by decide) (by decide)).trans ((ju_i _ _ (by decide)).trans ((ju_c _ _ (by decide)).trans ((ju_c _ _ (by decide)).trans ((ju_c _ _ (by decide)).trans e41)))))
          have y59 : M44 598 89 = v17 := e58
          obtain ⟨v60, e60⟩ : ∃ z, M 598 90 = z := ⟨_, rfl⟩
          have b60 : 0 ≤ v60 ∧ v60 ≤ 2200 := by rw [← e60]; exact hI_M 598 90 (by decide)
          have e61 : M6 598 90 = v60 := ((w6_51 90 (by decide) (by decide) (by decide)).trans e60)
          have e62 : M20 598 90 = v60 := ((w20_51 90 (by decide) (by decide) (by decide) (by decide) (by decide) (by decide) (by decide)).trans e61)
          have e63 : M44 598 90 = v60 := ((w44_51 90 (by decide) (by decide) (by decide) (by decide) (by decide) (by decide) (by decide) (by decide) (by decide) (by decide)).trans ((ju_i _ _ (by decide)).trans ((ju_c _ _ (by decide)).trans ((ju_c _ _ (by decide)).trans ((ju_c _ _ (by decide)).trans e62)))))
          have y64 : M44 598 90 = v60 := e63
          obtain ⟨v65, e65⟩ : ∃ z, M44 598 100 = z := ⟨_, rfl⟩
          have b65 : 0 ≤ v65 ∧ v65 ≤ 13 := by rw [← e65]; exact hI_M44 598 100 (by decide)
          have y66 : M44 598 100 = v65 := e65
          obtain ⟨v67, e67⟩ : ∃ z, M 598 107 = z := ⟨_, rfl⟩
          have b67 : 0 ≤ v67 ∧ v67 ≤ 16 := by rw [← e67]; exact hI_M 598 107 (by decide)
          have e68 : M6 598 107 = v67 := ((w6_51 107 (by decide) (by decide) (by decide)).trans e67)
          have e69 : M20 598 107 = v67 := ((w20_51 107 (by decide) (by decide) (by decide) (by decide) (by decide) (by decide) (by decide)).trans e68)
          have e70 : M44 598 107 = v67 := ((w44_51 107 (by decide) (by decide) (by decide) (by decide) (by decide) (by decide) (by decide) (by decide) (by decide) (by decide)).trans ((ju_i _ _ (by decide)).trans ((ju_c _ _ (by decide)).trans ((ju_c _ _ (by decide)).trans ((ju_c _ _ (by decide)).trans e69)))))
          have y71 : M44 598 107 = v67 := e70
          obtain ⟨v72, e72⟩ : ∃ z, M44 598 75 = z := ⟨_, rfl⟩
          have b72 : 0 ≤ v72 ∧ v72 ≤ 1600 := by rw [← e72]; exact hI_M44 598 75 (by decide)
          have y73 : M44 598 75 = v72 := e72
          have y74 : M44 598 80 = v56 := e56
          obtain ⟨v75, e75⟩ : ∃ z, M44 598 81 = z := ⟨_, rfl⟩
          have b75 : (-1) ≤ v75 ∧ v75 ≤ 1600 := by rw [← e75]; exact hI_M44 598 81 (by decide)
          have y76 : M44 598 81 = v75 := e75
          have y77 : M44 598 89 = v17 := e58
          have y78 : M44 598 100 = v65 := e65
          exact jr.ireturn rfl rfl rfl (q _ _ hI_M44 hH_M44 hS_M44  (by omega) (Or.inr ⟨⟨by omega, ES.adj hE (k' := kk) (z' := 0) (by omega) (by omega) (by omega), by omega, by omega, by omega, by omega⟩, by omega⟩) (by omega) (by omega) (Or.inr (by omega)) (CP.f (CP.o (CP.o (CP.o (CP.o (CP.f (CP.f hCP (fun i => w6_50 659 i (by decide)) (w6_51 90 (by decide) (by decide) (by decide))) (fun i => w20_50 659 i (by decide)) (w20_51 90 (by decide) (by decide) (by decide) (by decide) (by decide) (by decide) (by decide))) (by decide) (Or.inl (by decide))) (by decide) (Or.inl (by decide))) (by decide) (Or.inl (by decide))) (by decide) (Or.inr (by decide))) (fun i => w44_50 659 i (by decide)) (w44_51 90 (by decide) (by decide) (by decide) (by decide) (by decide) (by decide) (by decide) (by decide) (by decide) (by decide))) (by omega) hT44 (fun q => by exfalso; omega) (fun _ => ⟨_, hK44, zr.eqx (zr.wask hz s0t.1 (by omega) (by omega) qs44.1 qs44.2 (by omega)) (by omega) rfl (by omega) (by omega) rfl (((abr_fr s0 (fun i => w44_50 664 i (by decide)) (fun i => w44_50 666 i (by decide)) (fun i => w44_50 667 i (by decide)) (w44_51 102 (by decide) (by decide) (by decide) (by decide) (by decide) (by decide) (by decide) (by decide) (by decide) (by decide))).trans (((abr_push (M := M20) (s := 40) (w := v1) s0 e26 (by omega)).trans (if_pos rfl)).trans (by rw [((abr_fr s0 (fun i => w20_50 664 i (by decide)) (fun i => w20_50 666 i (by decide)) (fun i => w20_50 667 i (by decide)) (w20_51 102 (by decide) (by decide) (by decide) (by decide) (by decide) (by decide) (by decide))).trans ((abr_fr s0 (fun i => w6_50 664 i (by decide)) (fun i => w6_50 666 i (by decide)) (fun i => w6_50 667 i (by decide)) (w6_51 102 (by decide) (by decide) (by decide))).trans rfl))]))).trans (by rw [show v1 = zwd f N t by omega]))⟩) (fun _ => (NU.fr (NU.push (NU.fr (NU.fr hNU (fun i => w6_50 664 i (by decide)) (w6_51 102 (by decide) (by decide) (by decide))) (fun i => w20_50 664 i (by decide)) (w20_51 102 (by decide) (by decide) (by decide) (by decide) (by decide) (by decide) (by decide))) e26 (by first | omega | (right; right; right; exact hnone))) (fun i => w44_50 664 i (by decide)) (w44_51 102 (by decide) (by decide) (by decide) (by decide) (by decide) (by decide) (by decide) (by decide) (by decide) (by decide)))) (fun q => by omega) (fun a i f598 f659 f660 f664 f666 f667 => ((w44_50 a i f598).trans ((ju_c _ _ f598).trans ((ju_c _ _ f667).trans ((ju_c _ _ f666).trans ((ju_c _ _ f664).trans ((w20_50 a i f598).trans ((w6_50 a i f598).trans (hF_M a i f598 f659 f660 f664 f666 f667))))))))) (fun i g73 g74 g75 g76 g77 g78 g79 g80 g81 g89 g90 g100 g102 => ((w44_51 i g73 g74 g75 g76 g77 g78 g79 g80 g81 g100).trans ((ju_i _ _ g102).trans ((ju_c _ _ (by decide)).trans ((ju_c _ _ (by decide)).trans ((ju_c _ _ (by decide)).trans ((w20_51 i g73 g74 g75 g76 g77 g78 g79).trans ((w6_51 i g80 g81 g89).trans (hG_M i g73 g74 g75 g76 g77 g78 g79 g80 g81 g89 g90 g100 g102))))))))))
        · have y33 : (ju (ju (ju (ju M20 664 v24 40) 666 v24 v1) 667 v24 1) 598 102 (v24 + 1)) 598 73 = v27 := ((ju_i _ _ (by decide)).trans ((ju_c _ _ (by decide)).trans ((ju_c _ _ (by decide)).trans ((ju_c _ _ (by decide)).trans e27))))
          have y34 : (ju (ju (ju (ju M20 664 v24 40) 666 v24 v1) 667 v24 1) 598 102 (v24 + 1)) 598 74 = v31 := ((ju_i _ _ (by decide)).trans ((ju_c _ _ (by decide)).trans ((ju_c _ _ (by decide)).trans ((ju_c _ _ (by decide)).trans e31))))
          have y36 : (ju (ju (ju (ju M20 664 v24 40) 666 v24 v1) 667 v24 1) 598 102 (v24 + 1)) 598 75 = v35 := ((ju_i _ _ (by decide)).trans ((ju_c _ _ (by decide)).trans ((ju_c _ _ (by decide)).trans ((ju_c _ _ (by decide)).trans e35))))
          have y37 : (ju (ju (ju (ju M20 664 v24 40) 666 v24 v1) 667 v24 1) 598 102 (v24 + 1)) 598 79 = v32 := ((ju_i _ _ (by decide)).trans ((ju_c _ _ (by decide)).trans ((ju_c _ _ (by decide)).trans ((ju_c _ _ (by decide)).trans e32))))
          have y38 : (ju (ju (ju (ju M20 664 v24 40) 666 v24 v1) 667 v24 1) 598 102 (v24 + 1)) 598 80 = v11 := ((ju_i _ _ (by decide)).trans ((ju_c _ _ (by decide)).trans ((ju_c _ _ (by decide)).trans ((ju_c _ _ (by decide)).trans e29))))
          have y40 : (ju (ju (ju (ju M20 664 v24 40) 666 v24 v1) 667 v24 1) 598 102 (v24 + 1)) 598 81 = v19 := ((ju_i _ _ (by decide)).trans ((ju_c _ _ (by decide)).trans ((ju_c _ _ (by decide)).trans ((ju_c _ _ (by decide)).trans e39))))
          have y42 : (ju (ju (ju (ju M20 664 v24 40) 666 v24 v1) 667 v24 1) 598 102 (v24 + 1)) 598 89 = v17 := ((ju_i _ _ (by decide)).trans ((ju_c _ _ (by decide)).trans ((ju_c _ _ (by decide)).trans ((ju_c _ _ (by decide)).trans e41))))
          have y43 : (ju (ju (ju (ju M20 664 v24 40) 666 v24 v1) 667 v24 1) 598 102 (v24 + 1)) 598 100 = v4 := ((ju_i _ _ (by decide)).trans ((ju_c _ _ (by decide)).trans ((ju_c _ _ (by decide)).trans ((ju_c _ _ (by decide)).trans e30))))
          have tb44 : TK (ju (ju (ju (ju M20 664 v24 40) 666 v24 v1) 667 v24 1) 598 102 (v24 + 1)) = TK M20 := ((TK.o (Or.inr ⟨by decide, by decide⟩)).trans ((TK.o (Or.inl (by decide))).trans ((TK.o (Or.inl (by decide))).trans ((TK.o (Or.inl (by decide))).trans rfl))))
          have x44_72 := w44_51 72 (by decide) (by decide) (by decide) (by decide) (by decide) (by decide) (by decide) (by decide) (by decide) (by decide)
          have x44_89 := w44_51 89 (by decide) (by decide) (by decide) (by decide) (by decide) (by decide) (by decide) (by decide) (by decide) (by decide)
          have zfz : zr f N xs (zft (M44 598 80) (M44 598 81)) := zr.fe (zr.waskd hz s0t.1 (by omega) (by omega) qs44.1 qs44.2 (by omega)) (by omega) (by omega)
          refine jr.iconst rfl ?_
          have e79 : M44 598 72 = v13 := ((w44_51 72 (by decide) (by decide) (by decide) (by decide) (by decide) (by decide) (by decide) (by decide) (by decide) (by decide)).trans ((ju_i _ _ (by decide)).trans ((ju_c _ _ (by decide)).trans ((ju_c _ _ (by decide)).trans ((ju_c _ _ (by decide)).trans e28)))))
          have y80 : M44 598 72 = v13 := e79
          obtain ⟨v81, e81⟩ : ∃ z, M44 598 73 = z := ⟨_, rfl⟩
          have b81 : 0 ≤ v81 ∧ v81 ≤ 1600 := by rw [← e81]; exact hI_M44 598 73 (by decide)
          have y82 : M44 598 73 = v81 := e81
          obtain ⟨v83, e83⟩ : ∃ z, M44 598 74 = z := ⟨_, rfl⟩
          have b83 : 0 ≤ v83 ∧ v83 ≤ 4 := by rw [← e83]; exact hI_M44 598 74 (by decide)
          have y84 : M44 598 74 = v83 := e83
          obtain ⟨v85, e85⟩ : ∃ z, M44 598 79 = z := ⟨_, rfl⟩
          have b85 : 0 ≤ v85 ∧ v85 ≤ 255 := by rw [← e85]; exact hI_M44 598 79 (by decide)
          have y86 : M44 598 79 = v85 := e85
          obtain ⟨v87, e87⟩ : ∃ z, M44 598 80 = z := ⟨_, rfl⟩
          have b87 : 0 ≤ v87 ∧ v87 ≤ 7 := by rw [← e87]; exact hI_M44 598 80 (by decide)
          have y88 : M44 598 80 = v87 := e87
          have e89 : M44 598 89 = v17 := ((w44_51 89 (by decide) (by decide) (by decide) (by decide) (by decide) (by decide) (by decide) (by decide) (by decide) (by decide)).trans ((ju_i _ _ (by decide)).trans ((ju_c _ _ (by decide)).trans ((ju_c _ _ (by decide)).trans ((ju_c _ _ (by decide)).trans e41)))))
          have y90 : M44 598 89 = v17 := e89
          obtain ⟨v91, e91⟩ : ∃ z, M 598 90 = z := ⟨_, rfl⟩
          have b91 : 0 ≤ v91 ∧ v91 ≤ 2200 := by rw [← e91]; exact hI_M 598 90 (by decide)
          have e92 : M6 598 90 = v91 := ((w6_51 90 (by decide) (by decide) (by decide)).trans e91)
          have e93 : M20 598 90 = v91 := ((w20_51 90 (by decide) (by decide) (by decide) (by decide) (by decide) (by decide) (by decide)).trans e92)
          have e94 : M44 598 90 = v91 := ((w44_51 90 (by decide) (by decide) (by decide) (by decide) (by decide) (by decide) (by decide) (by decide) (by decide) (by decide)).trans ((ju_i _ _ (by decide)).trans ((ju_c _ _ (by decide)).trans ((ju_c _ _ (by decide)).trans ((ju_c _ _ (by decide)).trans e93)))))
          have y95 : M44 598 90 = v91 := e94
          obtain ⟨v96, e96⟩ : ∃ z, M44 598 100 = z := ⟨_, rfl⟩
          have b96 : 0 ≤ v96 ∧ v96 ≤ 13 := by rw [← e96]; exact hI_M44 598 100 (by decide)
          have y97 : M44 598 100 = v96 := e96
          obtain ⟨v98, e98⟩ : ∃ z, M 598 107 = z := ⟨_, rfl⟩
          have b98 : 0 ≤ v98 ∧ v98 ≤ 16 := by rw [← e98]; exact hI_M 598 107 (by decide)
          have e99 : M6 598 107 = v98 := ((w6_51 107 (by decide) (by decide) (by decide)).trans e98)
          have e100 : M20 598 107 = v98 := ((w20_51 107 (by decide) (by decide) (by decide) (by decide) (by decide) (by decide) (by decide)).trans e99)
          have e101 : M44 598 107 = v98 := ((w44_51 107 (by decide) (by decide) (by decide) (by decide) (by decide) (by decide) (by decide) (by decide) (by decide) (by decide)).trans ((ju_i _ _ (by decide)).trans ((ju_c _ _ (by decide)).trans ((ju_c _ _ (by decide)).trans ((ju_c _ _ (by decide)).trans e100)))))
          have y102 : M44 598 107 = v98 := e101
          obtain ⟨v103, e103⟩ : ∃ z, M44 598 75 = z := ⟨_, rfl⟩
          have b103 : 0 ≤ v103 ∧ v103 ≤ 1600 := by rw [← e103]; exact hI_M44 598 75 (by decide)
          have y104 : M44 598 75 = v103 := e103
          have y105 : M44 598 80 = v87 := e87
          obtain ⟨v106, e106⟩ : ∃ z, M44 598 81 = z := ⟨_, rfl⟩
          have b106 : (-1) ≤ v106 ∧ v106 ≤ 1600 := by rw [← e106]; exact hI_M44 598 81 (by decide)
          have y107 : M44 598 81 = v106 := e106
          have y108 : M44 598 89 = v17 := e89
          have y109 : M44 598 100 = v96 := e96
          exact jr.ireturn rfl rfl rfl (q _ _ hI_M44 hH_M44 hS_M44  (by omega) (Or.inl ⟨by omega, by omega⟩) (by omega) (by omega) (Or.inl (by omega)) (CP.f (CP.o (CP.o (CP.o (CP.o (CP.f (CP.f hCP (fun i => w6_50 659 i (by decide)) (w6_51 90 (by decide) (by decide) (by decide))) (fun i => w20_50 659 i (by decide)) (w20_51 90 (by decide) (by decide) (by decide) (by decide) (by decide) (by decide) (by decide))) (by decide) (Or.inl (by decide))) (by decide) (Or.inl (by decide))) (by decide) (Or.inl (by decide))) (by decide) (Or.inr (by decide))) (fun i => w44_50 659 i (by decide)) (w44_51 90 (by decide) (by decide) (by decide) (by decide) (by decide) (by decide) (by decide) (by decide) (by decide) (by decide))) (by omega) hT44 (fun _ => zr.fe zfz (by omega) (by omega)) (fun q => by exfalso; omega) (fun q => by exfalso; omega) (fun q => by omega) (fun a i f598 f659 f660 f664 f666 f667 => ((w44_50 a i f598).trans ((ju_c _ _ f598).trans ((ju_c _ _ f667).trans ((ju_c _ _ f666).trans ((ju_c _ _ f664).trans ((w20_50 a i f598).trans ((w6_50 a i f598).trans (hF_M a i f598 f659 f660 f664 f666 f667))))))))) (fun i g73 g74 g75 g76 g77 g78 g79 g80 g81 g89 g90 g100 g102 => ((w44_51 i g73 g74 g75 g76 g77 g78 g79 g80 g81 g100).trans ((ju_i _ _ g102).trans ((ju_c _ _ (by decide)).trans ((ju_c _ _ (by decide)).trans ((ju_c _ _ (by decide)).trans ((w20_51 i g73 g74 g75 g76 g77 g78 g79).trans ((w6_51 i g80 g81 g89).trans (hG_M i g73 g74 g75 g76 g77 g78 g79 g80 g81 g89 g90 g100 g102))))))))))
        · have y33 : (ju (ju (ju (ju M20 664 v24 40) 666 v24 v1) 667 v24 1) 598 102 (v24 + 1)) 598 73 = v27 := ((ju_i _ _ (by decide)).trans ((ju_c _ _ (by decide)).trans ((ju_c _ _ (by decide)).trans ((ju_c _ _ (by decide)).trans e27))))
          have y34 : (ju (ju (ju (ju M20 664 v24 40) 666 v24 v1) 667 v24 1) 598 102 (v24 + 1)) 598 74 = v31 := ((ju_i _ _ (by decide)).trans ((ju_c _ _ (by decide)).trans ((ju_c _ _ (by decide)).trans ((ju_c _ _ (by decide)).trans e31))))
          have y36 : (ju (ju (ju (ju M20 664 v24 40) 666 v24 v1) 667 v24 1) 598 102 (v24 + 1)) 598 75 = v35 := ((ju_i _ _ (by decide)).trans ((ju_c _ _ (by decide)).trans ((ju_c _ _ (by decide)).trans ((ju_c _ _ (by decide)).trans e35))))
          have y37 : (ju (ju (ju (ju M20 664 v24 40) 666 v24 v1) 667 v24 1) 598 102 (v24 + 1)) 598 79 = v32 := ((ju_i _ _ (by decide)).trans ((ju_c _ _ (by decide)).trans ((ju_c _ _ (by decide)).trans ((ju_c _ _ (by decide)).trans e32))))
          have y38 : (ju (ju (ju (ju M20 664 v24 40) 666 v24 v1) 667 v24 1) 598 102 (v24 + 1)) 598 80 = v11 := ((ju_i _ _ (by decide)).trans ((ju_c _ _ (by decide)).trans ((ju_c _ _ (by decide)).trans ((ju_c _ _ (by decide)).trans e29))))
          have y40 : (ju (ju (ju (ju M20 664 v24 40) 666 v24 v1) 667 v24 1) 598 102 (v24 + 1)) 598 81 = v19 := ((ju_i _ _ (by decide)).trans ((ju_c _ _ (by decide)).trans ((ju_c _ _ (by decide)).trans ((ju_c _ _ (by decide)).trans e39))))
          have y42 : (ju (ju (ju (ju M20 664 v24 40) 666 v24 v1) 667 v24 1) 598 102 (v24 + 1)) 598 89 = v17 := ((ju_i _ _ (by decide)).trans ((ju_c _ _ (by decide)).trans ((ju_c _ _ (by decide)).trans ((ju_c _ _ (by decide)).trans e41))))
          have y43 : (ju (ju (ju (ju M20 664 v24 40) 666 v24 v1) 667 v24 1) 598 102 (v24 + 1)) 598 100 = v4 := ((ju_i _ _ (by decide)).trans ((ju_c _ _ (by decide)).trans ((ju_c _ _ (by decide)).trans ((ju_c _ _ (by decide)).trans e30))))
          have tb44 : TK (ju (ju (ju (ju M20 664 v24 40) 666 v24 v1) 667 v24 1) 598 102 (v24 + 1)) = TK M20 := ((TK.o (Or.inr ⟨by decide, by decide⟩)).trans ((TK.o (Or.inl (by decide))).trans ((TK.o (Or.inl (by decide))).trans ((TK.o (Or.inl (by decide))).trans rfl))))
          have x44_72 := w44_51 72 (by decide) (by decide) (by decide) (by decide) (by decide) (by decide) (by decide) (by decide) (by decide) (by decide)
          have x44_89 := w44_51 89 (by decide) (by decide) (by decide) (by decide) (by decide) (by decide) (by decide) (by decide) (by decide) (by decide)
          have zfz : zr f N xs (zft (M44 598 80) (M44 598 81)) := zr.rfz (zr.waskf hz s0t.1 (by omega) (by omega) qs44) q044 q144
          refine jr.iconst rfl ?_
          have e110 : M44 598 72 = v13 := ((w44_51 72 (by decide) (by decide) (by decide) (by decide) (by decide) (by decide) (by decide) (by decide) (by decide) (by decide)).trans ((ju_i _ _ (by decide)).trans ((ju_c _ _ (by decide)).trans ((ju_c _ _ (by decide)).trans ((ju_c _ _ (by decide)).trans e28)))))
          have y111 : M44 598 72 = v13 := e110
          obtain ⟨v112, e112⟩ : ∃ z, M44 598 73 = z := ⟨_, rfl⟩
          have b112 : 0 ≤ v112 ∧ v112 ≤ 1600 := by rw [← e112]; exact hI_M44 598 73 (by decide)
          have y113 : M44 598 73 = v112 := e112
          obtain ⟨v114, e114⟩ : ∃ z, M44 598 74 = z := ⟨_, rfl⟩
          have b114 : 0 ≤ v114 ∧ v114 ≤ 4 := by rw [← e114]; exact hI_M44 598 74 (by decide)
          have y115 : M44 598 74 = v114 := e114
          obtain ⟨v116, e116⟩ : ∃ z, M44 598 79 = z := ⟨_, rfl⟩
          have b116 : 0 ≤ v116 ∧ v116 ≤ 255 := by rw [← e116]; exact hI_M44 598 79 (by decide)
          have y117 : M44 598 79 = v116 := e116
          obtain ⟨v118, e118⟩ : ∃ z, M44 598 80 = z := ⟨_, rfl⟩
          have b118 : 0 ≤ v118 ∧ v118 ≤ 7 := by rw [← e118]; exact hI_M44 598 80 (by decide)
          have y119 : M44 598 80 = v118 := e118
          have e120 : M44 598 89 = v17 := ((w44_51 89 (by decide) (by decide) (by decide) (by decide) (by decide) (by decide) (by decide) (by decide) (by decide) (by decide)).trans ((ju_i _ _ (by decide)).trans ((ju_c _ _ (by decide)).trans ((ju_c _ _ (by decide)).trans ((ju_c _ _ (by decide)).trans e41)))))
          have y121 : M44 598 89 = v17 := e120
          obtain ⟨v122, e122⟩ : ∃ z, M 598 90 = z := ⟨_, rfl⟩
          have b122 : 0 ≤ v122 ∧ v122 ≤ 2200 := by rw [← e122]; exact hI_M 598 90 (by decide)
          have e123 : M6 598 90 = v122 := ((w6_51 90 (by decide) (by decide) (by decide)).trans e122)
          have e124 : M20 598 90 = v122 := ((w20_51 90 (by decide) (by decide) (by decide) (by decide) (by decide) (by decide) (by decide)).trans e123)
          have e125 : M44 598 90 = v122 := ((w44_51 90 (by decide) (by decide) (by decide) (by decide) (by decide) (by decide) (by decide) (by decide) (by decide) (by decide)).trans ((ju_i _ _ (by decide)).trans ((ju_c _ _ (by decide)).trans ((ju_c _ _ (by decide)).trans ((ju_c _ _ (by decide)).trans e124)))))
          have y126 : M44 598 90 = v122 := e125
          obtain ⟨v127, e127⟩ : ∃ z, M44 598 100 = z := ⟨_, rfl⟩
          have b127 : 0 ≤ v127 ∧ v127 ≤ 13 := by rw [← e127]; exact hI_M44 598 100 (by decide)
          have y128 : M44 598 100 = v127 := e127
          obtain ⟨v129, e129⟩ : ∃ z, M 598 107 = z := ⟨_, rfl⟩
          have b129 : 0 ≤ v129 ∧ v129 ≤ 16 := by rw [← e129]; exact hI_M 598 107 (by decide)
          have e130 : M6 598 107 = v129 := ((w6_51 107 (by decide) (by decide) (by decide)).trans e129)
          have e131 : M20 598 107 = v129 := ((w20_51 107 (by decide) (by decide) (by decide) (by decide) (by decide) (by decide) (by decide)).trans e130)
          have e132 : M44 598 107 = v129 := ((w44_51 107 (by decide) (by decide) (by decide) (by decide) (by decide) (by decide) (by decide) (by decide) (by decide) (by decide)).trans ((ju_i _ _ (by decide)).trans ((ju_c _ _ (by decide)).trans ((ju_c _ _ (by decide)).trans ((ju_c _ _ (by decide)).trans e131)))))
          have y133 : M44 598 107 = v129 := e132
          obtain ⟨v134, e134⟩ : ∃ z, M44 598 75 = z := ⟨_, rfl⟩
          have b134 : 0 ≤ v134 ∧ v134 ≤ 1600 := by rw [← e134]; exact hI_M44 598 75 (by decide)
          have y135 : M44 598 75 = v134 := e134
          have y136 : M44 598 80 = v118 := e118
          obtain ⟨v137, e137⟩ : ∃ z, M44 598 81 = z := ⟨_, rfl⟩
          have b137 : (-1) ≤ v137 ∧ v137 ≤ 1600 := by rw [← e137]; exact hI_M44 598 81 (by decide)
          have y138 : M44 598 81 = v137 := e137
          have y139 : M44 598 89 = v17 := e120
          have y140 : M44 598 100 = v127 := e127
          exact jr.ireturn rfl rfl rfl (q _ _ hI_M44 hH_M44 hS_M44  (by omega) (Or.inl ⟨by omega, by omega⟩) (by omega) (by omega) (Or.inl (by omega)) (CP.f (CP.o (CP.o (CP.o (CP.o (CP.f (CP.f hCP (fun i => w6_50 659 i (by decide)) (w6_51 90 (by decide) (by decide) (by decide))) (fun i => w20_50 659 i (by decide)) (w20_51 90 (by decide) (by decide) (by decide) (by decide) (by decide) (by decide) (by decide))) (by decide) (Or.inl (by decide))) (by decide) (Or.inl (by decide))) (by decide) (Or.inl (by decide))) (by decide) (Or.inr (by decide))) (fun i => w44_50 659 i (by decide)) (w44_51 90 (by decide) (by decide) (by decide) (by decide) (by decide) (by decide) (by decide) (by decide) (by decide) (by decide))) (by omega) hT44 (fun _ => zr.fe zfz (by omega) (by omega)) (fun q => by exfalso; omega) (fun q => by exfalso; omega) (fun q => by omega) (fun a i f598 f659 f660 f664 f666 f667 => ((w44_50 a i f598).trans ((ju_c _ _ f598).trans ((ju_c _ _ f667).trans ((ju_c _ _ f666).trans ((ju_c _ _ f664).trans ((w20_50 a i f598).trans ((w6_50 a i f598).trans (hF_M a i f598 f659 f660 f664 f666 f667))))))))) (fun i g73 g74 g75 g76 g77 g78 g79 g80 g81 g89 g90 g100 g102 => ((w44_51 i g73 g74 g75 g76 g77 g78 g79 g80 g81 g100).trans ((ju_i _ _ g102).trans ((ju_c _ _ (by decide)).trans ((ju_c _ _ (by decide)).trans ((ju_c _ _ (by decide)).trans ((w20_51 i g73 g74 g75 g76 g77 g78 g79).trans ((w6_51 i g80 g81 g89).trans (hG_M i g73 g74 g75 g76 g77 g78 g79 g80 g81 g89 g90 g100 g102))))))))))
      · exfalso
        omega
    · have tk6 : TK M6 = TK M := TK.fr (w6_51 73 (by decide) (by decide) (by decide)) (w6_51 74 (by decide) (by decide) (by decide))
      have x6_72 := w6_51 72 (by decide) (by decide) (by decide)
      have x6_73 := w6_51 73 (by decide) (by decide) (by decide)
      have x6_74 := w6_51 74 (by decide) (by decide) (by decide)
      have x6_75 := w6_51 75 (by decide) (by decide) (by decide)
      have x6_76 := w6_51 76 (by decide) (by decide) (by decide)
      have x6_78 := w6_51 78 (by decide) (by decide) (by decide)
      have x6_79 := w6_51 79 (by decide) (by decide) (by decide)
      have x6_100 := w6_51 100 (by decide) (by decide) (by decide)
      have zfz : zr f N xs (zft (M6 598 80) (M6 598 81)) := zr.fe (zr.wk hz s0t.1 (by omega) (by omega)) (by omega) (by omega)
      refine jr.aload_n rfl rfl ?_
      obtain ⟨v141, e141⟩ : ∃ z, M6 598 80 = z := ⟨_, rfl⟩
      have b141 : 0 ≤ v141 ∧ v141 ≤ 7 := by rw [← e141]; exact hI_M6 598 80 (by decide)
      refine jr_v rfl rfl (Or.inl rfl) rfl rfl (by decide) rfl ⟨rfl, Nat.le_of_ble_eq_true rfl, Nat.le_of_ble_eq_true rfl⟩ rfl (jc.deep (c_good hI_M6  (fun t205_0 => ?_) (fun f205_0 => ?_)) (by decide))
      · exfalso
        omega
      · refine jr.if_eq rfl rfl (by omega) (fun _ => ?_) (fun h => absurd (by decide) h)
        refine jr.aload_n rfl rfl ?_
        refine jr.bipush rfl (by decide) ?_
        refine jr.iload_n rfl rfl ?_
        obtain ⟨v142, e142⟩ : ∃ z, M 598 102 = z := ⟨_, rfl⟩
        have b142 : 0 ≤ v142 ∧ v142 ≤ 400 := by rw [← e142]; exact hI_M 598 102 (by decide)
        have e143 : M6 598 102 = v142 := ((w6_51 102 (by decide) (by decide) (by decide)).trans e142)
        refine jr_v rfl rfl (Or.inl rfl) rfl rfl (by decide) rfl ⟨rfl, Nat.le_of_ble_eq_true rfl, Nat.le_of_ble_eq_true rfl⟩ rfl (jc.deep (r_push e143 (by omega) (by omega) (by omega) ?_) (by decide))
        refine jr.aload_n rfl rfl ?_
        refine jr.bipush rfl (by decide) ?_
        have e144 : M6 598 73 = v7 := ((w6_51 73 (by decide) (by decide) (by decide)).trans e7)
        obtain ⟨v145, e145⟩ : ∃ z, M 598 72 = z := ⟨_, rfl⟩
        have b145 : 0 ≤ v145 ∧ v145 ≤ 1600 := by rw [← e145]; exact hI_M 598 72 (by decide)
        have e146 : M6 598 72 = v145 := ((w6_51 72 (by decide) (by decide) (by decide)).trans e145)
        obtain ⟨v148, e148⟩ : ∃ z, M 598 74 = z := ⟨_, rfl⟩
        have b148 : 0 ≤ v148 ∧ v148 ≤ 4 := by rw [← e148]; exact hI_M 598 74 (by decide)
        have e149 : M6 598 74 = v148 := ((w6_51 74 (by decide) (by decide) (by decide)).trans e148)
        obtain ⟨v151, e151⟩ : ∃ z, M 598 75 = z := ⟨_, rfl⟩
        have b151 : 0 ≤ v151 ∧ v151 ≤ 1600 := by rw [← e151]; exact hI_M 598 75 (by decide)
        have e152 : M6 598 75 = v151 := ((w6_51 75 (by decide) (by decide) (by decide)).trans e151)
        obtain ⟨v154, e154⟩ : ∃ z, M 598 79 = z := ⟨_, rfl⟩
        have b154 : 0 ≤ v154 ∧ v154 ≤ 255 := by rw [← e154]; exact hI_M 598 79 (by decide)
        have e155 : M6 598 79 = v154 := ((w6_51 79 (by decide) (by decide) (by decide)).trans e154)
        obtain ⟨v158, e158⟩ : ∃ z, M6 598 81 = z := ⟨_, rfl⟩
        have b158 : (-1) ≤ v158 ∧ v158 ≤ 1600 := by rw [← e158]; exact hI_M6 598 81 (by decide)
        obtain ⟨v160, e160⟩ : ∃ z, M6 598 89 = z := ⟨_, rfl⟩
        have b160 : 0 ≤ v160 ∧ v160 ≤ 301 := by rw [← e160]; exact hI_M6 598 89 (by decide)
        have e162 : M6 598 100 = v4 := ((w6_51 100 (by decide) (by decide) (by decide)).trans e4)
        refine jr_v rfl rfl (Or.inl rfl) rfl rfl (by decide) rfl ⟨rfl, Nat.le_of_ble_eq_true rfl, Nat.le_of_ble_eq_true rfl⟩ rfl (jc.deep (d_wantDeeper_z (f := f) (N := N) (RI.u (RI.u (RI.u (RI.u hI_M6 (a := 664) (i := v142) (by rw [xri_row rfl rfl]; show (0 : Int) ≤ _ ∧ _ ≤ (255 : Int); omega)) (a := 666) (i := v142) (by rw [xri_row rfl rfl]; show (-1 : Int) ≤ _ ∧ _ ≤ (68 : Int); omega)) (a := 667) (i := v142) (by rw [xri_row rfl rfl]; show (0 : Int) ≤ _ ∧ _ ≤ (4 : Int); omega)) (a := 598) (i := 102) (show (0 : Int) ≤ _ ∧ _ ≤ (400 : Int) from by omega)) (RH.o (RH.o (RH.o (RH.o hH_M6 (by decide) (by decide) (by decide)) (by decide) (by decide) (by decide)) (by decide) (by decide) (by decide)) (by decide) (by decide) (by decide)) (RF.o (RF.o (RF.o (RF.o hS_M6 (by decide) (by decide)) (by decide) (by decide)) (by decide) (by decide)) (by decide) (by decide)) (by omega) (by rw [((ju_i _ _ (by decide)).trans ((ju_c _ _ (by decide)).trans ((ju_c _ _ (by decide)).trans ((ju_c _ _ (by decide)).trans e144)))), ((ju_i _ _ (by decide)).trans ((ju_c _ _ (by decide)).trans ((ju_c _ _ (by decide)).trans ((ju_c _ _ (by decide)).trans e146))))]; omega) (TXr.o (TXr.k (TXr.k (TXr.k (TXr.fr hT (w6_51 72 (by decide) (by decide) (by decide)) (fun i => w6_50 651 i (by decide)) (fun i => w6_50 649 i (by decide)) (fun i => w6_50 650 i (by decide))) (by decide) (by decide) (by decide) (by decide)) (by decide) (by decide) (by decide) (by decide)) (by decide) (by decide) (by decide) (by decide)) (by decide)) (by rw [((ju_i _ _ (by decide)).trans ((ju_c _ _ (by decide)).trans ((ju_c _ _ (by decide)).trans ((ju_c _ _ (by decide)).trans e141))))]; omega) (fun M164 hI_M164 hH_M164 hS_M164 qa164 qb164 qt164 q0164 q1164 hT164 w164_50 w164_51 => ?_)) (by decide))
        have y147 : (ju (ju (ju (ju M6 664 v142 40) 666 v142 v1) 667 v142 1) 598 102 (v142 + 1)) 598 73 = v7 := ((ju_i _ _ (by decide)).trans ((ju_c _ _ (by decide)).trans ((ju_c _ _ (by decide)).trans ((ju_c _ _ (by decide)).trans e144))))
        have y150 : (ju (ju (ju (ju M6 664 v142 40) 666 v142 v1) 667 v142 1) 598 102 (v142 + 1)) 598 74 = v148 := ((ju_i _ _ (by decide)).trans ((ju_c _ _ (by decide)).trans ((ju_c _ _ (by decide)).trans ((ju_c _ _ (by decide)).trans e149))))
        have y153 : (ju (ju (ju (ju M6 664 v142 40) 666 v142 v1) 667 v142 1) 598 102 (v142 + 1)) 598 75 = v151 := ((ju_i _ _ (by decide)).trans ((ju_c _ _ (by decide)).trans ((ju_c _ _ (by decide)).trans ((ju_c _ _ (by decide)).trans e152))))
        have y156 : (ju (ju (ju (ju M6 664 v142 40) 666 v142 v1) 667 v142 1) 598 102 (v142 + 1)) 598 79 = v154 := ((ju_i _ _ (by decide)).trans ((ju_c _ _ (by decide)).trans ((ju_c _ _ (by decide)).trans ((ju_c _ _ (by decide)).trans e155))))
        have y157 : (ju (ju (ju (ju M6 664 v142 40) 666 v142 v1) 667 v142 1) 598 102 (v142 + 1)) 598 80 = v141 := ((ju_i _ _ (by decide)).trans ((ju_c _ _ (by decide)).trans ((ju_c _ _ (by decide)).trans ((ju_c _ _ (by decide)).trans e141))))
        have y159 : (ju (ju (ju (ju M6 664 v142 40) 666 v142 v1) 667 v142 1) 598 102 (v142 + 1)) 598 81 = v158 := ((ju_i _ _ (by decide)).trans ((ju_c _ _ (by decide)).trans ((ju_c _ _ (by decide)).trans ((ju_c _ _ (by decide)).trans e158))))
        have y161 : (ju (ju (ju (ju M6 664 v142 40) 666 v142 v1) 667 v142 1) 598 102 (v142 + 1)) 598 89 = v160 := ((ju_i _ _ (by decide)).trans ((ju_c _ _ (by decide)).trans ((ju_c _ _ (by decide)).trans ((ju_c _ _ (by decide)).trans e160))))
        have y163 : (ju (ju (ju (ju M6 664 v142 40) 666 v142 v1) 667 v142 1) 598 102 (v142 + 1)) 598 100 = v4 := ((ju_i _ _ (by decide)).trans ((ju_c _ _ (by decide)).trans ((ju_c _ _ (by decide)).trans ((ju_c _ _ (by decide)).trans e162))))
        have tb164 : TK (ju (ju (ju (ju M6 664 v142 40) 666 v142 v1) 667 v142 1) 598 102 (v142 + 1)) = TK M6 := ((TK.o (Or.inr ⟨by decide, by decide⟩)).trans ((TK.o (Or.inl (by decide))).trans ((TK.o (Or.inl (by decide))).trans ((TK.o (Or.inl (by decide))).trans rfl))))
        have x164_72 := w164_51 72 (by decide) (by decide) (by decide) (by decide) (by decide) (by decide) (by decide) (by decide) (by decide) (by decide)
        have x164_89 := w164_51 89 (by decide) (by decide) (by decide) (by decide) (by decide) (by decide) (by decide) (by decide) (by decide) (by decide)
        have zfz : zr f N xs (zft (M164 598 80) (M164 598 81)) := zr.fe zfz (by omega) (by omega)
        refine jr.iconst rfl ?_
        have e165 : M164 598 72 = v145 := ((w164_51 72 (by decide) (by decide) (by decide) (by decide) (by decide) (by decide) (by decide) (by decide) (by decide) (by decide)).trans ((ju_i _ _ (by decide)).trans ((ju_c _ _ (by decide)).trans ((ju_c _ _ (by decide)).trans ((ju_c _ _ (by decide)).trans e146)))))
        have y166 : M164 598 72 = v145 := e165
        obtain ⟨v167, e167⟩ : ∃ z, M164 598 73 = z := ⟨_, rfl⟩
        have b167 : 0 ≤ v167 ∧ v167 ≤ 1600 := by rw [← e167]; exact hI_M164 598 73 (by decide)
        have y168 : M164 598 73 = v167 := e167
        obtain ⟨v169, e169⟩ : ∃ z, M164 598 74 = z := ⟨_, rfl⟩
        have b169 : 0 ≤ v169 ∧ v169 ≤ 4 := by rw [← e169]; exact hI_M164 598 74 (by decide)
        have y170 : M164 598 74 = v169 := e169
        obtain ⟨v171, e171⟩ : ∃ z, M164 598 79 = z := ⟨_, rfl⟩
        have b171 : 0 ≤ v171 ∧ v171 ≤ 255 := by rw [← e171]; exact hI_M164 598 79 (by decide)
        have y172 : M164 598 79 = v171 := e171
        obtain ⟨v173, e173⟩ : ∃ z, M164 598 80 = z := ⟨_, rfl⟩
        have b173 : 0 ≤ v173 ∧ v173 ≤ 7 := by rw [← e173]; exact hI_M164 598 80 (by decide)
        have y174 : M164 598 80 = v173 := e173
        have e175 : M164 598 89 = v160 := ((w164_51 89 (by decide) (by decide) (by decide) (by decide) (by decide) (by decide) (by decide) (by decide) (by decide) (by decide)).trans ((ju_i _ _ (by decide)).trans ((ju_c _ _ (by decide)).trans ((ju_c _ _ (by decide)).trans ((ju_c _ _ (by decide)).trans e160)))))
        have y176 : M164 598 89 = v160 := e175
        obtain ⟨v177, e177⟩ : ∃ z, M 598 90 = z := ⟨_, rfl⟩
        have b177 : 0 ≤ v177 ∧ v177 ≤ 2200 := by rw [← e177]; exact hI_M 598 90 (by decide)
        have e178 : M6 598 90 = v177 := ((w6_51 90 (by decide) (by decide) (by decide)).trans e177)
        have e179 : M164 598 90 = v177 := ((w164_51 90 (by decide) (by decide) (by decide) (by decide) (by decide) (by decide) (by decide) (by decide) (by decide) (by decide)).trans ((ju_i _ _ (by decide)).trans ((ju_c _ _ (by decide)).trans ((ju_c _ _ (by decide)).trans ((ju_c _ _ (by decide)).trans e178)))))
        have y180 : M164 598 90 = v177 := e179
        obtain ⟨v181, e181⟩ : ∃ z, M164 598 100 = z := ⟨_, rfl⟩
        have b181 : 0 ≤ v181 ∧ v181 ≤ 13 := by rw [← e181]; exact hI_M164 598 100 (by decide)
        have y182 : M164 598 100 = v181 := e181
        obtain ⟨v183, e183⟩ : ∃ z, M 598 107 = z := ⟨_, rfl⟩
        have b183 : 0 ≤ v183 ∧ v183 ≤ 16 := by rw [← e183]; exact hI_M 598 107 (by decide)
        have e184 : M6 598 107 = v183 := ((w6_51 107 (by decide) (by decide) (by decide)).trans e183)
        have e185 : M164 598 107 = v183 := ((w164_51 107 (by decide) (by decide) (by decide) (by decide) (by decide) (by decide) (by decide) (by decide) (by decide) (by decide)).trans ((ju_i _ _ (by decide)).trans ((ju_c _ _ (by decide)).trans ((ju_c _ _ (by decide)).trans ((ju_c _ _ (by decide)).trans e184)))))
        have y186 : M164 598 107 = v183 := e185
        obtain ⟨v187, e187⟩ : ∃ z, M164 598 75 = z := ⟨_, rfl⟩
        have b187 : 0 ≤ v187 ∧ v187 ≤ 1600 := by rw [← e187]; exact hI_M164 598 75 (by decide)
        have y188 : M164 598 75 = v187 := e187
        have y189 : M164 598 80 = v173 := e173
        obtain ⟨v190, e190⟩ : ∃ z, M164 598 81 = z := ⟨_, rfl⟩
        have b190 : (-1) ≤ v190 ∧ v190 ≤ 1600 := by rw [← e190]; exact hI_M164 598 81 (by decide)
        have y191 : M164 598 81 = v190 := e190
        have y192 : M164 598 89 = v160 := e175
        have y193 : M164 598 100 = v181 := e181
        exact jr.ireturn rfl rfl rfl (q _ _ hI_M164 hH_M164 hS_M164  (by omega) (Or.inl ⟨by omega, by omega⟩) (by omega) (by omega) (Or.inl (by omega)) (CP.f (CP.o (CP.o (CP.o (CP.o (CP.f hCP (fun i => w6_50 659 i (by decide)) (w6_51 90 (by decide) (by decide) (by decide))) (by decide) (Or.inl (by decide))) (by decide) (Or.inl (by decide))) (by decide) (Or.inl (by decide))) (by decide) (Or.inr (by decide))) (fun i => w164_50 659 i (by decide)) (w164_51 90 (by decide) (by decide) (by decide) (by decide) (by decide) (by decide) (by decide) (by decide) (by decide) (by decide))) (by omega) hT164 (fun _ => zr.fe zfz (by omega) (by omega)) (fun q => by exfalso; omega) (fun q => by exfalso; omega) (fun q => by omega) (fun a i f598 f659 f660 f664 f666 f667 => ((w164_50 a i f598).trans ((ju_c _ _ f598).trans ((ju_c _ _ f667).trans ((ju_c _ _ f666).trans ((ju_c _ _ f664).trans ((w6_50 a i f598).trans (hF_M a i f598 f659 f660 f664 f666 f667)))))))) (fun i g73 g74 g75 g76 g77 g78 g79 g80 g81 g89 g90 g100 g102 => ((w164_51 i g73 g74 g75 g76 g77 g78 g79 g80 g81 g100).trans ((ju_i _ _ g102).trans ((ju_c _ _ (by decide)).trans ((ju_c _ _ (by decide)).trans ((ju_c _ _ (by decide)).trans ((w6_51 i g80 g81 g89).trans (hG_M i g73 g74 g75 g76 g77 g78 g79 g80 g81 g89 g90 g100 g102)))))))))
theorem r_takeOperand_L146_z {A : Nat → Option (Nat × (Nat → Int32))} {Q : Option Value → jm → Prop} {f : Int → Int} {N : Int} {b kk : Int} {xs : ZS} {t bh : Int} {s0 : List (Int × Int × Int × Int)} {nm ak : List Int} {M0 : jm} (q : ∀ (r : Int) (M' : jm), RI M' → RH M' → RF M' → 0 ≤ r ∧ r ≤ 1 → (BS M' ∨ (GS M' b r kk ∧ TK M' < TK M0)) → TK M' ≤ TK M0 → M' 598 73 ≤ M' 598 72 → (M' 598 80 ≠ 0 ∨ TK M' < TK M0) → CP M0 M' → M0 598 89 ≤ M' 598 89 → TXr f N M' → ZFQ f N xs M' → ZOQ f N xs (2 + r) M' (abr M' s0).2 bh (abr M' s0).1 nm ak → NUQ M' → K8Q M0 M' → (∀ (a : Nat) (i : Int), a ≠ 598 → a ≠ 659 → a ≠ 660 → a ≠ 664 → a ≠ 666 → a ≠ 667 → M' a i = M0 a i) → (∀ (i : Int), i ≠ 73 → i ≠ 74 → i ≠ 75 → i ≠ 76 → i ≠ 77 → i ≠ 78 → i ≠ 79 → i ≠ 80 → i ≠ 81 → i ≠ 89 → i ≠ 90 → i ≠ 100 → i ≠ 102 → M' 598 i = M0 598 i) → Q (some (.int (Int32.ofInt r))) M') : ∀ (M : jm) , RI M → RH M → RF M → (∀ (a : Nat) (i : Int), a ≠ 598 → a ≠ 659 → a ≠ 660 → a ≠ 664 → a ≠ 666 → a ≠ 667 → M a i = M0 a i) → (∀ (i : Int), i ≠ 73 → i ≠ 74 → i ≠ 75 → i ≠ 76 → i ≠ 77 → i ≠ 78 → i ≠ 79 → i ≠ 80 → i ≠ 81 → i ≠ 89 → i ≠ 90 → i ≠ 100 → i ≠ 102 → M 598 i = M0 598 i) → GS M b 0 kk → TK M = TK M0 → CP M0 M → M 598 89 = M0 598 89 → TKr f N t M → zr f N xs (2, t, M 598 89, M 598 100, (abr M s0).2, bh, (abr M s0).1, nm, ak) → NU M → M 598 81 = M0 598 81 → M 598 74 = 1 → (M 598 76 = 10 ∨ (19 ≤ M 598 76 ∧ M 598 76 ≤ 23)) → jr A 5 xm_360 146 [(0, .ref (598))] [] M Q := by
    intro M  hI_M hH_M hS_M hF_M hG_M  hy0 hy1 hy2 hy3 hy4 hy5 hy6 hy7 hy8 hy9
    have p0 := hy0
    have hCP := hy2
    obtain ⟨gs1, gs2, gs3, gs4, gs5, gs6⟩ := id hy0
    have hE := gs2
    have sl := ES.sgle gs2
    have bb := ES.bb gs2
    have kb := ES.kz gs2
    have b107 : (0 : Int) ≤ M 598 107 ∧ M 598 107 ≤ 16 := hI_M 598 107 (by decide)
    have b73 : (0 : Int) ≤ M 598 73 ∧ M 598 73 ≤ 1600 := hI_M 598 73 (by decide)
    have b88 : (0 : Int) ≤ M 598 88 ∧ M 598 88 ≤ 16 := hI_M 598 88 (by decide)
    have b100 : (0 : Int) ≤ M 598 100 ∧ M 598 100 ≤ 13 := hI_M 598 100 (by decide)
    have hK := hy4
    have kk0 := hK.kz
    have hT := hK.1
    have hz := hy5
    have hNU := hy6
    have s0t := hK.wz hy8
    refine jr.aload_n rfl rfl ?_
    obtain ⟨v1, e1⟩ : ∃ z, M 598 80 = z := ⟨_, rfl⟩
    have b1 : 0 ≤ v1 ∧ v1 ≤ 7 := by rw [← e1]; exact hI_M 598 80 (by decide)
    obtain ⟨v2, e2⟩ : ∃ z, M 598 89 = z := ⟨_, rfl⟩
    have b2 : 0 ≤ v2 ∧ v2 ≤ 301 := by rw [← e2]; exact hI_M 598 89 (by decide)
    obtain ⟨v3, e3⟩ : ∃ z, M 598 100 = z := ⟨_, rfl⟩
    have b3 : 0 ≤ v3 ∧ v3 ≤ 13 := by rw [← e3]; exact hI_M 598 100 (by decide)
    obtain ⟨v4, e4⟩ : ∃ z, M 598 81 = z := ⟨_, rfl⟩
    have b4 : (-1) ≤ v4 ∧ v4 ≤ 1600 := by rw [← e4]; exact hI_M 598 81 (by decide)
    obtain ⟨v6, e6⟩ : ∃ z, M 598 73 = z := ⟨_, rfl⟩
    have b6 : 0 ≤ v6 ∧ v6 ≤ 1600 := by rw [← e6]; exact hI_M 598 73 (by decide)
    refine jr_v rfl rfl (Or.inl rfl) rfl rfl (by decide) rfl ⟨rfl, Nat.le_of_ble_eq_true rfl, Nat.le_of_ble_eq_true rfl⟩ rfl (jc.deep (c_node_z (f := f) (N := N) hI_M hH_M hS_M (by rw [e2]; omega) (by rw [e1]; omega) (fun M5 hI_M5 hH_M5 hS_M5 q95 ql5 q05 q15 w5_50 w5_51 => ?_) (fun M5 hI_M5 hH_M5 hS_M5 q95 ql5 q05 q15 w5_50 w5_51 => ?_)) (by decide))
    · have tk5 : TK M5 = TK M := TK.fr (w5_51 73 (by decide) (by decide) (by decide)) (w5_51 74 (by decide) (by decide) (by decide))
      have x5_72 := w5_51 72 (by decide) (by decide) (by decide)
      have x5_73 := w5_51 73 (by decide) (by decide) (by decide)
      have x5_74 := w5_51 74 (by decide) (by decide) (by decide)
      have x5_75 := w5_51 75 (by decide) (by decide) (by decide)
      have x5_76 := w5_51 76 (by decide) (by decide) (by decide)
      have x5_78 := w5_51 78 (by decide) (by decide) (by decide)
      have x5_79 := w5_51 79 (by decide) (by decide) (by decide)
      have x5_100 := w5_51 100 (by decide) (by decide) (by decide)
      have y7 : M 598 73 = v6 := e6
      have y8 : M 598 89 = v2 := e2
      have y9 : M 598 100 = v3 := e3
      have x5_73 := w5_51 73 (by decide) (by decide) (by decide)
      have x5_100 := w5_51 100 (by decide) (by decide) (by decide)
      have hE := ES.fr2 hE w5_50 (w5_51 88 (by decide) (by decide) (by decide)) (w5_51 90 (by decide) (by decide) (by decide)) (w5_51 101 (by decide) (by decide) (by decide)) (w5_51 102 (by decide) (by decide) (by decide)) (w5_51 107 (by decide) (by decide) (by decide)) (k' := kk + 4) (d' := 0) (z' := 0) (by omega) (by omega) (by omega) (by omega)
      refine jr.aload_n rfl rfl ?_
      refine jr.sipush rfl (by decide) ?_
      refine jr.aload_n rfl rfl ?_
      obtain ⟨v10, e10⟩ : ∃ z, M 598 76 = z := ⟨_, rfl⟩
      have b10 : (-1) ≤ v10 ∧ v10 ≤ 68 := by rw [← e10]; exact hI_M 598 76 (by decide)
      have e11 : M5 598 76 = v10 := ((w5_51 76 (by decide) (by decide) (by decide)).trans e10)
      refine jr.getf (i := 76) (x := v10) (v := .int (Int32.ofInt (v10))) rfl rfl (by decide) rfl (by decide) rfl rfl e11 rfl ?_
      refine jr.iadd rfl ?_
      refine jr.lconst (x := 0) rfl (by decide) ?_
      obtain ⟨v12, e12⟩ : ∃ z, M 598 90 = z := ⟨_, rfl⟩
      have b12 : 0 ≤ v12 ∧ v12 ≤ 2200 := by rw [← e12]; exact hI_M 598 90 (by decide)
      have e13 : M5 598 90 = v12 := ((w5_51 90 (by decide) (by decide) (by decide)).trans e12)
      have e14 : M5 598 100 = v3 := ((w5_51 100 (by decide) (by decide) (by decide)).trans e3)
      obtain ⟨v16, e16⟩ : ∃ z, M 598 107 = z := ⟨_, rfl⟩
      have b16 : 0 ≤ v16 ∧ v16 ≤ 16 := by rw [← e16]; exact hI_M 598 107 (by decide)
      have e17 : M5 598 107 = v16 := ((w5_51 107 (by decide) (by decide) (by decide)).trans e16)
      refine jr_v rfl rfl (Or.inl rfl) rfl rfl (by decide) rfl ⟨rfl, Nat.le_of_ble_eq_true rfl, Nat.le_of_ble_eq_true rfl⟩ rfl (jc.deep (r_emit e13 (by omega) (by omega) (by omega) ?_) (by decide))
      have y15 : M5 598 100 = v3 := e14
      have y18 : M5 598 107 = v16 := e17
      have hE := ES.emitO hE e13 (340 + v10) 0 (kk + 2) (Or.inr (Or.inr (Or.inr (by omega)))) (by omega) (by omega) (by omega)
      refine jr.aload_n rfl rfl ?_
      have e19 : M5 598 73 = v6 := ((w5_51 73 (by decide) (by decide) (by decide)).trans e6)
      obtain ⟨v20, e20⟩ : ∃ z, M 598 72 = z := ⟨_, rfl⟩
      have b20 : 0 ≤ v20 ∧ v20 ≤ 1600 := by rw [← e20]; exact hI_M 598 72 (by decide)
      have e21 : M5 598 72 = v20 := ((w5_51 72 (by decide) (by decide) (by decide)).trans e20)
      obtain ⟨v22, e22⟩ : ∃ z, M5 598 80 = z := ⟨_, rfl⟩
      have b22 : 0 ≤ v22 ∧ v22 ≤ 7 := by rw [← e22]; exact hI_M5 598 80 (by decide)
      obtain ⟨v23, e23⟩ : ∃ z, M 598 74 = z := ⟨_, rfl⟩
      have b23 : 0 ≤ v23 ∧ v23 ≤ 4 := by rw [← e23]; exact hI_M 598 74 (by decide)
      have e24 : M5 598 74 = v23 := ((w5_51 74 (by decide) (by decide) (by decide)).trans e23)
      obtain ⟨v27, e27⟩ : ∃ z, M 598 75 = z := ⟨_, rfl⟩
      have b27 : 0 ≤ v27 ∧ v27 ≤ 1600 := by rw [← e27]; exact hI_M 598 75 (by decide)
      have e28 : M5 598 75 = v27 := ((w5_51 75 (by decide) (by decide) (by decide)).trans e27)
      obtain ⟨v30, e30⟩ : ∃ z, M 598 79 = z := ⟨_, rfl⟩
      have b30 : 0 ≤ v30 ∧ v30 ≤ 255 := by rw [← e30]; exact hI_M 598 79 (by decide)
      have e31 : M5 598 79 = v30 := ((w5_51 79 (by decide) (by decide) (by decide)).trans e30)
      obtain ⟨v34, e34⟩ : ∃ z, M5 598 81 = z := ⟨_, rfl⟩
      have b34 : (-1) ≤ v34 ∧ v34 ≤ 1600 := by rw [← e34]; exact hI_M5 598 81 (by decide)
      obtain ⟨v36, e36⟩ : ∃ z, M5 598 89 = z := ⟨_, rfl⟩
      have b36 : 0 ≤ v36 ∧ v36 ≤ 301 := by rw [← e36]; exact hI_M5 598 89 (by decide)
      refine jr_v rfl rfl (Or.inl rfl) rfl rfl (by decide) rfl ⟨rfl, Nat.le_of_ble_eq_true rfl, Nat.le_of_ble_eq_true rfl⟩ rfl (jc.deep (c_next_z (f := f) (N := N) (RI.u (RI.u (RI.u hI_M5 (a := 659) (i := v12) (by rw [xri_row rfl rfl]; show (0 : Int) ≤ _ ∧ _ ≤ (1000 : Int); omega)) (a := 660) (i := v12) (by rw [xri_row rfl rfl]; show (-9223372036854775808 : Int) ≤ _ ∧ _ ≤ (9223372036854775807 : Int); omega)) (a := 598) (i := 90) (show (0 : Int) ≤ _ ∧ _ ≤ (2200 : Int) from by omega)) (RH.o (RH.o (RH.o hH_M5 (by decide) (by decide) (by decide)) (by decide) (by decide) (by decide)) (by decide) (by decide) (by decide)) (RF.o (RF.o (RF.o hS_M5 (by decide) (by decide)) (by decide) (by decide)) (by decide) (by decide)) (by rw [((ju_i _ _ (by decide)).trans ((ju_c _ _ (by decide)).trans ((ju_c _ _ (by decide)).trans e19))), ((ju_i _ _ (by decide)).trans ((ju_c _ _ (by decide)).trans ((ju_c _ _ (by decide)).trans e21)))]; omega) (TKr.oo (TKr.cc (TKr.cc (TKr.fr hK (w5_51 72 (by decide) (by decide) (by decide)) (fun i => w5_50 651 i (by decide)) (fun i => w5_50 649 i (by decide)) (fun i => w5_50 650 i (by decide)) (w5_51 73 (by decide) (by decide) (by decide)) (w5_51 74 (by decide) (by decide) (by decide)) (w5_51 75 (by decide) (by decide) (by decide)) (w5_51 76 (by decide) (by decide) (by decide)) (w5_51 77 (by decide) (by decide) (by decide)) (w5_51 78 (by decide) (by decide) (by decide)) (w5_51 79 (by decide) (by decide) (by decide))) (by decide) (by decide) (by decide) (by decide)) (by decide) (by decide) (by decide) (by decide)) (by decide)) (by rw [((ju_i _ _ (by decide)).trans ((ju_c _ _ (by decide)).trans ((ju_c _ _ (by decide)).trans e22)))]; omega) (by rw [((ju_i _ _ (by decide)).trans ((ju_c _ _ (by decide)).trans ((ju_c _ _ (by decide)).trans e24)))]; omega) (fun M39 hI_M39 hH_M39 hS_M39 qa39 qb39 qt39 sn39 hK39 w39_50 w39_51 => ?_)) (by decide))
      have y25 : (ju (ju (ju M5 659 v12 (340 + v10)) 660 v12 0) 598 90 (v12 + 1)) 598 73 = v6 := ((ju_i _ _ (by decide)).trans ((ju_c _ _ (by decide)).trans ((ju_c _ _ (by decide)).trans e19)))
      have y26 : (ju (ju (ju M5 659 v12 (340 + v10)) 660 v12 0) 598 90 (v12 + 1)) 598 74 = v23 := ((ju_i _ _ (by decide)).trans ((ju_c _ _ (by decide)).trans ((ju_c _ _ (by decide)).trans e24)))
      have y29 : (ju (ju (ju M5 659 v12 (340 + v10)) 660 v12 0) 598 90 (v12 + 1)) 598 75 = v27 := ((ju_i _ _ (by decide)).trans ((ju_c _ _ (by decide)).trans ((ju_c _ _ (by decide)).trans e28)))
      have y32 : (ju (ju (ju M5 659 v12 (340 + v10)) 660 v12 0) 598 90 (v12 + 1)) 598 79 = v30 := ((ju_i _ _ (by decide)).trans ((ju_c _ _ (by decide)).trans ((ju_c _ _ (by decide)).trans e31)))
      have y33 : (ju (ju (ju M5 659 v12 (340 + v10)) 660 v12 0) 598 90 (v12 + 1)) 598 80 = v22 := ((ju_i _ _ (by decide)).trans ((ju_c _ _ (by decide)).trans ((ju_c _ _ (by decide)).trans e22)))
      have y35 : (ju (ju (ju M5 659 v12 (340 + v10)) 660 v12 0) 598 90 (v12 + 1)) 598 81 = v34 := ((ju_i _ _ (by decide)).trans ((ju_c _ _ (by decide)).trans ((ju_c _ _ (by decide)).trans e34)))
      have y37 : (ju (ju (ju M5 659 v12 (340 + v10)) 660 v12 0) 598 90 (v12 + 1)) 598 89 = v36 := ((ju_i _ _ (by decide)).trans ((ju_c _ _ (by decide)).trans ((ju_c _ _ (by decide)).trans e36)))
      have y38 : (ju (ju (ju M5 659 v12 (340 + v10)) 660 v12 0) 598 90 (v12 + 1)) 598 100 = v3 := ((ju_i _ _ (by decide)).trans ((ju_c _ _ (by decide)).trans ((ju_c _ _ (by decide)).trans e14)))
      have tb39 : TK (ju (ju (ju M5 659 v12 (340 + v10)) 660 v12 0) 598 90 (v12 + 1)) = TK M5 := ((TK.o (Or.inr ⟨by decide, by decide⟩)).trans ((TK.o (Or.inl (by decide))).trans ((TK.o (Or.inl (by decide))).trans rfl)))
      have x39_72 := w39_51 72 (by decide) (by decide) (by decide) (by decide) (by decide) (by decide) (by decide)
      have x39_80 := w39_51 80 (by decide) (by decide) (by decide) (by decide) (by decide) (by decide) (by decide)
      have x39_81 := w39_51 81 (by decide) (by decide) (by decide) (by decide) (by decide) (by decide) (by decide)
      have x39_89 := w39_51 89 (by decide) (by decide) (by decide) (by decide) (by decide) (by decide) (by decide)
      have x39_100 := w39_51 100 (by decide) (by decide) (by decide) (by decide) (by decide) (by decide) (by decide)
      have hT39 := hK39.1
      have kk39 := hK39.kz
      have y40 : (ju (ju (ju M5 659 v12 (340 + v10)) 660 v12 0) 598 90 (v12 + 1)) 598 73 = v6 := ((ju_i _ _ (by decide)).trans ((ju_c _ _ (by decide)).trans ((ju_c _ _ (by decide)).trans e19)))
      have y41 : (ju (ju (ju M5 659 v12 (340 + v10)) 660 v12 0) 598 90 (v12 + 1)) 598 89 = v36 := ((ju_i _ _ (by decide)).trans ((ju_c _ _ (by decide)).trans ((ju_c _ _ (by decide)).trans e36)))
      have y42 : (ju (ju (ju M5 659 v12 (340 + v10)) 660 v12 0) 598 90 (v12 + 1)) 598 100 = v3 := ((ju_i _ _ (by decide)).trans ((ju_c _ _ (by decide)).trans ((ju_c _ _ (by decide)).trans e14)))
      have x39_89 := w39_51 89 (by decide) (by decide) (by decide) (by decide) (by decide) (by decide) (by decide)
      have x39_100 := w39_51 100 (by decide) (by decide) (by decide) (by decide) (by decide) (by decide) (by decide)
      have hE := ES.fr2 hE w39_50 (w39_51 88 (by decide) (by decide) (by decide) (by decide) (by decide) (by decide) (by decide)) (w39_51 90 (by decide) (by decide) (by decide) (by decide) (by decide) (by decide) (by decide)) (w39_51 101 (by decide) (by decide) (by decide) (by decide) (by decide) (by decide) (by decide)) (w39_51 102 (by decide) (by decide) (by decide) (by decide) (by decide) (by decide) (by decide)) (w39_51 107 (by decide) (by decide) (by decide) (by decide) (by decide) (by decide) (by decide)) (k' := kk + 2) (d' := 0) (z' := 0) (by omega) (by omega) (by omega) (by omega)
      refine jr.iconst rfl ?_
      have e43 : M39 598 72 = v20 := ((w39_51 72 (by decide) (by decide) (by decide) (by decide) (by decide) (by decide) (by decide)).trans ((ju_i _ _ (by decide)).trans ((ju_c _ _ (by decide)).trans ((ju_c _ _ (by decide)).trans e21))))
      have y44 : M39 598 72 = v20 := e43
      obtain ⟨v45, e45⟩ : ∃ z, M39 598 73 = z := ⟨_, rfl⟩
      have b45 : 0 ≤ v45 ∧ v45 ≤ 1600 := by rw [← e45]; exact hI_M39 598 73 (by decide)
      have y46 : M39 598 73 = v45 := e45
      obtain ⟨v47, e47⟩ : ∃ z, M39 598 74 = z := ⟨_, rfl⟩
      have b47 : 0 ≤ v47 ∧ v47 ≤ 4 := by rw [← e47]; exact hI_M39 598 74 (by decide)
      have y48 : M39 598 74 = v47 := e47
      obtain ⟨v49, e49⟩ : ∃ z, M39 598 79 = z := ⟨_, rfl⟩
      have b49 : 0 ≤ v49 ∧ v49 ≤ 255 := by rw [← e49]; exact hI_M39 598 79 (by decide)
      have y50 : M39 598 79 = v49 := e49
      have e51 : M39 598 80 = v22 := ((w39_51 80 (by decide) (by decide) (by decide) (by decide) (by decide) (by decide) (by decide)).trans ((ju_i _ _ (by decide)).trans ((ju_c _ _ (by decide)).trans ((ju_c _ _ (by decide)).trans e22))))
      have y52 : M39 598 80 = v22 := e51
      have e53 : M39 598 89 = v36 := ((w39_51 89 (by decide) (by decide) (by decide) (by decide) (by decide) (by decide) (by decide)).trans ((ju_i _ _ (by decide)).trans ((ju_c _ _ (by decide)).trans ((ju_c _ _ (by decide)).trans e36))))
      have y54 : M39 598 89 = v36 := e53
      have e55 : M39 598 90 = v12 + 1 := ((w39_51 90 (by decide) (by decide) (by decide) (by decide) (by decide) (by decide) (by decide)).trans (ju_same _ _ _ _))
      have y56 : M39 598 90 = v12 + 1 := e55
      have e57 : M39 598 100 = v3 := ((w39_51 100 (by decide) (by decide) (by decide) (by decide) (by decide) (by decide) (by decide)).trans ((ju_i _ _ (by decide)).trans ((ju_c _ _ (by decide)).trans ((ju_c _ _ (by decide)).trans e14))))
      have y58 : M39 598 100 = v3 := e57
      have e59 : M39 598 107 = v16 := ((w39_51 107 (by decide) (by decide) (by decide) (by decide) (by decide) (by decide) (by decide)).trans ((ju_i _ _ (by decide)).trans ((ju_c _ _ (by decide)).trans ((ju_c _ _ (by decide)).trans e17))))
      have y60 : M39 598 107 = v16 := e59
      obtain ⟨v61, e61⟩ : ∃ z, M39 598 75 = z := ⟨_, rfl⟩
      have b61 : 0 ≤ v61 ∧ v61 ≤ 1600 := by rw [← e61]; exact hI_M39 598 75 (by decide)
      have y62 : M39 598 75 = v61 := e61
      have y63 : M39 598 80 = v22 := e51
      have e64 : M39 598 81 = v34 := ((w39_51 81 (by decide) (by decide) (by decide) (by decide) (by decide) (by decide) (by decide)).trans ((ju_i _ _ (by decide)).trans ((ju_c _ _ (by decide)).trans ((ju_c _ _ (by decide)).trans e34))))
      have y65 : M39 598 81 = v34 := e64
      have y66 : M39 598 89 = v36 := e53
      have y67 : M39 598 100 = v3 := e57
      exact jr.ireturn rfl rfl rfl (q _ _ hI_M39 hH_M39 hS_M39  (by omega) (Or.inr ⟨⟨by omega, ES.adj hE (k' := kk) (z' := 0) (by omega) (by omega) (by omega), by omega, by omega, by omega, by omega⟩, by omega⟩) (by omega) (by omega) (Or.inr (by omega)) (CP.f (CP.emit (CP.f hCP (fun i => w5_50 659 i (by decide)) (w5_51 90 (by decide) (by decide) (by decide))) e13) (fun i => w39_50 659 i (by decide)) (w39_51 90 (by decide) (by decide) (by decide) (by decide) (by decide) (by decide) (by decide))) (by omega) hT39 (fun q => by exfalso; omega) (fun _ => ⟨_, hK39, zr.eqx (zr.wtm hz s0t.1 (by omega) (by omega)) (by omega) rfl (by omega) (by omega) rfl ((abr_fr s0 (fun i => w39_50 664 i (by decide)) (fun i => w39_50 666 i (by decide)) (fun i => w39_50 667 i (by decide)) (w39_51 102 (by decide) (by decide) (by decide) (by decide) (by decide) (by decide) (by decide))).trans ((abr_fr s0 (fun i => ju_c _ _ (by decide)) (fun i => ju_c _ _ (by decide)) (fun i => ju_c _ _ (by decide)) (ju_i _ _ (by decide))).trans ((abr_fr s0 (fun i => ju_c _ _ (by decide)) (fun i => ju_c _ _ (by decide)) (fun i => ju_c _ _ (by decide)) (ju_c _ _ (by decide))).trans ((abr_fr s0 (fun i => ju_c _ _ (by decide)) (fun i => ju_c _ _ (by decide)) (fun i => ju_c _ _ (by decide)) (ju_c _ _ (by decide))).trans ((abr_fr s0 (fun i => w5_50 664 i (by decide)) (fun i => w5_50 666 i (by decide)) (fun i => w5_50 667 i (by decide)) (w5_51 102 (by decide) (by decide) (by decide))).trans rfl)))))⟩) (fun _ => (NU.fr (NU.fr (NU.fr (NU.fr (NU.fr hNU (fun i => w5_50 664 i (by decide)) (w5_51 102 (by decide) (by decide) (by decide))) (fun i => ju_c _ _ (by decide)) (ju_c _ _ (by decide))) (fun i => ju_c _ _ (by decide)) (ju_c _ _ (by decide))) (fun i => ju_c _ _ (by decide)) (ju_i _ _ (by decide))) (fun i => w39_50 664 i (by decide)) (w39_51 102 (by decide) (by decide) (by decide) (by decide) (by decide) (by decide) (by decide)))) (fun q => by omega) (fun a i f598 f659 f660 f664 f666 f667 => ((w39_50 a i f598).trans ((ju_c _ _ f598).trans ((ju_c _ _ f660).trans ((ju_c _ _ f659).trans ((w5_50 a i f598).trans (hF_M a i f598 f659 f660 f664 f666 f667))))))) (fun i g73 g74 g75 g76 g77 g78 g79 g80 g81 g89 g90 g100 g102 => ((w39_51 i g73 g74 g75 g76 g77 g78 g79).trans ((ju_i _ _ g90).trans ((ju_c _ _ (by decide)).trans ((ju_c _ _ (by decide)).trans ((w5_51 i g80 g81 g89).trans (hG_M i g73 g74 g75 g76 g77 g78 g79 g80 g81 g89 g90 g100 g102))))))))
    · have tk5 : TK M5 = TK M := TK.fr (w5_51 73 (by decide) (by decide) (by decide)) (w5_51 74 (by decide) (by decide) (by decide))
      have x5_72 := w5_51 72 (by decide) (by decide) (by decide)
      have x5_73 := w5_51 73 (by decide) (by decide) (by decide)
      have x5_74 := w5_51 74 (by decide) (by decide) (by decide)
      have x5_75 := w5_51 75 (by decide) (by decide) (by decide)
      have x5_76 := w5_51 76 (by decide) (by decide) (by decide)
      have x5_78 := w5_51 78 (by decide) (by decide) (by decide)
      have x5_79 := w5_51 79 (by decide) (by decide) (by decide)
      have x5_100 := w5_51 100 (by decide) (by decide) (by decide)
      have zfz : zr f N xs (zft (M5 598 80) (M5 598 81)) := zr.fe (zr.wk hz s0t.1 (by omega) (by omega)) (by omega) (by omega)
      refine jr.aload_n rfl rfl ?_
      refine jr.sipush rfl (by decide) ?_
      refine jr.aload_n rfl rfl ?_
      obtain ⟨v68, e68⟩ : ∃ z, M 598 76 = z := ⟨_, rfl⟩
      have b68 : (-1) ≤ v68 ∧ v68 ≤ 68 := by rw [← e68]; exact hI_M 598 76 (by decide)
      have e69 : M5 598 76 = v68 := ((w5_51 76 (by decide) (by decide) (by decide)).trans e68)
      refine jr.getf (i := 76) (x := v68) (v := .int (Int32.ofInt (v68))) rfl rfl (by decide) rfl (by decide) rfl rfl e69 rfl ?_
      refine jr.iadd rfl ?_
      refine jr.lconst (x := 0) rfl (by decide) ?_
      obtain ⟨v70, e70⟩ : ∃ z, M 598 90 = z := ⟨_, rfl⟩
      have b70 : 0 ≤ v70 ∧ v70 ≤ 2200 := by rw [← e70]; exact hI_M 598 90 (by decide)
      have e71 : M5 598 90 = v70 := ((w5_51 90 (by decide) (by decide) (by decide)).trans e70)
      refine jr_v rfl rfl (Or.inl rfl) rfl rfl (by decide) rfl ⟨rfl, Nat.le_of_ble_eq_true rfl, Nat.le_of_ble_eq_true rfl⟩ rfl (jc.deep (r_emit e71 (by omega) (by omega) (by omega) ?_) (by decide))
      refine jr.aload_n rfl rfl ?_
      have e72 : M5 598 73 = v6 := ((w5_51 73 (by decide) (by decide) (by decide)).trans e6)
      obtain ⟨v73, e73⟩ : ∃ z, M 598 72 = z := ⟨_, rfl⟩
      have b73 : 0 ≤ v73 ∧ v73 ≤ 1600 := by rw [← e73]; exact hI_M 598 72 (by decide)
      have e74 : M5 598 72 = v73 := ((w5_51 72 (by decide) (by decide) (by decide)).trans e73)
      obtain ⟨v75, e75⟩ : ∃ z, M5 598 80 = z := ⟨_, rfl⟩
      have b75 : 0 ≤ v75 ∧ v75 ≤ 7 := by rw [← e75]; exact hI_M5 598 80 (by decide)
      obtain ⟨v77, e77⟩ : ∃ z, M 598 74 = z := ⟨_, rfl⟩
      have b77 : 0 ≤ v77 ∧ v77 ≤ 4 := by rw [← e77]; exact hI_M 598 74 (by decide)
      have e78 : M5 598 74 = v77 := ((w5_51 74 (by decide) (by decide) (by decide)).trans e77)
      obtain ⟨v80, e80⟩ : ∃ z, M 598 75 = z := ⟨_, rfl⟩
      have b80 : 0 ≤ v80 ∧ v80 ≤ 1600 := by rw [← e80]; exact hI_M 598 75 (by decide)
      have e81 : M5 598 75 = v80 := ((w5_51 75 (by decide) (by decide) (by decide)).trans e80)
      obtain ⟨v83, e83⟩ : ∃ z, M 598 79 = z := ⟨_, rfl⟩
      have b83 : 0 ≤ v83 ∧ v83 ≤ 255 := by rw [← e83]; exact hI_M 598 79 (by decide)
      have e84 : M5 598 79 = v83 := ((w5_51 79 (by decide) (by decide) (by decide)).trans e83)
      obtain ⟨v87, e87⟩ : ∃ z, M5 598 81 = z := ⟨_, rfl⟩
      have b87 : (-1) ≤ v87 ∧ v87 ≤ 1600 := by rw [← e87]; exact hI_M5 598 81 (by decide)
      obtain ⟨v89, e89⟩ : ∃ z, M5 598 89 = z := ⟨_, rfl⟩
      have b89 : 0 ≤ v89 ∧ v89 ≤ 301 := by rw [← e89]; exact hI_M5 598 89 (by decide)
      have e91 : M5 598 100 = v3 := ((w5_51 100 (by decide) (by decide) (by decide)).trans e3)
      refine jr_v rfl rfl (Or.inl rfl) rfl rfl (by decide) rfl ⟨rfl, Nat.le_of_ble_eq_true rfl, Nat.le_of_ble_eq_true rfl⟩ rfl (jc.deep (d_next_z (f := f) (N := N) (RI.u (RI.u (RI.u hI_M5 (a := 659) (i := v70) (by rw [xri_row rfl rfl]; show (0 : Int) ≤ _ ∧ _ ≤ (1000 : Int); omega)) (a := 660) (i := v70) (by rw [xri_row rfl rfl]; show (-9223372036854775808 : Int) ≤ _ ∧ _ ≤ (9223372036854775807 : Int); omega)) (a := 598) (i := 90) (show (0 : Int) ≤ _ ∧ _ ≤ (2200 : Int) from by omega)) (RH.o (RH.o (RH.o hH_M5 (by decide) (by decide) (by decide)) (by decide) (by decide) (by decide)) (by decide) (by decide) (by decide)) (RF.o (RF.o (RF.o hS_M5 (by decide) (by decide)) (by decide) (by decide)) (by decide) (by decide)) (by rw [((ju_i _ _ (by decide)).trans ((ju_c _ _ (by decide)).trans ((ju_c _ _ (by decide)).trans e72))), ((ju_i _ _ (by decide)).trans ((ju_c _ _ (by decide)).trans ((ju_c _ _ (by decide)).trans e74)))]; omega) (TXr.o (TXr.k (TXr.k (TXr.fr hT (w5_51 72 (by decide) (by decide) (by decide)) (fun i => w5_50 651 i (by decide)) (fun i => w5_50 649 i (by decide)) (fun i => w5_50 650 i (by decide))) (by decide) (by decide) (by decide) (by decide)) (by decide) (by decide) (by decide) (by decide)) (by decide)) (by rw [((ju_i _ _ (by decide)).trans ((ju_c _ _ (by decide)).trans ((ju_c _ _ (by decide)).trans e75)))]; omega) (fun M93 hI_M93 hH_M93 hS_M93 qa93 qb93 qt93 hT93 w93_50 w93_51 => ?_)) (by decide))
      have y76 : (ju (ju (ju M5 659 v70 (340 + v68)) 660 v70 0) 598 90 (v70 + 1)) 598 73 = v6 := ((ju_i _ _ (by decide)).trans ((ju_c _ _ (by decide)).trans ((ju_c _ _ (by decide)).trans e72)))
      have y79 : (ju (ju (ju M5 659 v70 (340 + v68)) 660 v70 0) 598 90 (v70 + 1)) 598 74 = v77 := ((ju_i _ _ (by decide)).trans ((ju_c _ _ (by decide)).trans ((ju_c _ _ (by decide)).trans e78)))
      have y82 : (ju (ju (ju M5 659 v70 (340 + v68)) 660 v70 0) 598 90 (v70 + 1)) 598 75 = v80 := ((ju_i _ _ (by decide)).trans ((ju_c _ _ (by decide)).trans ((ju_c _ _ (by decide)).trans e81)))
      have y85 : (ju (ju (ju M5 659 v70 (340 + v68)) 660 v70 0) 598 90 (v70 + 1)) 598 79 = v83 := ((ju_i _ _ (by decide)).trans ((ju_c _ _ (by decide)).trans ((ju_c _ _ (by decide)).trans e84)))
      have y86 : (ju (ju (ju M5 659 v70 (340 + v68)) 660 v70 0) 598 90 (v70 + 1)) 598 80 = v75 := ((ju_i _ _ (by decide)).trans ((ju_c _ _ (by decide)).trans ((ju_c _ _ (by decide)).trans e75)))
      have y88 : (ju (ju (ju M5 659 v70 (340 + v68)) 660 v70 0) 598 90 (v70 + 1)) 598 81 = v87 := ((ju_i _ _ (by decide)).trans ((ju_c _ _ (by decide)).trans ((ju_c _ _ (by decide)).trans e87)))
      have y90 : (ju (ju (ju M5 659 v70 (340 + v68)) 660 v70 0) 598 90 (v70 + 1)) 598 89 = v89 := ((ju_i _ _ (by decide)).trans ((ju_c _ _ (by decide)).trans ((ju_c _ _ (by decide)).trans e89)))
      have y92 : (ju (ju (ju M5 659 v70 (340 + v68)) 660 v70 0) 598 90 (v70 + 1)) 598 100 = v3 := ((ju_i _ _ (by decide)).trans ((ju_c _ _ (by decide)).trans ((ju_c _ _ (by decide)).trans e91)))
      have tb93 : TK (ju (ju (ju M5 659 v70 (340 + v68)) 660 v70 0) 598 90 (v70 + 1)) = TK M5 := ((TK.o (Or.inr ⟨by decide, by decide⟩)).trans ((TK.o (Or.inl (by decide))).trans ((TK.o (Or.inl (by decide))).trans rfl)))
      have x93_72 := w93_51 72 (by decide) (by decide) (by decide) (by decide) (by decide) (by decide) (by decide)
      have x93_80 := w93_51 80 (by decide) (by decide) (by decide) (by decide) (by decide) (by decide) (by decide)
      have x93_81 := w93_51 81 (by decide) (by decide) (by decide) (by decide) (by decide) (by decide) (by decide)
      have x93_89 := w93_51 89 (by decide) (by decide) (by decide) (by decide) (by decide) (by decide) (by decide)
      have x93_100 := w93_51 100 (by decide) (by decide) (by decide) (by decide) (by decide) (by decide) (by decide)
      have zfz : zr f N xs (zft (M93 598 80) (M93 598 81)) := zr.fe zfz (by omega) (by omega)
      refine jr.iconst rfl ?_
      have e94 : M93 598 72 = v73 := ((w93_51 72 (by decide) (by decide) (by decide) (by decide) (by decide) (by decide) (by decide)).trans ((ju_i _ _ (by decide)).trans ((ju_c _ _ (by decide)).trans ((ju_c _ _ (by decide)).trans e74))))
      have y95 : M93 598 72 = v73 := e94
      obtain ⟨v96, e96⟩ : ∃ z, M93 598 73 = z := ⟨_, rfl⟩
      have b96 : 0 ≤ v96 ∧ v96 ≤ 1600 := by rw [← e96]; exact hI_M93 598 73 (by decide)
      have y97 : M93 598 73 = v96 := e96
      obtain ⟨v98, e98⟩ : ∃ z, M93 598 74 = z := ⟨_, rfl⟩
      have b98 : 0 ≤ v98 ∧ v98 ≤ 4 := by rw [← e98]; exact hI_M93 598 74 (by decide)
      have y99 : M93 598 74 = v98 := e98
      obtain ⟨v100, e100⟩ : ∃ z, M93 598 79 = z := ⟨_, rfl⟩
      have b100 : 0 ≤ v100 ∧ v100 ≤ 255 := by rw [← e100]; exact hI_M93 598 79 (by decide)
      have y101 : M93 598 79 = v100 := e100
      have e102 : M93 598 80 = v75 := ((w93_51 80 (by decide) (by decide) (by decide) (by decide) (by decide) (by decide) (by decide)).trans ((ju_i _ _ (by decide)).trans ((ju_c _ _ (by decide)).trans ((ju_c _ _ (by decide)).trans e75))))
      have y103 : M93 598 80 = v75 := e102
      have e104 : M93 598 89 = v89 := ((w93_51 89 (by decide) (by decide) (by decide) (by decide) (by decide) (by decide) (by decide)).trans ((ju_i _ _ (by decide)).trans ((ju_c _ _ (by decide)).trans ((ju_c _ _ (by decide)).trans e89))))
      have y105 : M93 598 89 = v89 := e104
      have e106 : M93 598 90 = v70 + 1 := ((w93_51 90 (by decide) (by decide) (by decide) (by decide) (by decide) (by decide) (by decide)).trans (ju_same _ _ _ _))
      have y107 : M93 598 90 = v70 + 1 := e106
      have e108 : M93 598 100 = v3 := ((w93_51 100 (by decide) (by decide) (by decide) (by decide) (by decide) (by decide) (by decide)).trans ((ju_i _ _ (by decide)).trans ((ju_c _ _ (by decide)).trans ((ju_c _ _ (by decide)).trans e91))))
      have y109 : M93 598 100 = v3 := e108
      obtain ⟨v110, e110⟩ : ∃ z, M 598 107 = z := ⟨_, rfl⟩
      have b110 : 0 ≤ v110 ∧ v110 ≤ 16 := by rw [← e110]; exact hI_M 598 107 (by decide)
      have e111 : M5 598 107 = v110 := ((w5_51 107 (by decide) (by decide) (by decide)).trans e110)
      have e112 : M93 598 107 = v110 := ((w93_51 107 (by decide) (by decide) (by decide) (by decide) (by decide) (by decide) (by decide)).trans ((ju_i _ _ (by decide)).trans ((ju_c _ _ (by decide)).trans ((ju_c _ _ (by decide)).trans e111))))
      have y113 : M93 598 107 = v110 := e112
      obtain ⟨v114, e114⟩ : ∃ z, M93 598 75 = z := ⟨_, rfl⟩
      have b114 : 0 ≤ v114 ∧ v114 ≤ 1600 := by rw [← e114]; exact hI_M93 598 75 (by decide)
      have y115 : M93 598 75 = v114 := e114
      have y116 : M93 598 80 = v75 := e102
      have e117 : M93 598 81 = v87 := ((w93_51 81 (by decide) (by decide) (by decide) (by decide) (by decide) (by decide) (by decide)).trans ((ju_i _ _ (by decide)).trans ((ju_c _ _ (by decide)).trans ((ju_c _ _ (by decide)).trans e87))))
      have y118 : M93 598 81 = v87 := e117
      have y119 : M93 598 89 = v89 := e104
      have y120 : M93 598 100 = v3 := e108
      exact jr.ireturn rfl rfl rfl (q _ _ hI_M93 hH_M93 hS_M93  (by omega) (Or.inl ⟨by omega, by omega⟩) (by omega) (by omega) (Or.inl (by omega)) (CP.f (CP.emit (CP.f hCP (fun i => w5_50 659 i (by decide)) (w5_51 90 (by decide) (by decide) (by decide))) e71) (fun i => w93_50 659 i (by decide)) (w93_51 90 (by decide) (by decide) (by decide) (by decide) (by decide) (by decide) (by decide))) (by omega) hT93 (fun _ => zr.fe zfz (by omega) (by omega)) (fun q => by exfalso; omega) (fun q => by exfalso; omega) (fun q => by omega) (fun a i f598 f659 f660 f664 f666 f667 => ((w93_50 a i f598).trans ((ju_c _ _ f598).trans ((ju_c _ _ f660).trans ((ju_c _ _ f659).trans ((w5_50 a i f598).trans (hF_M a i f598 f659 f660 f664 f666 f667))))))) (fun i g73 g74 g75 g76 g77 g78 g79 g80 g81 g89 g90 g100 g102 => ((w93_51 i g73 g74 g75 g76 g77 g78 g79).trans ((ju_i _ _ g90).trans ((ju_c _ _ (by decide)).trans ((ju_c _ _ (by decide)).trans ((w5_51 i g80 g81 g89).trans (hG_M i g73 g74 g75 g76 g77 g78 g79 g80 g81 g89 g90 g100 g102))))))))
theorem r_takeOperand_L86_z {A : Nat → Option (Nat × (Nat → Int32))} {Q : Option Value → jm → Prop} {f : Int → Int} {N : Int} {b kk : Int} {xs : ZS} {t bh : Int} {s0 : List (Int × Int × Int × Int)} {nm ak : List Int} {M0 : jm} (q : ∀ (r : Int) (M' : jm), RI M' → RH M' → RF M' → 0 ≤ r ∧ r ≤ 1 → (BS M' ∨ (GS M' b r kk ∧ TK M' < TK M0)) → TK M' ≤ TK M0 → M' 598 73 ≤ M' 598 72 → (M' 598 80 ≠ 0 ∨ TK M' < TK M0) → CP M0 M' → M0 598 89 ≤ M' 598 89 → TXr f N M' → ZFQ f N xs M' → ZOQ f N xs (2 + r) M' (abr M' s0).2 bh (abr M' s0).1 nm ak → NUQ M' → K8Q M0 M' → (∀ (a : Nat) (i : Int), a ≠ 598 → a ≠ 659 → a ≠ 660 → a ≠ 664 → a ≠ 666 → a ≠ 667 → M' a i = M0 a i) → (∀ (i : Int), i ≠ 73 → i ≠ 74 → i ≠ 75 → i ≠ 76 → i ≠ 77 → i ≠ 78 → i ≠ 79 → i ≠ 80 → i ≠ 81 → i ≠ 89 → i ≠ 90 → i ≠ 100 → i ≠ 102 → M' 598 i = M0 598 i) → Q (some (.int (Int32.ofInt r))) M') : ∀ (M : jm) , RI M → RH M → RF M → (∀ (a : Nat) (i : Int), a ≠ 598 → a ≠ 659 → a ≠ 660 → a ≠ 664 → a ≠ 666 → a ≠ 667 → M a i = M0 a i) → (∀ (i : Int), i ≠ 73 → i ≠ 74 → i ≠ 75 → i ≠ 76 → i ≠ 77 → i ≠ 78 → i ≠ 79 → i ≠ 80 → i ≠ 81 → i ≠ 89 → i ≠ 90 → i ≠ 100 → i ≠ 102 → M 598 i = M0 598 i) → GS M b 0 kk → TK M = TK M0 → CP M0 M → M 598 89 = M0 598 89 → TKr f N t M → zr f N xs (2, t, M 598 89, M 598 100, (abr M s0).2, bh, (abr M s0).1, nm, ak) → NU M → M 598 81 = M0 598 81 → M 598 74 = 2 → jr A 5 xm_360 86 [(0, .ref (598))] [] M Q := by
    intro M  hI_M hH_M hS_M hF_M hG_M  hy0 hy1 hy2 hy3 hy4 hy5 hy6 hy7 hy8
    have p0 := hy0
    have hCP := hy2
    obtain ⟨gs1, gs2, gs3, gs4, gs5, gs6⟩ := id hy0
    have hE := gs2
    have sl := ES.sgle gs2
    have bb := ES.bb gs2
    have kb := ES.kz gs2
    have b107 : (0 : Int) ≤ M 598 107 ∧ M 598 107 ≤ 16 := hI_M 598 107 (by decide)
    have b73 : (0 : Int) ≤ M 598 73 ∧ M 598 73 ≤ 1600 := hI_M 598 73 (by decide)
    have b88 : (0 : Int) ≤ M 598 88 ∧ M 598 88 ≤ 16 := hI_M 598 88 (by decide)
    have b100 : (0 : Int) ≤ M 598 100 ∧ M 598 100 ≤ 13 := hI_M 598 100 (by decide)
    have hK := hy4
    have kk0 := hK.kz
    have hT := hK.1
    have hz := hy5
    have hNU := hy6
    have s0t := hK.uz hy8
    refine jr.aload_n rfl rfl ?_
    obtain ⟨v1, e1⟩ : ∃ z, M 598 80 = z := ⟨_, rfl⟩
    have b1 : 0 ≤ v1 ∧ v1 ≤ 7 := by rw [← e1]; exact hI_M 598 80 (by decide)
    obtain ⟨v2, e2⟩ : ∃ z, M 598 89 = z := ⟨_, rfl⟩
    have b2 : 0 ≤ v2 ∧ v2 ≤ 301 := by rw [← e2]; exact hI_M 598 89 (by decide)
    obtain ⟨v3, e3⟩ : ∃ z, M 598 100 = z := ⟨_, rfl⟩
    have b3 : 0 ≤ v3 ∧ v3 ≤ 13 := by rw [← e3]; exact hI_M 598 100 (by decide)
    obtain ⟨v4, e4⟩ : ∃ z, M 598 81 = z := ⟨_, rfl⟩
    have b4 : (-1) ≤ v4 ∧ v4 ≤ 1600 := by rw [← e4]; exact hI_M 598 81 (by decide)
    obtain ⟨v6, e6⟩ : ∃ z, M 598 73 = z := ⟨_, rfl⟩
    have b6 : 0 ≤ v6 ∧ v6 ≤ 1600 := by rw [← e6]; exact hI_M 598 73 (by decide)
    refine jr_v rfl rfl (Or.inl rfl) rfl rfl (by decide) rfl ⟨rfl, Nat.le_of_ble_eq_true rfl, Nat.le_of_ble_eq_true rfl⟩ rfl (jc.deep (c_node_z (f := f) (N := N) hI_M hH_M hS_M (by rw [e2]; omega) (by rw [e1]; omega) (fun M5 hI_M5 hH_M5 hS_M5 q95 ql5 q05 q15 w5_50 w5_51 => ?_) (fun M5 hI_M5 hH_M5 hS_M5 q95 ql5 q05 q15 w5_50 w5_51 => ?_)) (by decide))
    · have tk5 : TK M5 = TK M := TK.fr (w5_51 73 (by decide) (by decide) (by decide)) (w5_51 74 (by decide) (by decide) (by decide))
      have x5_72 := w5_51 72 (by decide) (by decide) (by decide)
      have x5_73 := w5_51 73 (by decide) (by decide) (by decide)
      have x5_74 := w5_51 74 (by decide) (by decide) (by decide)
      have x5_75 := w5_51 75 (by decide) (by decide) (by decide)
      have x5_76 := w5_51 76 (by decide) (by decide) (by decide)
      have x5_78 := w5_51 78 (by decide) (by decide) (by decide)
      have x5_79 := w5_51 79 (by decide) (by decide) (by decide)
      have x5_100 := w5_51 100 (by decide) (by decide) (by decide)
      have y7 : M 598 73 = v6 := e6
      have y8 : M 598 89 = v2 := e2
      have y9 : M 598 100 = v3 := e3
      have x5_73 := w5_51 73 (by decide) (by decide) (by decide)
      have x5_100 := w5_51 100 (by decide) (by decide) (by decide)
      have hE := ES.fr2 hE w5_50 (w5_51 88 (by decide) (by decide) (by decide)) (w5_51 90 (by decide) (by decide) (by decide)) (w5_51 101 (by decide) (by decide) (by decide)) (w5_51 102 (by decide) (by decide) (by decide)) (w5_51 107 (by decide) (by decide) (by decide)) (k' := kk + 4) (d' := 0) (z' := 0) (by omega) (by omega) (by omega) (by omega)
      refine jr.aload_n rfl rfl ?_
      obtain ⟨v10, e10⟩ : ∃ z, M 598 78 = z := ⟨_, rfl⟩
      have b10 : (-9223372036854775808) ≤ v10 ∧ v10 ≤ 9223372036854775807 := by rw [← e10]; exact hI_M 598 78 (by decide)
      have e11 : M5 598 78 = v10 := ((w5_51 78 (by decide) (by decide) (by decide)).trans e10)
      refine jr.getf (i := 78) (x := v10) (v := .long (Int64.ofInt (v10))) rfl rfl (by decide) rfl (by decide) rfl rfl e11 rfl ?_
      refine jr.ldc2 (x := 4294967295) rfl rfl (by decide) ?_
      refine jr.lcmp_le rfl rfl rfl (by omega) (by omega) (fun h97 => ?_) (fun h97 => ?_)
      · refine jr.aload_n rfl rfl ?_
        refine jr.iconst rfl ?_
        refine jr.aload_n rfl rfl ?_
        refine jr.getf (i := 78) (x := v10) (v := .long (Int64.ofInt (v10))) rfl rfl (by decide) rfl (by decide) rfl rfl e11 rfl ?_
        obtain ⟨v12, e12⟩ : ∃ z, M 598 90 = z := ⟨_, rfl⟩
        have b12 : 0 ≤ v12 ∧ v12 ≤ 2200 := by rw [← e12]; exact hI_M 598 90 (by decide)
        have e13 : M5 598 90 = v12 := ((w5_51 90 (by decide) (by decide) (by decide)).trans e12)
        have e14 : M5 598 100 = v3 := ((w5_51 100 (by decide) (by decide) (by decide)).trans e3)
        obtain ⟨v16, e16⟩ : ∃ z, M 598 107 = z := ⟨_, rfl⟩
        have b16 : 0 ≤ v16 ∧ v16 ≤ 16 := by rw [← e16]; exact hI_M 598 107 (by decide)
        have e17 : M5 598 107 = v16 := ((w5_51 107 (by decide) (by decide) (by decide)).trans e16)
        refine jr_v rfl rfl (Or.inl rfl) rfl rfl (by decide) rfl ⟨rfl, Nat.le_of_ble_eq_true rfl, Nat.le_of_ble_eq_true rfl⟩ rfl (jc.deep (r_emit e13 (by omega) (by omega) (by omega) ?_) (by decide))
        have y15 : M5 598 100 = v3 := e14
        have y18 : M5 598 107 = v16 := e17
        have hE := ES.emitO hE e13 4 v10 (kk + 2) (Or.inl rfl) (by omega) (by omega) (by omega)
        refine jr.aload_n rfl rfl ?_
        have e19 : M5 598 73 = v6 := ((w5_51 73 (by decide) (by decide) (by decide)).trans e6)
        obtain ⟨v20, e20⟩ : ∃ z, M 598 72 = z := ⟨_, rfl⟩
        have b20 : 0 ≤ v20 ∧ v20 ≤ 1600 := by rw [← e20]; exact hI_M 598 72 (by decide)
        have e21 : M5 598 72 = v20 := ((w5_51 72 (by decide) (by decide) (by decide)).trans e20)
        obtain ⟨v22, e22⟩ : ∃ z, M5 598 80 = z := ⟨_, rfl⟩
        have b22 : 0 ≤ v22 ∧ v22 ≤ 7 := by rw [← e22]; exact hI_M5 598 80 (by decide)
        obtain ⟨v23, e23⟩ : ∃ z, M 598 74 = z := ⟨_, rfl⟩
        have b23 : 0 ≤ v23 ∧ v23 ≤ 4 := by rw [← e23]; exact hI_M 598 74 (by decide)
        have e24 : M5 598 74 = v23 := ((w5_51 74 (by decide) (by decide) (by decide)).trans e23)
        obtain ⟨v27, e27⟩ : ∃ z, M 598 75 = z := ⟨_, rfl⟩
        have b27 : 0 ≤ v27 ∧ v27 ≤ 1600 := by rw [← e27]; exact hI_M 598 75 (by decide)
        have e28 : M5 598 75 = v27 := ((w5_51 75 (by decide) (by decide) (by decide)).trans e27)
        obtain ⟨v30, e30⟩ : ∃ z, M 598 79 = z := ⟨_, rfl⟩
        have b30 : 0 ≤ v30 ∧ v30 ≤ 255 := by rw [← e30]; exact hI_M 598 79 (by decide)
        have e31 : M5 598 79 = v30 := ((w5_51 79 (by decide) (by decide) (by decide)).trans e30)
        obtain ⟨v34, e34⟩ : ∃ z, M5 598 81 = z := ⟨_, rfl⟩
        have b34 : (-1) ≤ v34 ∧ v34 ≤ 1600 := by rw [← e34]; exact hI_M5 598 81 (by decide)
        obtain ⟨v36, e36⟩ : ∃ z, M5 598 89 = z := ⟨_, rfl⟩
        have b36 : 0 ≤ v36 ∧ v36 ≤ 301 := by rw [← e36]; exact hI_M5 598 89 (by decide)
        refine jr_v rfl rfl (Or.inl rfl) rfl rfl (by decide) rfl ⟨rfl, Nat.le_of_ble_eq_true rfl, Nat.le_of_ble_eq_true rfl⟩ rfl (jc.deep (c_next_z (f := f) (N := N) (RI.u (RI.u (RI.u hI_M5 (a := 659) (i := v12) (by rw [xri_row rfl rfl]; show (0 : Int) ≤ _ ∧ _ ≤ (1000 : Int); omega)) (a := 660) (i := v12) (by rw [xri_row rfl rfl]; show (-9223372036854775808 : Int) ≤ _ ∧ _ ≤ (9223372036854775807 : Int); omega)) (a := 598) (i := 90) (show (0 : Int) ≤ _ ∧ _ ≤ (2200 : Int) from by omega)) (RH.o (RH.o (RH.o hH_M5 (by decide) (by decide) (by decide)) (by decide) (by decide) (by decide)) (by decide) (by decide) (by decide)) (RF.o (RF.o (RF.o hS_M5 (by decide) (by decide)) (by decide) (by decide)) (by decide) (by decide)) (by rw [((ju_i _ _ (by decide)).trans ((ju_c _ _ (by decide)).trans ((ju_c _ _ (by decide)).trans e19))), ((ju_i _ _ (by decide)).trans ((ju_c _ _ (by decide)).trans ((ju_c _ _ (by decide)).trans e21)))]; omega) (TKr.oo (TKr.cc (TKr.cc (TKr.fr hK (w5_51 72 (by decide) (by decide) (by decide)) (fun i => w5_50 651 i (by decide)) (fun i => w5_50 649 i (by decide)) (fun i => w5_50 650 i (by decide)) (w5_51 73 (by decide) (by decide) (by decide)) (w5_51 74 (by decide) (by decide) (by decide)) (w5_51 75 (by decide) (by decide) (by decide)) (w5_51 76 (by decide) (by decide) (by decide)) (w5_51 77 (by decide) (by decide) (by decide)) (w5_51 78 (by decide) (by decide) (by decide)) (w5_51 79 (by decide) (by decide) (by decide))) (by decide) (by decide) (by decide) (by decide)) (by decide) (by decide) (by decide) (by decide)) (by decide)) (by rw [((ju_i _ _ (by decide)).trans ((ju_c _ _ (by decide)).trans ((ju_c _ _ (by decide)).trans e22)))]; omega) (by rw [((ju_i _ _ (by decide)).trans ((ju_c _ _ (by decide)).trans ((ju_c _ _ (by decide)).trans e24)))]; omega) (fun M39 hI_M39 hH_M39 hS_M39 qa39 qb39 qt39 sn39 hK39 w39_50 w39_51 => ?_)) (by decide))
        have y25 : (ju (ju (ju M5 659 v12 4) 660 v12 v10) 598 90 (v12 + 1)) 598 73 = v6 := ((ju_i _ _ (by decide)).trans ((ju_c _ _ (by decide)).trans ((ju_c _ _ (by decide)).trans e19)))
        have y26 : (ju (ju (ju M5 659 v12 4) 660 v12 v10) 598 90 (v12 + 1)) 598 74 = v23 := ((ju_i _ _ (by decide)).trans ((ju_c _ _ (by decide)).trans ((ju_c _ _ (by decide)).trans e24)))
        have y29 : (ju (ju (ju M5 659 v12 4) 660 v12 v10) 598 90 (v12 + 1)) 598 75 = v27 := ((ju_i _ _ (by decide)).trans ((ju_c _ _ (by decide)).trans ((ju_c _ _ (by decide)).trans e28)))
        have y32 : (ju (ju (ju M5 659 v12 4) 660 v12 v10) 598 90 (v12 + 1)) 598 79 = v30 := ((ju_i _ _ (by decide)).trans ((ju_c _ _ (by decide)).trans ((ju_c _ _ (by decide)).trans e31)))
        have y33 : (ju (ju (ju M5 659 v12 4) 660 v12 v10) 598 90 (v12 + 1)) 598 80 = v22 := ((ju_i _ _ (by decide)).trans ((ju_c _ _ (by decide)).trans ((ju_c _ _ (by decide)).trans e22)))
        have y35 : (ju (ju (ju M5 659 v12 4) 660 v12 v10) 598 90 (v12 + 1)) 598 81 = v34 := ((ju_i _ _ (by decide)).trans ((ju_c _ _ (by decide)).trans ((ju_c _ _ (by decide)).trans e34)))
        have y37 : (ju (ju (ju M5 659 v12 4) 660 v12 v10) 598 90 (v12 + 1)) 598 89 = v36 := ((ju_i _ _ (by decide)).trans ((ju_c _ _ (by decide)).trans ((ju_c _ _ (by decide)).trans e36)))
        have y38 : (ju (ju (ju M5 659 v12 4) 660 v12 v10) 598 90 (v12 + 1)) 598 100 = v3 := ((ju_i _ _ (by decide)).trans ((ju_c _ _ (by decide)).trans ((ju_c _ _ (by decide)).trans e14)))
        have tb39 : TK (ju (ju (ju M5 659 v12 4) 660 v12 v10) 598 90 (v12 + 1)) = TK M5 := ((TK.o (Or.inr ⟨by decide, by decide⟩)).trans ((TK.o (Or.inl (by decide))).trans ((TK.o (Or.inl (by decide))).trans rfl)))
        have x39_72 := w39_51 72 (by decide) (by decide) (by decide) (by decide) (by decide) (by decide) (by decide)
        have x39_80 := w39_51 80 (by decide) (by decide) (by decide) (by decide) (by decide) (by decide) (by decide)
        have x39_81 := w39_51 81 (by decide) (by decide) (by decide) (by decide) (by decide) (by decide) (by decide)
        have x39_89 := w39_51 89 (by decide) (by decide) (by decide) (by decide) (by decide) (by decide) (by decide)
        have x39_100 := w39_51 100 (by decide) (by decide) (by decide) (by decide) (by decide) (by decide) (by decide)
        have hT39 := hK39.1
        have kk39 := hK39.kz
        have y40 : (ju (ju (ju M5 659 v12 4) 660 v12 v10) 598 90 (v12 + 1)) 598 73 = v6 := ((ju_i _ _ (by decide)).trans ((ju_c _ _ (by decide)).trans ((ju_c _ _ (by decide)).trans e19)))
        have y41 : (ju (ju (ju M5 659 v12 4) 660 v12 v10) 598 90 (v12 + 1)) 598 89 = v36 := ((ju_i _ _ (by decide)).trans ((ju_c _ _ (by decide)).trans ((ju_c _ _ (by decide)).trans e36)))
        have y42 : (ju (ju (ju M5 659 v12 4) 660 v12 v10) 598 90 (v12 + 1)) 598 100 = v3 := ((ju_i _ _ (by decide)).trans ((ju_c _ _ (by decide)).trans ((ju_c _ _ (by decide)).trans e14)))
        have x39_89 := w39_51 89 (by decide) (by decide) (by decide) (by decide) (by decide) (by decide) (by decide)
        have x39_100 := w39_51 100 (by decide) (by decide) (by decide) (by decide) (by decide) (by decide) (by decide)
        have hE := ES.fr2 hE w39_50 (w39_51 88 (by decide) (by decide) (by decide) (by decide) (by decide) (by decide) (by decide)) (w39_51 90 (by decide) (by decide) (by decide) (by decide) (by decide) (by decide) (by decide)) (w39_51 101 (by decide) (by decide) (by decide) (by decide) (by decide) (by decide) (by decide)) (w39_51 102 (by decide) (by decide) (by decide) (by decide) (by decide) (by decide) (by decide)) (w39_51 107 (by decide) (by decide) (by decide) (by decide) (by decide) (by decide) (by decide)) (k' := kk + 2) (d' := 0) (z' := 0) (by omega) (by omega) (by omega) (by omega)
        refine jr.iconst rfl ?_
        have e43 : M39 598 72 = v20 := ((w39_51 72 (by decide) (by decide) (by decide) (by decide) (by decide) (by decide) (by decide)).trans ((ju_i _ _ (by decide)).trans ((ju_c _ _ (by decide)).trans ((ju_c _ _ (by decide)).trans e21))))
        have y44 : M39 598 72 = v20 := e43
        obtain ⟨v45, e45⟩ : ∃ z, M39 598 73 = z := ⟨_, rfl⟩
        have b45 : 0 ≤ v45 ∧ v45 ≤ 1600 := by rw [← e45]; exact hI_M39 598 73 (by decide)
        have y46 : M39 598 73 = v45 := e45
        obtain ⟨v47, e47⟩ : ∃ z, M39 598 74 = z := ⟨_, rfl⟩
        have b47 : 0 ≤ v47 ∧ v47 ≤ 4 := by rw [← e47]; exact hI_M39 598 74 (by decide)
        have y48 : M39 598 74 = v47 := e47
        obtain ⟨v49, e49⟩ : ∃ z, M39 598 79 = z := ⟨_, rfl⟩
        have b49 : 0 ≤ v49 ∧ v49 ≤ 255 := by rw [← e49]; exact hI_M39 598 79 (by decide)
        have y50 : M39 598 79 = v49 := e49
        have e51 : M39 598 80 = v22 := ((w39_51 80 (by decide) (by decide) (by decide) (by decide) (by decide) (by decide) (by decide)).trans ((ju_i _ _ (by decide)).trans ((ju_c _ _ (by decide)).trans ((ju_c _ _ (by decide)).trans e22))))
        have y52 : M39 598 80 = v22 := e51
        have e53 : M39 598 89 = v36 := ((w39_51 89 (by decide) (by decide) (by decide) (by decide) (by decide) (by decide) (by decide)).trans ((ju_i _ _ (by decide)).trans ((ju_c _ _ (by decide)).trans ((ju_c _ _ (by decide)).trans e36))))
        have y54 : M39 598 89 = v36 := e53
        have e55 : M39 598 90 = v12 + 1 := ((w39_51 90 (by decide) (by decide) (by decide) (by decide) (by decide) (by decide) (by decide)).trans (ju_same _ _ _ _))
        have y56 : M39 598 90 = v12 + 1 := e55
        have e57 : M39 598 100 = v3 := ((w39_51 100 (by decide) (by decide) (by decide) (by decide) (by decide) (by decide) (by decide)).trans ((ju_i _ _ (by decide)).trans ((ju_c _ _ (by decide)).trans ((ju_c _ _ (by decide)).trans e14))))
        have y58 : M39 598 100 = v3 := e57
        have e59 : M39 598 107 = v16 := ((w39_51 107 (by decide) (by decide) (by decide) (by decide) (by decide) (by decide) (by decide)).trans ((ju_i _ _ (by decide)).trans ((ju_c _ _ (by decide)).trans ((ju_c _ _ (by decide)).trans e17))))
        have y60 : M39 598 107 = v16 := e59
        obtain ⟨v61, e61⟩ : ∃ z, M39 598 75 = z := ⟨_, rfl⟩
        have b61 : 0 ≤ v61 ∧ v61 ≤ 1600 := by rw [← e61]; exact hI_M39 598 75 (by decide)
        have y62 : M39 598 75 = v61 := e61
        have y63 : M39 598 80 = v22 := e51
        have e64 : M39 598 81 = v34 := ((w39_51 81 (by decide) (by decide) (by decide) (by decide) (by decide) (by decide) (by decide)).trans ((ju_i _ _ (by decide)).trans ((ju_c _ _ (by decide)).trans ((ju_c _ _ (by decide)).trans e34))))
        have y65 : M39 598 81 = v34 := e64
        have y66 : M39 598 89 = v36 := e53
        have y67 : M39 598 100 = v3 := e57
        exact jr.ireturn rfl rfl rfl (q _ _ hI_M39 hH_M39 hS_M39  (by omega) (Or.inr ⟨⟨by omega, ES.adj hE (k' := kk) (z' := 0) (by omega) (by omega) (by omega), by omega, by omega, by omega, by omega⟩, by omega⟩) (by omega) (by omega) (Or.inr (by omega)) (CP.f (CP.emit (CP.f hCP (fun i => w5_50 659 i (by decide)) (w5_51 90 (by decide) (by decide) (by decide))) e13) (fun i => w39_50 659 i (by decide)) (w39_51 90 (by decide) (by decide) (by decide) (by decide) (by decide) (by decide) (by decide))) (by omega) hT39 (fun q => by exfalso; omega) (fun _ => ⟨_, hK39, zr.eqx (zr.num hz s0t.1 (by omega) (by omega)) (by omega) rfl (by omega) (by omega) rfl ((abr_fr s0 (fun i => w39_50 664 i (by decide)) (fun i => w39_50 666 i (by decide)) (fun i => w39_50 667 i (by decide)) (w39_51 102 (by decide) (by decide) (by decide) (by decide) (by decide) (by decide) (by decide))).trans ((abr_fr s0 (fun i => ju_c _ _ (by decide)) (fun i => ju_c _ _ (by decide)) (fun i => ju_c _ _ (by decide)) (ju_i _ _ (by decide))).trans ((abr_fr s0 (fun i => ju_c _ _ (by decide)) (fun i => ju_c _ _ (by decide)) (fun i => ju_c _ _ (by decide)) (ju_c _ _ (by decide))).trans ((abr_fr s0 (fun i => ju_c _ _ (by decide)) (fun i => ju_c _ _ (by decide)) (fun i => ju_c _ _ (by decide)) (ju_c _ _ (by decide))).trans ((abr_fr s0 (fun i => w5_50 664 i (by decide)) (fun i => w5_50 666 i (by decide)) (fun i => w5_50 667 i (by decide)) (w5_51 102 (by decide) (by decide) (by decide))).trans rfl)))))⟩) (fun _ => (NU.fr (NU.fr (NU.fr (NU.fr (NU.fr hNU (fun i => w5_50 664 i (by decide)) (w5_51 102 (by decide) (by decide) (by decide))) (fun i => ju_c _ _ (by decide)) (ju_c _ _ (by decide))) (fun i => ju_c _ _ (by decide)) (ju_c _ _ (by decide))) (fun i => ju_c _ _ (by decide)) (ju_i _ _ (by decide))) (fun i => w39_50 664 i (by decide)) (w39_51 102 (by decide) (by decide) (by decide) (by decide) (by decide) (by decide) (by decide)))) (fun q => by omega) (fun a i f598 f659 f660 f664 f666 f667 => ((w39_50 a i f598).trans ((ju_c _ _ f598).trans ((ju_c _ _ f660).trans ((ju_c _ _ f659).trans ((w5_50 a i f598).trans (hF_M a i f598 f659 f660 f664 f666 f667))))))) (fun i g73 g74 g75 g76 g77 g78 g79 g80 g81 g89 g90 g100 g102 => ((w39_51 i g73 g74 g75 g76 g77 g78 g79).trans ((ju_i _ _ g90).trans ((ju_c _ _ (by decide)).trans ((ju_c _ _ (by decide)).trans ((w5_51 i g80 g81 g89).trans (hG_M i g73 g74 g75 g76 g77 g78 g79 g80 g81 g89 g90 g100 g102))))))))
      · refine jr.aload_n rfl rfl ?_
        refine jr.bipush rfl (by decide) ?_
        refine jr.aload_n rfl rfl ?_
        obtain ⟨v68, e68⟩ : ∃ z, M 598 75 = z := ⟨_, rfl⟩
        have b68 : 0 ≤ v68 ∧ v68 ≤ 1600 := by rw [← e68]; exact hI_M 598 75 (by decide)
        have e69 : M5 598 75 = v68 := ((w5_51 75 (by decide) (by decide) (by decide)).trans e68)
        refine jr.getf (i := 75) (x := v68) (v := .int (Int32.ofInt (v68))) rfl rfl (by decide) rfl (by decide) rfl rfl e69 rfl ?_
        obtain ⟨v70, e70⟩ : ∃ z, M5 598 80 = z := ⟨_, rfl⟩
        have b70 : 0 ≤ v70 ∧ v70 ≤ 7 := by rw [← e70]; exact hI_M5 598 80 (by decide)
        obtain ⟨v71, e71⟩ : ∃ z, M5 598 89 = z := ⟨_, rfl⟩
        have b71 : 0 ≤ v71 ∧ v71 ≤ 301 := by rw [← e71]; exact hI_M5 598 89 (by decide)
        have e72 : M5 598 100 = v3 := ((w5_51 100 (by decide) (by decide) (by decide)).trans e3)
        obtain ⟨v73, e73⟩ : ∃ z, M5 598 81 = z := ⟨_, rfl⟩
        have b73 : (-1) ≤ v73 ∧ v73 ≤ 1600 := by rw [← e73]; exact hI_M5 598 81 (by decide)
        refine jr_v rfl rfl (Or.inl rfl) rfl rfl (by decide) rfl ⟨rfl, Nat.le_of_ble_eq_true rfl, Nat.le_of_ble_eq_true rfl⟩ rfl (jc.deep (c_fails_z (f := f) (N := N) hI_M5 hH_M5 hS_M5 (by omega) (by omega) (by rw [e70]; omega) (fun M74 hI_M74 hH_M74 hS_M74 qn74 q074 q174 w74_50 w74_51 => ?_)) (by decide))
        have tk74 : TK M74 = TK M5 := TK.fr (w74_51 73 (by decide) (by decide)) (w74_51 74 (by decide) (by decide))
        have x74_72 := w74_51 72 (by decide) (by decide)
        have x74_73 := w74_51 73 (by decide) (by decide)
        have x74_74 := w74_51 74 (by decide) (by decide)
        have x74_75 := w74_51 75 (by decide) (by decide)
        have x74_76 := w74_51 76 (by decide) (by decide)
        have x74_78 := w74_51 78 (by decide) (by decide)
        have x74_79 := w74_51 79 (by decide) (by decide)
        have x74_89 := w74_51 89 (by decide) (by decide)
        have x74_100 := w74_51 100 (by decide) (by decide)
        have zfz : zr f N xs (zft (M74 598 80) (M74 598 81)) := zr.fe (zr.numg hz s0t.1 (by omega) (by omega)) (by omega) (by omega)
        refine jr.aload_n rfl rfl ?_
        refine jr.iconst rfl ?_
        refine jr.aload_n rfl rfl ?_
        have e75 : M74 598 78 = v10 := ((w74_51 78 (by decide) (by decide)).trans e11)
        refine jr.getf (i := 78) (x := v10) (v := .long (Int64.ofInt (v10))) rfl rfl (by decide) rfl (by decide) rfl rfl e75 rfl ?_
        obtain ⟨v76, e76⟩ : ∃ z, M 598 90 = z := ⟨_, rfl⟩
        have b76 : 0 ≤ v76 ∧ v76 ≤ 2200 := by rw [← e76]; exact hI_M 598 90 (by decide)
        have e77 : M5 598 90 = v76 := ((w5_51 90 (by decide) (by decide) (by decide)).trans e76)
        have e78 : M74 598 90 = v76 := ((w74_51 90 (by decide) (by decide)).trans e77)
        refine jr_v rfl rfl (Or.inl rfl) rfl rfl (by decide) rfl ⟨rfl, Nat.le_of_ble_eq_true rfl, Nat.le_of_ble_eq_true rfl⟩ rfl (jc.deep (r_emit e78 (by omega) (by omega) (by omega) ?_) (by decide))
        refine jr.aload_n rfl rfl ?_
        have e79 : M5 598 73 = v6 := ((w5_51 73 (by decide) (by decide) (by decide)).trans e6)
        have e80 : M74 598 73 = v6 := ((w74_51 73 (by decide) (by decide)).trans e79)
        obtain ⟨v81, e81⟩ : ∃ z, M 598 72 = z := ⟨_, rfl⟩
        have b81 : 0 ≤ v81 ∧ v81 ≤ 1600 := by rw [← e81]; exact hI_M 598 72 (by decide)
        have e82 : M5 598 72 = v81 := ((w5_51 72 (by decide) (by decide) (by decide)).trans e81)
        have e83 : M74 598 72 = v81 := ((w74_51 72 (by decide) (by decide)).trans e82)
        obtain ⟨v84, e84⟩ : ∃ z, M74 598 80 = z := ⟨_, rfl⟩
        have b84 : 0 ≤ v84 ∧ v84 ≤ 7 := by rw [← e84]; exact hI_M74 598 80 (by decide)
        obtain ⟨v86, e86⟩ : ∃ z, M 598 74 = z := ⟨_, rfl⟩
        have b86 : 0 ≤ v86 ∧ v86 ≤ 4 := by rw [← e86]; exact hI_M 598 74 (by decide)
        have e87 : M5 598 74 = v86 := ((w5_51 74 (by decide) (by decide) (by decide)).trans e86)
        have e88 : M74 598 74 = v86 := ((w74_51 74 (by decide) (by decide)).trans e87)
        have e90 : M74 598 75 = v68 := ((w74_51 75 (by decide) (by decide)).trans e69)
        obtain ⟨v92, e92⟩ : ∃ z, M 598 79 = z := ⟨_, rfl⟩
        have b92 : 0 ≤ v92 ∧ v92 ≤ 255 := by rw [← e92]; exact hI_M 598 79 (by decide)
        have e93 : M5 598 79 = v92 := ((w5_51 79 (by decide) (by decide) (by decide)).trans e92)
        have e94 : M74 598 79 = v92 := ((w74_51 79 (by decide) (by decide)).trans e93)
        obtain ⟨v97, e97⟩ : ∃ z, M74 598 81 = z := ⟨_, rfl⟩
        have b97 : (-1) ≤ v97 ∧ v97 ≤ 1600 := by rw [← e97]; exact hI_M74 598 81 (by decide)
        have e99 : M74 598 89 = v71 := ((w74_51 89 (by decide) (by decide)).trans e71)
        have e101 : M74 598 100 = v3 := ((w74_51 100 (by decide) (by decide)).trans e72)
        refine jr_v rfl rfl (Or.inl rfl) rfl rfl (by decide) rfl ⟨rfl, Nat.le_of_ble_eq_true rfl, Nat.le_of_ble_eq_true rfl⟩ rfl (jc.deep (d_next_z (f := f) (N := N) (RI.u (RI.u (RI.u hI_M74 (a := 659) (i := v76) (by rw [xri_row rfl rfl]; show (0 : Int) ≤ _ ∧ _ ≤ (1000 : Int); omega)) (a := 660) (i := v76) (by rw [xri_row rfl rfl]; show (-9223372036854775808 : Int) ≤ _ ∧ _ ≤ (9223372036854775807 : Int); omega)) (a := 598) (i := 90) (show (0 : Int) ≤ _ ∧ _ ≤ (2200 : Int) from by omega)) (RH.o (RH.o (RH.o hH_M74 (by decide) (by decide) (by decide)) (by decide) (by decide) (by decide)) (by decide) (by decide) (by decide)) (RF.o (RF.o (RF.o hS_M74 (by decide) (by decide)) (by decide) (by decide)) (by decide) (by decide)) (by rw [((ju_i _ _ (by decide)).trans ((ju_c _ _ (by decide)).trans ((ju_c _ _ (by decide)).trans e80))), ((ju_i _ _ (by decide)).trans ((ju_c _ _ (by decide)).trans ((ju_c _ _ (by decide)).trans e83)))]; omega) (TXr.o (TXr.k (TXr.k (TXr.fr (TXr.fr hT (w5_51 72 (by decide) (by decide) (by decide)) (fun i => w5_50 651 i (by decide)) (fun i => w5_50 649 i (by decide)) (fun i => w5_50 650 i (by decide))) (w74_51 72 (by decide) (by decide)) (fun i => w74_50 651 i (by decide)) (fun i => w74_50 649 i (by decide)) (fun i => w74_50 650 i (by decide))) (by decide) (by decide) (by decide) (by decide)) (by decide) (by decide) (by decide) (by decide)) (by decide)) (by rw [((ju_i _ _ (by decide)).trans ((ju_c _ _ (by decide)).trans ((ju_c _ _ (by decide)).trans e84)))]; omega) (fun M103 hI_M103 hH_M103 hS_M103 qa103 qb103 qt103 hT103 w103_50 w103_51 => ?_)) (by decide))
        have y85 : (ju (ju (ju M74 659 v76 4) 660 v76 v10) 598 90 (v76 + 1)) 598 73 = v6 := ((ju_i _ _ (by decide)).trans ((ju_c _ _ (by decide)).trans ((ju_c _ _ (by decide)).trans e80)))
        have y89 : (ju (ju (ju M74 659 v76 4) 660 v76 v10) 598 90 (v76 + 1)) 598 74 = v86 := ((ju_i _ _ (by decide)).trans ((ju_c _ _ (by decide)).trans ((ju_c _ _ (by decide)).trans e88)))
        have y91 : (ju (ju (ju M74 659 v76 4) 660 v76 v10) 598 90 (v76 + 1)) 598 75 = v68 := ((ju_i _ _ (by decide)).trans ((ju_c _ _ (by decide)).trans ((ju_c _ _ (by decide)).trans e90)))
        have y95 : (ju (ju (ju M74 659 v76 4) 660 v76 v10) 598 90 (v76 + 1)) 598 79 = v92 := ((ju_i _ _ (by decide)).trans ((ju_c _ _ (by decide)).trans ((ju_c _ _ (by decide)).trans e94)))
        have y96 : (ju (ju (ju M74 659 v76 4) 660 v76 v10) 598 90 (v76 + 1)) 598 80 = v84 := ((ju_i _ _ (by decide)).trans ((ju_c _ _ (by decide)).trans ((ju_c _ _ (by decide)).trans e84)))
        have y98 : (ju (ju (ju M74 659 v76 4) 660 v76 v10) 598 90 (v76 + 1)) 598 81 = v97 := ((ju_i _ _ (by decide)).trans ((ju_c _ _ (by decide)).trans ((ju_c _ _ (by decide)).trans e97)))
        have y100 : (ju (ju (ju M74 659 v76 4) 660 v76 v10) 598 90 (v76 + 1)) 598 89 = v71 := ((ju_i _ _ (by decide)).trans ((ju_c _ _ (by decide)).trans ((ju_c _ _ (by decide)).trans e99)))
        have y102 : (ju (ju (ju M74 659 v76 4) 660 v76 v10) 598 90 (v76 + 1)) 598 100 = v3 := ((ju_i _ _ (by decide)).trans ((ju_c _ _ (by decide)).trans ((ju_c _ _ (by decide)).trans e101)))
        have tb103 : TK (ju (ju (ju M74 659 v76 4) 660 v76 v10) 598 90 (v76 + 1)) = TK M74 := ((TK.o (Or.inr ⟨by decide, by decide⟩)).trans ((TK.o (Or.inl (by decide))).trans ((TK.o (Or.inl (by decide))).trans rfl)))
        have x103_72 := w103_51 72 (by decide) (by decide) (by decide) (by decide) (by decide) (by decide) (by decide)
        have x103_80 := w103_51 80 (by decide) (by decide) (by decide) (by decide) (by decide) (by decide) (by decide)
        have x103_81 := w103_51 81 (by decide) (by decide) (by decide) (by decide) (by decide) (by decide) (by decide)
        have x103_89 := w103_51 89 (by decide) (by decide) (by decide) (by decide) (by decide) (by decide) (by decide)
        have x103_100 := w103_51 100 (by decide) (by decide) (by decide) (by decide) (by decide) (by decide) (by decide)
        have zfz : zr f N xs (zft (M103 598 80) (M103 598 81)) := zr.fe zfz (by omega) (by omega)
        refine jr.iconst rfl ?_
        have e104 : M103 598 72 = v81 := ((w103_51 72 (by decide) (by decide) (by decide) (by decide) (by decide) (by decide) (by decide)).trans ((ju_i _ _ (by decide)).trans ((ju_c _ _ (by decide)).trans ((ju_c _ _ (by decide)).trans e83))))
        have y105 : M103 598 72 = v81 := e104
        obtain ⟨v106, e106⟩ : ∃ z, M103 598 73 = z := ⟨_, rfl⟩
        have b106 : 0 ≤ v106 ∧ v106 ≤ 1600 := by rw [← e106]; exact hI_M103 598 73 (by decide)
        have y107 : M103 598 73 = v106 := e106
        obtain ⟨v108, e108⟩ : ∃ z, M103 598 74 = z := ⟨_, rfl⟩
        have b108 : 0 ≤ v108 ∧ v108 ≤ 4 := by rw [← e108]; exact hI_M103 598 74 (by decide)
        have y109 : M103 598 74 = v108 := e108
        obtain ⟨v110, e110⟩ : ∃ z, M103 598 79 = z := ⟨_, rfl⟩
        have b110 : 0 ≤ v110 ∧ v110 ≤ 255 := by rw [← e110]; exact hI_M103 598 79 (by decide)
        have y111 : M103 598 79 = v110 := e110
        have e112 : M103 598 80 = v84 := ((w103_51 80 (by decide) (by decide) (by decide) (by decide) (by decide) (by decide) (by decide)).trans ((ju_i _ _ (by decide)).trans ((ju_c _ _ (by decide)).trans ((ju_c _ _ (by decide)).trans e84))))
        have y113 : M103 598 80 = v84 := e112
        have e114 : M103 598 89 = v71 := ((w103_51 89 (by decide) (by decide) (by decide) (by decide) (by decide) (by decide) (by decide)).trans ((ju_i _ _ (by decide)).trans ((ju_c _ _ (by decide)).trans ((ju_c _ _ (by decide)).trans e99))))
        have y115 : M103 598 89 = v71 := e114
        have e116 : M103 598 90 = v76 + 1 := ((w103_51 90 (by decide) (by decide) (by decide) (by decide) (by decide) (by decide) (by decide)).trans (ju_same _ _ _ _))
        have y117 : M103 598 90 = v76 + 1 := e116
        have e118 : M103 598 100 = v3 := ((w103_51 100 (by decide) (by decide) (by decide) (by decide) (by decide) (by decide) (by decide)).trans ((ju_i _ _ (by decide)).trans ((ju_c _ _ (by decide)).trans ((ju_c _ _ (by decide)).trans e101))))
        have y119 : M103 598 100 = v3 := e118
        obtain ⟨v120, e120⟩ : ∃ z, M 598 107 = z := ⟨_, rfl⟩
        have b120 : 0 ≤ v120 ∧ v120 ≤ 16 := by rw [← e120]; exact hI_M 598 107 (by decide)
        have e121 : M5 598 107 = v120 := ((w5_51 107 (by decide) (by decide) (by decide)).trans e120)
        have e122 : M74 598 107 = v120 := ((w74_51 107 (by decide) (by decide)).trans e121)
        have e123 : M103 598 107 = v120 := ((w103_51 107 (by decide) (by decide) (by decide) (by decide) (by decide) (by decide) (by decide)).trans ((ju_i _ _ (by decide)).trans ((ju_c _ _ (by decide)).trans ((ju_c _ _ (by decide)).trans e122))))
        have y124 : M103 598 107 = v120 := e123
        obtain ⟨v125, e125⟩ : ∃ z, M103 598 75 = z := ⟨_, rfl⟩
        have b125 : 0 ≤ v125 ∧ v125 ≤ 1600 := by rw [← e125]; exact hI_M103 598 75 (by decide)
        have y126 : M103 598 75 = v125 := e125
        have y127 : M103 598 80 = v84 := e112
        have e128 : M103 598 81 = v97 := ((w103_51 81 (by decide) (by decide) (by decide) (by decide) (by decide) (by decide) (by decide)).trans ((ju_i _ _ (by decide)).trans ((ju_c _ _ (by decide)).trans ((ju_c _ _ (by decide)).trans e97))))
        have y129 : M103 598 81 = v97 := e128
        have y130 : M103 598 89 = v71 := e114
        have y131 : M103 598 100 = v3 := e118
        exact jr.ireturn rfl rfl rfl (q _ _ hI_M103 hH_M103 hS_M103  (by omega) (Or.inl ⟨by omega, by omega⟩) (by omega) (by omega) (Or.inl (by omega)) (CP.f (CP.emit (CP.f (CP.f hCP (fun i => w5_50 659 i (by decide)) (w5_51 90 (by decide) (by decide) (by decide))) (fun i => w74_50 659 i (by decide)) (w74_51 90 (by decide) (by decide))) e78) (fun i => w103_50 659 i (by decide)) (w103_51 90 (by decide) (by decide) (by decide) (by decide) (by decide) (by decide) (by decide))) (by omega) hT103 (fun _ => zr.fe zfz (by omega) (by omega)) (fun q => by exfalso; omega) (fun q => by exfalso; omega) (fun q => by omega) (fun a i f598 f659 f660 f664 f666 f667 => ((w103_50 a i f598).trans ((ju_c _ _ f598).trans ((ju_c _ _ f660).trans ((ju_c _ _ f659).trans ((w74_50 a i f598).trans ((w5_50 a i f598).trans (hF_M a i f598 f659 f660 f664 f666 f667)))))))) (fun i g73 g74 g75 g76 g77 g78 g79 g80 g81 g89 g90 g100 g102 => ((w103_51 i g73 g74 g75 g76 g77 g78 g79).trans ((ju_i _ _ g90).trans ((ju_c _ _ (by decide)).trans ((ju_c _ _ (by decide)).trans ((w74_51 i g80 g81).trans ((w5_51 i g80 g81 g89).trans (hG_M i g73 g74 g75 g76 g77 g78 g79 g80 g81 g89 g90 g100 g102)))))))))
    · have tk5 : TK M5 = TK M := TK.fr (w5_51 73 (by decide) (by decide) (by decide)) (w5_51 74 (by decide) (by decide) (by decide))
      have x5_72 := w5_51 72 (by decide) (by decide) (by decide)
      have x5_73 := w5_51 73 (by decide) (by decide) (by decide)
      have x5_74 := w5_51 74 (by decide) (by decide) (by decide)
      have x5_75 := w5_51 75 (by decide) (by decide) (by decide)
      have x5_76 := w5_51 76 (by decide) (by decide) (by decide)
      have x5_78 := w5_51 78 (by decide) (by decide) (by decide)
      have x5_79 := w5_51 79 (by decide) (by decide) (by decide)
      have x5_100 := w5_51 100 (by decide) (by decide) (by decide)
      have zfz : zr f N xs (zft (M5 598 80) (M5 598 81)) := zr.fe (zr.numk hz s0t.1 (by omega)) (by omega) (by omega)
      refine jr.aload_n rfl rfl ?_
      obtain ⟨v132, e132⟩ : ∃ z, M 598 78 = z := ⟨_, rfl⟩
      have b132 : (-9223372036854775808) ≤ v132 ∧ v132 ≤ 9223372036854775807 := by rw [← e132]; exact hI_M 598 78 (by decide)
      have e133 : M5 598 78 = v132 := ((w5_51 78 (by decide) (by decide) (by decide)).trans e132)
      refine jr.getf (i := 78) (x := v132) (v := .long (Int64.ofInt (v132))) rfl rfl (by decide) rfl (by decide) rfl rfl e133 rfl ?_
      refine jr.ldc2 (x := 4294967295) rfl rfl (by decide) ?_
      refine jr.lcmp_le rfl rfl rfl (by omega) (by omega) (fun h97 => ?_) (fun h97 => ?_)
      · refine jr.aload_n rfl rfl ?_
        refine jr.iconst rfl ?_
        refine jr.aload_n rfl rfl ?_
        refine jr.getf (i := 78) (x := v132) (v := .long (Int64.ofInt (v132))) rfl rfl (by decide) rfl (by decide) rfl rfl e133 rfl ?_
        obtain ⟨v134, e134⟩ : ∃ z, M 598 90 = z := ⟨_, rfl⟩
        have b134 : 0 ≤ v134 ∧ v134 ≤ 2200 := by rw [← e134]; exact hI_M 598 90 (by decide)
        have e135 : M5 598 90 = v134 := ((w5_51 90 (by decide) (by decide) (by decide)).trans e134)
        refine jr_v rfl rfl (Or.inl rfl) rfl rfl (by decide) rfl ⟨rfl, Nat.le_of_ble_eq_true rfl, Nat.le_of_ble_eq_true rfl⟩ rfl (jc.deep (r_emit e135 (by omega) (by omega) (by omega) ?_) (by decide))
        refine jr.aload_n rfl rfl ?_
        have e136 : M5 598 73 = v6 := ((w5_51 73 (by decide) (by decide) (by decide)).trans e6)
        obtain ⟨v137, e137⟩ : ∃ z, M 598 72 = z := ⟨_, rfl⟩
        have b137 : 0 ≤ v137 ∧ v137 ≤ 1600 := by rw [← e137]; exact hI_M 598 72 (by decide)
        have e138 : M5 598 72 = v137 := ((w5_51 72 (by decide) (by decide) (by decide)).trans e137)
        obtain ⟨v139, e139⟩ : ∃ z, M5 598 80 = z := ⟨_, rfl⟩
        have b139 : 0 ≤ v139 ∧ v139 ≤ 7 := by rw [← e139]; exact hI_M5 598 80 (by decide)
        obtain ⟨v141, e141⟩ : ∃ z, M 598 74 = z := ⟨_, rfl⟩
        have b141 : 0 ≤ v141 ∧ v141 ≤ 4 := by rw [← e141]; exact hI_M 598 74 (by decide)
        have e142 : M5 598 74 = v141 := ((w5_51 74 (by decide) (by decide) (by decide)).trans e141)
        obtain ⟨v144, e144⟩ : ∃ z, M 598 75 = z := ⟨_, rfl⟩
        have b144 : 0 ≤ v144 ∧ v144 ≤ 1600 := by rw [← e144]; exact hI_M 598 75 (by decide)
        have e145 : M5 598 75 = v144 := ((w5_51 75 (by decide) (by decide) (by decide)).trans e144)
        obtain ⟨v147, e147⟩ : ∃ z, M 598 79 = z := ⟨_, rfl⟩
        have b147 : 0 ≤ v147 ∧ v147 ≤ 255 := by rw [← e147]; exact hI_M 598 79 (by decide)
        have e148 : M5 598 79 = v147 := ((w5_51 79 (by decide) (by decide) (by decide)).trans e147)
        obtain ⟨v151, e151⟩ : ∃ z, M5 598 81 = z := ⟨_, rfl⟩
        have b151 : (-1) ≤ v151 ∧ v151 ≤ 1600 := by rw [← e151]; exact hI_M5 598 81 (by decide)
        obtain ⟨v153, e153⟩ : ∃ z, M5 598 89 = z := ⟨_, rfl⟩
        have b153 : 0 ≤ v153 ∧ v153 ≤ 301 := by rw [← e153]; exact hI_M5 598 89 (by decide)
        have e155 : M5 598 100 = v3 := ((w5_51 100 (by decide) (by decide) (by decide)).trans e3)
        refine jr_v rfl rfl (Or.inl rfl) rfl rfl (by decide) rfl ⟨rfl, Nat.le_of_ble_eq_true rfl, Nat.le_of_ble_eq_true rfl⟩ rfl (jc.deep (d_next_z (f := f) (N := N) (RI.u (RI.u (RI.u hI_M5 (a := 659) (i := v134) (by rw [xri_row rfl rfl]; show (0 : Int) ≤ _ ∧ _ ≤ (1000 : Int); omega)) (a := 660) (i := v134) (by rw [xri_row rfl rfl]; show (-9223372036854775808 : Int) ≤ _ ∧ _ ≤ (9223372036854775807 : Int); omega)) (a := 598) (i := 90) (show (0 : Int) ≤ _ ∧ _ ≤ (2200 : Int) from by omega)) (RH.o (RH.o (RH.o hH_M5 (by decide) (by decide) (by decide)) (by decide) (by decide) (by decide)) (by decide) (by decide) (by decide)) (RF.o (RF.o (RF.o hS_M5 (by decide) (by decide)) (by decide) (by decide)) (by decide) (by decide)) (by rw [((ju_i _ _ (by decide)).trans ((ju_c _ _ (by decide)).trans ((ju_c _ _ (by decide)).trans e136))), ((ju_i _ _ (by decide)).trans ((ju_c _ _ (by decide)).trans ((ju_c _ _ (by decide)).trans e138)))]; omega) (TXr.o (TXr.k (TXr.k (TXr.fr hT (w5_51 72 (by decide) (by decide) (by decide)) (fun i => w5_50 651 i (by decide)) (fun i => w5_50 649 i (by decide)) (fun i => w5_50 650 i (by decide))) (by decide) (by decide) (by decide) (by decide)) (by decide) (by decide) (by decide) (by decide)) (by decide)) (by rw [((ju_i _ _ (by decide)).trans ((ju_c _ _ (by decide)).trans ((ju_c _ _ (by decide)).trans e139)))]; omega) (fun M157 hI_M157 hH_M157 hS_M157 qa157 qb157 qt157 hT157 w157_50 w157_51 => ?_)) (by decide))
        have y140 : (ju (ju (ju M5 659 v134 4) 660 v134 v132) 598 90 (v134 + 1)) 598 73 = v6 := ((ju_i _ _ (by decide)).trans ((ju_c _ _ (by decide)).trans ((ju_c _ _ (by decide)).trans e136)))
        have y143 : (ju (ju (ju M5 659 v134 4) 660 v134 v132) 598 90 (v134 + 1)) 598 74 = v141 := ((ju_i _ _ (by decide)).trans ((ju_c _ _ (by decide)).trans ((ju_c _ _ (by decide)).trans e142)))
        have y146 : (ju (ju (ju M5 659 v134 4) 660 v134 v132) 598 90 (v134 + 1)) 598 75 = v144 := ((ju_i _ _ (by decide)).trans ((ju_c _ _ (by decide)).trans ((ju_c _ _ (by decide)).trans e145)))
        have y149 : (ju (ju (ju M5 659 v134 4) 660 v134 v132) 598 90 (v134 + 1)) 598 79 = v147 := ((ju_i _ _ (by decide)).trans ((ju_c _ _ (by decide)).trans ((ju_c _ _ (by decide)).trans e148)))
        have y150 : (ju (ju (ju M5 659 v134 4) 660 v134 v132) 598 90 (v134 + 1)) 598 80 = v139 := ((ju_i _ _ (by decide)).trans ((ju_c _ _ (by decide)).trans ((ju_c _ _ (by decide)).trans e139)))
        have y152 : (ju (ju (ju M5 659 v134 4) 660 v134 v132) 598 90 (v134 + 1)) 598 81 = v151 := ((ju_i _ _ (by decide)).trans ((ju_c _ _ (by decide)).trans ((ju_c _ _ (by decide)).trans e151)))
        have y154 : (ju (ju (ju M5 659 v134 4) 660 v134 v132) 598 90 (v134 + 1)) 598 89 = v153 := ((ju_i _ _ (by decide)).trans ((ju_c _ _ (by decide)).trans ((ju_c _ _ (by decide)).trans e153)))
        have y156 : (ju (ju (ju M5 659 v134 4) 660 v134 v132) 598 90 (v134 + 1)) 598 100 = v3 := ((ju_i _ _ (by decide)).trans ((ju_c _ _ (by decide)).trans ((ju_c _ _ (by decide)).trans e155)))
        have tb157 : TK (ju (ju (ju M5 659 v134 4) 660 v134 v132) 598 90 (v134 + 1)) = TK M5 := ((TK.o (Or.inr ⟨by decide, by decide⟩)).trans ((TK.o (Or.inl (by decide))).trans ((TK.o (Or.inl (by decide))).trans rfl)))
        have x157_72 := w157_51 72 (by decide) (by decide) (by decide) (by decide) (by decide) (by decide) (by decide)
        have x157_80 := w157_51 80 (by decide) (by decide) (by decide) (by decide) (by decide) (by decide) (by decide)
        have x157_81 := w157_51 81 (by decide) (by decide) (by decide) (by decide) (by decide) (by decide) (by decide)
        have x157_89 := w157_51 89 (by decide) (by decide) (by decide) (by decide) (by decide) (by decide) (by decide)
        have x157_100 := w157_51 100 (by decide) (by decide) (by decide) (by decide) (by decide) (by decide) (by decide)
        have zfz : zr f N xs (zft (M157 598 80) (M157 598 81)) := zr.fe zfz (by omega) (by omega)
        refine jr.iconst rfl ?_
        have e158 : M157 598 72 = v137 := ((w157_51 72 (by decide) (by decide) (by decide) (by decide) (by decide) (by decide) (by decide)).trans ((ju_i _ _ (by decide)).trans ((ju_c _ _ (by decide)).trans ((ju_c _ _ (by decide)).trans e138))))
        have y159 : M157 598 72 = v137 := e158
        obtain ⟨v160, e160⟩ : ∃ z, M157 598 73 = z := ⟨_, rfl⟩
        have b160 : 0 ≤ v160 ∧ v160 ≤ 1600 := by rw [← e160]; exact hI_M157 598 73 (by decide)
        have y161 : M157 598 73 = v160 := e160
        obtain ⟨v162, e162⟩ : ∃ z, M157 598 74 = z := ⟨_, rfl⟩
        have b162 : 0 ≤ v162 ∧ v162 ≤ 4 := by rw [← e162]; exact hI_M157 598 74 (by decide)
        have y163 : M157 598 74 = v162 := e162
        obtain ⟨v164, e164⟩ : ∃ z, M157 598 79 = z := ⟨_, rfl⟩
        have b164 : 0 ≤ v164 ∧ v164 ≤ 255 := by rw [← e164]; exact hI_M157 598 79 (by decide)
        have y165 : M157 598 79 = v164 := e164
        have e166 : M157 598 80 = v139 := ((w157_51 80 (by decide) (by decide) (by decide) (by decide) (by decide) (by decide) (by decide)).trans ((ju_i _ _ (by decide)).trans ((ju_c _ _ (by decide)).trans ((ju_c _ _ (by decide)).trans e139))))
        have y167 : M157 598 80 = v139 := e166
        have e168 : M157 598 89 = v153 := ((w157_51 89 (by decide) (by decide) (by decide) (by decide) (by decide) (by decide) (by decide)).trans ((ju_i _ _ (by decide)).trans ((ju_c _ _ (by decide)).trans ((ju_c _ _ (by decide)).trans e153))))
        have y169 : M157 598 89 = v153 := e168
        have e170 : M157 598 90 = v134 + 1 := ((w157_51 90 (by decide) (by decide) (by decide) (by decide) (by decide) (by decide) (by decide)).trans (ju_same _ _ _ _))
        have y171 : M157 598 90 = v134 + 1 := e170
        have e172 : M157 598 100 = v3 := ((w157_51 100 (by decide) (by decide) (by decide) (by decide) (by decide) (by decide) (by decide)).trans ((ju_i _ _ (by decide)).trans ((ju_c _ _ (by decide)).trans ((ju_c _ _ (by decide)).trans e155))))
        have y173 : M157 598 100 = v3 := e172
        obtain ⟨v174, e174⟩ : ∃ z, M 598 107 = z := ⟨_, rfl⟩
        have b174 : 0 ≤ v174 ∧ v174 ≤ 16 := by rw [← e174]; exact hI_M 598 107 (by decide)
        have e175 : M5 598 107 = v174 := ((w5_51 107 (by decide) (by decide) (by decide)).trans e174)
        have e176 : M157 598 107 = v174 := ((w157_51 107 (by decide) (by decide) (by decide) (by decide) (by decide) (by decide) (by decide)).trans ((ju_i _ _ (by decide)).trans ((ju_c _ _ (by decide)).trans ((ju_c _ _ (by decide)).trans e175))))
        have y177 : M157 598 107 = v174 := e176
        obtain ⟨v178, e178⟩ : ∃ z, M157 598 75 = z := ⟨_, rfl⟩
        have b178 : 0 ≤ v178 ∧ v178 ≤ 1600 := by rw [← e178]; exact hI_M157 598 75 (by decide)
        have y179 : M157 598 75 = v178 := e178
        have y180 : M157 598 80 = v139 := e166
        have e181 : M157 598 81 = v151 := ((w157_51 81 (by decide) (by decide) (by decide) (by decide) (by decide) (by decide) (by decide)).trans ((ju_i _ _ (by decide)).trans ((ju_c _ _ (by decide)).trans ((ju_c _ _ (by decide)).trans e151))))
        have y182 : M157 598 81 = v151 := e181
        have y183 : M157 598 89 = v153 := e168
        have y184 : M157 598 100 = v3 := e172
        exact jr.ireturn rfl rfl rfl (q _ _ hI_M157 hH_M157 hS_M157  (by omega) (Or.inl ⟨by omega, by omega⟩) (by omega) (by omega) (Or.inl (by omega)) (CP.f (CP.emit (CP.f hCP (fun i => w5_50 659 i (by decide)) (w5_51 90 (by decide) (by decide) (by decide))) e135) (fun i => w157_50 659 i (by decide)) (w157_51 90 (by decide) (by decide) (by decide) (by decide) (by decide) (by decide) (by decide))) (by omega) hT157 (fun _ => zr.fe zfz (by omega) (by omega)) (fun q => by exfalso; omega) (fun q => by exfalso; omega) (fun q => by omega) (fun a i f598 f659 f660 f664 f666 f667 => ((w157_50 a i f598).trans ((ju_c _ _ f598).trans ((ju_c _ _ f660).trans ((ju_c _ _ f659).trans ((w5_50 a i f598).trans (hF_M a i f598 f659 f660 f664 f666 f667))))))) (fun i g73 g74 g75 g76 g77 g78 g79 g80 g81 g89 g90 g100 g102 => ((w157_51 i g73 g74 g75 g76 g77 g78 g79).trans ((ju_i _ _ g90).trans ((ju_c _ _ (by decide)).trans ((ju_c _ _ (by decide)).trans ((w5_51 i g80 g81 g89).trans (hG_M i g73 g74 g75 g76 g77 g78 g79 g80 g81 g89 g90 g100 g102))))))))
      · refine jr.aload_n rfl rfl ?_
        refine jr.bipush rfl (by decide) ?_
        refine jr.aload_n rfl rfl ?_
        obtain ⟨v185, e185⟩ : ∃ z, M 598 75 = z := ⟨_, rfl⟩
        have b185 : 0 ≤ v185 ∧ v185 ≤ 1600 := by rw [← e185]; exact hI_M 598 75 (by decide)
        have e186 : M5 598 75 = v185 := ((w5_51 75 (by decide) (by decide) (by decide)).trans e185)
        refine jr.getf (i := 75) (x := v185) (v := .int (Int32.ofInt (v185))) rfl rfl (by decide) rfl (by decide) rfl rfl e186 rfl ?_
        obtain ⟨v187, e187⟩ : ∃ z, M5 598 80 = z := ⟨_, rfl⟩
        have b187 : 0 ≤ v187 ∧ v187 ≤ 7 := by rw [← e187]; exact hI_M5 598 80 (by decide)
        obtain ⟨v188, e188⟩ : ∃ z, M5 598 89 = z := ⟨_, rfl⟩
        have b188 : 0 ≤ v188 ∧ v188 ≤ 301 := by rw [← e188]; exact hI_M5 598 89 (by decide)
        have e189 : M5 598 100 = v3 := ((w5_51 100 (by decide) (by decide) (by decide)).trans e3)
        obtain ⟨v190, e190⟩ : ∃ z, M5 598 81 = z := ⟨_, rfl⟩
        have b190 : (-1) ≤ v190 ∧ v190 ≤ 1600 := by rw [← e190]; exact hI_M5 598 81 (by decide)
        refine jr_v rfl rfl (Or.inl rfl) rfl rfl (by decide) rfl ⟨rfl, Nat.le_of_ble_eq_true rfl, Nat.le_of_ble_eq_true rfl⟩ rfl (jc.deep (d_fails_z (f := f) (N := N) hI_M5 hH_M5 hS_M5 (by omega) (by omega) (by rw [e187]; omega) (fun M191 hI_M191 hH_M191 hS_M191 q0191 q1191 w191_50 w191_51 => ?_)) (by decide))
        have tk191 : TK M191 = TK M5 := TK.fr (w191_51 73 (by decide) (by decide)) (w191_51 74 (by decide) (by decide))
        have x191_72 := w191_51 72 (by decide) (by decide)
        have x191_73 := w191_51 73 (by decide) (by decide)
        have x191_74 := w191_51 74 (by decide) (by decide)
        have x191_75 := w191_51 75 (by decide) (by decide)
        have x191_76 := w191_51 76 (by decide) (by decide)
        have x191_78 := w191_51 78 (by decide) (by decide)
        have x191_79 := w191_51 79 (by decide) (by decide)
        have x191_89 := w191_51 89 (by decide) (by decide)
        have x191_100 := w191_51 100 (by decide) (by decide)
        have zfz : zr f N xs (zft (M191 598 80) (M191 598 81)) := zr.fe zfz (by omega) (by omega)
        refine jr.aload_n rfl rfl ?_
        refine jr.iconst rfl ?_
        refine jr.aload_n rfl rfl ?_
        have e192 : M191 598 78 = v132 := ((w191_51 78 (by decide) (by decide)).trans e133)
        refine jr.getf (i := 78) (x := v132) (v := .long (Int64.ofInt (v132))) rfl rfl (by decide) rfl (by decide) rfl rfl e192 rfl ?_
        obtain ⟨v193, e193⟩ : ∃ z, M 598 90 = z := ⟨_, rfl⟩
        have b193 : 0 ≤ v193 ∧ v193 ≤ 2200 := by rw [← e193]; exact hI_M 598 90 (by decide)
        have e194 : M5 598 90 = v193 := ((w5_51 90 (by decide) (by decide) (by decide)).trans e193)
        have e195 : M191 598 90 = v193 := ((w191_51 90 (by decide) (by decide)).trans e194)
        refine jr_v rfl rfl (Or.inl rfl) rfl rfl (by decide) rfl ⟨rfl, Nat.le_of_ble_eq_true rfl, Nat.le_of_ble_eq_true rfl⟩ rfl (jc.deep (r_emit e195 (by omega) (by omega) (by omega) ?_) (by decide))
        refine jr.aload_n rfl rfl ?_
        have e196 : M5 598 73 = v6 := ((w5_51 73 (by decide) (by decide) (by decide)).trans e6)
        have e197 : M191 598 73 = v6 := ((w191_51 73 (by decide) (by decide)).trans e196)
        obtain ⟨v198, e198⟩ : ∃ z, M 598 72 = z := ⟨_, rfl⟩
        have b198 : 0 ≤ v198 ∧ v198 ≤ 1600 := by rw [← e198]; exact hI_M 598 72 (by decide)
        have e199 : M5 598 72 = v198 := ((w5_51 72 (by decide) (by decide) (by decide)).trans e198)
        have e200 : M191 598 72 = v198 := ((w191_51 72 (by decide) (by decide)).trans e199)
        obtain ⟨v201, e201⟩ : ∃ z, M191 598 80 = z := ⟨_, rfl⟩
        have b201 : 0 ≤ v201 ∧ v201 ≤ 7 := by rw [← e201]; exact hI_M191 598 80 (by decide)
        obtain ⟨v203, e203⟩ : ∃ z, M 598 74 = z := ⟨_, rfl⟩
        have b203 : 0 ≤ v203 ∧ v203 ≤ 4 := by rw [← e203]; exact hI_M 598 74 (by decide)
        have e204 : M5 598 74 = v203 := ((w5_51 74 (by decide) (by decide) (by decide)).trans e203)
        have e205 : M191 598 74 = v203 := ((w191_51 74 (by decide) (by decide)).trans e204)
        have e207 : M191 598 75 = v185 := ((w191_51 75 (by decide) (by decide)).trans e186)
        obtain ⟨v209, e209⟩ : ∃ z, M 598 79 = z := ⟨_, rfl⟩
        have b209 : 0 ≤ v209 ∧ v209 ≤ 255 := by rw [← e209]; exact hI_M 598 79 (by decide)
        have e210 : M5 598 79 = v209 := ((w5_51 79 (by decide) (by decide) (by decide)).trans e209)
        have e211 : M191 598 79 = v209 := ((w191_51 79 (by decide) (by decide)).trans e210)
        obtain ⟨v214, e214⟩ : ∃ z, M191 598 81 = z := ⟨_, rfl⟩
        have b214 : (-1) ≤ v214 ∧ v214 ≤ 1600 := by rw [← e214]; exact hI_M191 598 81 (by decide)
        have e216 : M191 598 89 = v188 := ((w191_51 89 (by decide) (by decide)).trans e188)
        have e218 : M191 598 100 = v3 := ((w191_51 100 (by decide) (by decide)).trans e189)
        refine jr_v rfl rfl (Or.inl rfl) rfl rfl (by decide) rfl ⟨rfl, Nat.le_of_ble_eq_true rfl, Nat.le_of_ble_eq_true rfl⟩ rfl (jc.deep (d_next_z (f := f) (N := N) (RI.u (RI.u (RI.u hI_M191 (a := 659) (i := v193) (by rw [xri_row rfl rfl]; show (0 : Int) ≤ _ ∧ _ ≤ (1000 : Int); omega)) (a := 660) (i := v193) (by rw [xri_row rfl rfl]; show (-9223372036854775808 : Int) ≤ _ ∧ _ ≤ (9223372036854775807 : Int); omega)) (a := 598) (i := 90) (show (0 : Int) ≤ _ ∧ _ ≤ (2200 : Int) from by omega)) (RH.o (RH.o (RH.o hH_M191 (by decide) (by decide) (by decide)) (by decide) (by decide) (by decide)) (by decide) (by decide) (by decide)) (RF.o (RF.o (RF.o hS_M191 (by decide) (by decide)) (by decide) (by decide)) (by decide) (by decide)) (by rw [((ju_i _ _ (by decide)).trans ((ju_c _ _ (by decide)).trans ((ju_c _ _ (by decide)).trans e197))), ((ju_i _ _ (by decide)).trans ((ju_c _ _ (by decide)).trans ((ju_c _ _ (by decide)).trans e200)))]; omega) (TXr.o (TXr.k (TXr.k (TXr.fr (TXr.fr hT (w5_51 72 (by decide) (by decide) (by decide)) (fun i => w5_50 651 i (by decide)) (fun i => w5_50 649 i (by decide)) (fun i => w5_50 650 i (by decide))) (w191_51 72 (by decide) (by decide)) (fun i => w191_50 651 i (by decide)) (fun i => w191_50 649 i (by decide)) (fun i => w191_50 650 i (by decide))) (by decide) (by decide) (by decide) (by decide)) (by decide) (by decide) (by decide) (by decide)) (by decide)) (by rw [((ju_i _ _ (by decide)).trans ((ju_c _ _ (by decide)).trans ((ju_c _ _ (by decide)).trans e201)))]; omega) (fun M220 hI_M220 hH_M220 hS_M220 qa220 qb220 qt220 hT220 w220_50 w220_51 => ?_)) (by decide))
        have y202 : (ju (ju (ju M191 659 v193 4) 660 v193 v132) 598 90 (v193 + 1)) 598 73 = v6 := ((ju_i _ _ (by decide)).trans ((ju_c _ _ (by decide)).trans ((ju_c _ _ (by decide)).trans e197)))
        have y206 : (ju (ju (ju M191 659 v193 4) 660 v193 v132) 598 90 (v193 + 1)) 598 74 = v203 := ((ju_i _ _ (by decide)).trans ((ju_c _ _ (by decide)).trans ((ju_c _ _ (by decide)).trans e205)))
        have y208 : (ju (ju (ju M191 659 v193 4) 660 v193 v132) 598 90 (v193 + 1)) 598 75 = v185 := ((ju_i _ _ (by decide)).trans ((ju_c _ _ (by decide)).trans ((ju_c _ _ (by decide)).trans e207)))
        have y212 : (ju (ju (ju M191 659 v193 4) 660 v193 v132) 598 90 (v193 + 1)) 598 79 = v209 := ((ju_i _ _ (by decide)).trans ((ju_c _ _ (by decide)).trans ((ju_c _ _ (by decide)).trans e211)))
        have y213 : (ju (ju (ju M191 659 v193 4) 660 v193 v132) 598 90 (v193 + 1)) 598 80 = v201 := ((ju_i _ _ (by decide)).trans ((ju_c _ _ (by decide)).trans ((ju_c _ _ (by decide)).trans e201)))
        have y215 : (ju (ju (ju M191 659 v193 4) 660 v193 v132) 598 90 (v193 + 1)) 598 81 = v214 := ((ju_i _ _ (by decide)).trans ((ju_c _ _ (by decide)).trans ((ju_c _ _ (by decide)).trans e214)))
        have y217 : (ju (ju (ju M191 659 v193 4) 660 v193 v132) 598 90 (v193 + 1)) 598 89 = v188 := ((ju_i _ _ (by decide)).trans ((ju_c _ _ (by decide)).trans ((ju_c _ _ (by decide)).trans e216)))
        have y219 : (ju (ju (ju M191 659 v193 4) 660 v193 v132) 598 90 (v193 + 1)) 598 100 = v3 := ((ju_i _ _ (by decide)).trans ((ju_c _ _ (by decide)).trans ((ju_c _ _ (by decide)).trans e218)))
        have tb220 : TK (ju (ju (ju M191 659 v193 4) 660 v193 v132) 598 90 (v193 + 1)) = TK M191 := ((TK.o (Or.inr ⟨by decide, by decide⟩)).trans ((TK.o (Or.inl (by decide))).trans ((TK.o (Or.inl (by decide))).trans rfl)))
        have x220_72 := w220_51 72 (by decide) (by decide) (by decide) (by decide) (by decide) (by decide) (by decide)
        have x220_80 := w220_51 80 (by decide) (by decide) (by decide) (by decide) (by decide) (by decide) (by decide)
        have x220_81 := w220_51 81 (by decide) (by decide) (by decide) (by decide) (by decide) (by decide) (by decide)
        have x220_89 := w220_51 89 (by decide) (by decide) (by decide) (by decide) (by decide) (by decide) (by decide)
        have x220_100 := w220_51 100 (by decide) (by decide) (by decide) (by decide) (by decide) (by decide) (by decide)
        have zfz : zr f N xs (zft (M220 598 80) (M220 598 81)) := zr.fe zfz (by omega) (by omega)
        refine jr.iconst rfl ?_
        have e221 : M220 598 72 = v198 := ((w220_51 72 (by decide) (by decide) (by decide) (by decide) (by decide) (by decide) (by decide)).trans ((ju_i _ _ (by decide)).trans ((ju_c _ _ (by decide)).trans ((ju_c _ _ (by decide)).trans e200))))
        have y222 : M220 598 72 = v198 := e221
        obtain ⟨v223, e223⟩ : ∃ z, M220 598 73 = z := ⟨_, rfl⟩
        have b223 : 0 ≤ v223 ∧ v223 ≤ 1600 := by rw [← e223]; exact hI_M220 598 73 (by decide)
        have y224 : M220 598 73 = v223 := e223
        obtain ⟨v225, e225⟩ : ∃ z, M220 598 74 = z := ⟨_, rfl⟩
        have b225 : 0 ≤ v225 ∧ v225 ≤ 4 := by rw [← e225]; exact hI_M220 598 74 (by decide)
        have y226 : M220 598 74 = v225 := e225
        obtain ⟨v227, e227⟩ : ∃ z, M220 598 79 = z := ⟨_, rfl⟩
        have b227 : 0 ≤ v227 ∧ v227 ≤ 255 := by rw [← e227]; exact hI_M220 598 79 (by decide)
        have y228 : M220 598 79 = v227 := e227
        have e229 : M220 598 80 = v201 := ((w220_51 80 (by decide) (by decide) (by decide) (by decide) (by decide) (by decide) (by decide)).trans ((ju_i _ _ (by decide)).trans ((ju_c _ _ (by decide)).trans ((ju_c _ _ (by decide)).trans e201))))
        have y230 : M220 598 80 = v201 := e229
        have e231 : M220 598 89 = v188 := ((w220_51 89 (by decide) (by decide) (by decide) (by decide) (by decide) (by decide) (by decide)).trans ((ju_i _ _ (by decide)).trans ((ju_c _ _ (by decide)).trans ((ju_c _ _ (by decide)).trans e216))))
        have y232 : M220 598 89 = v188 := e231
        have e233 : M220 598 90 = v193 + 1 := ((w220_51 90 (by decide) (by decide) (by decide) (by decide) (by decide) (by decide) (by decide)).trans (ju_same _ _ _ _))
        have y234 : M220 598 90 = v193 + 1 := e233
        have e235 : M220 598 100 = v3 := ((w220_51 100 (by decide) (by decide) (by decide) (by decide) (by decide) (by decide) (by decide)).trans ((ju_i _ _ (by decide)).trans ((ju_c _ _ (by decide)).trans ((ju_c _ _ (by decide)).trans e218))))
        have y236 : M220 598 100 = v3 := e235
        obtain ⟨v237, e237⟩ : ∃ z, M 598 107 = z := ⟨_, rfl⟩
        have b237 : 0 ≤ v237 ∧ v237 ≤ 16 := by rw [← e237]; exact hI_M 598 107 (by decide)
        have e238 : M5 598 107 = v237 := ((w5_51 107 (by decide) (by decide) (by decide)).trans e237)
        have e239 : M191 598 107 = v237 := ((w191_51 107 (by decide) (by decide)).trans e238)
        have e240 : M220 598 107 = v237 := ((w220_51 107 (by decide) (by decide) (by decide) (by decide) (by decide) (by decide) (by decide)).trans ((ju_i _ _ (by decide)).trans ((ju_c _ _ (by decide)).trans ((ju_c _ _ (by decide)).trans e239))))
        have y241 : M220 598 107 = v237 := e240
        obtain ⟨v242, e242⟩ : ∃ z, M220 598 75 = z := ⟨_, rfl⟩
        have b242 : 0 ≤ v242 ∧ v242 ≤ 1600 := by rw [← e242]; exact hI_M220 598 75 (by decide)
        have y243 : M220 598 75 = v242 := e242
        have y244 : M220 598 80 = v201 := e229
        have e245 : M220 598 81 = v214 := ((w220_51 81 (by decide) (by decide) (by decide) (by decide) (by decide) (by decide) (by decide)).trans ((ju_i _ _ (by decide)).trans ((ju_c _ _ (by decide)).trans ((ju_c _ _ (by decide)).trans e214))))
        have y246 : M220 598 81 = v214 := e245
        have y247 : M220 598 89 = v188 := e231
        have y248 : M220 598 100 = v3 := e235
        exact jr.ireturn rfl rfl rfl (q _ _ hI_M220 hH_M220 hS_M220  (by omega) (Or.inl ⟨by omega, by omega⟩) (by omega) (by omega) (Or.inl (by omega)) (CP.f (CP.emit (CP.f (CP.f hCP (fun i => w5_50 659 i (by decide)) (w5_51 90 (by decide) (by decide) (by decide))) (fun i => w191_50 659 i (by decide)) (w191_51 90 (by decide) (by decide))) e195) (fun i => w220_50 659 i (by decide)) (w220_51 90 (by decide) (by decide) (by decide) (by decide) (by decide) (by decide) (by decide))) (by omega) hT220 (fun _ => zr.fe zfz (by omega) (by omega)) (fun q => by exfalso; omega) (fun q => by exfalso; omega) (fun q => by omega) (fun a i f598 f659 f660 f664 f666 f667 => ((w220_50 a i f598).trans ((ju_c _ _ f598).trans ((ju_c _ _ f660).trans ((ju_c _ _ f659).trans ((w191_50 a i f598).trans ((w5_50 a i f598).trans (hF_M a i f598 f659 f660 f664 f666 f667)))))))) (fun i g73 g74 g75 g76 g77 g78 g79 g80 g81 g89 g90 g100 g102 => ((w220_51 i g73 g74 g75 g76 g77 g78 g79).trans ((ju_i _ _ g90).trans ((ju_c _ _ (by decide)).trans ((ju_c _ _ (by decide)).trans ((w191_51 i g80 g81).trans ((w5_51 i g80 g81 g89).trans (hG_M i g73 g74 g75 g76 g77 g78 g79 g80 g81 g89 g90 g100 g102)))))))))
theorem r_takeOperand_L65_z {A : Nat → Option (Nat × (Nat → Int32))} {Q : Option Value → jm → Prop} {f : Int → Int} {N : Int} {b kk : Int} {xs : ZS} {t bh : Int} {s0 : List (Int × Int × Int × Int)} {nm ak : List Int} {M0 : jm} (q : ∀ (r : Int) (M' : jm), RI M' → RH M' → RF M' → 0 ≤ r ∧ r ≤ 1 → (BS M' ∨ (GS M' b r kk ∧ TK M' < TK M0)) → TK M' ≤ TK M0 → M' 598 73 ≤ M' 598 72 → (M' 598 80 ≠ 0 ∨ TK M' < TK M0) → CP M0 M' → M0 598 89 ≤ M' 598 89 → TXr f N M' → ZFQ f N xs M' → ZOQ f N xs (2 + r) M' (abr M' s0).2 bh (abr M' s0).1 nm ak → NUQ M' → K8Q M0 M' → (∀ (a : Nat) (i : Int), a ≠ 598 → a ≠ 659 → a ≠ 660 → a ≠ 664 → a ≠ 666 → a ≠ 667 → M' a i = M0 a i) → (∀ (i : Int), i ≠ 73 → i ≠ 74 → i ≠ 75 → i ≠ 76 → i ≠ 77 → i ≠ 78 → i ≠ 79 → i ≠ 80 → i ≠ 81 → i ≠ 89 → i ≠ 90 → i ≠ 100 → i ≠ 102 → M' 598 i = M0 598 i) → Q (some (.int (Int32.ofInt r))) M') : ∀ (M : jm) , RI M → RH M → RF M → (∀ (a : Nat) (i : Int), a ≠ 598 → a ≠ 659 → a ≠ 660 → a ≠ 664 → a ≠ 666 → a ≠ 667 → M a i = M0 a i) → (∀ (i : Int), i ≠ 73 → i ≠ 74 → i ≠ 75 → i ≠ 76 → i ≠ 77 → i ≠ 78 → i ≠ 79 → i ≠ 80 → i ≠ 81 → i ≠ 89 → i ≠ 90 → i ≠ 100 → i ≠ 102 → M 598 i = M0 598 i) → GS M b 0 kk → TK M = TK M0 → CP M0 M → M 598 89 = M0 598 89 → TKr f N t M → zr f N xs (2, t, M 598 89, M 598 100, (abr M s0).2, bh, (abr M s0).1, nm, ak) → NU M → M 598 81 = M0 598 81 → M 598 74 = 3 → M 598 79 = 40 → jr A 5 xm_360 65 [(0, .ref (598))] [] M Q := by
    intro M  hI_M hH_M hS_M hF_M hG_M  hy0 hy1 hy2 hy3 hy4 hy5 hy6 hy7 hy8 hy9
    have p0 := hy0
    have hCP := hy2
    obtain ⟨gs1, gs2, gs3, gs4, gs5, gs6⟩ := id hy0
    have hE := gs2
    have sl := ES.sgle gs2
    have bb := ES.bb gs2
    have kb := ES.kz gs2
    have b107 : (0 : Int) ≤ M 598 107 ∧ M 598 107 ≤ 16 := hI_M 598 107 (by decide)
    have b73 : (0 : Int) ≤ M 598 73 ∧ M 598 73 ≤ 1600 := hI_M 598 73 (by decide)
    have b88 : (0 : Int) ≤ M 598 88 ∧ M 598 88 ≤ 16 := hI_M 598 88 (by decide)
    have b100 : (0 : Int) ≤ M 598 100 ∧ M 598 100 ≤ 13 := hI_M 598 100 (by decide)
    have hK := hy4
    have kk0 := hK.kz
    have hT := hK.1
    have hz := hy5
    have hNU := hy6
    have s0t := hK.sz hy8
    refine jr.aload_n rfl rfl ?_
    refine jr.bipush rfl (by decide) ?_
    refine jr.iconst rfl ?_
    obtain ⟨v1, e1⟩ : ∃ z, M 598 102 = z := ⟨_, rfl⟩
    have b1 : 0 ≤ v1 ∧ v1 ≤ 400 := by rw [← e1]; exact hI_M 598 102 (by decide)
    refine jr_v rfl rfl (Or.inl rfl) rfl rfl (by decide) rfl ⟨rfl, Nat.le_of_ble_eq_true rfl, Nat.le_of_ble_eq_true rfl⟩ rfl (jc.deep (r_push e1 (by omega) (by omega) (by omega) ?_) (by decide))
    have hE := ES.deep hE e1 40 (-1) 0 kk (by omega) (by omega) (by omega)
    refine jr.aload_n rfl rfl ?_
    obtain ⟨v2, e2⟩ : ∃ z, M 598 73 = z := ⟨_, rfl⟩
    have b2 : 0 ≤ v2 ∧ v2 ≤ 1600 := by rw [← e2]; exact hI_M 598 73 (by decide)
    obtain ⟨v3, e3⟩ : ∃ z, M 598 72 = z := ⟨_, rfl⟩
    have b3 : 0 ≤ v3 ∧ v3 ≤ 1600 := by rw [← e3]; exact hI_M 598 72 (by decide)
    obtain ⟨v4, e4⟩ : ∃ z, M 598 80 = z := ⟨_, rfl⟩
    have b4 : 0 ≤ v4 ∧ v4 ≤ 7 := by rw [← e4]; exact hI_M 598 80 (by decide)
    obtain ⟨v5, e5⟩ : ∃ z, M 598 100 = z := ⟨_, rfl⟩
    have b5 : 0 ≤ v5 ∧ v5 ≤ 13 := by rw [← e5]; exact hI_M 598 100 (by decide)
    obtain ⟨v6, e6⟩ : ∃ z, M 598 74 = z := ⟨_, rfl⟩
    have b6 : 0 ≤ v6 ∧ v6 ≤ 4 := by rw [← e6]; exact hI_M 598 74 (by decide)
    obtain ⟨v7, e7⟩ : ∃ z, M 598 79 = z := ⟨_, rfl⟩
    have b7 : 0 ≤ v7 ∧ v7 ≤ 255 := by rw [← e7]; exact hI_M 598 79 (by decide)
    obtain ⟨v10, e10⟩ : ∃ z, M 598 75 = z := ⟨_, rfl⟩
    have b10 : 0 ≤ v10 ∧ v10 ≤ 1600 := by rw [← e10]; exact hI_M 598 75 (by decide)
    obtain ⟨v14, e14⟩ : ∃ z, M 598 81 = z := ⟨_, rfl⟩
    have b14 : (-1) ≤ v14 ∧ v14 ≤ 1600 := by rw [← e14]; exact hI_M 598 81 (by decide)
    obtain ⟨v16, e16⟩ : ∃ z, M 598 89 = z := ⟨_, rfl⟩
    have b16 : 0 ≤ v16 ∧ v16 ≤ 301 := by rw [← e16]; exact hI_M 598 89 (by decide)
    refine jr_v rfl rfl (Or.inl rfl) rfl rfl (by decide) rfl ⟨rfl, Nat.le_of_ble_eq_true rfl, Nat.le_of_ble_eq_true rfl⟩ rfl (jc.deep (c_deeper_z (f := f) (N := N) (RI.u (RI.u (RI.u (RI.u hI_M (a := 664) (i := v1) (by rw [xri_row rfl rfl]; show (0 : Int) ≤ _ ∧ _ ≤ (255 : Int); omega)) (a := 666) (i := v1) (by rw [xri_row rfl rfl]; show (-1 : Int) ≤ _ ∧ _ ≤ (68 : Int); omega)) (a := 667) (i := v1) (by rw [xri_row rfl rfl]; show (0 : Int) ≤ _ ∧ _ ≤ (4 : Int); omega)) (a := 598) (i := 102) (show (0 : Int) ≤ _ ∧ _ ≤ (400 : Int) from by omega)) (RH.o (RH.o (RH.o (RH.o hH_M (by decide) (by decide) (by decide)) (by decide) (by decide) (by decide)) (by decide) (by decide) (by decide)) (by decide) (by decide) (by decide)) (RF.o (RF.o (RF.o (RF.o hS_M (by decide) (by decide)) (by decide) (by decide)) (by decide) (by decide)) (by decide) (by decide)) (by rw [((ju_i _ _ (by decide)).trans ((ju_c _ _ (by decide)).trans ((ju_c _ _ (by decide)).trans ((ju_c _ _ (by decide)).trans e2)))), ((ju_i _ _ (by decide)).trans ((ju_c _ _ (by decide)).trans ((ju_c _ _ (by decide)).trans ((ju_c _ _ (by decide)).trans e3))))]; omega) (TKr.oo (TKr.cc (TKr.cc (TKr.cc hK (by decide) (by decide) (by decide) (by decide)) (by decide) (by decide) (by decide) (by decide)) (by decide) (by decide) (by decide) (by decide)) (by decide)) (by rw [((ju_i _ _ (by decide)).trans ((ju_c _ _ (by decide)).trans ((ju_c _ _ (by decide)).trans ((ju_c _ _ (by decide)).trans e4))))]; omega) (by rw [((ju_i _ _ (by decide)).trans ((ju_c _ _ (by decide)).trans ((ju_c _ _ (by decide)).trans ((ju_c _ _ (by decide)).trans e5))))]; omega) (by rw [((ju_i _ _ (by decide)).trans ((ju_c _ _ (by decide)).trans ((ju_c _ _ (by decide)).trans ((ju_c _ _ (by decide)).trans e6))))]; omega) (by rw [((ju_i _ _ (by decide)).trans ((ju_c _ _ (by decide)).trans ((ju_c _ _ (by decide)).trans ((ju_c _ _ (by decide)).trans e6)))), ((ju_i _ _ (by decide)).trans ((ju_c _ _ (by decide)).trans ((ju_c _ _ (by decide)).trans ((ju_c _ _ (by decide)).trans e7))))]; intro q; omega) (fun M19 hI_M19 hH_M19 hS_M19 qa19 qb19 qt19 qd19 ql19 sn19 q019 q119 hK19 w19_50 w19_51 => ?_) (fun M19 hI_M19 hH_M19 hS_M19 qa19 qb19 qt19 qd19 ql19 q019 q119 hT19 w19_50 w19_51 => ?_)) (by decide))
    · have y8 : (ju (ju (ju (ju M 664 v1 40) 666 v1 (-1)) 667 v1 1) 598 102 (v1 + 1)) 598 73 = v2 := ((ju_i _ _ (by decide)).trans ((ju_c _ _ (by decide)).trans ((ju_c _ _ (by decide)).trans ((ju_c _ _ (by decide)).trans e2))))
      have y9 : (ju (ju (ju (ju M 664 v1 40) 666 v1 (-1)) 667 v1 1) 598 102 (v1 + 1)) 598 74 = v6 := ((ju_i _ _ (by decide)).trans ((ju_c _ _ (by decide)).trans ((ju_c _ _ (by decide)).trans ((ju_c _ _ (by decide)).trans e6))))
      have y11 : (ju (ju (ju (ju M 664 v1 40) 666 v1 (-1)) 667 v1 1) 598 102 (v1 + 1)) 598 75 = v10 := ((ju_i _ _ (by decide)).trans ((ju_c _ _ (by decide)).trans ((ju_c _ _ (by decide)).trans ((ju_c _ _ (by decide)).trans e10))))
      have y12 : (ju (ju (ju (ju M 664 v1 40) 666 v1 (-1)) 667 v1 1) 598 102 (v1 + 1)) 598 79 = v7 := ((ju_i _ _ (by decide)).trans ((ju_c _ _ (by decide)).trans ((ju_c _ _ (by decide)).trans ((ju_c _ _ (by decide)).trans e7))))
      have y13 : (ju (ju (ju (ju M 664 v1 40) 666 v1 (-1)) 667 v1 1) 598 102 (v1 + 1)) 598 80 = v4 := ((ju_i _ _ (by decide)).trans ((ju_c _ _ (by decide)).trans ((ju_c _ _ (by decide)).trans ((ju_c _ _ (by decide)).trans e4))))
      have y15 : (ju (ju (ju (ju M 664 v1 40) 666 v1 (-1)) 667 v1 1) 598 102 (v1 + 1)) 598 81 = v14 := ((ju_i _ _ (by decide)).trans ((ju_c _ _ (by decide)).trans ((ju_c _ _ (by decide)).trans ((ju_c _ _ (by decide)).trans e14))))
      have y17 : (ju (ju (ju (ju M 664 v1 40) 666 v1 (-1)) 667 v1 1) 598 102 (v1 + 1)) 598 89 = v16 := ((ju_i _ _ (by decide)).trans ((ju_c _ _ (by decide)).trans ((ju_c _ _ (by decide)).trans ((ju_c _ _ (by decide)).trans e16))))
      have y18 : (ju (ju (ju (ju M 664 v1 40) 666 v1 (-1)) 667 v1 1) 598 102 (v1 + 1)) 598 100 = v5 := ((ju_i _ _ (by decide)).trans ((ju_c _ _ (by decide)).trans ((ju_c _ _ (by decide)).trans ((ju_c _ _ (by decide)).trans e5))))
      have tb19 : TK (ju (ju (ju (ju M 664 v1 40) 666 v1 (-1)) 667 v1 1) 598 102 (v1 + 1)) = TK M := ((TK.o (Or.inr ⟨by decide, by decide⟩)).trans ((TK.o (Or.inl (by decide))).trans ((TK.o (Or.inl (by decide))).trans ((TK.o (Or.inl (by decide))).trans rfl))))
      have x19_72 := w19_51 72 (by decide) (by decide) (by decide) (by decide) (by decide) (by decide) (by decide) (by decide) (by decide) (by decide)
      have x19_89 := w19_51 89 (by decide) (by decide) (by decide) (by decide) (by decide) (by decide) (by decide) (by decide) (by decide) (by decide)
      have hT19 := hK19.1
      have kk19 := hK19.kz
      have y20 : (ju (ju (ju (ju M 664 v1 40) 666 v1 (-1)) 667 v1 1) 598 102 (v1 + 1)) 598 73 = v2 := ((ju_i _ _ (by decide)).trans ((ju_c _ _ (by decide)).trans ((ju_c _ _ (by decide)).trans ((ju_c _ _ (by decide)).trans e2))))
      have y21 : (ju (ju (ju (ju M 664 v1 40) 666 v1 (-1)) 667 v1 1) 598 102 (v1 + 1)) 598 89 = v16 := ((ju_i _ _ (by decide)).trans ((ju_c _ _ (by decide)).trans ((ju_c _ _ (by decide)).trans ((ju_c _ _ (by decide)).trans e16))))
      have y22 : (ju (ju (ju (ju M 664 v1 40) 666 v1 (-1)) 667 v1 1) 598 102 (v1 + 1)) 598 100 = v5 := ((ju_i _ _ (by decide)).trans ((ju_c _ _ (by decide)).trans ((ju_c _ _ (by decide)).trans ((ju_c _ _ (by decide)).trans e5))))
      have x19_89 := w19_51 89 (by decide) (by decide) (by decide) (by decide) (by decide) (by decide) (by decide) (by decide) (by decide) (by decide)
      have hE := ES.fr2 hE w19_50 (w19_51 88 (by decide) (by decide) (by decide) (by decide) (by decide) (by decide) (by decide) (by decide) (by decide) (by decide)) (w19_51 90 (by decide) (by decide) (by decide) (by decide) (by decide) (by decide) (by decide) (by decide) (by decide) (by decide)) (w19_51 101 (by decide) (by decide) (by decide) (by decide) (by decide) (by decide) (by decide) (by decide) (by decide) (by decide)) (w19_51 102 (by decide) (by decide) (by decide) (by decide) (by decide) (by decide) (by decide) (by decide) (by decide) (by decide)) (w19_51 107 (by decide) (by decide) (by decide) (by decide) (by decide) (by decide) (by decide) (by decide) (by decide) (by decide)) (k' := kk) (d' := 0) (z' := 0) (by omega) (by omega) (by omega) (by omega)
      refine jr.iconst rfl ?_
      have e23 : M19 598 72 = v3 := ((w19_51 72 (by decide) (by decide) (by decide) (by decide) (by decide) (by decide) (by decide) (by decide) (by decide) (by decide)).trans ((ju_i _ _ (by decide)).trans ((ju_c _ _ (by decide)).trans ((ju_c _ _ (by decide)).trans ((ju_c _ _ (by decide)).trans e3)))))
      have y24 : M19 598 72 = v3 := e23
      obtain ⟨v25, e25⟩ : ∃ z, M19 598 73 = z := ⟨_, rfl⟩
      have b25 : 0 ≤ v25 ∧ v25 ≤ 1600 := by rw [← e25]; exact hI_M19 598 73 (by decide)
      have y26 : M19 598 73 = v25 := e25
      obtain ⟨v27, e27⟩ : ∃ z, M19 598 74 = z := ⟨_, rfl⟩
      have b27 : 0 ≤ v27 ∧ v27 ≤ 4 := by rw [← e27]; exact hI_M19 598 74 (by decide)
      have y28 : M19 598 74 = v27 := e27
      obtain ⟨v29, e29⟩ : ∃ z, M19 598 79 = z := ⟨_, rfl⟩
      have b29 : 0 ≤ v29 ∧ v29 ≤ 255 := by rw [← e29]; exact hI_M19 598 79 (by decide)
      have y30 : M19 598 79 = v29 := e29
      obtain ⟨v31, e31⟩ : ∃ z, M19 598 80 = z := ⟨_, rfl⟩
      have b31 : 0 ≤ v31 ∧ v31 ≤ 7 := by rw [← e31]; exact hI_M19 598 80 (by decide)
      have y32 : M19 598 80 = v31 := e31
      have e33 : M19 598 89 = v16 := ((w19_51 89 (by decide) (by decide) (by decide) (by decide) (by decide) (by decide) (by decide) (by decide) (by decide) (by decide)).trans ((ju_i _ _ (by decide)).trans ((ju_c _ _ (by decide)).trans ((ju_c _ _ (by decide)).trans ((ju_c _ _ (by decide)).trans e16)))))
      have y34 : M19 598 89 = v16 := e33
      obtain ⟨v35, e35⟩ : ∃ z, M 598 90 = z := ⟨_, rfl⟩
      have b35 : 0 ≤ v35 ∧ v35 ≤ 2200 := by rw [← e35]; exact hI_M 598 90 (by decide)
      have e36 : M19 598 90 = v35 := ((w19_51 90 (by decide) (by decide) (by decide) (by decide) (by decide) (by decide) (by decide) (by decide) (by decide) (by decide)).trans ((ju_i _ _ (by decide)).trans ((ju_c _ _ (by decide)).trans ((ju_c _ _ (by decide)).trans ((ju_c _ _ (by decide)).trans e35)))))
      have y37 : M19 598 90 = v35 := e36
      obtain ⟨v38, e38⟩ : ∃ z, M19 598 100 = z := ⟨_, rfl⟩
      have b38 : 0 ≤ v38 ∧ v38 ≤ 13 := by rw [← e38]; exact hI_M19 598 100 (by decide)
      have y39 : M19 598 100 = v38 := e38
      obtain ⟨v40, e40⟩ : ∃ z, M 598 107 = z := ⟨_, rfl⟩
      have b40 : 0 ≤ v40 ∧ v40 ≤ 16 := by rw [← e40]; exact hI_M 598 107 (by decide)
      have e41 : M19 598 107 = v40 := ((w19_51 107 (by decide) (by decide) (by decide) (by decide) (by decide) (by decide) (by decide) (by decide) (by decide) (by decide)).trans ((ju_i _ _ (by decide)).trans ((ju_c _ _ (by decide)).trans ((ju_c _ _ (by decide)).trans ((ju_c _ _ (by decide)).trans e40)))))
      have y42 : M19 598 107 = v40 := e41
      obtain ⟨v43, e43⟩ : ∃ z, M19 598 75 = z := ⟨_, rfl⟩
      have b43 : 0 ≤ v43 ∧ v43 ≤ 1600 := by rw [← e43]; exact hI_M19 598 75 (by decide)
      have y44 : M19 598 75 = v43 := e43
      have y45 : M19 598 80 = v31 := e31
      obtain ⟨v46, e46⟩ : ∃ z, M19 598 81 = z := ⟨_, rfl⟩
      have b46 : (-1) ≤ v46 ∧ v46 ≤ 1600 := by rw [← e46]; exact hI_M19 598 81 (by decide)
      have y47 : M19 598 81 = v46 := e46
      have y48 : M19 598 89 = v16 := e33
      have y49 : M19 598 100 = v38 := e38
      exact jr.ireturn rfl rfl rfl (q _ _ hI_M19 hH_M19 hS_M19  (by omega) (Or.inr ⟨⟨by omega, ES.adj hE (k' := kk) (z' := 0) (by omega) (by omega) (by omega), by omega, by omega, by omega, by omega⟩, by omega⟩) (by omega) (by omega) (Or.inr (by omega)) (CP.f (CP.o (CP.o (CP.o (CP.o hCP (by decide) (Or.inl (by decide))) (by decide) (Or.inl (by decide))) (by decide) (Or.inl (by decide))) (by decide) (Or.inr (by decide))) (fun i => w19_50 659 i (by decide)) (w19_51 90 (by decide) (by decide) (by decide) (by decide) (by decide) (by decide) (by decide) (by decide) (by decide) (by decide))) (by omega) hT19 (fun q => by exfalso; omega) (fun _ => ⟨_, hK19, zr.eqx (zr.par hz s0t.1 (by omega) (by omega)) (by omega) rfl (by omega) (by omega) rfl ((abr_fr s0 (fun i => w19_50 664 i (by decide)) (fun i => w19_50 666 i (by decide)) (fun i => w19_50 667 i (by decide)) (w19_51 102 (by decide) (by decide) (by decide) (by decide) (by decide) (by decide) (by decide) (by decide) (by decide) (by decide))).trans ((abr_push (M := M) (s := 40) (w := (-1)) s0 e1 (by omega)).trans (if_pos rfl)))⟩) (fun _ => (NU.fr (NU.push hNU e1 (by first | omega | (right; right; right; exact hnone))) (fun i => w19_50 664 i (by decide)) (w19_51 102 (by decide) (by decide) (by decide) (by decide) (by decide) (by decide) (by decide) (by decide) (by decide) (by decide)))) (fun q => by omega) (fun a i f598 f659 f660 f664 f666 f667 => ((w19_50 a i f598).trans ((ju_c _ _ f598).trans ((ju_c _ _ f667).trans ((ju_c _ _ f666).trans ((ju_c _ _ f664).trans (hF_M a i f598 f659 f660 f664 f666 f667))))))) (fun i g73 g74 g75 g76 g77 g78 g79 g80 g81 g89 g90 g100 g102 => ((w19_51 i g73 g74 g75 g76 g77 g78 g79 g80 g81 g100).trans ((ju_i _ _ g102).trans ((ju_c _ _ (by decide)).trans ((ju_c _ _ (by decide)).trans ((ju_c _ _ (by decide)).trans (hG_M i g73 g74 g75 g76 g77 g78 g79 g80 g81 g89 g90 g100 g102))))))))
    · have y8 : (ju (ju (ju (ju M 664 v1 40) 666 v1 (-1)) 667 v1 1) 598 102 (v1 + 1)) 598 73 = v2 := ((ju_i _ _ (by decide)).trans ((ju_c _ _ (by decide)).trans ((ju_c _ _ (by decide)).trans ((ju_c _ _ (by decide)).trans e2))))
      have y9 : (ju (ju (ju (ju M 664 v1 40) 666 v1 (-1)) 667 v1 1) 598 102 (v1 + 1)) 598 74 = v6 := ((ju_i _ _ (by decide)).trans ((ju_c _ _ (by decide)).trans ((ju_c _ _ (by decide)).trans ((ju_c _ _ (by decide)).trans e6))))
      have y11 : (ju (ju (ju (ju M 664 v1 40) 666 v1 (-1)) 667 v1 1) 598 102 (v1 + 1)) 598 75 = v10 := ((ju_i _ _ (by decide)).trans ((ju_c _ _ (by decide)).trans ((ju_c _ _ (by decide)).trans ((ju_c _ _ (by decide)).trans e10))))
      have y12 : (ju (ju (ju (ju M 664 v1 40) 666 v1 (-1)) 667 v1 1) 598 102 (v1 + 1)) 598 79 = v7 := ((ju_i _ _ (by decide)).trans ((ju_c _ _ (by decide)).trans ((ju_c _ _ (by decide)).trans ((ju_c _ _ (by decide)).trans e7))))
      have y13 : (ju (ju (ju (ju M 664 v1 40) 666 v1 (-1)) 667 v1 1) 598 102 (v1 + 1)) 598 80 = v4 := ((ju_i _ _ (by decide)).trans ((ju_c _ _ (by decide)).trans ((ju_c _ _ (by decide)).trans ((ju_c _ _ (by decide)).trans e4))))
      have y15 : (ju (ju (ju (ju M 664 v1 40) 666 v1 (-1)) 667 v1 1) 598 102 (v1 + 1)) 598 81 = v14 := ((ju_i _ _ (by decide)).trans ((ju_c _ _ (by decide)).trans ((ju_c _ _ (by decide)).trans ((ju_c _ _ (by decide)).trans e14))))
      have y17 : (ju (ju (ju (ju M 664 v1 40) 666 v1 (-1)) 667 v1 1) 598 102 (v1 + 1)) 598 89 = v16 := ((ju_i _ _ (by decide)).trans ((ju_c _ _ (by decide)).trans ((ju_c _ _ (by decide)).trans ((ju_c _ _ (by decide)).trans e16))))
      have y18 : (ju (ju (ju (ju M 664 v1 40) 666 v1 (-1)) 667 v1 1) 598 102 (v1 + 1)) 598 100 = v5 := ((ju_i _ _ (by decide)).trans ((ju_c _ _ (by decide)).trans ((ju_c _ _ (by decide)).trans ((ju_c _ _ (by decide)).trans e5))))
      have tb19 : TK (ju (ju (ju (ju M 664 v1 40) 666 v1 (-1)) 667 v1 1) 598 102 (v1 + 1)) = TK M := ((TK.o (Or.inr ⟨by decide, by decide⟩)).trans ((TK.o (Or.inl (by decide))).trans ((TK.o (Or.inl (by decide))).trans ((TK.o (Or.inl (by decide))).trans rfl))))
      have x19_72 := w19_51 72 (by decide) (by decide) (by decide) (by decide) (by decide) (by decide) (by decide) (by decide) (by decide) (by decide)
      have x19_89 := w19_51 89 (by decide) (by decide) (by decide) (by decide) (by decide) (by decide) (by decide) (by decide) (by decide) (by decide)
      have zfz : zr f N xs (zft (M19 598 80) (M19 598 81)) := zr.fe (zr.parf hz s0t.1 (by omega) (by omega)) (by omega) (by omega)
      refine jr.iconst rfl ?_
      have e50 : M19 598 72 = v3 := ((w19_51 72 (by decide) (by decide) (by decide) (by decide) (by decide) (by decide) (by decide) (by decide) (by decide) (by decide)).trans ((ju_i _ _ (by decide)).trans ((ju_c _ _ (by decide)).trans ((ju_c _ _ (by decide)).trans ((ju_c _ _ (by decide)).trans e3)))))
      have y51 : M19 598 72 = v3 := e50
      obtain ⟨v52, e52⟩ : ∃ z, M19 598 73 = z := ⟨_, rfl⟩
      have b52 : 0 ≤ v52 ∧ v52 ≤ 1600 := by rw [← e52]; exact hI_M19 598 73 (by decide)
      have y53 : M19 598 73 = v52 := e52
      obtain ⟨v54, e54⟩ : ∃ z, M19 598 74 = z := ⟨_, rfl⟩
      have b54 : 0 ≤ v54 ∧ v54 ≤ 4 := by rw [← e54]; exact hI_M19 598 74 (by decide)
      have y55 : M19 598 74 = v54 := e54
      obtain ⟨v56, e56⟩ : ∃ z, M19 598 79 = z := ⟨_, rfl⟩
      have b56 : 0 ≤ v56 ∧ v56 ≤ 255 := by rw [← e56]; exact hI_M19 598 79 (by decide)
      have y57 : M19 598 79 = v56 := e56
      obtain ⟨v58, e58⟩ : ∃ z, M19 598 80 = z := ⟨_, rfl⟩
      have b58 : 0 ≤ v58 ∧ v58 ≤ 7 := by rw [← e58]; exact hI_M19 598 80 (by decide)
      have y59 : M19 598 80 = v58 := e58
      have e60 : M19 598 89 = v16 := ((w19_51 89 (by decide) (by decide) (by decide) (by decide) (by decide) (by decide) (by decide) (by decide) (by decide) (by decide)).trans ((ju_i _ _ (by decide)).trans ((ju_c _ _ (by decide)).trans ((ju_c _ _ (by decide)).trans ((ju_c _ _ (by decide)).trans e16)))))
      have y61 : M19 598 89 = v16 := e60
      obtain ⟨v62, e62⟩ : ∃ z, M 598 90 = z := ⟨_, rfl⟩
      have b62 : 0 ≤ v62 ∧ v62 ≤ 2200 := by rw [← e62]; exact hI_M 598 90 (by decide)
      have e63 : M19 598 90 = v62 := ((w19_51 90 (by decide) (by decide) (by decide) (by decide) (by decide) (by decide) (by decide) (by decide) (by decide) (by decide)).trans ((ju_i _ _ (by decide)).trans ((ju_c _ _ (by decide)).trans ((ju_c _ _ (by decide)).trans ((ju_c _ _ (by decide)).trans e62)))))
      have y64 : M19 598 90 = v62 := e63
      obtain ⟨v65, e65⟩ : ∃ z, M19 598 100 = z := ⟨_, rfl⟩
      have b65 : 0 ≤ v65 ∧ v65 ≤ 13 := by rw [← e65]; exact hI_M19 598 100 (by decide)
      have y66 : M19 598 100 = v65 := e65
      obtain ⟨v67, e67⟩ : ∃ z, M 598 107 = z := ⟨_, rfl⟩
      have b67 : 0 ≤ v67 ∧ v67 ≤ 16 := by rw [← e67]; exact hI_M 598 107 (by decide)
      have e68 : M19 598 107 = v67 := ((w19_51 107 (by decide) (by decide) (by decide) (by decide) (by decide) (by decide) (by decide) (by decide) (by decide) (by decide)).trans ((ju_i _ _ (by decide)).trans ((ju_c _ _ (by decide)).trans ((ju_c _ _ (by decide)).trans ((ju_c _ _ (by decide)).trans e67)))))
      have y69 : M19 598 107 = v67 := e68
      obtain ⟨v70, e70⟩ : ∃ z, M19 598 75 = z := ⟨_, rfl⟩
      have b70 : 0 ≤ v70 ∧ v70 ≤ 1600 := by rw [← e70]; exact hI_M19 598 75 (by decide)
      have y71 : M19 598 75 = v70 := e70
      have y72 : M19 598 80 = v58 := e58
      obtain ⟨v73, e73⟩ : ∃ z, M19 598 81 = z := ⟨_, rfl⟩
      have b73 : (-1) ≤ v73 ∧ v73 ≤ 1600 := by rw [← e73]; exact hI_M19 598 81 (by decide)
      have y74 : M19 598 81 = v73 := e73
      have y75 : M19 598 89 = v16 := e60
      have y76 : M19 598 100 = v65 := e65
      exact jr.ireturn rfl rfl rfl (q _ _ hI_M19 hH_M19 hS_M19  (by omega) (Or.inl ⟨by omega, by omega⟩) (by omega) (by omega) (Or.inl (by omega)) (CP.f (CP.o (CP.o (CP.o (CP.o hCP (by decide) (Or.inl (by decide))) (by decide) (Or.inl (by decide))) (by decide) (Or.inl (by decide))) (by decide) (Or.inr (by decide))) (fun i => w19_50 659 i (by decide)) (w19_51 90 (by decide) (by decide) (by decide) (by decide) (by decide) (by decide) (by decide) (by decide) (by decide) (by decide))) (by omega) hT19 (fun _ => zr.fe zfz (by omega) (by omega)) (fun q => by exfalso; omega) (fun q => by exfalso; omega) (fun q => by omega) (fun a i f598 f659 f660 f664 f666 f667 => ((w19_50 a i f598).trans ((ju_c _ _ f598).trans ((ju_c _ _ f667).trans ((ju_c _ _ f666).trans ((ju_c _ _ f664).trans (hF_M a i f598 f659 f660 f664 f666 f667))))))) (fun i g73 g74 g75 g76 g77 g78 g79 g80 g81 g89 g90 g100 g102 => ((w19_51 i g73 g74 g75 g76 g77 g78 g79 g80 g81 g100).trans ((ju_i _ _ g102).trans ((ju_c _ _ (by decide)).trans ((ju_c _ _ (by decide)).trans ((ju_c _ _ (by decide)).trans (hG_M i g73 g74 g75 g76 g77 g78 g79 g80 g81 g89 g90 g100 g102))))))))
theorem r_takeOperand_L18_z {A : Nat → Option (Nat × (Nat → Int32))} {Q : Option Value → jm → Prop} {f : Int → Int} {N : Int} {b kk : Int} {xs : ZS} {t bh : Int} {s0 : List (Int × Int × Int × Int)} {nm ak : List Int} {M0 : jm} (q : ∀ (r : Int) (M' : jm), RI M' → RH M' → RF M' → 0 ≤ r ∧ r ≤ 1 → (BS M' ∨ (GS M' b r kk ∧ TK M' < TK M0)) → TK M' ≤ TK M0 → M' 598 73 ≤ M' 598 72 → (M' 598 80 ≠ 0 ∨ TK M' < TK M0) → CP M0 M' → M0 598 89 ≤ M' 598 89 → TXr f N M' → ZFQ f N xs M' → ZOQ f N xs (2 + r) M' (abr M' s0).2 bh (abr M' s0).1 nm ak → NUQ M' → K8Q M0 M' → (∀ (a : Nat) (i : Int), a ≠ 598 → a ≠ 659 → a ≠ 660 → a ≠ 664 → a ≠ 666 → a ≠ 667 → M' a i = M0 a i) → (∀ (i : Int), i ≠ 73 → i ≠ 74 → i ≠ 75 → i ≠ 76 → i ≠ 77 → i ≠ 78 → i ≠ 79 → i ≠ 80 → i ≠ 81 → i ≠ 89 → i ≠ 90 → i ≠ 100 → i ≠ 102 → M' 598 i = M0 598 i) → Q (some (.int (Int32.ofInt r))) M') : ∀ (M : jm) , RI M → RH M → RF M → (∀ (a : Nat) (i : Int), a ≠ 598 → a ≠ 659 → a ≠ 660 → a ≠ 664 → a ≠ 666 → a ≠ 667 → M a i = M0 a i) → (∀ (i : Int), i ≠ 73 → i ≠ 74 → i ≠ 75 → i ≠ 76 → i ≠ 77 → i ≠ 78 → i ≠ 79 → i ≠ 80 → i ≠ 81 → i ≠ 89 → i ≠ 90 → i ≠ 100 → i ≠ 102 → M 598 i = M0 598 i) → GS M b 0 kk → TK M = TK M0 → CP M0 M → M 598 89 = M0 598 89 → TKr f N t M → zr f N xs (2, t, M 598 89, M 598 100, (abr M s0).2, bh, (abr M s0).1, nm, ak) → NU M → M 598 81 = M0 598 81 → M 598 74 = 3 → (M 598 79 = 45 ∨ M 598 79 = 33) → jr A 5 xm_360 18 [(0, .ref (598))] [] M Q := by
    intro M  hI_M hH_M hS_M hF_M hG_M  hy0 hy1 hy2 hy3 hy4 hy5 hy6 hy7 hy8 hy9
    have p0 := hy0
    have hCP := hy2
    obtain ⟨gs1, gs2, gs3, gs4, gs5, gs6⟩ := id hy0
    have hE := gs2
    have sl := ES.sgle gs2
    have bb := ES.bb gs2
    have kb := ES.kz gs2
    have b107 : (0 : Int) ≤ M 598 107 ∧ M 598 107 ≤ 16 := hI_M 598 107 (by decide)
    have b73 : (0 : Int) ≤ M 598 73 ∧ M 598 73 ≤ 1600 := hI_M 598 73 (by decide)
    have b88 : (0 : Int) ≤ M 598 88 ∧ M 598 88 ≤ 16 := hI_M 598 88 (by decide)
    have b100 : (0 : Int) ≤ M 598 100 ∧ M 598 100 ≤ 13 := hI_M 598 100 (by decide)
    have hK := hy4
    have kk0 := hK.kz
    have hT := hK.1
    have hz := hy5
    have hNU := hy6
    have s0t := hK.sz hy8
    refine jr.aload_n rfl rfl ?_
    obtain ⟨v1, e1⟩ : ∃ z, M 598 80 = z := ⟨_, rfl⟩
    have b1 : 0 ≤ v1 ∧ v1 ≤ 7 := by rw [← e1]; exact hI_M 598 80 (by decide)
    obtain ⟨v2, e2⟩ : ∃ z, M 598 89 = z := ⟨_, rfl⟩
    have b2 : 0 ≤ v2 ∧ v2 ≤ 301 := by rw [← e2]; exact hI_M 598 89 (by decide)
    obtain ⟨v3, e3⟩ : ∃ z, M 598 100 = z := ⟨_, rfl⟩
    have b3 : 0 ≤ v3 ∧ v3 ≤ 13 := by rw [← e3]; exact hI_M 598 100 (by decide)
    obtain ⟨v4, e4⟩ : ∃ z, M 598 81 = z := ⟨_, rfl⟩
    have b4 : (-1) ≤ v4 ∧ v4 ≤ 1600 := by rw [← e4]; exact hI_M 598 81 (by decide)
    obtain ⟨v6, e6⟩ : ∃ z, M 598 73 = z := ⟨_, rfl⟩
    have b6 : 0 ≤ v6 ∧ v6 ≤ 1600 := by rw [← e6]; exact hI_M 598 73 (by decide)
    refine jr_v rfl rfl (Or.inl rfl) rfl rfl (by decide) rfl ⟨rfl, Nat.le_of_ble_eq_true rfl, Nat.le_of_ble_eq_true rfl⟩ rfl (jc.deep (c_node_z (f := f) (N := N) hI_M hH_M hS_M (by rw [e2]; omega) (by rw [e1]; omega) (fun M5 hI_M5 hH_M5 hS_M5 q95 ql5 q05 q15 w5_50 w5_51 => ?_) (fun M5 hI_M5 hH_M5 hS_M5 q95 ql5 q05 q15 w5_50 w5_51 => ?_)) (by decide))
    · have tk5 : TK M5 = TK M := TK.fr (w5_51 73 (by decide) (by decide) (by decide)) (w5_51 74 (by decide) (by decide) (by decide))
      have x5_72 := w5_51 72 (by decide) (by decide) (by decide)
      have x5_73 := w5_51 73 (by decide) (by decide) (by decide)
      have x5_74 := w5_51 74 (by decide) (by decide) (by decide)
      have x5_75 := w5_51 75 (by decide) (by decide) (by decide)
      have x5_76 := w5_51 76 (by decide) (by decide) (by decide)
      have x5_78 := w5_51 78 (by decide) (by decide) (by decide)
      have x5_79 := w5_51 79 (by decide) (by decide) (by decide)
      have x5_100 := w5_51 100 (by decide) (by decide) (by decide)
      have y7 : M 598 73 = v6 := e6
      have y8 : M 598 89 = v2 := e2
      have y9 : M 598 100 = v3 := e3
      have x5_73 := w5_51 73 (by decide) (by decide) (by decide)
      have x5_100 := w5_51 100 (by decide) (by decide) (by decide)
      have hE := ES.fr2 hE w5_50 (w5_51 88 (by decide) (by decide) (by decide)) (w5_51 90 (by decide) (by decide) (by decide)) (w5_51 101 (by decide) (by decide) (by decide)) (w5_51 102 (by decide) (by decide) (by decide)) (w5_51 107 (by decide) (by decide) (by decide)) (k' := kk + 4) (d' := 0) (z' := 0) (by omega) (by omega) (by omega) (by omega)
      refine jr.aload_n rfl rfl ?_
      refine jr.aload_n rfl rfl ?_
      refine jr.bipush rfl (by decide) ?_
      refine jr_v rfl rfl (Or.inl rfl) rfl rfl (by decide) rfl ⟨rfl, Nat.le_of_ble_eq_true rfl, Nat.le_of_ble_eq_true rfl⟩ rfl (jc.deep (c_isSign hI_M5 (by omega) (fun t26_0 t26_1 => ?_) (fun f26_0 => ?_)) (by decide))
      · refine jr.if_eq rfl rfl (by omega) (fun h => absurd h (by decide)) (fun _ => ?_)
        refine jr.bipush rfl (by decide) ?_
        refine jr.goto rfl rfl ?_
        refine jr.iconst rfl ?_
        obtain ⟨v10, e10⟩ : ∃ z, M 598 102 = z := ⟨_, rfl⟩
        have b10 : 0 ≤ v10 ∧ v10 ≤ 400 := by rw [← e10]; exact hI_M 598 102 (by decide)
        have e11 : M5 598 102 = v10 := ((w5_51 102 (by decide) (by decide) (by decide)).trans e10)
        refine jr_v rfl rfl (Or.inl rfl) rfl rfl (by decide) rfl ⟨rfl, Nat.le_of_ble_eq_true rfl, Nat.le_of_ble_eq_true rfl⟩ rfl (jc.deep (r_push e11 (by omega) (by omega) (by omega) ?_) (by decide))
        have hE := ES.deep hE e11 10 (-1) 1 (kk + 2) (by omega) (by omega) (by omega)
        refine jr.aload_n rfl rfl ?_
        obtain ⟨v12, e12⟩ : ∃ z, M5 598 80 = z := ⟨_, rfl⟩
        have b12 : 0 ≤ v12 ∧ v12 ≤ 7 := by rw [← e12]; exact hI_M5 598 80 (by decide)
        refine jr_v rfl rfl (Or.inl rfl) rfl rfl (by decide) rfl ⟨rfl, Nat.le_of_ble_eq_true rfl, Nat.le_of_ble_eq_true rfl⟩ rfl (jc.deep (c_good (RI.u (RI.u (RI.u (RI.u hI_M5 (a := 664) (i := v10) (by rw [xri_row rfl rfl]; show (0 : Int) ≤ _ ∧ _ ≤ (255 : Int); omega)) (a := 666) (i := v10) (by rw [xri_row rfl rfl]; show (-1 : Int) ≤ _ ∧ _ ≤ (68 : Int); omega)) (a := 667) (i := v10) (by rw [xri_row rfl rfl]; show (0 : Int) ≤ _ ∧ _ ≤ (4 : Int); omega)) (a := 598) (i := 102) (show (0 : Int) ≤ _ ∧ _ ≤ (400 : Int) from by omega))  (fun t44_0 => ?_) (fun f44_0 => ?_)) (by decide))
        · refine jr.if_eq rfl rfl (by omega) (fun h => absurd h (by decide)) (fun _ => ?_)
          refine jr.aload_n rfl rfl ?_
          have e14 : M5 598 73 = v6 := ((w5_51 73 (by decide) (by decide) (by decide)).trans e6)
          obtain ⟨v15, e15⟩ : ∃ z, M 598 72 = z := ⟨_, rfl⟩
          have b15 : 0 ≤ v15 ∧ v15 ≤ 1600 := by rw [← e15]; exact hI_M 598 72 (by decide)
          have e16 : M5 598 72 = v15 := ((w5_51 72 (by decide) (by decide) (by decide)).trans e15)
          have e17 : M5 598 100 = v3 := ((w5_51 100 (by decide) (by decide) (by decide)).trans e3)
          obtain ⟨v18, e18⟩ : ∃ z, M 598 74 = z := ⟨_, rfl⟩
          have b18 : 0 ≤ v18 ∧ v18 ≤ 4 := by rw [← e18]; exact hI_M 598 74 (by decide)
          have e19 : M5 598 74 = v18 := ((w5_51 74 (by decide) (by decide) (by decide)).trans e18)
          obtain ⟨v20, e20⟩ : ∃ z, M 598 79 = z := ⟨_, rfl⟩
          have b20 : 0 ≤ v20 ∧ v20 ≤ 255 := by rw [← e20]; exact hI_M 598 79 (by decide)
          have e21 : M5 598 79 = v20 := ((w5_51 79 (by decide) (by decide) (by decide)).trans e20)
          obtain ⟨v24, e24⟩ : ∃ z, M 598 75 = z := ⟨_, rfl⟩
          have b24 : 0 ≤ v24 ∧ v24 ≤ 1600 := by rw [← e24]; exact hI_M 598 75 (by decide)
          have e25 : M5 598 75 = v24 := ((w5_51 75 (by decide) (by decide) (by decide)).trans e24)
          obtain ⟨v29, e29⟩ : ∃ z, M5 598 81 = z := ⟨_, rfl⟩
          have b29 : (-1) ≤ v29 ∧ v29 ≤ 1600 := by rw [← e29]; exact hI_M5 598 81 (by decide)
          obtain ⟨v31, e31⟩ : ∃ z, M5 598 89 = z := ⟨_, rfl⟩
          have b31 : 0 ≤ v31 ∧ v31 ≤ 301 := by rw [← e31]; exact hI_M5 598 89 (by decide)
          refine jr_v rfl rfl (Or.inl rfl) rfl rfl (by decide) rfl ⟨rfl, Nat.le_of_ble_eq_true rfl, Nat.le_of_ble_eq_true rfl⟩ rfl (jc.deep (c_deeper_z (f := f) (N := N) (RI.u (RI.u (RI.u (RI.u hI_M5 (a := 664) (i := v10) (by rw [xri_row rfl rfl]; show (0 : Int) ≤ _ ∧ _ ≤ (255 : Int); omega)) (a := 666) (i := v10) (by rw [xri_row rfl rfl]; show (-1 : Int) ≤ _ ∧ _ ≤ (68 : Int); omega)) (a := 667) (i := v10) (by rw [xri_row rfl rfl]; show (0 : Int) ≤ _ ∧ _ ≤ (4 : Int); omega)) (a := 598) (i := 102) (show (0 : Int) ≤ _ ∧ _ ≤ (400 : Int) from by omega)) (RH.o (RH.o (RH.o (RH.o hH_M5 (by decide) (by decide) (by decide)) (by decide) (by decide) (by decide)) (by decide) (by decide) (by decide)) (by decide) (by decide) (by decide)) (RF.o (RF.o (RF.o (RF.o hS_M5 (by decide) (by decide)) (by decide) (by decide)) (by decide) (by decide)) (by decide) (by decide)) (by rw [((ju_i _ _ (by decide)).trans ((ju_c _ _ (by decide)).trans ((ju_c _ _ (by decide)).trans ((ju_c _ _ (by decide)).trans e14)))), ((ju_i _ _ (by decide)).trans ((ju_c _ _ (by decide)).trans ((ju_c _ _ (by decide)).trans ((ju_c _ _ (by decide)).trans e16))))]; omega) (TKr.oo (TKr.cc (TKr.cc (TKr.cc (TKr.fr hK (w5_51 72 (by decide) (by decide) (by decide)) (fun i => w5_50 651 i (by decide)) (fun i => w5_50 649 i (by decide)) (fun i => w5_50 650 i (by decide)) (w5_51 73 (by decide) (by decide) (by decide)) (w5_51 74 (by decide) (by decide) (by decide)) (w5_51 75 (by decide) (by decide) (by decide)) (w5_51 76 (by decide) (by decide) (by decide)) (w5_51 77 (by decide) (by decide) (by decide)) (w5_51 78 (by decide) (by decide) (by decide)) (w5_51 79 (by decide) (by decide) (by decide))) (by decide) (by decide) (by decide) (by decide)) (by decide) (by decide) (by decide) (by decide)) (by decide) (by decide) (by decide) (by decide)) (by decide)) (by rw [((ju_i _ _ (by decide)).trans ((ju_c _ _ (by decide)).trans ((ju_c _ _ (by decide)).trans ((ju_c _ _ (by decide)).trans e12))))]; omega) (by rw [((ju_i _ _ (by decide)).trans ((ju_c _ _ (by decide)).trans ((ju_c _ _ (by decide)).trans ((ju_c _ _ (by decide)).trans e17))))]; omega) (by rw [((ju_i _ _ (by decide)).trans ((ju_c _ _ (by decide)).trans ((ju_c _ _ (by decide)).trans ((ju_c _ _ (by decide)).trans e19))))]; omega) (by rw [((ju_i _ _ (by decide)).trans ((ju_c _ _ (by decide)).trans ((ju_c _ _ (by decide)).trans ((ju_c _ _ (by decide)).trans e19)))), ((ju_i _ _ (by decide)).trans ((ju_c _ _ (by decide)).trans ((ju_c _ _ (by decide)).trans ((ju_c _ _ (by decide)).trans e21))))]; intro q; omega) (fun M34 hI_M34 hH_M34 hS_M34 qa34 qb34 qt34 qd34 ql34 sn34 q034 q134 hK34 w34_50 w34_51 => ?_) (fun M34 hI_M34 hH_M34 hS_M34 qa34 qb34 qt34 qd34 ql34 q034 q134 hT34 w34_50 w34_51 => ?_)) (by decide))
          · have y22 : (ju (ju (ju (ju M5 664 v10 10) 666 v10 (-1)) 667 v10 1) 598 102 (v10 + 1)) 598 73 = v6 := ((ju_i _ _ (by decide)).trans ((ju_c _ _ (by decide)).trans ((ju_c _ _ (by decide)).trans ((ju_c _ _ (by decide)).trans e14))))
            have y23 : (ju (ju (ju (ju M5 664 v10 10) 666 v10 (-1)) 667 v10 1) 598 102 (v10 + 1)) 598 74 = v18 := ((ju_i _ _ (by decide)).trans ((ju_c _ _ (by decide)).trans ((ju_c _ _ (by decide)).trans ((ju_c _ _ (by decide)).trans e19))))
            have y26 : (ju (ju (ju (ju M5 664 v10 10) 666 v10 (-1)) 667 v10 1) 598 102 (v10 + 1)) 598 75 = v24 := ((ju_i _ _ (by decide)).trans ((ju_c _ _ (by decide)).trans ((ju_c _ _ (by decide)).trans ((ju_c _ _ (by decide)).trans e25))))
            have y27 : (ju (ju (ju (ju M5 664 v10 10) 666 v10 (-1)) 667 v10 1) 598 102 (v10 + 1)) 598 79 = v20 := ((ju_i _ _ (by decide)).trans ((ju_c _ _ (by decide)).trans ((ju_c _ _ (by decide)).trans ((ju_c _ _ (by decide)).trans e21))))
            have y28 : (ju (ju (ju (ju M5 664 v10 10) 666 v10 (-1)) 667 v10 1) 598 102 (v10 + 1)) 598 80 = v12 := ((ju_i _ _ (by decide)).trans ((ju_c _ _ (by decide)).trans ((ju_c _ _ (by decide)).trans ((ju_c _ _ (by decide)).trans e12))))
            have y30 : (ju (ju (ju (ju M5 664 v10 10) 666 v10 (-1)) 667 v10 1) 598 102 (v10 + 1)) 598 81 = v29 := ((ju_i _ _ (by decide)).trans ((ju_c _ _ (by decide)).trans ((ju_c _ _ (by decide)).trans ((ju_c _ _ (by decide)).trans e29))))
            have y32 : (ju (ju (ju (ju M5 664 v10 10) 666 v10 (-1)) 667 v10 1) 598 102 (v10 + 1)) 598 89 = v31 := ((ju_i _ _ (by decide)).trans ((ju_c _ _ (by decide)).trans ((ju_c _ _ (by decide)).trans ((ju_c _ _ (by decide)).trans e31))))
            have y33 : (ju (ju (ju (ju M5 664 v10 10) 666 v10 (-1)) 667 v10 1) 598 102 (v10 + 1)) 598 100 = v3 := ((ju_i _ _ (by decide)).trans ((ju_c _ _ (by decide)).trans ((ju_c _ _ (by decide)).trans ((ju_c _ _ (by decide)).trans e17))))
            have tb34 : TK (ju (ju (ju (ju M5 664 v10 10) 666 v10 (-1)) 667 v10 1) 598 102 (v10 + 1)) = TK M5 := ((TK.o (Or.inr ⟨by decide, by decide⟩)).trans ((TK.o (Or.inl (by decide))).trans ((TK.o (Or.inl (by decide))).trans ((TK.o (Or.inl (by decide))).trans rfl))))
            have x34_72 := w34_51 72 (by decide) (by decide) (by decide) (by decide) (by decide) (by decide) (by decide) (by decide) (by decide) (by decide)
            have x34_89 := w34_51 89 (by decide) (by decide) (by decide) (by decide) (by decide) (by decide) (by decide) (by decide) (by decide) (by decide)
            have hT34 := hK34.1
            have kk34 := hK34.kz
            have y35 : (ju (ju (ju (ju M5 664 v10 10) 666 v10 (-1)) 667 v10 1) 598 102 (v10 + 1)) 598 73 = v6 := ((ju_i _ _ (by decide)).trans ((ju_c _ _ (by decide)).trans ((ju_c _ _ (by decide)).trans ((ju_c _ _ (by decide)).trans e14))))
            have y36 : (ju (ju (ju (ju M5 664 v10 10) 666 v10 (-1)) 667 v10 1) 598 102 (v10 + 1)) 598 89 = v31 := ((ju_i _ _ (by decide)).trans ((ju_c _ _ (by decide)).trans ((ju_c _ _ (by decide)).trans ((ju_c _ _ (by decide)).trans e31))))
            have y37 : (ju (ju (ju (ju M5 664 v10 10) 666 v10 (-1)) 667 v10 1) 598 102 (v10 + 1)) 598 100 = v3 := ((ju_i _ _ (by decide)).trans ((ju_c _ _ (by decide)).trans ((ju_c _ _ (by decide)).trans ((ju_c _ _ (by decide)).trans e17))))
            have x34_89 := w34_51 89 (by decide) (by decide) (by decide) (by decide) (by decide) (by decide) (by decide) (by decide) (by decide) (by decide)
            have hE := ES.fr2 hE w34_50 (w34_51 88 (by decide) (by decide) (by decide) (by decide) (by decide) (by decide) (by decide) (by decide) (by decide) (by decide)) (w34_51 90 (by decide) (by decide) (by decide) (by decide) (by decide) (by decide) (by decide) (by decide) (by decide) (by decide)) (w34_51 101 (by decide) (by decide) (by decide) (by decide) (by decide) (by decide) (by decide) (by decide) (by decide) (by decide)) (w34_51 102 (by decide) (by decide) (by decide) (by decide) (by decide) (by decide) (by decide) (by decide) (by decide) (by decide)) (w34_51 107 (by decide) (by decide) (by decide) (by decide) (by decide) (by decide) (by decide) (by decide) (by decide) (by decide)) (k' := kk + 2) (d' := 0) (z' := 0) (by omega) (by omega) (by omega) (by omega)
            refine jr.iconst rfl ?_
            have e38 : M34 598 72 = v15 := ((w34_51 72 (by decide) (by decide) (by decide) (by decide) (by decide) (by decide) (by decide) (by decide) (by decide) (by decide)).trans ((ju_i _ _ (by decide)).trans ((ju_c _ _ (by decide)).trans ((ju_c _ _ (by decide)).trans ((ju_c _ _ (by decide)).trans e16)))))
            have y39 : M34 598 72 = v15 := e38
            obtain ⟨v40, e40⟩ : ∃ z, M34 598 73 = z := ⟨_, rfl⟩
            have b40 : 0 ≤ v40 ∧ v40 ≤ 1600 := by rw [← e40]; exact hI_M34 598 73 (by decide)
            have y41 : M34 598 73 = v40 := e40
            obtain ⟨v42, e42⟩ : ∃ z, M34 598 74 = z := ⟨_, rfl⟩
            have b42 : 0 ≤ v42 ∧ v42 ≤ 4 := by rw [← e42]; exact hI_M34 598 74 (by decide)
            have y43 : M34 598 74 = v42 := e42
            obtain ⟨v44, e44⟩ : ∃ z, M34 598 79 = z := ⟨_, rfl⟩
            have b44 : 0 ≤ v44 ∧ v44 ≤ 255 := by rw [← e44]; exact hI_M34 598 79 (by decide)
            have y45 : M34 598 79 = v44 := e44
            obtain ⟨v46, e46⟩ : ∃ z, M34 598 80 = z := ⟨_, rfl⟩
            have b46 : 0 ≤ v46 ∧ v46 ≤ 7 := by rw [← e46]; exact hI_M34 598 80 (by decide)
            have y47 : M34 598 80 = v46 := e46
            have e48 : M34 598 89 = v31 := ((w34_51 89 (by decide) (by decide) (by decide) (by decide) (by decide) (by decide) (by decide) (by decide) (by decide) (by decide)).trans ((ju_i _ _ (by decide)).trans ((ju_c _ _ (by decide)).trans ((ju_c _ _ (by decide)).trans ((ju_c _ _ (by decide)).trans e31)))))
            have y49 : M34 598 89 = v31 := e48
            obtain ⟨v50, e50⟩ : ∃ z, M 598 90 = z := ⟨_, rfl⟩
            have b50 : 0 ≤ v50 ∧ v50 ≤ 2200 := by rw [← e50]; exact hI_M 598 90 (by decide)
            have e51 : M5 598 90 = v50 := ((w5_51 90 (by decide) (by decide) (by decide)).trans e50)
            have e52 : M34 598 90 = v50 := ((w34_51 90 (by decide) (by decide) (by decide) (by decide) (by decide) (by decide) (by decide) (by decide) (by decide) (by decide)).trans ((ju_i _ _ (by decide)).trans ((ju_c _ _ (by decide)).trans ((ju_c _ _ (by decide)).trans ((ju_c _ _ (by decide)).trans e51)))))
            have y53 : M34 598 90 = v50 := e52
            obtain ⟨v54, e54⟩ : ∃ z, M34 598 100 = z := ⟨_, rfl⟩
            have b54 : 0 ≤ v54 ∧ v54 ≤ 13 := by rw [← e54]; exact hI_M34 598 100 (by decide)
            have y55 : M34 598 100 = v54 := e54
            obtain ⟨v56, e56⟩ : ∃ z, M 598 107 = z := ⟨_, rfl⟩
            have b56 : 0 ≤ v56 ∧ v56 ≤ 16 := by rw [← e56]; exact hI_M 598 107 (by decide)
            have e57 : M5 598 107 = v56 := ((w5_51 107 (by decide) (by decide) (by decide)).trans e56)
            have e58 : M34 598 107 = v56 := ((w34_51 107 (by decide) (by decide) (by decide) (by decide) (by decide) (by decide) (by decide) (by decide) (by decide) (by decide)).trans ((ju_i _ _ (by decide)).trans ((ju_c _ _ (by decide)).trans ((ju_c _ _ (by decide)).trans ((ju_c _ _ (by decide)).trans e57)))))
            have y59 : M34 598 107 = v56 := e58
            obtain ⟨v60, e60⟩ : ∃ z, M34 598 75 = z := ⟨_, rfl⟩
            have b60 : 0 ≤ v60 ∧ v60 ≤ 1600 := by rw [← e60]; exact hI_M34 598 75 (by decide)
            have y61 : M34 598 75 = v60 := e60
            have y62 : M34 598 80 = v46 := e46
            obtain ⟨v63, e63⟩ : ∃ z, M34 598 81 = z := ⟨_, rfl⟩
            have b63 : (-1) ≤ v63 ∧ v63 ≤ 1600 := by rw [← e63]; exact hI_M34 598 81 (by decide)
            have y64 : M34 598 81 = v63 := e63
            have y65 : M34 598 89 = v31 := e48
            have y66 : M34 598 100 = v54 := e54
            exact jr.ireturn rfl rfl rfl (q _ _ hI_M34 hH_M34 hS_M34  (by omega) (Or.inr ⟨⟨by omega, ES.adj hE (k' := kk) (z' := 0) (by omega) (by omega) (by omega), by omega, by omega, by omega, by omega⟩, by omega⟩) (by omega) (by omega) (Or.inr (by omega)) (CP.f (CP.o (CP.o (CP.o (CP.o (CP.f hCP (fun i => w5_50 659 i (by decide)) (w5_51 90 (by decide) (by decide) (by decide))) (by decide) (Or.inl (by decide))) (by decide) (Or.inl (by decide))) (by decide) (Or.inl (by decide))) (by decide) (Or.inr (by decide))) (fun i => w34_50 659 i (by decide)) (w34_51 90 (by decide) (by decide) (by decide) (by decide) (by decide) (by decide) (by decide) (by decide) (by decide) (by decide))) (by omega) hT34 (fun q => by exfalso; omega) (fun _ => ⟨_, hK34, zr.eqx (zr.una hz s0t.1 (by omega) (by omega) (by omega)) (by omega) rfl (by omega) (by omega) rfl ((abr_fr s0 (fun i => w34_50 664 i (by decide)) (fun i => w34_50 666 i (by decide)) (fun i => w34_50 667 i (by decide)) (w34_51 102 (by decide) (by decide) (by decide) (by decide) (by decide) (by decide) (by decide) (by decide) (by decide) (by decide))).trans ((((abr_push (M := M5) (s := 10) (w := (-1)) s0 e11 (by omega)).trans (if_neg (by decide))).trans (if_pos (by decide))).trans (by rw [((abr_fr s0 (fun i => w5_50 664 i (by decide)) (fun i => w5_50 666 i (by decide)) (fun i => w5_50 667 i (by decide)) (w5_51 102 (by decide) (by decide) (by decide))).trans rfl)])))⟩) (fun _ => (NU.fr (NU.push (NU.fr hNU (fun i => w5_50 664 i (by decide)) (w5_51 102 (by decide) (by decide) (by decide))) e11 (by first | omega | (right; right; right; exact hnone))) (fun i => w34_50 664 i (by decide)) (w34_51 102 (by decide) (by decide) (by decide) (by decide) (by decide) (by decide) (by decide) (by decide) (by decide) (by decide)))) (fun q => by omega) (fun a i f598 f659 f660 f664 f666 f667 => ((w34_50 a i f598).trans ((ju_c _ _ f598).trans ((ju_c _ _ f667).trans ((ju_c _ _ f666).trans ((ju_c _ _ f664).trans ((w5_50 a i f598).trans (hF_M a i f598 f659 f660 f664 f666 f667)))))))) (fun i g73 g74 g75 g76 g77 g78 g79 g80 g81 g89 g90 g100 g102 => ((w34_51 i g73 g74 g75 g76 g77 g78 g79 g80 g81 g100).trans ((ju_i _ _ g102).trans ((ju_c _ _ (by decide)).trans ((ju_c _ _ (by decide)).trans ((ju_c _ _ (by decide)).trans ((w5_51 i g80 g81 g89).trans (hG_M i g73 g74 g75 g76 g77 g78 g79 g80 g81 g89 g90 g100 g102)))))))))
          · have y22 : (ju (ju (ju (ju M5 664 v10 10) 666 v10 (-1)) 667 v10 1) 598 102 (v10 + 1)) 598 73 = v6 := ((ju_i _ _ (by decide)).trans ((ju_c _ _ (by decide)).trans ((ju_c _ _ (by decide)).trans ((ju_c _ _ (by decide)).trans e14))))
            have y23 : (ju (ju (ju (ju M5 664 v10 10) 666 v10 (-1)) 667 v10 1) 598 102 (v10 + 1)) 598 74 = v18 := ((ju_i _ _ (by decide)).trans ((ju_c _ _ (by decide)).trans ((ju_c _ _ (by decide)).trans ((ju_c _ _ (by decide)).trans e19))))
            have y26 : (ju (ju (ju (ju M5 664 v10 10) 666 v10 (-1)) 667 v10 1) 598 102 (v10 + 1)) 598 75 = v24 := ((ju_i _ _ (by decide)).trans ((ju_c _ _ (by decide)).trans ((ju_c _ _ (by decide)).trans ((ju_c _ _ (by decide)).trans e25))))
            have y27 : (ju (ju (ju (ju M5 664 v10 10) 666 v10 (-1)) 667 v10 1) 598 102 (v10 + 1)) 598 79 = v20 := ((ju_i _ _ (by decide)).trans ((ju_c _ _ (by decide)).trans ((ju_c _ _ (by decide)).trans ((ju_c _ _ (by decide)).trans e21))))
            have y28 : (ju (ju (ju (ju M5 664 v10 10) 666 v10 (-1)) 667 v10 1) 598 102 (v10 + 1)) 598 80 = v12 := ((ju_i _ _ (by decide)).trans ((ju_c _ _ (by decide)).trans ((ju_c _ _ (by decide)).trans ((ju_c _ _ (by decide)).trans e12))))
            have y30 : (ju (ju (ju (ju M5 664 v10 10) 666 v10 (-1)) 667 v10 1) 598 102 (v10 + 1)) 598 81 = v29 := ((ju_i _ _ (by decide)).trans ((ju_c _ _ (by decide)).trans ((ju_c _ _ (by decide)).trans ((ju_c _ _ (by decide)).trans e29))))
            have y32 : (ju (ju (ju (ju M5 664 v10 10) 666 v10 (-1)) 667 v10 1) 598 102 (v10 + 1)) 598 89 = v31 := ((ju_i _ _ (by decide)).trans ((ju_c _ _ (by decide)).trans ((ju_c _ _ (by decide)).trans ((ju_c _ _ (by decide)).trans e31))))
            have y33 : (ju (ju (ju (ju M5 664 v10 10) 666 v10 (-1)) 667 v10 1) 598 102 (v10 + 1)) 598 100 = v3 := ((ju_i _ _ (by decide)).trans ((ju_c _ _ (by decide)).trans ((ju_c _ _ (by decide)).trans ((ju_c _ _ (by decide)).trans e17))))
            have tb34 : TK (ju (ju (ju (ju M5 664 v10 10) 666 v10 (-1)) 667 v10 1) 598 102 (v10 + 1)) = TK M5 := ((TK.o (Or.inr ⟨by decide, by decide⟩)).trans ((TK.o (Or.inl (by decide))).trans ((TK.o (Or.inl (by decide))).trans ((TK.o (Or.inl (by decide))).trans rfl))))
            have x34_72 := w34_51 72 (by decide) (by decide) (by decide) (by decide) (by decide) (by decide) (by decide) (by decide) (by decide) (by decide)
            have x34_89 := w34_51 89 (by decide) (by decide) (by decide) (by decide) (by decide) (by decide) (by decide) (by decide) (by decide) (by decide)
            have zfz : zr f N xs (zft (M34 598 80) (M34 598 81)) := zr.fe (zr.unaf hz s0t.1 (by omega) (by omega)) (by omega) (by omega)
            refine jr.iconst rfl ?_
            have e67 : M34 598 72 = v15 := ((w34_51 72 (by decide) (by decide) (by decide) (by decide) (by decide) (by decide) (by decide) (by decide) (by decide) (by decide)).trans ((ju_i _ _ (by decide)).trans ((ju_c _ _ (by decide)).trans ((ju_c _ _ (by decide)).trans ((ju_c _ _ (by decide)).trans e16)))))
            have y68 : M34 598 72 = v15 := e67
            obtain ⟨v69, e69⟩ : ∃ z, M34 598 73 = z := ⟨_, rfl⟩
            have b69 : 0 ≤ v69 ∧ v69 ≤ 1600 := by rw [← e69]; exact hI_M34 598 73 (by decide)
            have y70 : M34 598 73 = v69 := e69
            obtain ⟨v71, e71⟩ : ∃ z, M34 598 74 = z := ⟨_, rfl⟩
            have b71 : 0 ≤ v71 ∧ v71 ≤ 4 := by rw [← e71]; exact hI_M34 598 74 (by decide)
            have y72 : M34 598 74 = v71 := e71
            obtain ⟨v73, e73⟩ : ∃ z, M34 598 79 = z := ⟨_, rfl⟩
            have b73 : 0 ≤ v73 ∧ v73 ≤ 255 := by rw [← e73]; exact hI_M34 598 79 (by decide)
            have y74 : M34 598 79 = v73 := e73
            obtain ⟨v75, e75⟩ : ∃ z, M34 598 80 = z := ⟨_, rfl⟩
            have b75 : 0 ≤ v75 ∧ v75 ≤ 7 := by rw [← e75]; exact hI_M34 598 80 (by decide)
            have y76 : M34 598 80 = v75 := e75
            have e77 : M34 598 89 = v31 := ((w34_51 89 (by decide) (by decide) (by decide) (by decide) (by decide) (by decide) (by decide) (by decide) (by decide) (by decide)).trans ((ju_i _ _ (by decide)).trans ((ju_c _ _ (by decide)).trans ((ju_c _ _ (by decide)).trans ((ju_c _ _ (by decide)).trans e31)))))
            have y78 : M34 598 89 = v31 := e77
            obtain ⟨v79, e79⟩ : ∃ z, M 598 90 = z := ⟨_, rfl⟩
            have b79 : 0 ≤ v79 ∧ v79 ≤ 2200 := by rw [← e79]; exact hI_M 598 90 (by decide)
            have e80 : M5 598 90 = v79 := ((w5_51 90 (by decide) (by decide) (by decide)).trans e79)
            have e81 : M34 598 90 = v79 := ((w34_51 90 (by decide) (by decide) (by decide) (by decide) (by decide) (by decide) (by decide) (by decide) (by decide) (by decide)).trans ((ju_i _ _ (by decide)).trans ((ju_c _ _ (by decide)).trans ((ju_c _ _ (by decide)).trans ((ju_c _ _ (by decide)).trans e80)))))
            have y82 : M34 598 90 = v79 := e81
            obtain ⟨v83, e83⟩ : ∃ z, M34 598 100 = z := ⟨_, rfl⟩
            have b83 : 0 ≤ v83 ∧ v83 ≤ 13 := by rw [← e83]; exact hI_M34 598 100 (by decide)
            have y84 : M34 598 100 = v83 := e83
            obtain ⟨v85, e85⟩ : ∃ z, M 598 107 = z := ⟨_, rfl⟩
            have b85 : 0 ≤ v85 ∧ v85 ≤ 16 := by rw [← e85]; exact hI_M 598 107 (by decide)
            have e86 : M5 598 107 = v85 := ((w5_51 107 (by decide) (by decide) (by decide)).trans e85)
            have e87 : M34 598 107 = v85 := ((w34_51 107 (by decide) (by decide) (by decide) (by decide) (by decide) (by decide) (by decide) (by decide) (by decide) (by decide)).trans ((ju_i _ _ (by decide)).trans ((ju_c _ _ (by decide)).trans ((ju_c _ _ (by decide)).trans ((ju_c _ _ (by decide)).trans e86)))))
            have y88 : M34 598 107 = v85 := e87
            obtain ⟨v89, e89⟩ : ∃ z, M34 598 75 = z := ⟨_, rfl⟩
            have b89 : 0 ≤ v89 ∧ v89 ≤ 1600 := by rw [← e89]; exact hI_M34 598 75 (by decide)
            have y90 : M34 598 75 = v89 := e89
            have y91 : M34 598 80 = v75 := e75
            obtain ⟨v92, e92⟩ : ∃ z, M34 598 81 = z := ⟨_, rfl⟩
            have b92 : (-1) ≤ v92 ∧ v92 ≤ 1600 := by rw [← e92]; exact hI_M34 598 81 (by decide)
            have y93 : M34 598 81 = v92 := e92
            have y94 : M34 598 89 = v31 := e77
            have y95 : M34 598 100 = v83 := e83
            exact jr.ireturn rfl rfl rfl (q _ _ hI_M34 hH_M34 hS_M34  (by omega) (Or.inl ⟨by omega, by omega⟩) (by omega) (by omega) (Or.inl (by omega)) (CP.f (CP.o (CP.o (CP.o (CP.o (CP.f hCP (fun i => w5_50 659 i (by decide)) (w5_51 90 (by decide) (by decide) (by decide))) (by decide) (Or.inl (by decide))) (by decide) (Or.inl (by decide))) (by decide) (Or.inl (by decide))) (by decide) (Or.inr (by decide))) (fun i => w34_50 659 i (by decide)) (w34_51 90 (by decide) (by decide) (by decide) (by decide) (by decide) (by decide) (by decide) (by decide) (by decide) (by decide))) (by omega) hT34 (fun _ => zr.fe zfz (by omega) (by omega)) (fun q => by exfalso; omega) (fun q => by exfalso; omega) (fun q => by omega) (fun a i f598 f659 f660 f664 f666 f667 => ((w34_50 a i f598).trans ((ju_c _ _ f598).trans ((ju_c _ _ f667).trans ((ju_c _ _ f666).trans ((ju_c _ _ f664).trans ((w5_50 a i f598).trans (hF_M a i f598 f659 f660 f664 f666 f667)))))))) (fun i g73 g74 g75 g76 g77 g78 g79 g80 g81 g89 g90 g100 g102 => ((w34_51 i g73 g74 g75 g76 g77 g78 g79 g80 g81 g100).trans ((ju_i _ _ g102).trans ((ju_c _ _ (by decide)).trans ((ju_c _ _ (by decide)).trans ((ju_c _ _ (by decide)).trans ((w5_51 i g80 g81 g89).trans (hG_M i g73 g74 g75 g76 g77 g78 g79 g80 g81 g89 g90 g100 g102)))))))))
        · exfalso
          have y13 : (ju (ju (ju (ju M5 664 v10 10) 666 v10 (-1)) 667 v10 1) 598 102 (v10 + 1)) 598 80 = v12 := ((ju_i _ _ (by decide)).trans ((ju_c _ _ (by decide)).trans ((ju_c _ _ (by decide)).trans ((ju_c _ _ (by decide)).trans e12))))
          omega
      · refine jr.if_eq rfl rfl (by omega) (fun _ => ?_) (fun h => absurd (by decide) h)
        refine jr.bipush rfl (by decide) ?_
        refine jr.iconst rfl ?_
        obtain ⟨v96, e96⟩ : ∃ z, M 598 102 = z := ⟨_, rfl⟩
        have b96 : 0 ≤ v96 ∧ v96 ≤ 400 := by rw [← e96]; exact hI_M 598 102 (by decide)
        have e97 : M5 598 102 = v96 := ((w5_51 102 (by decide) (by decide) (by decide)).trans e96)
        refine jr_v rfl rfl (Or.inl rfl) rfl rfl (by decide) rfl ⟨rfl, Nat.le_of_ble_eq_true rfl, Nat.le_of_ble_eq_true rfl⟩ rfl (jc.deep (r_push e97 (by omega) (by omega) (by omega) ?_) (by decide))
        have hE := ES.deep hE e97 11 (-1) 1 (kk + 2) (by omega) (by omega) (by omega)
        refine jr.aload_n rfl rfl ?_
        obtain ⟨v98, e98⟩ : ∃ z, M5 598 80 = z := ⟨_, rfl⟩
        have b98 : 0 ≤ v98 ∧ v98 ≤ 7 := by rw [← e98]; exact hI_M5 598 80 (by decide)
        refine jr_v rfl rfl (Or.inl rfl) rfl rfl (by decide) rfl ⟨rfl, Nat.le_of_ble_eq_true rfl, Nat.le_of_ble_eq_true rfl⟩ rfl (jc.deep (c_good (RI.u (RI.u (RI.u (RI.u hI_M5 (a := 664) (i := v96) (by rw [xri_row rfl rfl]; show (0 : Int) ≤ _ ∧ _ ≤ (255 : Int); omega)) (a := 666) (i := v96) (by rw [xri_row rfl rfl]; show (-1 : Int) ≤ _ ∧ _ ≤ (68 : Int); omega)) (a := 667) (i := v96) (by rw [xri_row rfl rfl]; show (0 : Int) ≤ _ ∧ _ ≤ (4 : Int); omega)) (a := 598) (i := 102) (show (0 : Int) ≤ _ ∧ _ ≤ (400 : Int) from by omega))  (fun t44_0 => ?_) (fun f44_0 => ?_)) (by decide))
        · refine jr.if_eq rfl rfl (by omega) (fun h => absurd h (by decide)) (fun _ => ?_)
          refine jr.aload_n rfl rfl ?_
          have e100 : M5 598 73 = v6 := ((w5_51 73 (by decide) (by decide) (by decide)).trans e6)
          obtain ⟨v101, e101⟩ : ∃ z, M 598 72 = z := ⟨_, rfl⟩
          have b101 : 0 ≤ v101 ∧ v101 ≤ 1600 := by rw [← e101]; exact hI_M 598 72 (by decide)
          have e102 : M5 598 72 = v101 := ((w5_51 72 (by decide) (by decide) (by decide)).trans e101)
          have e103 : M5 598 100 = v3 := ((w5_51 100 (by decide) (by decide) (by decide)).trans e3)
          obtain ⟨v104, e104⟩ : ∃ z, M 598 74 = z := ⟨_, rfl⟩
          have b104 : 0 ≤ v104 ∧ v104 ≤ 4 := by rw [← e104]; exact hI_M 598 74 (by decide)
          have e105 : M5 598 74 = v104 := ((w5_51 74 (by decide) (by decide) (by decide)).trans e104)
          obtain ⟨v106, e106⟩ : ∃ z, M 598 79 = z := ⟨_, rfl⟩
          have b106 : 0 ≤ v106 ∧ v106 ≤ 255 := by rw [← e106]; exact hI_M 598 79 (by decide)
          have e107 : M5 598 79 = v106 := ((w5_51 79 (by decide) (by decide) (by decide)).trans e106)
          obtain ⟨v110, e110⟩ : ∃ z, M 598 75 = z := ⟨_, rfl⟩
          have b110 : 0 ≤ v110 ∧ v110 ≤ 1600 := by rw [← e110]; exact hI_M 598 75 (by decide)
          have e111 : M5 598 75 = v110 := ((w5_51 75 (by decide) (by decide) (by decide)).trans e110)
          obtain ⟨v115, e115⟩ : ∃ z, M5 598 81 = z := ⟨_, rfl⟩
          have b115 : (-1) ≤ v115 ∧ v115 ≤ 1600 := by rw [← e115]; exact hI_M5 598 81 (by decide)
          obtain ⟨v117, e117⟩ : ∃ z, M5 598 89 = z := ⟨_, rfl⟩
          have b117 : 0 ≤ v117 ∧ v117 ≤ 301 := by rw [← e117]; exact hI_M5 598 89 (by decide)
          refine jr_v rfl rfl (Or.inl rfl) rfl rfl (by decide) rfl ⟨rfl, Nat.le_of_ble_eq_true rfl, Nat.le_of_ble_eq_true rfl⟩ rfl (jc.deep (c_deeper_z (f := f) (N := N) (RI.u (RI.u (RI.u (RI.u hI_M5 (a := 664) (i := v96) (by rw [xri_row rfl rfl]; show (0 : Int) ≤ _ ∧ _ ≤ (255 : Int); omega)) (a := 666) (i := v96) (by rw [xri_row rfl rfl]; show (-1 : Int) ≤ _ ∧ _ ≤ (68 : Int); omega)) (a := 667) (i := v96) (by rw [xri_row rfl rfl]; show (0 : Int) ≤ _ ∧ _ ≤ (4 : Int); omega)) (a := 598) (i := 102) (show (0 : Int) ≤ _ ∧ _ ≤ (400 : Int) from by omega)) (RH.o (RH.o (RH.o (RH.o hH_M5 (by decide) (by decide) (by decide)) (by decide) (by decide) (by decide)) (by decide) (by decide) (by decide)) (by decide) (by decide) (by decide)) (RF.o (RF.o (RF.o (RF.o hS_M5 (by decide) (by decide)) (by decide) (by decide)) (by decide) (by decide)) (by decide) (by decide)) (by rw [((ju_i _ _ (by decide)).trans ((ju_c _ _ (by decide)).trans ((ju_c _ _ (by decide)).trans ((ju_c _ _ (by decide)).trans e100)))), ((ju_i _ _ (by decide)).trans ((ju_c _ _ (by decide)).trans ((ju_c _ _ (by decide)).trans ((ju_c _ _ (by decide)).trans e102))))]; omega) (TKr.oo (TKr.cc (TKr.cc (TKr.cc (TKr.fr hK (w5_51 72 (by decide) (by decide) (by decide)) (fun i => w5_50 651 i (by decide)) (fun i => w5_50 649 i (by decide)) (fun i => w5_50 650 i (by decide)) (w5_51 73 (by decide) (by decide) (by decide)) (w5_51 74 (by decide) (by decide) (by decide)) (w5_51 75 (by decide) (by decide) (by decide)) (w5_51 76 (by decide) (by decide) (by decide)) (w5_51 77 (by decide) (by decide) (by decide)) (w5_51 78 (by decide) (by decide) (by decide)) (w5_51 79 (by decide) (by decide) (by decide))) (by decide) (by decide) (by decide) (by decide)) (by decide) (by decide) (by decide) (by decide)) (by decide) (by decide) (by decide) (by decide)) (by decide)) (by rw [((ju_i _ _ (by decide)).trans ((ju_c _ _ (by decide)).trans ((ju_c _ _ (by decide)).trans ((ju_c _ _ (by decide)).trans e98))))]; omega) (by rw [((ju_i _ _ (by decide)).trans ((ju_c _ _ (by decide)).trans ((ju_c _ _ (by decide)).trans ((ju_c _ _ (by decide)).trans e103))))]; omega) (by rw [((ju_i _ _ (by decide)).trans ((ju_c _ _ (by decide)).trans ((ju_c _ _ (by decide)).trans ((ju_c _ _ (by decide)).trans e105))))]; omega) (by rw [((ju_i _ _ (by decide)).trans ((ju_c _ _ (by decide)).trans ((ju_c _ _ (by decide)).trans ((ju_c _ _ (by decide)).trans e105)))), ((ju_i _ _ (by decide)).trans ((ju_c _ _ (by decide)).trans ((ju_c _ _ (by decide)).trans ((ju_c _ _ (by decide)).trans e107))))]; intro q; omega) (fun M120 hI_M120 hH_M120 hS_M120 qa120 qb120 qt120 qd120 ql120 sn120 q0120 q1120 hK120 w120_50 w120_51 => ?_) (fun M120 hI_M120 hH_M120 hS_M120 qa120 qb120 qt120 qd120 ql120 q0120 q1120 hT120 w120_50 w120_51 => ?_)) (by decide))
          · have y108 : (ju (ju (ju (ju M5 664 v96 11) 666 v96 (-1)) 667 v96 1) 598 102 (v96 + 1)) 598 73 = v6 := ((ju_i _ _ (by decide)).trans ((ju_c _ _ (by decide)).trans ((ju_c _ _ (by decide)).trans ((ju_c _ _ (by decide)).trans e100))))
            have y109 : (ju (ju (ju (ju M5 664 v96 11) 666 v96 (-1)) 667 v96 1) 598 102 (v96 + 1)) 598 74 = v104 := ((ju_i _ _ (by decide)).trans ((ju_c _ _ (by decide)).trans ((ju_c _ _ (by decide)).trans ((ju_c _ _ (by decide)).trans e105))))
            have y112 : (ju (ju (ju (ju M5 664 v96 11) 666 v96 (-1)) 667 v96 1) 598 102 (v96 + 1)) 598 75 = v110 := ((ju_i _ _ (by decide)).trans ((ju_c _ _ (by decide)).trans ((ju_c _ _ (by decide)).trans ((ju_c _ _ (by decide)).trans e111))))
            have y113 : (ju (ju (ju (ju M5 664 v96 11) 666 v96 (-1)) 667 v96 1) 598 102 (v96 + 1)) 598 79 = v106 := ((ju_i _ _ (by decide)).trans ((ju_c _ _ (by decide)).trans ((ju_c _ _ (by decide)).trans ((ju_c _ _ (by decide)).trans e107))))
            have y114 : (ju (ju (ju (ju M5 664 v96 11) 666 v96 (-1)) 667 v96 1) 598 102 (v96 + 1)) 598 80 = v98 := ((ju_i _ _ (by decide)).trans ((ju_c _ _ (by decide)).trans ((ju_c _ _ (by decide)).trans ((ju_c _ _ (by decide)).trans e98))))
            have y116 : (ju (ju (ju (ju M5 664 v96 11) 666 v96 (-1)) 667 v96 1) 598 102 (v96 + 1)) 598 81 = v115 := ((ju_i _ _ (by decide)).trans ((ju_c _ _ (by decide)).trans ((ju_c _ _ (by decide)).trans ((ju_c _ _ (by decide)).trans e115))))
            have y118 : (ju (ju (ju (ju M5 664 v96 11) 666 v96 (-1)) 667 v96 1) 598 102 (v96 + 1)) 598 89 = v117 := ((ju_i _ _ (by decide)).trans ((ju_c _ _ (by decide)).trans ((ju_c _ _ (by decide)).trans ((ju_c _ _ (by decide)).trans e117))))
            have y119 : (ju (ju (ju (ju M5 664 v96 11) 666 v96 (-1)) 667 v96 1) 598 102 (v96 + 1)) 598 100 = v3 := ((ju_i _ _ (by decide)).trans ((ju_c _ _ (by decide)).trans ((ju_c _ _ (by decide)).trans ((ju_c _ _ (by decide)).trans e103))))
            have tb120 : TK (ju (ju (ju (ju M5 664 v96 11) 666 v96 (-1)) 667 v96 1) 598 102 (v96 + 1)) = TK M5 := ((TK.o (Or.inr ⟨by decide, by decide⟩)).trans ((TK.o (Or.inl (by decide))).trans ((TK.o (Or.inl (by decide))).trans ((TK.o (Or.inl (by decide))).trans rfl))))
            have x120_72 := w120_51 72 (by decide) (by decide) (by decide) (by decide) (by decide) (by decide) (by decide) (by decide) (by decide) (by decide)
            have x120_89 := w120_51 89 (by decide) (by decide) (by decide) (by decide) (by decide) (by decide) (by decide) (by decide) (by decide) (by decide)
            have hT120 := hK120.1
            have kk120 := hK120.kz
            have y121 : (ju (ju (ju (ju M5 664 v96 11) 666 v96 (-1)) 667 v96 1) 598 102 (v96 + 1)) 598 73 = v6 := ((ju_i _ _ (by decide)).trans ((ju_c _ _ (by decide)).trans ((ju_c _ _ (by decide)).trans ((ju_c _ _ (by decide)).trans e100))))
            have y122 : (ju (ju (ju (ju M5 664 v96 11) 666 v96 (-1)) 667 v96 1) 598 102 (v96 + 1)) 598 89 = v117 := ((ju_i _ _ (by decide)).trans ((ju_c _ _ (by decide)).trans ((ju_c _ _ (by decide)).trans ((ju_c _ _ (by decide)).trans e117))))
            have y123 : (ju (ju (ju (ju M5 664 v96 11) 666 v96 (-1)) 667 v96 1) 598 102 (v96 + 1)) 598 100 = v3 := ((ju_i _ _ (by decide)).trans ((ju_c _ _ (by decide)).trans ((ju_c _ _ (by decide)).trans ((ju_c _ _ (by decide)).trans e103))))
            have x120_89 := w120_51 89 (by decide) (by decide) (by decide) (by decide) (by decide) (by decide) (by decide) (by decide) (by decide) (by decide)
            have hE := ES.fr2 hE w120_50 (w120_51 88 (by decide) (by decide) (by decide) (by decide) (by decide) (by decide) (by decide) (by decide) (by decide) (by decide)) (w120_51 90 (by decide) (by decide) (by decide) (by decide) (by decide) (by decide) (by decide) (by decide) (by decide) (by decide)) (w120_51 101 (by decide) (by decide) (by decide) (by decide) (by decide) (by decide) (by decide) (by decide) (by decide) (by decide)) (w120_51 102 (by decide) (by decide) (by decide) (by decide) (by decide) (by decide) (by decide) (by decide) (by decide) (by decide)) (w120_51 107 (by decide) (by decide) (by decide) (by decide) (by decide) (by decide) (by decide) (by decide) (by decide) (by decide)) (k' := kk + 2) (d' := 0) (z' := 0) (by omega) (by omega) (by omega) (by omega)
            refine jr.iconst rfl ?_
            have e124 : M120 598 72 = v101 := ((w120_51 72 (by decide) (by decide) (by decide) (by decide) (by decide) (by decide) (by decide) (by decide) (by decide) (by decide)).trans ((ju_i _ _ (by decide)).trans ((ju_c _ _ (by decide)).trans ((ju_c _ _ (by decide)).trans ((ju_c _ _ (by decide)).trans e102)))))
            have y125 : M120 598 72 = v101 := e124
            obtain ⟨v126, e126⟩ : ∃ z, M120 598 73 = z := ⟨_, rfl⟩
            have b126 : 0 ≤ v126 ∧ v126 ≤ 1600 := by rw [← e126]; exact hI_M120 598 73 (by decide)
            have y127 : M120 598 73 = v126 := e126
            obtain ⟨v128, e128⟩ : ∃ z, M120 598 74 = z := ⟨_, rfl⟩
            have b128 : 0 ≤ v128 ∧ v128 ≤ 4 := by rw [← e128]; exact hI_M120 598 74 (by decide)
            have y129 : M120 598 74 = v128 := e128
            obtain ⟨v130, e130⟩ : ∃ z, M120 598 79 = z := ⟨_, rfl⟩
            have b130 : 0 ≤ v130 ∧ v130 ≤ 255 := by rw [← e130]; exact hI_M120 598 79 (by decide)
            have y131 : M120 598 79 = v130 := e130
            obtain ⟨v132, e132⟩ : ∃ z, M120 598 80 = z := ⟨_, rfl⟩
            have b132 : 0 ≤ v132 ∧ v132 ≤ 7 := by rw [← e132]; exact hI_M120 598 80 (by decide)
            have y133 : M120 598 80 = v132 := e132
            have e134 : M120 598 89 = v117 := ((w120_51 89 (by decide) (by decide) (by decide) (by decide) (by decide) (by decide) (by decide) (by decide) (by decide) (by decide)).trans ((ju_i _ _ (by decide)).trans ((ju_c _ _ (by decide)).trans ((ju_c _ _ (by decide)).trans ((ju_c _ _ (by decide)).trans e117)))))
            have y135 : M120 598 89 = v117 := e134
            obtain ⟨v136, e136⟩ : ∃ z, M 598 90 = z := ⟨_, rfl⟩
            have b136 : 0 ≤ v136 ∧ v136 ≤ 2200 := by rw [← e136]; exact hI_M 598 90 (by decide)
            have e137 : M5 598 90 = v136 := ((w5_51 90 (by decide) (by decide) (by decide)).trans e136)
            have e138 : M120 598 90 = v136 := ((w120_51 90 (by decide) (by decide) (by decide) (by decide) (by decide) (by decide) (by decide) (by decide) (by decide) (by decide)).trans ((ju_i _ _ (by decide)).trans ((ju_c _ _ (by decide)).trans ((ju_c _ _ (by decide)).trans ((ju_c _ _ (by decide)).trans e137)))))
            have y139 : M120 598 90 = v136 := e138
            obtain ⟨v140, e140⟩ : ∃ z, M120 598 100 = z := ⟨_, rfl⟩
            have b140 : 0 ≤ v140 ∧ v140 ≤ 13 := by rw [← e140]; exact hI_M120 598 100 (by decide)
            have y141 : M120 598 100 = v140 := e140
            obtain ⟨v142, e142⟩ : ∃ z, M 598 107 = z := ⟨_, rfl⟩
            have b142 : 0 ≤ v142 ∧ v142 ≤ 16 := by rw [← e142]; exact hI_M 598 107 (by decide)
            have e143 : M5 598 107 = v142 := ((w5_51 107 (by decide) (by decide) (by decide)).trans e142)
            have e144 : M120 598 107 = v142 := ((w120_51 107 (by decide) (by decide) (by decide) (by decide) (by decide) (by decide) (by decide) (by decide) (by decide) (by decide)).trans ((ju_i _ _ (by decide)).trans ((ju_c _ _ (by decide)).trans ((ju_c _ _ (by decide)).trans ((ju_c _ _ (by decide)).trans e143)))))
            have y145 : M120 598 107 = v142 := e144
            obtain ⟨v146, e146⟩ : ∃ z, M120 598 75 = z := ⟨_, rfl⟩
            have b146 : 0 ≤ v146 ∧ v146 ≤ 1600 := by rw [← e146]; exact hI_M120 598 75 (by decide)
            have y147 : M120 598 75 = v146 := e146
            have y148 : M120 598 80 = v132 := e132
            obtain ⟨v149, e149⟩ : ∃ z, M120 598 81 = z := ⟨_, rfl⟩
            have b149 : (-1) ≤ v149 ∧ v149 ≤ 1600 := by rw [← e149]; exact hI_M120 598 81 (by decide)
            have y150 : M120 598 81 = v149 := e149
            have y151 : M120 598 89 = v117 := e134
            have y152 : M120 598 100 = v140 := e140
            exact jr.ireturn rfl rfl rfl (q _ _ hI_M120 hH_M120 hS_M120  (by omega) (Or.inr ⟨⟨by omega, ES.adj hE (k' := kk) (z' := 0) (by omega) (by omega) (by omega), by omega, by omega, by omega, by omega⟩, by omega⟩) (by omega) (by omega) (Or.inr (by omega)) (CP.f (CP.o (CP.o (CP.o (CP.o (CP.f hCP (fun i => w5_50 659 i (by decide)) (w5_51 90 (by decide) (by decide) (by decide))) (by decide) (Or.inl (by decide))) (by decide) (Or.inl (by decide))) (by decide) (Or.inl (by decide))) (by decide) (Or.inr (by decide))) (fun i => w120_50 659 i (by decide)) (w120_51 90 (by decide) (by decide) (by decide) (by decide) (by decide) (by decide) (by decide) (by decide) (by decide) (by decide))) (by omega) hT120 (fun q => by exfalso; omega) (fun _ => ⟨_, hK120, zr.eqx (zr.una hz s0t.1 (by omega) (by omega) (by omega)) (by omega) rfl (by omega) (by omega) rfl ((abr_fr s0 (fun i => w120_50 664 i (by decide)) (fun i => w120_50 666 i (by decide)) (fun i => w120_50 667 i (by decide)) (w120_51 102 (by decide) (by decide) (by decide) (by decide) (by decide) (by decide) (by decide) (by decide) (by decide) (by decide))).trans ((((abr_push (M := M5) (s := 11) (w := (-1)) s0 e97 (by omega)).trans (if_neg (by decide))).trans (if_pos (by decide))).trans (by rw [((abr_fr s0 (fun i => w5_50 664 i (by decide)) (fun i => w5_50 666 i (by decide)) (fun i => w5_50 667 i (by decide)) (w5_51 102 (by decide) (by decide) (by decide))).trans rfl)])))⟩) (fun _ => (NU.fr (NU.push (NU.fr hNU (fun i => w5_50 664 i (by decide)) (w5_51 102 (by decide) (by decide) (by decide))) e97 (by first | omega | (right; right; right; exact hnone))) (fun i => w120_50 664 i (by decide)) (w120_51 102 (by decide) (by decide) (by decide) (by decide) (by decide) (by decide) (by decide) (by decide) (by decide) (by decide)))) (fun q => by omega) (fun a i f598 f659 f660 f664 f666 f667 => ((w120_50 a i f598).trans ((ju_c _ _ f598).trans ((ju_c _ _ f667).trans ((ju_c _ _ f666).trans ((ju_c _ _ f664).trans ((w5_50 a i f598).trans (hF_M a i f598 f659 f660 f664 f666 f667)))))))) (fun i g73 g74 g75 g76 g77 g78 g79 g80 g81 g89 g90 g100 g102 => ((w120_51 i g73 g74 g75 g76 g77 g78 g79 g80 g81 g100).trans ((ju_i _ _ g102).trans ((ju_c _ _ (by decide)).trans ((ju_c _ _ (by decide)).trans ((ju_c _ _ (by decide)).trans ((w5_51 i g80 g81 g89).trans (hG_M i g73 g74 g75 g76 g77 g78 g79 g80 g81 g89 g90 g100 g102)))))))))
          · have y108 : (ju (ju (ju (ju M5 664 v96 11) 666 v96 (-1)) 667 v96 1) 598 102 (v96 + 1)) 598 73 = v6 := ((ju_i _ _ (by decide)).trans ((ju_c _ _ (by decide)).trans ((ju_c _ _ (by decide)).trans ((ju_c _ _ (by decide)).trans e100))))
            have y109 : (ju (ju (ju (ju M5 664 v96 11) 666 v96 (-1)) 667 v96 1) 598 102 (v96 + 1)) 598 74 = v104 := ((ju_i _ _ (by decide)).trans ((ju_c _ _ (by decide)).trans ((ju_c _ _ (by decide)).trans ((ju_c _ _ (by decide)).trans e105))))
            have y112 : (ju (ju (ju (ju M5 664 v96 11) 666 v96 (-1)) 667 v96 1) 598 102 (v96 + 1)) 598 75 = v110 := ((ju_i _ _ (by decide)).trans ((ju_c _ _ (by decide)).trans ((ju_c _ _ (by decide)).trans ((ju_c _ _ (by decide)).trans e111))))
            have y113 : (ju (ju (ju (ju M5 664 v96 11) 666 v96 (-1)) 667 v96 1) 598 102 (v96 + 1)) 598 79 = v106 := ((ju_i _ _ (by decide)).trans ((ju_c _ _ (by decide)).trans ((ju_c _ _ (by decide)).trans ((ju_c _ _ (by decide)).trans e107))))
            have y114 : (ju (ju (ju (ju M5 664 v96 11) 666 v96 (-1)) 667 v96 1) 598 102 (v96 + 1)) 598 80 = v98 := ((ju_i _ _ (by decide)).trans ((ju_c _ _ (by decide)).trans ((ju_c _ _ (by decide)).trans ((ju_c _ _ (by decide)).trans e98))))
            have y116 : (ju (ju (ju (ju M5 664 v96 11) 666 v96 (-1)) 667 v96 1) 598 102 (v96 + 1)) 598 81 = v115 := ((ju_i _ _ (by decide)).trans ((ju_c _ _ (by decide)).trans ((ju_c _ _ (by decide)).trans ((ju_c _ _ (by decide)).trans e115))))
            have y118 : (ju (ju (ju (ju M5 664 v96 11) 666 v96 (-1)) 667 v96 1) 598 102 (v96 + 1)) 598 89 = v117 := ((ju_i _ _ (by decide)).trans ((ju_c _ _ (by decide)).trans ((ju_c _ _ (by decide)).trans ((ju_c _ _ (by decide)).trans e117))))
            have y119 : (ju (ju (ju (ju M5 664 v96 11) 666 v96 (-1)) 667 v96 1) 598 102 (v96 + 1)) 598 100 = v3 := ((ju_i _ _ (by decide)).trans ((ju_c _ _ (by decide)).trans ((ju_c _ _ (by decide)).trans ((ju_c _ _ (by decide)).trans e103))))
            have tb120 : TK (ju (ju (ju (ju M5 664 v96 11) 666 v96 (-1)) 667 v96 1) 598 102 (v96 + 1)) = TK M5 := ((TK.o (Or.inr ⟨by decide, by decide⟩)).trans ((TK.o (Or.inl (by decide))).trans ((TK.o (Or.inl (by decide))).trans ((TK.o (Or.inl (by decide))).trans rfl))))
            have x120_72 := w120_51 72 (by decide) (by decide) (by decide) (by decide) (by decide) (by decide) (by decide) (by decide) (by decide) (by decide)
            have x120_89 := w120_51 89 (by decide) (by decide) (by decide) (by decide) (by decide) (by decide) (by decide) (by decide) (by decide) (by decide)
            have zfz : zr f N xs (zft (M120 598 80) (M120 598 81)) := zr.fe (zr.unaf hz s0t.1 (by omega) (by omega)) (by omega) (by omega)
            refine jr.iconst rfl ?_
            have e153 : M120 598 72 = v101 := ((w120_51 72 (by decide) (by decide) (by decide) (by decide) (by decide) (by decide) (by decide) (by decide) (by decide) (by decide)).trans ((ju_i _ _ (by decide)).trans ((ju_c _ _ (by decide)).trans ((ju_c _ _ (by decide)).trans ((ju_c _ _ (by decide)).trans e102)))))
            have y154 : M120 598 72 = v101 := e153
            obtain ⟨v155, e155⟩ : ∃ z, M120 598 73 = z := ⟨_, rfl⟩
            have b155 : 0 ≤ v155 ∧ v155 ≤ 1600 := by rw [← e155]; exact hI_M120 598 73 (by decide)
            have y156 : M120 598 73 = v155 := e155
            obtain ⟨v157, e157⟩ : ∃ z, M120 598 74 = z := ⟨_, rfl⟩
            have b157 : 0 ≤ v157 ∧ v157 ≤ 4 := by rw [← e157]; exact hI_M120 598 74 (by decide)
            have y158 : M120 598 74 = v157 := e157
            obtain ⟨v159, e159⟩ : ∃ z, M120 598 79 = z := ⟨_, rfl⟩
            have b159 : 0 ≤ v159 ∧ v159 ≤ 255 := by rw [← e159]; exact hI_M120 598 79 (by decide)
            have y160 : M120 598 79 = v159 := e159
            obtain ⟨v161, e161⟩ : ∃ z, M120 598 80 = z := ⟨_, rfl⟩
            have b161 : 0 ≤ v161 ∧ v161 ≤ 7 := by rw [← e161]; exact hI_M120 598 80 (by decide)
            have y162 : M120 598 80 = v161 := e161
            have e163 : M120 598 89 = v117 := ((w120_51 89 (by decide) (by decide) (by decide) (by decide) (by decide) (by decide) (by decide) (by decide) (by decide) (by decide)).trans ((ju_i _ _ (by decide)).trans ((ju_c _ _ (by decide)).trans ((ju_c _ _ (by decide)).trans ((ju_c _ _ (by decide)).trans e117)))))
            have y164 : M120 598 89 = v117 := e163
            obtain ⟨v165, e165⟩ : ∃ z, M 598 90 = z := ⟨_, rfl⟩
            have b165 : 0 ≤ v165 ∧ v165 ≤ 2200 := by rw [← e165]; exact hI_M 598 90 (by decide)
            have e166 : M5 598 90 = v165 := ((w5_51 90 (by decide) (by decide) (by decide)).trans e165)
            have e167 : M120 598 90 = v165 := ((w120_51 90 (by decide) (by decide) (by decide) (by decide) (by decide) (by decide) (by decide) (by decide) (by decide) (by decide)).trans ((ju_i _ _ (by decide)).trans ((ju_c _ _ (by decide)).trans ((ju_c _ _ (by decide)).trans ((ju_c _ _ (by decide)).trans e166)))))
            have y168 : M120 598 90 = v165 := e167
            obtain ⟨v169, e169⟩ : ∃ z, M120 598 100 = z := ⟨_, rfl⟩
            have b169 : 0 ≤ v169 ∧ v169 ≤ 13 := by rw [← e169]; exact hI_M120 598 100 (by decide)
            have y170 : M120 598 100 = v169 := e169
            obtain ⟨v171, e171⟩ : ∃ z, M 598 107 = z := ⟨_, rfl⟩
            have b171 : 0 ≤ v171 ∧ v171 ≤ 16 := by rw [← e171]; exact hI_M 598 107 (by decide)
            have e172 : M5 598 107 = v171 := ((w5_51 107 (by decide) (by decide) (by decide)).trans e171)
            have e173 : M120 598 107 = v171 := ((w120_51 107 (by decide) (by decide) (by decide) (by decide) (by decide) (by decide) (by decide) (by decide) (by decide) (by decide)).trans ((ju_i _ _ (by decide)).trans ((ju_c _ _ (by decide)).trans ((ju_c _ _ (by decide)).trans ((ju_c _ _ (by decide)).trans e172)))))
            have y174 : M120 598 107 = v171 := e173
            obtain ⟨v175, e175⟩ : ∃ z, M120 598 75 = z := ⟨_, rfl⟩
            have b175 : 0 ≤ v175 ∧ v175 ≤ 1600 := by rw [← e175]; exact hI_M120 598 75 (by decide)
            have y176 : M120 598 75 = v175 := e175
            have y177 : M120 598 80 = v161 := e161
            obtain ⟨v178, e178⟩ : ∃ z, M120 598 81 = z := ⟨_, rfl⟩
            have b178 : (-1) ≤ v178 ∧ v178 ≤ 1600 := by rw [← e178]; exact hI_M120 598 81 (by decide)
            have y179 : M120 598 81 = v178 := e178
            have y180 : M120 598 89 = v117 := e163
            have y181 : M120 598 100 = v169 := e169
            exact jr.ireturn rfl rfl rfl (q _ _ hI_M120 hH_M120 hS_M120  (by omega) (Or.inl ⟨by omega, by omega⟩) (by omega) (by omega) (Or.inl (by omega)) (CP.f (CP.o (CP.o (CP.o (CP.o (CP.f hCP (fun i => w5_50 659 i (by decide)) (w5_51 90 (by decide) (by decide) (by decide))) (by decide) (Or.inl (by decide))) (by decide) (Or.inl (by decide))) (by decide) (Or.inl (by decide))) (by decide) (Or.inr (by decide))) (fun i => w120_50 659 i (by decide)) (w120_51 90 (by decide) (by decide) (by decide) (by decide) (by decide) (by decide) (by decide) (by decide) (by decide) (by decide))) (by omega) hT120 (fun _ => zr.fe zfz (by omega) (by omega)) (fun q => by exfalso; omega) (fun q => by exfalso; omega) (fun q => by omega) (fun a i f598 f659 f660 f664 f666 f667 => ((w120_50 a i f598).trans ((ju_c _ _ f598).trans ((ju_c _ _ f667).trans ((ju_c _ _ f666).trans ((ju_c _ _ f664).trans ((w5_50 a i f598).trans (hF_M a i f598 f659 f660 f664 f666 f667)))))))) (fun i g73 g74 g75 g76 g77 g78 g79 g80 g81 g89 g90 g100 g102 => ((w120_51 i g73 g74 g75 g76 g77 g78 g79 g80 g81 g100).trans ((ju_i _ _ g102).trans ((ju_c _ _ (by decide)).trans ((ju_c _ _ (by decide)).trans ((ju_c _ _ (by decide)).trans ((w5_51 i g80 g81 g89).trans (hG_M i g73 g74 g75 g76 g77 g78 g79 g80 g81 g89 g90 g100 g102)))))))))
        · exfalso
          have y99 : (ju (ju (ju (ju M5 664 v96 11) 666 v96 (-1)) 667 v96 1) 598 102 (v96 + 1)) 598 80 = v98 := ((ju_i _ _ (by decide)).trans ((ju_c _ _ (by decide)).trans ((ju_c _ _ (by decide)).trans ((ju_c _ _ (by decide)).trans e98))))
          omega
    · have tk5 : TK M5 = TK M := TK.fr (w5_51 73 (by decide) (by decide) (by decide)) (w5_51 74 (by decide) (by decide) (by decide))
      have x5_72 := w5_51 72 (by decide) (by decide) (by decide)
      have x5_73 := w5_51 73 (by decide) (by decide) (by decide)
      have x5_74 := w5_51 74 (by decide) (by decide) (by decide)
      have x5_75 := w5_51 75 (by decide) (by decide) (by decide)
      have x5_76 := w5_51 76 (by decide) (by decide) (by decide)
      have x5_78 := w5_51 78 (by decide) (by decide) (by decide)
      have x5_79 := w5_51 79 (by decide) (by decide) (by decide)
      have x5_100 := w5_51 100 (by decide) (by decide) (by decide)
      have zfz : zr f N xs (zft (M5 598 80) (M5 598 81)) := zr.fe (zr.unaf hz s0t.1 (by omega) (by omega)) (by omega) (by omega)
      refine jr.aload_n rfl rfl ?_
      refine jr.aload_n rfl rfl ?_
      refine jr.bipush rfl (by decide) ?_
      refine jr_v rfl rfl (Or.inl rfl) rfl rfl (by decide) rfl ⟨rfl, Nat.le_of_ble_eq_true rfl, Nat.le_of_ble_eq_true rfl⟩ rfl (jc.deep (c_isSign hI_M5 (by omega) (fun t26_0 t26_1 => ?_) (fun f26_0 => ?_)) (by decide))
      · refine jr.if_eq rfl rfl (by omega) (fun h => absurd h (by decide)) (fun _ => ?_)
        refine jr.bipush rfl (by decide) ?_
        refine jr.goto rfl rfl ?_
        refine jr.iconst rfl ?_
        obtain ⟨v182, e182⟩ : ∃ z, M 598 102 = z := ⟨_, rfl⟩
        have b182 : 0 ≤ v182 ∧ v182 ≤ 400 := by rw [← e182]; exact hI_M 598 102 (by decide)
        have e183 : M5 598 102 = v182 := ((w5_51 102 (by decide) (by decide) (by decide)).trans e182)
        refine jr_v rfl rfl (Or.inl rfl) rfl rfl (by decide) rfl ⟨rfl, Nat.le_of_ble_eq_true rfl, Nat.le_of_ble_eq_true rfl⟩ rfl (jc.deep (r_push e183 (by omega) (by omega) (by omega) ?_) (by decide))
        refine jr.aload_n rfl rfl ?_
        obtain ⟨v184, e184⟩ : ∃ z, M5 598 80 = z := ⟨_, rfl⟩
        have b184 : 0 ≤ v184 ∧ v184 ≤ 7 := by rw [← e184]; exact hI_M5 598 80 (by decide)
        refine jr_v rfl rfl (Or.inl rfl) rfl rfl (by decide) rfl ⟨rfl, Nat.le_of_ble_eq_true rfl, Nat.le_of_ble_eq_true rfl⟩ rfl (jc.deep (c_good (RI.u (RI.u (RI.u (RI.u hI_M5 (a := 664) (i := v182) (by rw [xri_row rfl rfl]; show (0 : Int) ≤ _ ∧ _ ≤ (255 : Int); omega)) (a := 666) (i := v182) (by rw [xri_row rfl rfl]; show (-1 : Int) ≤ _ ∧ _ ≤ (68 : Int); omega)) (a := 667) (i := v182) (by rw [xri_row rfl rfl]; show (0 : Int) ≤ _ ∧ _ ≤ (4 : Int); omega)) (a := 598) (i := 102) (show (0 : Int) ≤ _ ∧ _ ≤ (400 : Int) from by omega))  (fun t44_0 => ?_) (fun f44_0 => ?_)) (by decide))
        · exfalso
          have y185 : (ju (ju (ju (ju M5 664 v182 10) 666 v182 (-1)) 667 v182 1) 598 102 (v182 + 1)) 598 80 = v184 := ((ju_i _ _ (by decide)).trans ((ju_c _ _ (by decide)).trans ((ju_c _ _ (by decide)).trans ((ju_c _ _ (by decide)).trans e184))))
          omega
        · refine jr.if_eq rfl rfl (by omega) (fun _ => ?_) (fun h => absurd (by decide) h)
          refine jr.iconst rfl ?_
          obtain ⟨v186, e186⟩ : ∃ z, M 598 72 = z := ⟨_, rfl⟩
          have b186 : 0 ≤ v186 ∧ v186 ≤ 1600 := by rw [← e186]; exact hI_M 598 72 (by decide)
          have e187 : M5 598 72 = v186 := ((w5_51 72 (by decide) (by decide) (by decide)).trans e186)
          have y188 : (ju (ju (ju (ju M5 664 v182 10) 666 v182 (-1)) 667 v182 1) 598 102 (v182 + 1)) 598 72 = v186 := ((ju_i _ _ (by decide)).trans ((ju_c _ _ (by decide)).trans ((ju_c _ _ (by decide)).trans ((ju_c _ _ (by decide)).trans e187))))
          have e189 : M5 598 73 = v6 := ((w5_51 73 (by decide) (by decide) (by decide)).trans e6)
          have y190 : (ju (ju (ju (ju M5 664 v182 10) 666 v182 (-1)) 667 v182 1) 598 102 (v182 + 1)) 598 73 = v6 := ((ju_i _ _ (by decide)).trans ((ju_c _ _ (by decide)).trans ((ju_c _ _ (by decide)).trans ((ju_c _ _ (by decide)).trans e189))))
          obtain ⟨v191, e191⟩ : ∃ z, M 598 74 = z := ⟨_, rfl⟩
          have b191 : 0 ≤ v191 ∧ v191 ≤ 4 := by rw [← e191]; exact hI_M 598 74 (by decide)
          have e192 : M5 598 74 = v191 := ((w5_51 74 (by decide) (by decide) (by decide)).trans e191)
          have y193 : (ju (ju (ju (ju M5 664 v182 10) 666 v182 (-1)) 667 v182 1) 598 102 (v182 + 1)) 598 74 = v191 := ((ju_i _ _ (by decide)).trans ((ju_c _ _ (by decide)).trans ((ju_c _ _ (by decide)).trans ((ju_c _ _ (by decide)).trans e192))))
          obtain ⟨v194, e194⟩ : ∃ z, M 598 79 = z := ⟨_, rfl⟩
          have b194 : 0 ≤ v194 ∧ v194 ≤ 255 := by rw [← e194]; exact hI_M 598 79 (by decide)
          have e195 : M5 598 79 = v194 := ((w5_51 79 (by decide) (by decide) (by decide)).trans e194)
          have y196 : (ju (ju (ju (ju M5 664 v182 10) 666 v182 (-1)) 667 v182 1) 598 102 (v182 + 1)) 598 79 = v194 := ((ju_i _ _ (by decide)).trans ((ju_c _ _ (by decide)).trans ((ju_c _ _ (by decide)).trans ((ju_c _ _ (by decide)).trans e195))))
          have y197 : (ju (ju (ju (ju M5 664 v182 10) 666 v182 (-1)) 667 v182 1) 598 102 (v182 + 1)) 598 80 = v184 := ((ju_i _ _ (by decide)).trans ((ju_c _ _ (by decide)).trans ((ju_c _ _ (by decide)).trans ((ju_c _ _ (by decide)).trans e184))))
          obtain ⟨v198, e198⟩ : ∃ z, M5 598 89 = z := ⟨_, rfl⟩
          have b198 : 0 ≤ v198 ∧ v198 ≤ 301 := by rw [← e198]; exact hI_M5 598 89 (by decide)
          have y199 : (ju (ju (ju (ju M5 664 v182 10) 666 v182 (-1)) 667 v182 1) 598 102 (v182 + 1)) 598 89 = v198 := ((ju_i _ _ (by decide)).trans ((ju_c _ _ (by decide)).trans ((ju_c _ _ (by decide)).trans ((ju_c _ _ (by decide)).trans e198))))
          obtain ⟨v200, e200⟩ : ∃ z, M 598 90 = z := ⟨_, rfl⟩
          have b200 : 0 ≤ v200 ∧ v200 ≤ 2200 := by rw [← e200]; exact hI_M 598 90 (by decide)
          have e201 : M5 598 90 = v200 := ((w5_51 90 (by decide) (by decide) (by decide)).trans e200)
          have y202 : (ju (ju (ju (ju M5 664 v182 10) 666 v182 (-1)) 667 v182 1) 598 102 (v182 + 1)) 598 90 = v200 := ((ju_i _ _ (by decide)).trans ((ju_c _ _ (by decide)).trans ((ju_c _ _ (by decide)).trans ((ju_c _ _ (by decide)).trans e201))))
          have e203 : M5 598 100 = v3 := ((w5_51 100 (by decide) (by decide) (by decide)).trans e3)
          have y204 : (ju (ju (ju (ju M5 664 v182 10) 666 v182 (-1)) 667 v182 1) 598 102 (v182 + 1)) 598 100 = v3 := ((ju_i _ _ (by decide)).trans ((ju_c _ _ (by decide)).trans ((ju_c _ _ (by decide)).trans ((ju_c _ _ (by decide)).trans e203))))
          obtain ⟨v205, e205⟩ : ∃ z, M 598 107 = z := ⟨_, rfl⟩
          have b205 : 0 ≤ v205 ∧ v205 ≤ 16 := by rw [← e205]; exact hI_M 598 107 (by decide)
          have e206 : M5 598 107 = v205 := ((w5_51 107 (by decide) (by decide) (by decide)).trans e205)
          have y207 : (ju (ju (ju (ju M5 664 v182 10) 666 v182 (-1)) 667 v182 1) 598 102 (v182 + 1)) 598 107 = v205 := ((ju_i _ _ (by decide)).trans ((ju_c _ _ (by decide)).trans ((ju_c _ _ (by decide)).trans ((ju_c _ _ (by decide)).trans e206))))
          have y208 : TK (ju (ju (ju (ju M5 664 v182 10) 666 v182 (-1)) 667 v182 1) 598 102 (v182 + 1)) = TK M5 := ((TK.o (Or.inr ⟨by decide, by decide⟩)).trans ((TK.o (Or.inl (by decide))).trans ((TK.o (Or.inl (by decide))).trans ((TK.o (Or.inl (by decide))).trans rfl))))
          obtain ⟨v209, e209⟩ : ∃ z, M 598 75 = z := ⟨_, rfl⟩
          have b209 : 0 ≤ v209 ∧ v209 ≤ 1600 := by rw [← e209]; exact hI_M 598 75 (by decide)
          have e210 : M5 598 75 = v209 := ((w5_51 75 (by decide) (by decide) (by decide)).trans e209)
          have y211 : (ju (ju (ju (ju M5 664 v182 10) 666 v182 (-1)) 667 v182 1) 598 102 (v182 + 1)) 598 75 = v209 := ((ju_i _ _ (by decide)).trans ((ju_c _ _ (by decide)).trans ((ju_c _ _ (by decide)).trans ((ju_c _ _ (by decide)).trans e210))))
          have y212 : (ju (ju (ju (ju M5 664 v182 10) 666 v182 (-1)) 667 v182 1) 598 102 (v182 + 1)) 598 80 = v184 := ((ju_i _ _ (by decide)).trans ((ju_c _ _ (by decide)).trans ((ju_c _ _ (by decide)).trans ((ju_c _ _ (by decide)).trans e184))))
          obtain ⟨v213, e213⟩ : ∃ z, M5 598 81 = z := ⟨_, rfl⟩
          have b213 : (-1) ≤ v213 ∧ v213 ≤ 1600 := by rw [← e213]; exact hI_M5 598 81 (by decide)
          have y214 : (ju (ju (ju (ju M5 664 v182 10) 666 v182 (-1)) 667 v182 1) 598 102 (v182 + 1)) 598 81 = v213 := ((ju_i _ _ (by decide)).trans ((ju_c _ _ (by decide)).trans ((ju_c _ _ (by decide)).trans ((ju_c _ _ (by decide)).trans e213))))
          have y215 : (ju (ju (ju (ju M5 664 v182 10) 666 v182 (-1)) 667 v182 1) 598 102 (v182 + 1)) 598 89 = v198 := ((ju_i _ _ (by decide)).trans ((ju_c _ _ (by decide)).trans ((ju_c _ _ (by decide)).trans ((ju_c _ _ (by decide)).trans e198))))
          have y216 : (ju (ju (ju (ju M5 664 v182 10) 666 v182 (-1)) 667 v182 1) 598 102 (v182 + 1)) 598 100 = v3 := ((ju_i _ _ (by decide)).trans ((ju_c _ _ (by decide)).trans ((ju_c _ _ (by decide)).trans ((ju_c _ _ (by decide)).trans e203))))
          exact jr.ireturn rfl rfl rfl (q _ _ (RI.u (RI.u (RI.u (RI.u hI_M5 (a := 664) (i := v182) (by rw [xri_row rfl rfl]; show (0 : Int) ≤ _ ∧ _ ≤ (255 : Int); omega)) (a := 666) (i := v182) (by rw [xri_row rfl rfl]; show (-1 : Int) ≤ _ ∧ _ ≤ (68 : Int); omega)) (a := 667) (i := v182) (by rw [xri_row rfl rfl]; show (0 : Int) ≤ _ ∧ _ ≤ (4 : Int); omega)) (a := 598) (i := 102) (show (0 : Int) ≤ _ ∧ _ ≤ (400 : Int) from by omega)) (RH.o (RH.o (RH.o (RH.o hH_M5 (by decide) (by decide) (by decide)) (by decide) (by decide) (by decide)) (by decide) (by decide) (by decide)) (by decide) (by decide) (by decide)) (RF.o (RF.o (RF.o (RF.o hS_M5 (by decide) (by decide)) (by decide) (by decide)) (by decide) (by decide)) (by decide) (by decide))  (by omega) (Or.inl ⟨by omega, by omega⟩) (by omega) (by omega) (Or.inl (by omega)) (CP.o (CP.o (CP.o (CP.o (CP.f hCP (fun i => w5_50 659 i (by decide)) (w5_51 90 (by decide) (by decide) (by decide))) (by decide) (Or.inl (by decide))) (by decide) (Or.inl (by decide))) (by decide) (Or.inl (by decide))) (by decide) (Or.inr (by decide))) (by omega) (TXr.o (TXr.k (TXr.k (TXr.k (TXr.fr hT (w5_51 72 (by decide) (by decide) (by decide)) (fun i => w5_50 651 i (by decide)) (fun i => w5_50 649 i (by decide)) (fun i => w5_50 650 i (by decide))) (by decide) (by decide) (by decide) (by decide)) (by decide) (by decide) (by decide) (by decide)) (by decide) (by decide) (by decide) (by decide)) (by decide)) (fun _ => zr.fe zfz (by omega) (by omega)) (fun q => by exfalso; omega) (fun q => by exfalso; omega) (fun q => by omega) (fun a i f598 f659 f660 f664 f666 f667 => ((ju_c _ _ f598).trans ((ju_c _ _ f667).trans ((ju_c _ _ f666).trans ((ju_c _ _ f664).trans ((w5_50 a i f598).trans (hF_M a i f598 f659 f660 f664 f666 f667))))))) (fun i g73 g74 g75 g76 g77 g78 g79 g80 g81 g89 g90 g100 g102 => ((ju_i _ _ g102).trans ((ju_c _ _ (by decide)).trans ((ju_c _ _ (by decide)).trans ((ju_c _ _ (by decide)).trans ((w5_51 i g80 g81 g89).trans (hG_M i g73 g74 g75 g76 g77 g78 g79 g80 g81 g89 g90 g100 g102))))))))
      · refine jr.if_eq rfl rfl (by omega) (fun _ => ?_) (fun h => absurd (by decide) h)
        refine jr.bipush rfl (by decide) ?_
        refine jr.iconst rfl ?_
        obtain ⟨v217, e217⟩ : ∃ z, M 598 102 = z := ⟨_, rfl⟩
        have b217 : 0 ≤ v217 ∧ v217 ≤ 400 := by rw [← e217]; exact hI_M 598 102 (by decide)
        have e218 : M5 598 102 = v217 := ((w5_51 102 (by decide) (by decide) (by decide)).trans e217)
        refine jr_v rfl rfl (Or.inl rfl) rfl rfl (by decide) rfl ⟨rfl, Nat.le_of_ble_eq_true rfl, Nat.le_of_ble_eq_true rfl⟩ rfl (jc.deep (r_push e218 (by omega) (by omega) (by omega) ?_) (by decide))
        refine jr.aload_n rfl rfl ?_
        obtain ⟨v219, e219⟩ : ∃ z, M5 598 80 = z := ⟨_, rfl⟩
        have b219 : 0 ≤ v219 ∧ v219 ≤ 7 := by rw [← e219]; exact hI_M5 598 80 (by decide)
        refine jr_v rfl rfl (Or.inl rfl) rfl rfl (by decide) rfl ⟨rfl, Nat.le_of_ble_eq_true rfl, Nat.le_of_ble_eq_true rfl⟩ rfl (jc.deep (c_good (RI.u (RI.u (RI.u (RI.u hI_M5 (a := 664) (i := v217) (by rw [xri_row rfl rfl]; show (0 : Int) ≤ _ ∧ _ ≤ (255 : Int); omega)) (a := 666) (i := v217) (by rw [xri_row rfl rfl]; show (-1 : Int) ≤ _ ∧ _ ≤ (68 : Int); omega)) (a := 667) (i := v217) (by rw [xri_row rfl rfl]; show (0 : Int) ≤ _ ∧ _ ≤ (4 : Int); omega)) (a := 598) (i := 102) (show (0 : Int) ≤ _ ∧ _ ≤ (400 : Int) from by omega))  (fun t44_0 => ?_) (fun f44_0 => ?_)) (by decide))
        · exfalso
          have y220 : (ju (ju (ju (ju M5 664 v217 11) 666 v217 (-1)) 667 v217 1) 598 102 (v217 + 1)) 598 80 = v219 := ((ju_i _ _ (by decide)).trans ((ju_c _ _ (by decide)).trans ((ju_c _ _ (by decide)).trans ((ju_c _ _ (by decide)).trans e219))))
          omega
        · refine jr.if_eq rfl rfl (by omega) (fun _ => ?_) (fun h => absurd (by decide) h)
          refine jr.iconst rfl ?_
          obtain ⟨v221, e221⟩ : ∃ z, M 598 72 = z := ⟨_, rfl⟩
          have b221 : 0 ≤ v221 ∧ v221 ≤ 1600 := by rw [← e221]; exact hI_M 598 72 (by decide)
          have e222 : M5 598 72 = v221 := ((w5_51 72 (by decide) (by decide) (by decide)).trans e221)
          have y223 : (ju (ju (ju (ju M5 664 v217 11) 666 v217 (-1)) 667 v217 1) 598 102 (v217 + 1)) 598 72 = v221 := ((ju_i _ _ (by decide)).trans ((ju_c _ _ (by decide)).trans ((ju_c _ _ (by decide)).trans ((ju_c _ _ (by decide)).trans e222))))
          have e224 : M5 598 73 = v6 := ((w5_51 73 (by decide) (by decide) (by decide)).trans e6)
          have y225 : (ju (ju (ju (ju M5 664 v217 11) 666 v217 (-1)) 667 v217 1) 598 102 (v217 + 1)) 598 73 = v6 := ((ju_i _ _ (by decide)).trans ((ju_c _ _ (by decide)).trans ((ju_c _ _ (by decide)).trans ((ju_c _ _ (by decide)).trans e224))))
          obtain ⟨v226, e226⟩ : ∃ z, M 598 74 = z := ⟨_, rfl⟩
          have b226 : 0 ≤ v226 ∧ v226 ≤ 4 := by rw [← e226]; exact hI_M 598 74 (by decide)
          have e227 : M5 598 74 = v226 := ((w5_51 74 (by decide) (by decide) (by decide)).trans e226)
          have y228 : (ju (ju (ju (ju M5 664 v217 11) 666 v217 (-1)) 667 v217 1) 598 102 (v217 + 1)) 598 74 = v226 := ((ju_i _ _ (by decide)).trans ((ju_c _ _ (by decide)).trans ((ju_c _ _ (by decide)).trans ((ju_c _ _ (by decide)).trans e227))))
          obtain ⟨v229, e229⟩ : ∃ z, M 598 79 = z := ⟨_, rfl⟩
          have b229 : 0 ≤ v229 ∧ v229 ≤ 255 := by rw [← e229]; exact hI_M 598 79 (by decide)
          have e230 : M5 598 79 = v229 := ((w5_51 79 (by decide) (by decide) (by decide)).trans e229)
          have y231 : (ju (ju (ju (ju M5 664 v217 11) 666 v217 (-1)) 667 v217 1) 598 102 (v217 + 1)) 598 79 = v229 := ((ju_i _ _ (by decide)).trans ((ju_c _ _ (by decide)).trans ((ju_c _ _ (by decide)).trans ((ju_c _ _ (by decide)).trans e230))))
          have y232 : (ju (ju (ju (ju M5 664 v217 11) 666 v217 (-1)) 667 v217 1) 598 102 (v217 + 1)) 598 80 = v219 := ((ju_i _ _ (by decide)).trans ((ju_c _ _ (by decide)).trans ((ju_c _ _ (by decide)).trans ((ju_c _ _ (by decide)).trans e219))))
          obtain ⟨v233, e233⟩ : ∃ z, M5 598 89 = z := ⟨_, rfl⟩
          have b233 : 0 ≤ v233 ∧ v233 ≤ 301 := by rw [← e233]; exact hI_M5 598 89 (by decide)
          have y234 : (ju (ju (ju (ju M5 664 v217 11) 666 v217 (-1)) 667 v217 1) 598 102 (v217 + 1)) 598 89 = v233 := ((ju_i _ _ (by decide)).trans ((ju_c _ _ (by decide)).trans ((ju_c _ _ (by decide)).trans ((ju_c _ _ (by decide)).trans e233))))
          obtain ⟨v235, e235⟩ : ∃ z, M 598 90 = z := ⟨_, rfl⟩
          have b235 : 0 ≤ v235 ∧ v235 ≤ 2200 := by rw [← e235]; exact hI_M 598 90 (by decide)
          have e236 : M5 598 90 = v235 := ((w5_51 90 (by decide) (by decide) (by decide)).trans e235)
          have y237 : (ju (ju (ju (ju M5 664 v217 11) 666 v217 (-1)) 667 v217 1) 598 102 (v217 + 1)) 598 90 = v235 := ((ju_i _ _ (by decide)).trans ((ju_c _ _ (by decide)).trans ((ju_c _ _ (by decide)).trans ((ju_c _ _ (by decide)).trans e236))))
          have e238 : M5 598 100 = v3 := ((w5_51 100 (by decide) (by decide) (by decide)).trans e3)
          have y239 : (ju (ju (ju (ju M5 664 v217 11) 666 v217 (-1)) 667 v217 1) 598 102 (v217 + 1)) 598 100 = v3 := ((ju_i _ _ (by decide)).trans ((ju_c _ _ (by decide)).trans ((ju_c _ _ (by decide)).trans ((ju_c _ _ (by decide)).trans e238))))
          obtain ⟨v240, e240⟩ : ∃ z, M 598 107 = z := ⟨_, rfl⟩
          have b240 : 0 ≤ v240 ∧ v240 ≤ 16 := by rw [← e240]; exact hI_M 598 107 (by decide)
          have e241 : M5 598 107 = v240 := ((w5_51 107 (by decide) (by decide) (by decide)).trans e240)
          have y242 : (ju (ju (ju (ju M5 664 v217 11) 666 v217 (-1)) 667 v217 1) 598 102 (v217 + 1)) 598 107 = v240 := ((ju_i _ _ (by decide)).trans ((ju_c _ _ (by decide)).trans ((ju_c _ _ (by decide)).trans ((ju_c _ _ (by decide)).trans e241))))
          have y243 : TK (ju (ju (ju (ju M5 664 v217 11) 666 v217 (-1)) 667 v217 1) 598 102 (v217 + 1)) = TK M5 := ((TK.o (Or.inr ⟨by decide, by decide⟩)).trans ((TK.o (Or.inl (by decide))).trans ((TK.o (Or.inl (by decide))).trans ((TK.o (Or.inl (by decide))).trans rfl))))
          obtain ⟨v244, e244⟩ : ∃ z, M 598 75 = z := ⟨_, rfl⟩
          have b244 : 0 ≤ v244 ∧ v244 ≤ 1600 := by rw [← e244]; exact hI_M 598 75 (by decide)
          have e245 : M5 598 75 = v244 := ((w5_51 75 (by decide) (by decide) (by decide)).trans e244)
          have y246 : (ju (ju (ju (ju M5 664 v217 11) 666 v217 (-1)) 667 v217 1) 598 102 (v217 + 1)) 598 75 = v244 := ((ju_i _ _ (by decide)).trans ((ju_c _ _ (by decide)).trans ((ju_c _ _ (by decide)).trans ((ju_c _ _ (by decide)).trans e245))))
          have y247 : (ju (ju (ju (ju M5 664 v217 11) 666 v217 (-1)) 667 v217 1) 598 102 (v217 + 1)) 598 80 = v219 := ((ju_i _ _ (by decide)).trans ((ju_c _ _ (by decide)).trans ((ju_c _ _ (by decide)).trans ((ju_c _ _ (by decide)).trans e219))))
          obtain ⟨v248, e248⟩ : ∃ z, M5 598 81 = z := ⟨_, rfl⟩
          have b248 : (-1) ≤ v248 ∧ v248 ≤ 1600 := by rw [← e248]; exact hI_M5 598 81 (by decide)
          have y249 : (ju (ju (ju (ju M5 664 v217 11) 666 v217 (-1)) 667 v217 1) 598 102 (v217 + 1)) 598 81 = v248 := ((ju_i _ _ (by decide)).trans ((ju_c _ _ (by decide)).trans ((ju_c _ _ (by decide)).trans ((ju_c _ _ (by decide)).trans e248))))
          have y250 : (ju (ju (ju (ju M5 664 v217 11) 666 v217 (-1)) 667 v217 1) 598 102 (v217 + 1)) 598 89 = v233 := ((ju_i _ _ (by decide)).trans ((ju_c _ _ (by decide)).trans ((ju_c _ _ (by decide)).trans ((ju_c _ _ (by decide)).trans e233))))
          have y251 : (ju (ju (ju (ju M5 664 v217 11) 666 v217 (-1)) 667 v217 1) 598 102 (v217 + 1)) 598 100 = v3 := ((ju_i _ _ (by decide)).trans ((ju_c _ _ (by decide)).trans ((ju_c _ _ (by decide)).trans ((ju_c _ _ (by decide)).trans e238))))
          exact jr.ireturn rfl rfl rfl (q _ _ (RI.u (RI.u (RI.u (RI.u hI_M5 (a := 664) (i := v217) (by rw [xri_row rfl rfl]; show (0 : Int) ≤ _ ∧ _ ≤ (255 : Int); omega)) (a := 666) (i := v217) (by rw [xri_row rfl rfl]; show (-1 : Int) ≤ _ ∧ _ ≤ (68 : Int); omega)) (a := 667) (i := v217) (by rw [xri_row rfl rfl]; show (0 : Int) ≤ _ ∧ _ ≤ (4 : Int); omega)) (a := 598) (i := 102) (show (0 : Int) ≤ _ ∧ _ ≤ (400 : Int) from by omega)) (RH.o (RH.o (RH.o (RH.o hH_M5 (by decide) (by decide) (by decide)) (by decide) (by decide) (by decide)) (by decide) (by decide) (by decide)) (by decide) (by decide) (by decide)) (RF.o (RF.o (RF.o (RF.o hS_M5 (by decide) (by decide)) (by decide) (by decide)) (by decide) (by decide)) (by decide) (by decide))  (by omega) (Or.inl ⟨by omega, by omega⟩) (by omega) (by omega) (Or.inl (by omega)) (CP.o (CP.o (CP.o (CP.o (CP.f hCP (fun i => w5_50 659 i (by decide)) (w5_51 90 (by decide) (by decide) (by decide))) (by decide) (Or.inl (by decide))) (by decide) (Or.inl (by decide))) (by decide) (Or.inl (by decide))) (by decide) (Or.inr (by decide))) (by omega) (TXr.o (TXr.k (TXr.k (TXr.k (TXr.fr hT (w5_51 72 (by decide) (by decide) (by decide)) (fun i => w5_50 651 i (by decide)) (fun i => w5_50 649 i (by decide)) (fun i => w5_50 650 i (by decide))) (by decide) (by decide) (by decide) (by decide)) (by decide) (by decide) (by decide) (by decide)) (by decide) (by decide) (by decide) (by decide)) (by decide)) (fun _ => zr.fe zfz (by omega) (by omega)) (fun q => by exfalso; omega) (fun q => by exfalso; omega) (fun q => by omega) (fun a i f598 f659 f660 f664 f666 f667 => ((ju_c _ _ f598).trans ((ju_c _ _ f667).trans ((ju_c _ _ f666).trans ((ju_c _ _ f664).trans ((w5_50 a i f598).trans (hF_M a i f598 f659 f660 f664 f666 f667))))))) (fun i g73 g74 g75 g76 g77 g78 g79 g80 g81 g89 g90 g100 g102 => ((ju_i _ _ g102).trans ((ju_c _ _ (by decide)).trans ((ju_c _ _ (by decide)).trans ((ju_c _ _ (by decide)).trans ((w5_51 i g80 g81 g89).trans (hG_M i g73 g74 g75 g76 g77 g78 g79 g80 g81 g89 g90 g100 g102))))))))
theorem r_takeOperand_z {A : Nat → Option (Nat × (Nat → Int32))} {Q : Option Value → jm → Prop} {f : Int → Int} {N : Int} {b kk : Int} {xs : ZS} {t bh : Int} {s0 : List (Int × Int × Int × Int)} {nm ak : List Int} {M : jm} (hI_M : RI M) (hH_M : RH M) (hS_M : RF M) (p0 : GS M b 0 kk) (p1 : TKr f N t M) (p2 : zr f N xs (2, t, M 598 89, M 598 100, (abr M s0).2, bh, (abr M s0).1, nm, ak)) (p3 : NU M) (q : ∀ (r : Int) (M' : jm), RI M' → RH M' → RF M' → 0 ≤ r ∧ r ≤ 1 → (BS M' ∨ (GS M' b r kk ∧ TK M' < TK M)) → TK M' ≤ TK M → M' 598 73 ≤ M' 598 72 → (M' 598 80 ≠ 0 ∨ TK M' < TK M) → CP M M' → M 598 89 ≤ M' 598 89 → TXr f N M' → ZFQ f N xs M' → ZOQ f N xs (2 + r) M' (abr M' s0).2 bh (abr M' s0).1 nm ak → NUQ M' → K8Q M M' → (∀ (a : Nat) (i : Int), a ≠ 598 → a ≠ 659 → a ≠ 660 → a ≠ 664 → a ≠ 666 → a ≠ 667 → M' a i = M a i) → (∀ (i : Int), i ≠ 73 → i ≠ 74 → i ≠ 75 → i ≠ 76 → i ≠ 77 → i ≠ 78 → i ≠ 79 → i ≠ 80 → i ≠ 81 → i ≠ 89 → i ≠ 90 → i ≠ 100 → i ≠ 102 → M' 598 i = M 598 i) → Q (some (.int (Int32.ofInt r))) M') : jc A 6 360 [.ref (598)] M Q := by
  obtain ⟨gs1, gs2, gs3, gs4, gs5, gs6⟩ := id p0
  have hE := gs2
  have sl := ES.sgle gs2
  have bb := ES.bb gs2
  have kb := ES.kz gs2
  have b107 : (0 : Int) ≤ M 598 107 ∧ M 598 107 ≤ 16 := hI_M 598 107 (by decide)
  have b73 : (0 : Int) ≤ M 598 73 ∧ M 598 73 ≤ 1600 := hI_M 598 73 (by decide)
  have b88 : (0 : Int) ≤ M 598 88 ∧ M 598 88 ≤ 16 := hI_M 598 88 (by decide)
  have b100 : (0 : Int) ≤ M 598 100 ∧ M 598 100 ≤ 13 := hI_M 598 100 (by decide)
  have hK := p1
  have kk0 := hK.kz
  have hT := hK.1
  have hz := p2
  have hNU := p3
  refine jc_of (m := xm_360) rfl (Nat.le_of_ble_eq_true rfl) rfl ?_
  refine jr.aload_n rfl rfl ?_
  refine jr.bipush rfl (by decide) ?_
  refine jr_v rfl rfl (Or.inl rfl) rfl rfl (by decide) rfl ⟨rfl, Nat.le_of_ble_eq_true rfl, Nat.le_of_ble_eq_true rfl⟩ rfl (jc.deep (c_isSign hI_M (by omega) (fun t3_0 t3_1 => ?_) (fun f3_0 => ?_)) (by decide))
  · refine jr.if_ne rfl rfl (by omega) (fun _ => ?_) (fun h => absurd (by decide) h)
    refine jr.pick [0] rfl rfl ?_
    exact r_takeOperand_L18_z q M  hI_M hH_M hS_M  (fun a i f598 f659 f660 f664 f666 f667 => rfl) (fun i g73 g74 g75 g76 g77 g78 g79 g80 g81 g89 g90 g100 g102 => rfl)  p0 rfl (CP.rfl _) rfl p1 p2 p3 rfl (by omega) (by omega)
  · refine jr.if_ne rfl rfl (by omega) (fun h => absurd h (by decide)) (fun _ => ?_)
    refine jr.aload_n rfl rfl ?_
    refine jr.bipush rfl (by decide) ?_
    refine jr_v rfl rfl (Or.inl rfl) rfl rfl (by decide) rfl ⟨rfl, Nat.le_of_ble_eq_true rfl, Nat.le_of_ble_eq_true rfl⟩ rfl (jc.deep (c_isSign hI_M (by omega) (fun t12_0 t12_1 => ?_) (fun f12_0 => ?_)) (by decide))
    · refine jr.if_eq rfl rfl (by omega) (fun h => absurd h (by decide)) (fun _ => ?_)
      refine jr.pick [0] rfl rfl ?_
      exact r_takeOperand_L18_z q M  hI_M hH_M hS_M  (fun a i f598 f659 f660 f664 f666 f667 => rfl) (fun i g73 g74 g75 g76 g77 g78 g79 g80 g81 g89 g90 g100 g102 => rfl)  p0 rfl (CP.rfl _) rfl p1 p2 p3 rfl (by omega) (by omega)
    · refine jr.if_eq rfl rfl (by omega) (fun _ => ?_) (fun h => absurd (by decide) h)
      refine jr.aload_n rfl rfl ?_
      refine jr.bipush rfl (by decide) ?_
      refine jr_v rfl rfl (Or.inl rfl) rfl rfl (by decide) rfl ⟨rfl, Nat.le_of_ble_eq_true rfl, Nat.le_of_ble_eq_true rfl⟩ rfl (jc.deep (c_isSign hI_M (by omega) (fun t59_0 t59_1 => ?_) (fun f59_0 => ?_)) (by decide))
      · refine jr.if_eq rfl rfl (by omega) (fun h => absurd h (by decide)) (fun _ => ?_)
        refine jr.pick [0] rfl rfl ?_
        exact r_takeOperand_L65_z q M  hI_M hH_M hS_M  (fun a i f598 f659 f660 f664 f666 f667 => rfl) (fun i g73 g74 g75 g76 g77 g78 g79 g80 g81 g89 g90 g100 g102 => rfl)  p0 rfl (CP.rfl _) rfl p1 p2 p3 rfl (by omega) (by omega)
      · refine jr.if_eq rfl rfl (by omega) (fun _ => ?_) (fun h => absurd (by decide) h)
        refine jr.aload_n rfl rfl ?_
        obtain ⟨v1, e1⟩ : ∃ z, M 598 74 = z := ⟨_, rfl⟩
        have b1 : 0 ≤ v1 ∧ v1 ≤ 4 := by rw [← e1]; exact hI_M 598 74 (by decide)
        refine jr.getf (i := 74) (x := v1) (v := .int (Int32.ofInt (v1))) rfl rfl (by decide) rfl (by decide) rfl rfl e1 rfl ?_
        refine jr.iconst rfl ?_
        refine jr.icmp_ne rfl rfl (by omega) (by omega) (fun h83 => ?_) (fun h83 => ?_)
        · refine jr.aload_n rfl rfl ?_
          refine jr.bipush rfl (by decide) ?_
          refine jr_v rfl rfl (Or.inl rfl) rfl rfl (by decide) rfl ⟨rfl, Nat.le_of_ble_eq_true rfl, Nat.le_of_ble_eq_true rfl⟩ rfl (jc.deep (c_isWord hI_M (by omega) (fun t129_0 t129_1 => ?_) (fun f129_0 => ?_)) (by decide))
          · refine jr.if_ne rfl rfl (by omega) (fun _ => ?_) (fun h => absurd (by decide) h)
            refine jr.pick [0] rfl rfl ?_
            exact r_takeOperand_L146_z q M  hI_M hH_M hS_M  (fun a i f598 f659 f660 f664 f666 f667 => rfl) (fun i g73 g74 g75 g76 g77 g78 g79 g80 g81 g89 g90 g100 g102 => rfl)  p0 rfl (CP.rfl _) rfl p1 p2 p3 rfl (by omega) (by omega)
          · refine jr.if_ne rfl rfl (by omega) (fun h => absurd h (by decide)) (fun _ => ?_)
            refine jr.aload_n rfl rfl ?_
            refine jr.bipush rfl (by decide) ?_
            refine jr.bipush rfl (by decide) ?_
            refine jr_v rfl rfl (Or.inl rfl) rfl rfl (by decide) rfl ⟨rfl, Nat.le_of_ble_eq_true rfl, Nat.le_of_ble_eq_true rfl⟩ rfl (jc.deep (c_isWordIn_z hI_M (by omega) (by omega) (fun t140_0 t140_1 t140_2 => ?_) (fun f140_0 => ?_)) (by decide))
            · refine jr.if_eq rfl rfl (by omega) (fun h => absurd h (by decide)) (fun _ => ?_)
              refine jr.pick [0] rfl rfl ?_
              exact r_takeOperand_L146_z q M  hI_M hH_M hS_M  (fun a i f598 f659 f660 f664 f666 f667 => rfl) (fun i g73 g74 g75 g76 g77 g78 g79 g80 g81 g89 g90 g100 g102 => rfl)  p0 rfl (CP.rfl _) rfl p1 p2 p3 rfl (by omega) (by omega)
            · refine jr.if_eq rfl rfl (by omega) (fun _ => ?_) (fun h => absurd (by decide) h)
              refine jr.aload_n rfl rfl ?_
              refine jr.bipush rfl (by decide) ?_
              refine jr_v rfl rfl (Or.inl rfl) rfl rfl (by decide) rfl ⟨rfl, Nat.le_of_ble_eq_true rfl, Nat.le_of_ble_eq_true rfl⟩ rfl (jc.deep (c_isWord hI_M (by omega) (fun t172_0 t172_1 => ?_) (fun f172_0 => ?_)) (by decide))
              · refine jr.if_eq rfl rfl (by omega) (fun h => absurd h (by decide)) (fun _ => ?_)
                refine jr.aload_n rfl rfl ?_
                obtain ⟨v3, e3⟩ : ∃ z, M 598 76 = z := ⟨_, rfl⟩
                have b3 : (-1) ≤ v3 ∧ v3 ≤ 68 := by rw [← e3]; exact hI_M 598 76 (by decide)
                refine jr_v rfl rfl (Or.inl rfl) rfl rfl (by decide) rfl ⟨rfl, Nat.le_of_ble_eq_true rfl, Nat.le_of_ble_eq_true rfl⟩ rfl (jc.deep (r_hasKind_z hI_M hH_M hS_M   p0 (by rw [e1, e3]; omega) p1 p2 (fun M2 hI_M2 hH_M2 hS_M2  w2_0 w2_1 w2_2 w2_3 w2_4 w2_5 w2_6 w2_7 w2_8 w2_9 w2_10 w2_11 => ?_)) (by decide))
                refine jr.iconst rfl ?_
                exact jr.ireturn rfl rfl rfl (q _ _ hI_M2 hH_M2 hS_M2  (by omega) w2_0 w2_1 w2_2 w2_3 (CP.trans (CP.rfl _) w2_4) w2_5 w2_6 w2_7 (fun q => by obtain ⟨t1, a1, a2⟩ := w2_8 q; exact ⟨t1, a1, zr.eqx a2 (by omega) rfl rfl rfl rfl ((abr_fr s0 (fun i => w2_10 664 i (by decide) (by decide) (by decide)) (fun i => w2_10 666 i (by decide) (by decide) (by decide)) (fun i => w2_10 667 i (by decide) (by decide) (by decide)) (w2_11 102 (by decide) (by decide) (by decide) (by decide) (by decide) (by decide) (by decide) (by decide) (by decide) (by decide) (by decide) (by decide))).trans rfl)⟩) (fun _ => (NU.fr hNU (fun i => w2_10 664 i (by decide) (by decide) (by decide)) (w2_11 102 (by decide) (by decide) (by decide) (by decide) (by decide) (by decide) (by decide) (by decide) (by decide) (by decide) (by decide) (by decide)))) w2_9 (fun a i f598 f659 f660 f664 f666 f667 => ((w2_10 a i f598 f659 f660).trans rfl)) (fun i g73 g74 g75 g76 g77 g78 g79 g80 g81 g89 g90 g100 g102 => ((w2_11 i g73 g74 g75 g76 g77 g78 g79 g80 g81 g89 g90 g100).trans rfl)))
              · refine jr.if_eq rfl rfl (by omega) (fun _ => ?_) (fun h => absurd (by decide) h)
                refine jr.aload_n rfl rfl ?_
                refine jr.bipush rfl (by decide) ?_
                refine jr.bipush rfl (by decide) ?_
                refine jr_v rfl rfl (Or.inl rfl) rfl rfl (by decide) rfl ⟨rfl, Nat.le_of_ble_eq_true rfl, Nat.le_of_ble_eq_true rfl⟩ rfl (jc.deep (c_isWordIn_z hI_M (by omega) (by omega) (fun t189_0 t189_1 t189_2 => ?_) (fun f189_0 => ?_)) (by decide))
                · refine jr.if_eq rfl rfl (by omega) (fun h => absurd h (by decide)) (fun _ => ?_)
                  refine jr.pick [0] rfl rfl ?_
                  exact r_takeOperand_L195_z q M  hI_M hH_M hS_M  (fun a i f598 f659 f660 f664 f666 f667 => rfl) (fun i g73 g74 g75 g76 g77 g78 g79 g80 g81 g89 g90 g100 g102 => rfl)  p0 rfl (CP.rfl _) rfl p1 p2 p3 rfl (by omega) (by omega)
                · refine jr.if_eq rfl rfl (by omega) (fun _ => ?_) (fun h => absurd (by decide) h)
                  refine jr.aload_n rfl rfl ?_
                  refine jr.bipush rfl (by decide) ?_
                  refine jr.bipush rfl (by decide) ?_
                  refine jr_v rfl rfl (Or.inl rfl) rfl rfl (by decide) rfl ⟨rfl, Nat.le_of_ble_eq_true rfl, Nat.le_of_ble_eq_true rfl⟩ rfl (jc.deep (c_isWordIn_z hI_M (by omega) (by omega) (fun t235_0 t235_1 t235_2 => ?_) (fun f235_0 => ?_)) (by decide))
                  · refine jr.if_eq rfl rfl (by omega) (fun h => absurd h (by decide)) (fun _ => ?_)
                    refine jr.aload_n rfl rfl ?_
                    obtain ⟨v5, e5⟩ : ∃ z, M 598 76 = z := ⟨_, rfl⟩
                    have b5 : (-1) ≤ v5 ∧ v5 ≤ 68 := by rw [← e5]; exact hI_M 598 76 (by decide)
                    refine jr_v rfl rfl (Or.inl rfl) rfl rfl (by decide) rfl ⟨rfl, Nat.le_of_ble_eq_true rfl, Nat.le_of_ble_eq_true rfl⟩ rfl (jc.deep (r_kindAndField_z hI_M hH_M hS_M   p0 (by rw [e1, e5]; omega) p1 p2 (fun M4 hI_M4 hH_M4 hS_M4  w4_0 w4_1 w4_2 w4_3 w4_4 w4_5 w4_6 w4_7 w4_8 w4_9 w4_10 w4_11 => ?_)) (by decide))
                    refine jr.iconst rfl ?_
                    exact jr.ireturn rfl rfl rfl (q _ _ hI_M4 hH_M4 hS_M4  (by omega) w4_0 w4_1 w4_2 w4_3 (CP.trans (CP.rfl _) w4_4) w4_5 w4_6 w4_7 (fun q => by obtain ⟨t1, a1, a2⟩ := w4_8 q; exact ⟨t1, a1, zr.eqx a2 (by omega) rfl rfl rfl rfl ((abr_fr s0 (fun i => w4_10 664 i (by decide) (by decide) (by decide)) (fun i => w4_10 666 i (by decide) (by decide) (by decide)) (fun i => w4_10 667 i (by decide) (by decide) (by decide)) (w4_11 102 (by decide) (by decide) (by decide) (by decide) (by decide) (by decide) (by decide) (by decide) (by decide) (by decide) (by decide))).trans rfl)⟩) (fun _ => (NU.fr hNU (fun i => w4_10 664 i (by decide) (by decide) (by decide)) (w4_11 102 (by decide) (by decide) (by decide) (by decide) (by decide) (by decide) (by decide) (by decide) (by decide) (by decide) (by decide)))) w4_9 (fun a i f598 f659 f660 f664 f666 f667 => ((w4_10 a i f598 f659 f660).trans rfl)) (fun i g73 g74 g75 g76 g77 g78 g79 g80 g81 g89 g90 g100 g102 => ((w4_11 i g73 g74 g75 g76 g77 g78 g79 g80 g81 g89 g90).trans rfl)))
                  · refine jr.if_eq rfl rfl (by omega) (fun _ => ?_) (fun h => absurd (by decide) h)
                    refine jr.aload_n rfl rfl ?_
                    obtain ⟨v6, e6⟩ : ∃ z, M 598 80 = z := ⟨_, rfl⟩
                    have b6 : 0 ≤ v6 ∧ v6 ≤ 7 := by rw [← e6]; exact hI_M 598 80 (by decide)
                    obtain ⟨v7, e7⟩ : ∃ z, M 598 89 = z := ⟨_, rfl⟩
                    have b7 : 0 ≤ v7 ∧ v7 ≤ 301 := by rw [← e7]; exact hI_M 598 89 (by decide)
                    obtain ⟨v8, e8⟩ : ∃ z, M 598 100 = z := ⟨_, rfl⟩
                    have b8 : 0 ≤ v8 ∧ v8 ≤ 13 := by rw [← e8]; exact hI_M 598 100 (by decide)
                    obtain ⟨v9, e9⟩ : ∃ z, M 598 81 = z := ⟨_, rfl⟩
                    have b9 : (-1) ≤ v9 ∧ v9 ≤ 1600 := by rw [← e9]; exact hI_M 598 81 (by decide)
                    refine jr_v rfl rfl (Or.inl rfl) rfl rfl (by decide) rfl ⟨rfl, Nat.le_of_ble_eq_true rfl, Nat.le_of_ble_eq_true rfl⟩ rfl (jc.deep (c_wrongToken_z (f := f) (N := N) hI_M hH_M hS_M hK (by rw [e6]; omega) (fun M10 hI_M10 hH_M10 hS_M10 qn10 q010 q110 w10_50 w10_51 => ?_)) (by decide))
                    have tk10 : TK M10 = TK M := TK.fr (w10_51 73 (by decide) (by decide)) (w10_51 74 (by decide) (by decide))
                    have x10_72 := w10_51 72 (by decide) (by decide)
                    have x10_73 := w10_51 73 (by decide) (by decide)
                    have x10_74 := w10_51 74 (by decide) (by decide)
                    have x10_75 := w10_51 75 (by decide) (by decide)
                    have x10_76 := w10_51 76 (by decide) (by decide)
                    have x10_78 := w10_51 78 (by decide) (by decide)
                    have x10_79 := w10_51 79 (by decide) (by decide)
                    have x10_89 := w10_51 89 (by decide) (by decide)
                    have x10_100 := w10_51 100 (by decide) (by decide)
                    have zfz : zr f N xs (zft (M10 598 80) (M10 598 81)) := by
                      have zr5 := zso_r f N t
                      rcases (show zso f N t = 3 ∨ zso f N t = 1 ∨ (zso f N t = 0 ∨ zso f N t = 4) by omega) with z | z | z
                      · have q := hK.sz (by omega)
                        exact zr.fe (zr.sgf hz z (by omega) (by omega) (by omega)) (q010.trans (zwr_n (by omega))) q110
                      · have q := hK.wz (by omega)
                        exact zr.fe (zr.wno hz z (by omega) (by omega)) (q010.trans (zwr_n (by omega))) q110
                      · exact zr.rfz (zr.ono hz z) q010 q110
                    refine jr.iconst rfl ?_
                    obtain ⟨v11, e11⟩ : ∃ z, M 598 72 = z := ⟨_, rfl⟩
                    have b11 : 0 ≤ v11 ∧ v11 ≤ 1600 := by rw [← e11]; exact hI_M 598 72 (by decide)
                    have e12 : M10 598 72 = v11 := ((w10_51 72 (by decide) (by decide)).trans e11)
                    have y13 : M10 598 72 = v11 := e12
                    obtain ⟨v14, e14⟩ : ∃ z, M 598 73 = z := ⟨_, rfl⟩
                    have b14 : 0 ≤ v14 ∧ v14 ≤ 1600 := by rw [← e14]; exact hI_M 598 73 (by decide)
                    have e15 : M10 598 73 = v14 := ((w10_51 73 (by decide) (by decide)).trans e14)
                    have y16 : M10 598 73 = v14 := e15
                    have e17 : M10 598 74 = v1 := ((w10_51 74 (by decide) (by decide)).trans e1)
                    have y18 : M10 598 74 = v1 := e17
                    obtain ⟨v19, e19⟩ : ∃ z, M 598 79 = z := ⟨_, rfl⟩
                    have b19 : 0 ≤ v19 ∧ v19 ≤ 255 := by rw [← e19]; exact hI_M 598 79 (by decide)
                    have e20 : M10 598 79 = v19 := ((w10_51 79 (by decide) (by decide)).trans e19)
                    have y21 : M10 598 79 = v19 := e20
                    obtain ⟨v22, e22⟩ : ∃ z, M10 598 80 = z := ⟨_, rfl⟩
                    have b22 : 0 ≤ v22 ∧ v22 ≤ 7 := by rw [← e22]; exact hI_M10 598 80 (by decide)
                    have y23 : M10 598 80 = v22 := e22
                    have e24 : M10 598 89 = v7 := ((w10_51 89 (by decide) (by decide)).trans e7)
                    have y25 : M10 598 89 = v7 := e24
                    obtain ⟨v26, e26⟩ : ∃ z, M 598 90 = z := ⟨_, rfl⟩
                    have b26 : 0 ≤ v26 ∧ v26 ≤ 2200 := by rw [← e26]; exact hI_M 598 90 (by decide)
                    have e27 : M10 598 90 = v26 := ((w10_51 90 (by decide) (by decide)).trans e26)
                    have y28 : M10 598 90 = v26 := e27
                    have e29 : M10 598 100 = v8 := ((w10_51 100 (by decide) (by decide)).trans e8)
                    have y30 : M10 598 100 = v8 := e29
                    obtain ⟨v31, e31⟩ : ∃ z, M 598 107 = z := ⟨_, rfl⟩
                    have b31 : 0 ≤ v31 ∧ v31 ≤ 16 := by rw [← e31]; exact hI_M 598 107 (by decide)
                    have e32 : M10 598 107 = v31 := ((w10_51 107 (by decide) (by decide)).trans e31)
                    have y33 : M10 598 107 = v31 := e32
                    obtain ⟨v34, e34⟩ : ∃ z, M 598 75 = z := ⟨_, rfl⟩
                    have b34 : 0 ≤ v34 ∧ v34 ≤ 1600 := by rw [← e34]; exact hI_M 598 75 (by decide)
                    have e35 : M10 598 75 = v34 := ((w10_51 75 (by decide) (by decide)).trans e34)
                    have y36 : M10 598 75 = v34 := e35
                    have y37 : M10 598 80 = v22 := e22
                    obtain ⟨v38, e38⟩ : ∃ z, M10 598 81 = z := ⟨_, rfl⟩
                    have b38 : (-1) ≤ v38 ∧ v38 ≤ 1600 := by rw [← e38]; exact hI_M10 598 81 (by decide)
                    have y39 : M10 598 81 = v38 := e38
                    have y40 : M10 598 89 = v7 := e24
                    have y41 : M10 598 100 = v8 := e29
                    exact jr.ireturn rfl rfl rfl (q _ _ hI_M10 hH_M10 hS_M10  (by omega) (Or.inl ⟨by omega, by omega⟩) (by omega) (by omega) (Or.inl (by omega)) (CP.f (CP.rfl _) (fun i => w10_50 659 i (by decide)) (w10_51 90 (by decide) (by decide))) (by omega) (TXr.fr hT (w10_51 72 (by decide) (by decide)) (fun i => w10_50 651 i (by decide)) (fun i => w10_50 649 i (by decide)) (fun i => w10_50 650 i (by decide))) (fun _ => zr.fe zfz (by omega) (by omega)) (fun q => by exfalso; omega) (fun q => by exfalso; omega) (fun q => by omega) (fun a i f598 f659 f660 f664 f666 f667 => ((w10_50 a i f598).trans rfl)) (fun i g73 g74 g75 g76 g77 g78 g79 g80 g81 g89 g90 g100 g102 => ((w10_51 i g80 g81).trans rfl)))
        · refine jr.pick [0] rfl rfl ?_
          exact r_takeOperand_L86_z q M  hI_M hH_M hS_M  (fun a i f598 f659 f660 f664 f666 f667 => rfl) (fun i g73 g74 g75 g76 g77 g78 g79 g80 g81 g89 g90 g100 g102 => rfl)  p0 rfl (CP.rfl _) rfl p1 p2 p3 rfl (by omega)
